/-! Sets of rows: an Int64 by its bits. -/
def bx (x : Int64) (r : Nat) : Bool := x.toBitVec.getLsbD r
theorem bx_ext {x y : Int64} (h : ∀ r, r < 64 → bx x r = bx y r) : x = y := Int64.toBitVec_inj.mp (BitVec.eq_of_getLsbD_eq (fun i hi => h i hi))
theorem bx_and (x y : Int64) (r : Nat) : bx (x &&& y) r = (bx x r && bx y r) := by
  unfold bx
  rw [Int64.toBitVec_and, BitVec.getLsbD_and]
theorem bx_or (x y : Int64) (r : Nat) : bx (x ||| y) r = (bx x r || bx y r) := by
  unfold bx
  rw [Int64.toBitVec_or, BitVec.getLsbD_or]
theorem bx_not (x : Int64) {r : Nat} (hr : r < 64) : bx (x ^^^ (-1)) r = !bx x r := by
  unfold bx
  have ha : (-1 : Int64).toBitVec = BitVec.allOnes 64 := by decide
  rw [Int64.toBitVec_xor, BitVec.getLsbD_xor, ha, BitVec.getLsbD_allOnes]
  simp [hr]
theorem bx_zero (r : Nat) : bx 0 r = false := by
  unfold bx
  show (0#64).getLsbD r = false
  exact BitVec.getLsbD_zero
theorem bx_big (x : Int64) {r : Nat} (hr : 64 ≤ r) : bx x r = false := BitVec.getLsbD_of_ge _ _ hr
theorem bx_lN {n r : Nat} (hr : r < 64) : bx (lN n) r = n.testBit r := by
  unfold bx
  rw [wb_tb, BitVec.getLsbD_ofNat]
  simp [hr]
theorem bx_one {k r : Nat} (hk : k < 64) (hr : r < 64) : bx ((1 : Int64) <<< ((nI k).toInt64 &&& 63)) r = decide (r = k) := by
  have e : (1 : Int64) <<< ((nI k).toInt64 &&& 63) = lN (1 * 2 ^ k) := wb_shl 1 hk
  rw [e, Nat.one_mul, bx_lN hr, Nat.testBit_two_pow]
  by_cases h : r = k
  · subst h; simp
  · simp [h, show ¬ k = r by omega]
/-- the rows that are there -/
def thr (n : Nat) : Int64 := lN (2 ^ n - 1)
theorem bx_thr {n r : Nat} (hr : r < 64) : bx (thr n) r = decide (r < n) := by
  unfold thr
  rw [bx_lN hr, Nat.testBit_two_pow_sub_one]
theorem thr_e {n : Nat} (hn : n < 64) : (1 : Int64) <<< ((nI n).toInt64 &&& 63) - 1 = thr n := by
  have e : (1 : Int64) <<< ((nI n).toInt64 &&& 63) = lN (1 * 2 ^ n) := wb_shl 1 hn
  rw [e, Nat.one_mul]
  exact lN_sub (b := 1) (Nat.pow_pos (by decide))
theorem bx_sh (x : Int64) {r : Nat} (hr : r < 64) : (x >>> ((nI r).toInt64 &&& 63)) &&& 1 = if bx x r = true then 1 else 0 := by
  rw [wb_c r hr]
  apply Int64.toBitVec_inj.mp
  rw [Int64.toBitVec_and]
  have e : (x >>> lN r).toBitVec = x.toBitVec.sshiftRight r := by
    show x.toBitVec.sshiftRight' ((lN r).toBitVec.smod 64) = _
    rw [wb_tb, wb_sm r hr]
    show x.toBitVec.sshiftRight (BitVec.ofNat 64 r).toNat = _
    rw [BitVec.toNat_ofNat, Nat.mod_eq_of_lt (by omega)]
  rw [e]
  show x.toBitVec.sshiftRight r &&& 1#64 = _
  rw [BitVec.and_one_eq_setWidth_ofBool_getLsbD, BitVec.getLsbD_sshiftRight]
  have hb : bx x r = x.toBitVec.getLsbD r := rfl
  rw [hb]
  simp only [Nat.add_zero, hr, if_true]
  cases x.toBitVec.getLsbD r <;> decide
theorem bx_t (x : Int64) {r : Nat} (hr : r < 64) : lg_cmp ((x >>> ((nI r).toInt64 &&& 63)) &&& 1) 1 = 0 ↔ bx x r = true := by
  rw [lg_cmp_eq, bx_sh x hr]
  by_cases h : bx x r = true
  · rw [if_pos h]; exact ⟨fun _ => h, fun _ => rfl⟩
  · rw [if_neg h]; exact ⟨fun q => absurd q (by decide), fun q => absurd q h⟩
/-- how many bits are set below k, and in all -/
def cbn (x : Int64) : Nat → Nat
  | 0 => 0
  | k + 1 => cbn x k + if bx x k = true then 1 else 0
abbrev cb (x : Int64) : Nat := cbn x 64
theorem cbn_le (x : Int64) : ∀ k, cbn x k ≤ k
  | 0 => Nat.le_refl _
  | k + 1 => by
    have := cbn_le x k
    show cbn x k + _ ≤ _
    split <;> omega
/-- a sum over the rows of a set -/
def smv (zr : Nat → Int) (x : Int64) : Nat → Int
  | 0 => 0
  | k + 1 => smv zr x k + if bx x k = true then zr k else 0
theorem smv_le {zr : Nat → Int} {x : Int64} {n B : Nat} (h : ∀ k, k < n → (zr k).natAbs ≤ B) : ∀ k, k ≤ n → (smv zr x k).natAbs ≤ k * B
  | 0, _ => by show (0 : Int).natAbs ≤ _; omega
  | k + 1, hk => by
    have h1 := smv_le (x := x) h k (by omega)
    have h2 := h k (by omega)
    show (smv zr x k + _).natAbs ≤ _
    rw [Nat.add_mul, Nat.one_mul]
    split <;> omega
theorem smv_t {zr : Nat → Int} {x : Int64} {k : Nat} (h : bx x k = true) : smv zr x (k + 1) = smv zr x k + zr k := by
  show smv zr x k + _ = _
  rw [if_pos h]
theorem smv_f {zr : Nat → Int} {x : Int64} {k : Nat} (h : ¬ bx x k = true) : smv zr x (k + 1) = smv zr x k := by
  show smv zr x k + _ = _
  rw [if_neg h, Int.add_zero]
/-- the rows below n with a property -/
def rws (P : Nat → Bool) (n : Nat) : Nat → Bool := fun r => decide (r < n) && P r
