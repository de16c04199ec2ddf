/-! kinds that are taken: bits of an Int32 -/
def tk (x : Int32) (j : Nat) : Bool := x.toBitVec.getLsbD j
theorem tk_c : ∀ k, k < 32 → (nI k &&& 31) = nI k := by decide +kernel
theorem tk_sm : ∀ k, k < 32 → ((nI k).toBitVec.smod 32).toNat = k := by decide +kernel
theorem tk_sh (x : Int32) {j : Nat} (hj : j < 32) : (x >>> (nI j &&& 31)) &&& 1 = if tk x j = true then 1 else 0 := by
  rw [tk_c j hj]
  apply Int32.toBitVec_inj.mp
  rw [Int32.toBitVec_and]
  have e : (x >>> nI j).toBitVec = x.toBitVec.sshiftRight j := by
    show x.toBitVec.sshiftRight' ((nI j).toBitVec.smod 32) = _
    show x.toBitVec.sshiftRight ((nI j).toBitVec.smod 32).toNat = _
    rw [tk_sm j hj]
  rw [e]
  show x.toBitVec.sshiftRight j &&& 1#32 = _
  rw [BitVec.and_one_eq_setWidth_ofBool_getLsbD, BitVec.getLsbD_sshiftRight]
  have hb : tk x j = x.toBitVec.getLsbD j := rfl
  rw [hb]
  simp only [Nat.add_zero, hj, if_true]
  cases x.toBitVec.getLsbD j <;> decide
theorem tk_0 (x : Int32) {j : Nat} (hj : j < 32) : (x >>> (nI j &&& 31)) &&& 1 = 0 ↔ tk x j = false := by
  rw [tk_sh x hj]
  cases tk x j
  · exact ⟨fun _ => rfl, fun _ => rfl⟩
  · exact ⟨fun q => absurd q (by decide), fun q => absurd q (by decide)⟩
theorem tk_one : ∀ k, k < 32 → ((1 : Int32) <<< (nI k &&& 31)).toBitVec = BitVec.twoPow 32 k := by decide +kernel
theorem tk_or (x : Int32) {j i : Nat} (hj : j < 32) (hi : i < 32) : tk (x ||| ((1 : Int32) <<< (nI j &&& 31))) i = (tk x i || decide (i = j)) := by
  unfold tk
  rw [Int32.toBitVec_or, BitVec.getLsbD_or, tk_one j hj, BitVec.getLsbD_twoPow]
  by_cases h : i = j
  · subst h; simp [hi]
  · simp [h, show ¬ j = i by omega]
/-- how many of the first k kinds aren't taken -/
def ukn (x : Int32) : Nat → Nat
  | 0 => 0
  | k + 1 => ukn x k + if tk x k = true then 0 else 1
theorem ukn_le (x : Int32) : ∀ k, ukn x k ≤ k
  | 0 => Nat.le_refl _
  | k + 1 => by
    have := ukn_le x k
    show ukn x k + _ ≤ _
    split <;> omega
theorem ukn_or (x : Int32) {j : Nat} (hj : j < 32) (h : tk x j = false) : ∀ k, k ≤ 12 → ukn (x ||| ((1 : Int32) <<< (nI j &&& 31))) k + (if j < k then 1 else 0) = ukn x k
  | 0, _ => by
    rw [if_neg (by omega)]; rfl
  | k + 1, hk => by
    have ih := ukn_or x hj h k (by omega)
    show ukn _ k + (if tk (x ||| ((1 : Int32) <<< (nI j &&& 31))) k = true then 0 else 1) + _ = ukn x k + (if tk x k = true then 0 else 1)
    by_cases e : k = j
    · subst e
      have e1 : tk (x ||| ((1 : Int32) <<< (nI k &&& 31))) k = true := by
        rw [tk_or x hj hj]
        simp
      rw [if_neg (Nat.lt_irrefl k)] at ih
      rw [if_pos e1, if_pos (show k < k + 1 by omega), if_neg (show ¬ tk x k = true by rw [h]; decide)]
      omega
    · have e1 : tk (x ||| ((1 : Int32) <<< (nI j &&& 31))) k = tk x k := by
        rw [tk_or x hj (by omega)]
        simp [e]
      rw [e1]
      by_cases f : j < k
      · rw [if_pos f] at ih
        rw [if_pos (show j < k + 1 by omega)]
        omega
      · rw [if_neg f] at ih
        rw [if_neg (show ¬ j < k + 1 by omega)]
        omega
/-- the kinds' splits: taken one by one in the order of their means -/
def lkk (zr : Nat → Int) (n w lst : Nat) (vv : Nat → Int32) (c : Nat) (A M : Int64) : Nat → Int32 → Int64 → BST → BST
  | 0, _, _, b => b
  | f + 1, bits, side, b =>
    if nxk zr n w vv c A bits 12 < 0 then b
    else lkk zr n w lst vv c A M f (bits ||| ((1 : Int32) <<< (nxk zr n w vv c A bits 12 &&& 31))) (side ||| (rwk vv c (nxk zr n w vv c A bits 12) n &&& A))
      (if nxk zr n w vv c A (bits ||| ((1 : Int32) <<< (nxk zr n w vv c A bits 12 &&& 31))) 12 < 0 then b
       else lks zr n w lst A M b (side ||| (rwk vv c (nxk zr n w vv c A bits 12) n &&& A)) (nI c) (bits ||| ((1 : Int32) <<< (nxk zr n w vv c A bits 12 &&& 31))))
theorem lkk_0 {zr : Nat → Int} {n w lst : Nat} {vv : Nat → Int32} {c : Nat} {A M : Int64} {bits : Int32} {side : Int64} {b : BST} (h : nxk zr n w vv c A bits 12 < 0) : ∀ f, lkk zr n w lst vv c A M f bits side b = b
  | 0 => rfl
  | f + 1 => if_pos h
theorem lkk_s {zr : Nat → Int} {n w lst : Nat} {vv : Nat → Int32} {c : Nat} {A M : Int64} {bits : Int32} {side : Int64} {b : BST} {f : Nat} (h : ¬ nxk zr n w vv c A bits 12 < 0) {bits2 : Int32} {side2 : Int64} (hb : bits2 = bits ||| ((1 : Int32) <<< (nxk zr n w vv c A bits 12 &&& 31))) (hs : side2 = side ||| (rwk vv c (nxk zr n w vv c A bits 12) n &&& A)) :
    lkk zr n w lst vv c A M (f + 1) bits side b = lkk zr n w lst vv c A M f bits2 side2 (if nxk zr n w vv c A bits2 12 < 0 then b else lks zr n w lst A M b side2 (nI c) bits2) := by
  subst hb hs
  exact if_neg h
