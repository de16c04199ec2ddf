/-! Bits counted by pairs, in bytes. -/
theorem bc_and {x m y c : Nat} (hy : y < 256) (hc : c < 256) : (256 * x + y) &&& (256 * m + c) = 256 * (x &&& m) + (y &&& c) := by
  have e : ∀ a b, b < 256 → 256 * a + b = (a <<< 8) ||| b := fun a b hb => by
    rw [Nat.shiftLeft_add_eq_or_of_lt (i := 8) (by omega) a |>.symm, Nat.shiftLeft_eq]
    omega
  rw [e x y hy, e m c hc, e (x &&& m) (y &&& c) (Nat.lt_of_le_of_lt Nat.and_le_left hy)]
  apply Nat.eq_of_testBit_eq
  intro i
  rw [Nat.testBit_and, Nat.testBit_or, Nat.testBit_or, Nat.testBit_or, Nat.testBit_shiftLeft, Nat.testBit_shiftLeft, Nat.testBit_shiftLeft, Nat.testBit_and, Nat.testBit_and]
  by_cases h : 8 ≤ i
  · have ty : ∀ z, z < 256 → z.testBit i = false := fun z hz => Nat.testBit_lt_two_pow (Nat.lt_of_lt_of_le hz (Nat.pow_le_pow_right (show 0 < 2 by decide) h))
    rw [ty y hy, ty c hc]
    simp [h]
  · simp [h]
/-- masks of k bytes -/
def mk (c : Nat) : Nat → Nat
  | 0 => 0
  | k + 1 => 256 * mk c k + c
theorem bc_1 : ∀ o, o < 2 → ∀ b, b < 256 → (128 * o + b / 2) &&& 85 = (b / 2) &&& 85 ∧ (b / 2) &&& 85 ≤ b := by decide +kernel
def s1 (k v : Nat) : Nat := v - ((v / 2) &&& mk 85 k)
theorem s1_le : ∀ k v, v < 256 ^ k → (v / 2) &&& mk 85 k ≤ v
  | 0, v, _ => by show (v / 2) &&& 0 ≤ v; rw [Nat.and_zero]; omega
  | k + 1, v, h => Nat.le_trans Nat.and_le_left (by omega)
theorem s1_s {k q b : Nat} (hb : b < 256) : s1 (k + 1) (256 * q + b) = 256 * s1 k q + (b - ((b / 2) &&& 85)) := by
  unfold s1
  have e : (256 * q + b) / 2 = 256 * (q / 2) + (128 * (q % 2) + b / 2) := by omega
  have h1 := bc_1 (q % 2) (by omega) b hb
  have h2 : (q / 2) &&& mk 85 k ≤ q := Nat.le_trans Nat.and_le_left (by omega)
  rw [e]
  show _ - ((256 * (q / 2) + (128 * (q % 2) + b / 2)) &&& (256 * mk 85 k + 85)) = _
  rw [bc_and (by omega) (by decide), h1.1]
  have h3 := h1.2
  omega
def s2 (k v : Nat) : Nat := (v &&& mk 51 k) + ((v / 4) &&& mk 51 k)
theorem bc_2 : ∀ o, o < 4 → ∀ b, b < 256 → (64 * o + b / 4) &&& 51 = (b / 4) &&& 51 ∧ (b &&& 51) + ((b / 4) &&& 51) < 256 := by decide +kernel
theorem s2_s {k q b : Nat} (hb : b < 256) : s2 (k + 1) (256 * q + b) = 256 * s2 k q + ((b &&& 51) + ((b / 4) &&& 51)) := by
  unfold s2
  have e : (256 * q + b) / 4 = 256 * (q / 4) + (64 * (q % 4) + b / 4) := by omega
  have h1 := bc_2 (q % 4) (by omega) b hb
  rw [e]
  show ((256 * q + b) &&& (256 * mk 51 k + 51)) + ((256 * (q / 4) + (64 * (q % 4) + b / 4)) &&& (256 * mk 51 k + 51)) = _
  rw [bc_and hb (by decide), bc_and (by omega) (by decide), h1.1]
  omega
/-- a byte's bits -/
def pb (b : Nat) : Nat := b % 2 + b / 2 % 2 + b / 4 % 2 + b / 8 % 2 + b / 16 % 2 + b / 32 % 2 + b / 64 % 2 + b / 128 % 2
def p2 (b : Nat) : Nat := ((b - ((b / 2) &&& 85)) &&& 51) + (((b - ((b / 2) &&& 85)) / 4) &&& 51)
theorem bc_3 : ∀ b, b < 256 → p2 b < 256 ∧ p2 b % 16 ≤ 4 ∧ p2 b / 16 ≤ 4 ∧ p2 b % 16 + p2 b / 16 = pb b ∧ pb b ≤ 8 := by decide +kernel
def s3 (k v : Nat) : Nat := (v + v / 16) &&& mk 15 k
theorem bc_4 : ∀ o, o < 5 → ∀ x, x < 5 → ∀ y, y < 5 → (16 * x + y + (16 * o + x)) &&& 15 = x + y := by decide +kernel
theorem s12 : ∀ k q b, b < 256 → s2 (k + 1) (s1 (k + 1) (256 * q + b)) = 256 * s2 k (s1 k q) + p2 b := fun k q b hb => by
  rw [s1_s hb, s2_s (by omega)]
  rfl
theorem s12_m : ∀ k v, v < 256 ^ k → s2 k (s1 k v) % 16 ≤ 4
  | 0, v, h => by
    have : v = 0 := by rw [Nat.pow_zero] at h; omega
    subst this; decide
  | k + 1, v, h => by
    have e : v = 256 * (v / 256) + v % 256 := (Nat.div_add_mod v 256).symm
    rw [e, s12 k _ _ (Nat.mod_lt _ (by decide))]
    have := bc_3 (v % 256) (Nat.mod_lt _ (by decide))
    omega
/-- the sum over the bytes, each in its place -/
def ps : Nat → Nat → Nat
  | 0, _ => 0
  | k + 1, v => 256 * ps k (v / 256) + pb (v % 256)
theorem s123 : ∀ k v, v < 256 ^ k → s3 k (s2 k (s1 k v)) = ps k v
  | 0, v, h => by show _ &&& 0 = 0; exact Nat.and_zero _
  | k + 1, v, h => by
    have hb := Nat.mod_lt v (show 0 < 256 by decide)
    have hq : v / 256 < 256 ^ k := by rw [Nat.pow_succ] at h; omega
    have e : v = 256 * (v / 256) + v % 256 := (Nat.div_add_mod v 256).symm
    have ih := s123 k (v / 256) hq
    have hm := s12_m k (v / 256) hq
    have h3 := bc_3 (v % 256) hb
    show s3 (k + 1) (s2 (k + 1) (s1 (k + 1) v)) = 256 * ps k (v / 256) + pb (v % 256)
    rw [show s2 (k + 1) (s1 (k + 1) v) = 256 * s2 k (s1 k (v / 256)) + p2 (v % 256) by rw [← s12 k _ _ hb, ← e]]
    generalize s2 k (s1 k (v / 256)) = Q at ih hm ⊢
    generalize p2 (v % 256) = y at h3 ⊢
    generalize pb (v % 256) = z at h3 ⊢
    unfold s3 at ih ⊢
    have e2 : 256 * Q + y + (256 * Q + y) / 16 = 256 * (Q + Q / 16) + (y + (16 * (Q % 16) + y / 16)) := by omega
    rw [e2]
    show (256 * (Q + Q / 16) + (y + (16 * (Q % 16) + y / 16))) &&& (256 * mk 15 k + 15) = _
    rw [bc_and (by omega) (by decide), ih]
    have h4 := bc_4 (Q % 16) (by omega) (y / 16) (by omega) (y % 16) (by omega)
    have e3 : y + (16 * (Q % 16) + y / 16) = 16 * (y / 16) + y % 16 + (16 * (Q % 16) + y / 16) := by omega
    rw [e3, h4]
    omega
theorem ps8 {v : Nat} : ps 8 v = pb (v % 256) + 256 * (pb (v / 256 % 256) + 256 * (pb (v / 256 / 256 % 256) + 256 * (pb (v / 256 / 256 / 256 % 256) + 256 * (pb (v / 256 / 256 / 256 / 256 % 256) + 256 * (pb (v / 256 / 256 / 256 / 256 / 256 % 256) + 256 * (pb (v / 256 / 256 / 256 / 256 / 256 / 256 % 256) + 256 * (pb (v / 256 / 256 / 256 / 256 / 256 / 256 / 256 % 256)))))))) := by
  simp only [ps]
  omega
theorem bc_dv {l m q : Nat} (h : l < m) : (l + m * q) / m = q := by
  rw [Nat.add_mul_div_left _ _ (by omega), Nat.div_eq_of_lt h, Nat.zero_add]
theorem bc_sum {a0 a1 a2 a3 a4 a5 a6 a7 p v4 v5 : Nat} (h0 : a0 ≤ 8) (h1 : a1 ≤ 8) (h2 : a2 ≤ 8) (h3 : a3 ≤ 8) (h4 : a4 ≤ 8) (h5 : a5 ≤ 8) (h6 : a6 ≤ 8) (h7 : a7 ≤ 8) (hp : p = a0 + 256 * (a1 + 256 * (a2 + 256 * (a3 + 256 * (a4 + 256 * (a5 + 256 * (a6 + 256 * a7))))))) (e4 : v4 = p + p / 256) (e5 : v5 = v4 + v4 / 65536) : (v5 + v5 / 4294967296) % 128 = a0 + a1 + a2 + a3 + a4 + a5 + a6 + a7 := by
  generalize e6 : a6 + 256 * a7 = X6 at hp
  generalize e5' : a5 + 256 * X6 = X5 at hp
  generalize e4' : a4 + 256 * X5 = X4 at hp
  generalize e3' : a3 + 256 * X4 = X3 at hp
  generalize e2' : a2 + 256 * X3 = X2 at hp
  generalize e1' : a1 + 256 * X2 = X1 at hp
  have d1 : p / 256 = X1 := by rw [hp]; exact bc_dv (by omega)
  rw [d1, hp] at e4
  have f4 : v4 = (a0 + a1 + 256 * (a1 + a2)) + 65536 * (X2 + X3) := by clear d1 e5 hp; omega
  have d2 : v4 / 65536 = X2 + X3 := by rw [f4]; exact bc_dv (by omega)
  rw [d2, f4] at e5
  have f5 : v5 = (a0 + a1 + a2 + a3 + 256 * (a1 + a2 + a3 + a4) + 65536 * (a2 + a3 + a4 + a5) + 16777216 * (a3 + a4 + a5 + a6)) + 4294967296 * (X4 + X5 + X6 + a7) := by clear d1 d2 e4 f4 hp; omega
  have d3 : v5 / 4294967296 = X4 + X5 + X6 + a7 := by rw [f5]; exact bc_dv (by omega)
  rw [d3, f5]
  clear d1 d2 d3 e4 f4 f5 e5 hp
  omega
/-- the bits of a number below 2 ^ k -/
def cbv (v : Nat) : Nat → Nat
  | 0 => 0
  | k + 1 => cbv v k + v / 2 ^ k % 2
theorem cbn_v {v : Nat} : ∀ k, k ≤ 64 → cbn (lN v) k = cbv v k
  | 0, _ => rfl
  | k + 1, hk => by
    show cbn (lN v) k + (if bx (lN v) k = true then 1 else 0) = cbv v k + v / 2 ^ k % 2
    rw [cbn_v k (by omega), bx_lN (by omega), Nat.testBit_eq_decide_div_mod_eq]
    congr 1
    by_cases h : v / 2 ^ k % 2 = 1
    · rw [decide_eq_true h, if_pos rfl, h]
    · rw [decide_eq_false h, if_neg (by decide)]; omega
theorem cbv_8 {v j : Nat} : cbv v (j + 8) = cbv v j + pb (v / 2 ^ j % 256) := by
  have d : ∀ i, v / 2 ^ (j + i) = v / 2 ^ j / 2 ^ i := fun i => by rw [Nat.pow_add, Nat.div_div_eq_div_mul]
  show cbv v j + v / 2 ^ j % 2 + v / 2 ^ (j + 1) % 2 + v / 2 ^ (j + 2) % 2 + v / 2 ^ (j + 3) % 2 + v / 2 ^ (j + 4) % 2 + v / 2 ^ (j + 5) % 2 + v / 2 ^ (j + 6) % 2 + v / 2 ^ (j + 7) % 2 = _
  rw [d 1, d 2, d 3, d 4, d 5, d 6, d 7]
  unfold pb
  generalize v / 2 ^ j = u
  omega
theorem cbv_64 {v : Nat} : cbv v 64 = pb (v % 256) + pb (v / 256 % 256) + pb (v / 256 / 256 % 256) + pb (v / 256 / 256 / 256 % 256) + pb (v / 256 / 256 / 256 / 256 % 256) + pb (v / 256 / 256 / 256 / 256 / 256 % 256) + pb (v / 256 / 256 / 256 / 256 / 256 / 256 % 256) + pb (v / 256 / 256 / 256 / 256 / 256 / 256 / 256 % 256) := by
  have d : ∀ j, v / 2 ^ (j + 8) = v / 2 ^ j / 256 := fun j => by rw [Nat.pow_add, Nat.div_div_eq_div_mul]
  rw [show 64 = 56 + 8 from rfl, cbv_8, show 56 = 48 + 8 from rfl, cbv_8, show 48 = 40 + 8 from rfl, cbv_8, show 40 = 32 + 8 from rfl, cbv_8, show 32 = 24 + 8 from rfl, cbv_8, show 24 = 16 + 8 from rfl, cbv_8, show 16 = 8 + 8 from rfl, cbv_8, show 8 = 0 + 8 from rfl, cbv_8]
  simp only [d, Nat.pow_zero, Nat.div_one]
  show 0 + _ + _ + _ + _ + _ + _ + _ + _ = _
  omega
theorem bc_all {v v4 v5 : Nat} (e4 : v4 = ps 8 v + ps 8 v / 256) (e5 : v5 = v4 + v4 / 65536) : (v5 + v5 / 4294967296) % 128 = cb (lN v) := by
  show _ = cbn (lN v) 64
  rw [cbn_v 64 (Nat.le_refl _), cbv_64]
  have m : ∀ u, pb (u % 256) ≤ 8 := fun u => (bc_3 _ (Nat.mod_lt _ (by decide))).2.2.2.2
  exact bc_sum (m _) (m _) (m _) (m _) (m _) (m _) (m _) (m _) ps8 e4 e5
theorem ps_b {v : Nat} : ps 8 v ≤ 2 ^ 60 := by
  have m : ∀ u, pb (u % 256) ≤ 8 := fun u => (bc_3 _ (Nat.mod_lt _ (by decide))).2.2.2.2
  have m0 := m v
  have m1 := m (v / 256)
  have m2 := m (v / 256 / 256)
  have m3 := m (v / 256 / 256 / 256)
  have m4 := m (v / 256 / 256 / 256 / 256)
  have m5 := m (v / 256 / 256 / 256 / 256 / 256)
  have m6 := m (v / 256 / 256 / 256 / 256 / 256 / 256)
  have m7 := m (v / 256 / 256 / 256 / 256 / 256 / 256 / 256)
  rw [ps8]
  omega
theorem lN_and (a b : Nat) : lN a &&& lN b = lN (a &&& b) := by
  apply Int64.toBitVec_inj.mp
  rw [Int64.toBitVec_and, wb_tb, wb_tb, wb_tb, BitVec.ofNat_and]
theorem lu_sh {v k : Nat} {y : UInt64} (hv : v < 2 ^ 64) (hk : y.toBitVec = BitVec.ofNat 64 k) (hk2 : k < 64) : ((lN v).toUInt64 >>> y).toInt64 = lN (v / 2 ^ k) := by
  apply Int64.toBitVec_inj.mp
  rw [wb_tb]
  show ((lN v).toUInt64 >>> y).toBitVec = _
  rw [UInt64.toBitVec_shiftRight, hk]
  show (lN v).toBitVec >>> (BitVec.ofNat 64 k % 64) = _
  rw [wb_tb]
  apply BitVec.eq_of_toNat_eq
  rw [BitVec.ushiftRight_eq', BitVec.toNat_ushiftRight, BitVec.toNat_umod, BitVec.toNat_ofNat, BitVec.toNat_ofNat, BitVec.toNat_ofNat, Nat.mod_eq_of_lt hv, Nat.shiftRight_eq_div_pow]
  rw [show k % 2 ^ 64 % (64 : BitVec 64).toNat = k by rw [show (64 : BitVec 64).toNat = 64 from rfl]; omega]
  exact (Nat.mod_eq_of_lt (Nat.lt_of_le_of_lt (Nat.div_le_self _ _) hv)).symm
theorem ni_127 (a : Nat) : nI a &&& 127 = nI (a % 128) := by
  apply Int32.toBitVec_inj.mp
  rw [Int32.toBitVec_and]
  show BitVec.ofNat 32 a &&& BitVec.ofNat 32 127 = BitVec.ofNat 32 (a % 128)
  rw [← BitVec.ofNat_and, Nat.and_two_pow_sub_one_eq_mod a 7]
theorem s2_b {v : Nat} : s2 8 v < 2 ^ 64 := by
  have a := Nat.and_le_right (n := v) (m := mk 51 8)
  have b := Nat.and_le_right (n := v / 4) (m := mk 51 8)
  have e : mk 51 8 = 3689348814741910323 := by decide
  unfold s2
  omega
theorem mk_85 : (6148914691236517205 : Int64) = lN (mk 85 8) := by decide
theorem mk_51 : (3689348814741910323 : Int64) = lN (mk 51 8) := by decide
theorem mk_15 : (1085102592571150095 : Int64) = lN (mk 15 8) := by decide
