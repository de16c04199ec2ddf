theorem wf_m {z : Int} {F K B C : Nat} (h : z.natAbs ≤ B) (hF : F ≤ K) (hB : B * K < C) : z.natAbs * F < C := Nat.lt_of_le_of_lt (Nat.mul_le_mul h hF) hB
theorem wf_1 {z : Int} {K B C : Nat} (h : z.natAbs ≤ B) (hK : 0 < K) (hB : B * K < C) : z.natAbs < C := Nat.lt_of_le_of_lt (Nat.le_trans h (Nat.le_mul_of_pos_right _ hK)) hB
/-- a Split's content stands for what the class has found -/
def SPF (col mk ok ml : Int32) (lr : Int64) (un : Int32) (z : Int) (ik : Nat → Int32) (b : CST) : Prop :=
  (b.1 = false ∧ col = -1) ∨ (b.1 = true ∧ ¬ col = -1 ∧ b.2.1 = z ∧ un = nI b.2.2.1 ∧ b.2.2.1 ≤ 4624 ∧ b.2.2.2.1 = col ∧ b.2.2.2.2.1 = mk ∧ b.2.2.2.2.2.1 = ml ∧ b.2.2.2.2.2.2 = lr ∧ ∃ c, c < 6 ∧ col = nI c ∧ ok = ik c)
theorem csd_l {RR : Nat → Int} {n w lst : Nat} {A S : Int64} {b : CST} {cc ee ml : Int32} (h : cb S < lst ∨ cb A - cb S < lst) : csd RR n w lst A b S cc ee ml = b := if_pos h
theorem csd_y {RR : Nat → Int} {n w lst : Nat} {A S : Int64} {b : CST} {cc ee ml : Int32} (h : ¬ (cb S < lst ∨ cb A - cb S < lst)) (h2 : b.1 = false ∨ b.2.1 * (((cb S + w) * (cb A - cb S + w) : Nat) : Int) < wZ (smv RR S n) (smv RR A n - smv RR S n) (cb S + w) (cb A - cb S + w) * (b.2.2.1 : Int)) : csd RR n w lst A b S cc ee ml = (true, wZ (smv RR S n) (smv RR A n - smv RR S n) (cb S + w) (cb A - cb S + w), (cb S + w) * (cb A - cb S + w), cc, ee, ml, S) := by
  unfold csd
  rw [if_neg h, if_pos h2]
theorem csd_n {RR : Nat → Int} {n w lst : Nat} {A S : Int64} {b : CST} {cc ee ml : Int32} (h : ¬ (cb S < lst ∨ cb A - cb S < lst)) (h2 : ¬ (b.1 = false ∨ b.2.1 * (((cb S + w) * (cb A - cb S + w) : Nat) : Int) < wZ (smv RR S n) (smv RR A n - smv RR S n) (cb S + w) (cb A - cb S + w) * (b.2.2.1 : Int))) : csd RR n w lst A b S cc ee ml = b := by
  unfold csd
  rw [if_neg h, if_neg h2]
theorem wZ_b {zl zr : Int} {ul ur B : Nat} (h1 : zl.natAbs ≤ B) (h2 : zr.natAbs ≤ B) (hl : ul ≤ 68) (hr : ur ≤ 68) : (wZ zl zr ul ur).natAbs ≤ B * B * 136 := by
  have a1 : zl.natAbs * zl.natAbs * ur ≤ B * B * 68 := Nat.mul_le_mul (Nat.mul_le_mul h1 h1) hr
  have a2 : zr.natAbs * zr.natAbs * ul ≤ B * B * 68 := Nat.mul_le_mul (Nat.mul_le_mul h2 h2) hl
  have e1 : (zl * zl * (ur : Int)).natAbs = zl.natAbs * zl.natAbs * ur := by rw [Int.natAbs_mul, Int.natAbs_mul, Int.natAbs_natCast]
  have e2 : (zr * zr * (ul : Int)).natAbs = zr.natAbs * zr.natAbs * ul := by rw [Int.natAbs_mul, Int.natAbs_mul, Int.natAbs_natCast]
  have e3 := Int.natAbs_add_le (zl * zl * (ur : Int)) (zr * zr * (ul : Int))
  rw [e1, e2] at e3
  generalize B * B = c at a1 a2 ⊢
  generalize zl.natAbs * zl.natAbs * ur = x at a1 e3
  generalize zr.natAbs * zr.natAbs * ul = y at a2 e3
  show (zl * zl * (ur : Int) + zr * zr * (ul : Int)).natAbs ≤ _
  omega
