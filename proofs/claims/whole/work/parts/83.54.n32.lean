theorem bn_d {P : Prop} [Decidable P] (h : P) : 1 = bn (decide P) := by rw [decide_eq_true h]; rfl
theorem bn_dn {P : Prop} [Decidable P] (h : ¬ P) : 0 = bn (decide P) := by rw [decide_eq_false h]; rfl
theorem bn_1 {b : Bool} (h : ¬ bn b = 0) : b = true := by
  cases hb : b
  · exact absurd (bn_0.mpr hb) h
  · rfl
/-- the edges of a column cut anew -/
def cutF (bc : Int32) (vv : Nat → Int32) (c n nn : Nat) (eg : Nat → Int32) : Nat × (Nat → Int32) := if (mnx vv c n).1 = 0 then (0, eg) else ctE (ctv bc vv c n nn) (mnx vv c n).2.1 (11 * c) eg (nn - 1)
theorem lN_n0 {n : Nat} (h : 0 < n) (h2 : n < 2 ^ 63) : lN n ≠ 0 := fun q => absurd ((pk_lEQ (b := 0) h2 (by decide)).mp q) (by omega)
