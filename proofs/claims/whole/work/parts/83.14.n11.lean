/-- what the trees make of a number: Pp the product of scales, X the number over it, LX the leaves' values -/
def CHN (Pp sc : Nat → Nat) (X LX : Nat → Int) (sub : Bool) (n PB XB : Nat) : Prop := Pp 0 = 1 ∧ (∀ t, t < n → Pp (t + 1) = Pp t * sc t ∧ X (t + 1) = (if sub = true then X t * (sc t : Int) - LX t else X t * (sc t : Int) + LX t) ∧ (LX t).natAbs ≤ XB) ∧ ∀ t, t ≤ n → 0 < Pp t ∧ Pp t ≤ PB ∧ (X t).natAbs ≤ XB
theorem fit_w {z lz d ld XB PB : Nat} (h1 : z ≤ XB) (h2 : lz ≤ XB) (h3 : d ≤ PB) (h4 : ld ≤ PB) (hB : XB * PB + XB * (PB * PB) < 268435456 ^ 130) : z * ld + lz * (d * ld) < 268435456 ^ 250 := by
  have a := Nat.mul_le_mul h1 h4
  have b := Nat.mul_le_mul h2 (Nat.mul_le_mul h3 h4)
  have c : 268435456 ^ 130 ≤ 268435456 ^ 250 := Nat.pow_le_pow_right (by decide) (by decide)
  exact Nat.lt_of_lt_of_le (Nat.lt_of_le_of_lt (Nat.add_le_add a b) hB) c
