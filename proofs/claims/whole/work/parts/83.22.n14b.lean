theorem fitm2 {a d Q : Nat} (h1 : a ≤ Q * 20000) (h2 : d ≤ 1000000) (hQ : Q * 1000000000000 < 268435456 ^ 130) : a * d < 268435456 ^ 250 := by
  have a1 := Nat.mul_le_mul h1 h2
  have c : 268435456 ^ 130 ≤ 268435456 ^ 250 := Nat.pow_le_pow_right (by decide) (by decide)
  have a2 : Q * 20000 * 1000000 ≤ Q * 1000000000000 := by rw [Nat.mul_assoc]; exact Nat.mul_le_mul_left _ (by decide)
  exact Nat.lt_of_lt_of_le (Nat.lt_of_le_of_lt (Nat.le_trans a1 a2) hQ) c
