theorem sd_f {z : Int} {u B : Nat} (h : z.natAbs ≤ B) (hu : u ≤ 68) (hB : B * B * 68 * 2 < 1000000000 ^ 48) : z.natAbs * z.natAbs < 1000000000 ^ 48 ∧ (z * z).natAbs * u < 1000000000 ^ 48 ∧ (z * z * (u : Int)).natAbs ≤ B * B * 68 := by
  have a : z.natAbs * z.natAbs ≤ B * B := Nat.mul_le_mul h h
  have b : z.natAbs * z.natAbs * u ≤ B * B * 68 := Nat.mul_le_mul a hu
  have e1 : (z * z).natAbs = z.natAbs * z.natAbs := Int.natAbs_mul z z
  have e2 : (z * z * (u : Int)).natAbs = z.natAbs * z.natAbs * u := by rw [Int.natAbs_mul, Int.natAbs_mul, Int.natAbs_natCast]
  rw [e2, e1]
  generalize z.natAbs * z.natAbs = x at a b ⊢
  generalize x * u = y at b ⊢
  generalize B * B = c at a b hB ⊢
  refine ⟨by omega, by omega, b⟩
