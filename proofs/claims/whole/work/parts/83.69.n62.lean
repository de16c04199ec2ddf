theorem gd_s {x y M i : Nat} (hy : 0 < y) (h1 : x * 2 ^ ((i - 1) / 2) ≤ M) (h2 : y * 2 ^ (i / 2) ≤ M) (h3 : 0 < i → y < x) : x % y * 2 ^ ((i + 1) / 2) ≤ M := by
  have hm := Nat.mod_lt x hy
  rcases (show i = 0 ∨ (0 < i ∧ i % 2 = 0) ∨ (0 < i ∧ i % 2 = 1) by omega) with q | ⟨q, r⟩ | ⟨q, r⟩
  · subst q
    rw [show (0 + 1) / 2 = 0 by decide, Nat.pow_zero, Nat.mul_one]
    rw [show 0 / 2 = 0 by decide, Nat.pow_zero, Nat.mul_one] at h2
    omega
  · rw [show (i + 1) / 2 = i / 2 by omega]
    exact Nat.le_trans (Nat.mul_le_mul_right _ (by omega)) h2
  · have hx := h3 q
    have h4 : 2 * (x % y) ≤ x := by
      have e := Nat.div_add_mod x y
      have hd : 1 ≤ x / y := Nat.div_pos (by omega) hy
      have := Nat.mul_le_mul_left y hd
      omega
    rw [show (i + 1) / 2 = (i - 1) / 2 + 1 by omega, Nat.pow_succ, show x % y * (2 ^ ((i - 1) / 2) * 2) = 2 * (x % y) * 2 ^ ((i - 1) / 2) by ac_rfl]
    exact Nat.le_trans (Nat.mul_le_mul_right _ h4) h1
theorem gd_e {y M i : Nat} (hM : M < 2 ^ 63) (hi : 128 ≤ i) (h2 : y * 2 ^ (i / 2) ≤ M) : y = 0 := by
  rcases Nat.eq_zero_or_pos y with q | q
  · exact q
  · exfalso
    have a := Nat.pow_le_pow_right (show 0 < 2 by decide) (show 63 ≤ i / 2 by omega)
    have b := Nat.le_mul_of_pos_left (2 ^ (i / 2)) q
    omega
