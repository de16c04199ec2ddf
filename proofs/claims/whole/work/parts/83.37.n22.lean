theorem nn_e {P : Prop} [Decidable P] (h : ¬ ¬ P) : P := Decidable.not_not.mp h
theorem bd_n {v : Int32} {n k : Nat} (hk : v = nI k) (h : k < n) (hn : n < 2 ^ 31) : 0 ≤ v ∧ v ≤ nI n - 1 := by
  subst hk
  refine ⟨nI_pos' (by omega), ?_⟩
  rw [nI_sub1 (by omega)]
  exact nI_le (by omega) (by omega)
theorem bd_i {v : Int32} {n : Nat} (h : 0 ≤ v ∧ v ≤ nI n - 1) (hn : n < 2 ^ 31) : ∃ k, k < n ∧ v = nI k := by
  obtain ⟨j, hj, rfl⟩ := nI_of (Int32.not_lt.mpr h.1)
  rcases Nat.eq_zero_or_pos n with q | q
  · subst q
    have h2 := h.2
    exact absurd (Int32.le_trans h.1 h2) (by decide)
  · have h2 := h.2
    rw [nI_sub1 q] at h2
    exact ⟨j, by have := (nI_leI (by omega) (by omega)).mp h2; omega, rfl⟩
