theorem maxe_P {ru rl g : Nat → Int32} {bb n : Nat} {zi Rr : Nat → Int} {P : Nat} (h : ROWS ru rl bb n zi Rr P) (hm : MAXE rl g n) : dn g ∣ P := by
  suffices hs : ∀ k, k ≤ 19 → dnk (dg g) k ∣ P from hs 19 (Nat.le_refl _)
  intro k
  induction k with
  | zero => intro _; exact Nat.one_dvd _
  | succ k ih =>
    intro hk
    show dnk (dg g) k * pr k ^ dg g k ∣ P
    refine Nat.Coprime.mul_dvd_of_dvd_of_dvd (Nat.Coprime.pow_right _ (Nat.Coprime.symm (dnk_cop (by omega) k (Nat.le_refl _)))) (ih (by omega)) ?_
    rcases (hm k (by omega)).2 with q | ⟨i, hi, q⟩
    · rw [q, Nat.pow_zero]
      exact Nat.one_dvd _
    · rw [← q]
      obtain ⟨_, _, h3, h4⟩ := h i hi
      exact Nat.dvd_trans (dnk_dvd (by omega)) (red_dvd h3 h4)
theorem comm_mk {ru rl g u2 : Nat → Int32} {bb n : Nat} {zi zr Rr : Nat → Int} {P : Nat} (h : ROWS ru rl bb n zi Rr P) (hm : MAXE rl g n) (hz : ∀ q, q < n → MR u2 (132 * q) (zr q) ∧ zr q * (dn (sh (19 * q) rl) : Int) = zi q * (dn g : Int)) : COMM u2 g n zr Rr P := by
  refine ⟨fun i hi => ?_, fun q hq => ?_⟩
  · obtain ⟨a1, a2, a3, a4⟩ := h i hi
    obtain ⟨b1, b2⟩ := hz i hi
    exact ⟨b1, raise_v dn_pos a4 b2⟩
  · rcases (hm q hq).2 with r | ⟨i, hi, r⟩
    · exact Or.inl r
    · rcases Nat.eq_zero_or_pos (dg g q) with s | s
      · exact Or.inl s
      · obtain ⟨a1, a2, a3, a4⟩ := h i hi
        refine Or.inr ⟨i, hi, raise_nd hq r ?_ (hz i hi).2⟩
        rcases a3 q hq with u | u
        · rw [u] at r; omega
        · exact u
