theorem lv_t {lv S : Int} {un U g : Nat} (hg : 0 < g) (h1 : g ∣ U) (h2 : g ∣ un) (hu : 0 < un) (h : lv * (un : Int) = S * (U : Int)) : (S * ((U / g : Nat) : Int)).tdiv ((un / g : Nat) : Int) = lv := by
  obtain ⟨a, ha⟩ := h1
  obtain ⟨b, hb⟩ := h2
  have e1 : U / g = a := by rw [ha, Nat.mul_div_cancel_left _ hg]
  have e2 : un / g = b := by rw [hb, Nat.mul_div_cancel_left _ hg]
  have hb0 : 0 < b := by rcases Nat.eq_zero_or_pos b with q | q; (rw [q, Nat.mul_zero] at hb; omega); (exact q)
  have e3 : S * (a : Int) = lv * (b : Int) := by
    rw [ha, hb, Int.natCast_mul, Int.natCast_mul] at h
    apply Int.eq_of_mul_eq_mul_right (a := (g : Int)) (by omega)
    rw [show S * (a : Int) * (g : Int) = S * ((g : Int) * a) by ac_rfl, ← h]
    ac_rfl
  rw [e1, e2, e3]
  exact Int.mul_tdiv_cancel _ (by omega)
