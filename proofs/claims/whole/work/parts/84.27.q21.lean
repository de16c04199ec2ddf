/-! The scale of a tree, as the class works it out. -/
theorem gcd_rm {u r s : Nat} : Nat.gcd u (r * (s % u)) = Nat.gcd u (r * s) := by
  have e : r * s = r * (s % u) + u * (r * (s / u)) := by
    have h := Nat.div_add_mod s u
    calc r * s = r * (u * (s / u) + s % u) := by rw [h]
      _ = r * (s % u) + u * (r * (s / u)) := by rw [Nat.mul_add, Nat.add_comm]; congr 1; ac_rfl
  rw [e, Nat.gcd_add_mul_left_right]
theorem lcm_dg {a b : Nat} : a / Nat.gcd a b * b = Nat.lcm a b := by
  show _ = a * b / Nat.gcd a b
  obtain ⟨k, hk⟩ := Nat.gcd_dvd_left a b
  rcases Nat.eq_zero_or_pos (Nat.gcd a b) with q | q
  · rw [q, Nat.div_zero, Nat.div_zero, Nat.zero_mul]
  · have e : a / Nat.gcd a b = k := by
      conv => lhs; lhs; rw [hk]
      exact Nat.mul_div_cancel_left _ q
    rw [e]
    conv => rhs; lhs; rw [hk]
    rw [Nat.mul_assoc, Nat.mul_div_cancel_left _ q]
theorem scl_dv {F : TFR} {t k : Nat} : ∀ j, scl F t k ∣ scl F t (k + j)
  | 0 => Nat.dvd_refl _
  | j + 1 => by
    have ih := scl_dv (F := F) (t := t) (k := k) j
    show scl F t k ∣ if _ then _ else _
    split
    · exact Nat.dvd_trans ih (Nat.dvd_lcm_left _ _)
    · exact ih
theorem scl_le {F : TFR} {t k : Nat} (h : TOK1 F t) (hk : k ≤ tM F t) : scl F t k ≤ 1788279292800 := by
  have h1 := scl_dv (F := F) (t := t) (k := k) (tM F t - k)
  rw [show k + (tM F t - k) = tM F t by omega] at h1
  exact Nat.le_trans (Nat.le_of_dvd (sca_pos h) h1) (sca_le h)
theorem scl_y {F : TFR} {t k : Nat} (h : tA F 0 (31 * t + k) = -1) : scl F t (k + 1) = Nat.lcm (scl F t k) (ndd F t k) := if_pos h
theorem scl_n {F : TFR} {t k : Nat} (h : ¬ tA F 0 (31 * t + k) = -1) : scl F t (k + 1) = scl F t k := if_neg h
