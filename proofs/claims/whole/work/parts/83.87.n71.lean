/-! Fractions that the class reduces. -/
/-- made of the primes up to 67 -/
def SMO (x : Nat) : Prop := ∃ e : Nat → Nat, (∀ q, q < 19 → e q < 100000) ∧ x = dnk e 19
theorem dnk_ne {e : Nat → Nat} {q : Nat} (hq : q < 19) (h : dnk e 19 % pr q = 0) : 0 < e q := by
  rcases Nat.eq_zero_or_pos (e q) with z | z
  · exfalso
    have hc : ∀ k, k ≤ 19 → Nat.Coprime (pr q) (dnk e k) := by
      intro k
      induction k with
      | zero => intro _; exact Nat.coprime_one_right _
      | succ k ih =>
        intro hk
        show Nat.Coprime (pr q) (dnk e k * pr k ^ e k)
        refine Nat.Coprime.mul_right (ih (by omega)) ?_
        by_cases r : k = q
        · rw [r, z, Nat.pow_zero]; exact Nat.coprime_one_right _
        · rcases Nat.lt_or_ge k q with s | s
          · exact Nat.Coprime.pow_right _ (pr_cop q hq k s)
          · exact Nat.Coprime.pow_right _ (Nat.Coprime.symm (pr_cop k (by omega) q (by omega)))
    have h1 := hc 19 (Nat.le_refl _)
    have h2 : pr q ∣ Nat.gcd (pr q) (dnk e 19) := Nat.dvd_gcd (Nat.dvd_refl _) (Nat.dvd_of_mod_eq_zero h)
    rw [show Nat.gcd (pr q) (dnk e 19) = 1 from h1] at h2
    have := (pr_b q hq).1
    have := Nat.le_of_dvd (by decide) h2
    omega
  · exact z
theorem dnk_dc {e : Nat → Nat} {q : Nat} : ∀ k, q < k → 0 < e q → dnk e k = pr q * dnk (va_up e q (e q - 1)) k
  | 0, h, _ => absurd h (by omega)
  | k + 1, h, h0 => by
    show dnk e k * pr k ^ e k = pr q * (dnk (va_up e q (e q - 1)) k * pr k ^ va_up e q (e q - 1) k)
    by_cases r : q = k
    · subst r
      rw [va_up_self, dnk_cg (e' := va_up e q (e q - 1)) (fun j hj => (va_up_ne _ _ (by omega)).symm)]
      obtain ⟨x, hx⟩ : ∃ x, e q = x + 1 := ⟨e q - 1, by omega⟩
      rw [hx, Nat.pow_succ, Nat.add_sub_cancel]
      ac_rfl
    · rw [va_up_ne _ _ (fun z => r z.symm), dnk_dc k (by omega) h0]
      ac_rfl
theorem smo_div {x q : Nat} (h : SMO x) (hq : q < 19) (hd : x % pr q = 0) : SMO (x / pr q) := by
  obtain ⟨e, he, rfl⟩ := h
  have h0 := dnk_ne hq hd
  refine ⟨va_up e q (e q - 1), fun j hj => ?_, ?_⟩
  · by_cases r : j = q
    · rw [r, va_up_self]; have := he q hq; omega
    · rw [va_up_ne _ _ r]; exact he j hj
  · rw [dnk_dc 19 hq h0, Nat.mul_div_cancel_left _ (by have := (pr_b q hq).1; omega)]
theorem smo_pos {x : Nat} (h : SMO x) : 0 < x := by
  obtain ⟨e, _, rfl⟩ := h
  exact dnk_pos (Nat.le_refl _)
theorem dg_f {e : Nat → Nat} {q : Nat} (h : e q < 100000) : dg (fun j => nI (e j)) q = e q := nI_clamp (by omega)
theorem rdc_mk {X z : Int} {D d : Nat} (hs : SMO d) (hr : ∀ q, q < 19 → ¬ (d % pr q = 0 ∧ z.natAbs % pr q = 0)) (hv : z * (D : Int) = X * (d : Int)) : RDC X D z d := by
  obtain ⟨e, he, hd⟩ := hs
  refine ⟨fun j => nI (e j), fun q hq => ?_, ?_, hv⟩
  · rw [dg_f (he q hq)]
    rcases Nat.eq_zero_or_pos (e q) with r | r
    · exact Or.inl r
    · refine Or.inr (fun s => hr q hq ⟨?_, s⟩)
      rw [hd]
      exact Nat.mod_eq_zero_of_dvd (Nat.dvd_trans (Nat.dvd_trans (Nat.dvd_refl (pr q)) (by obtain ⟨x, hx⟩ : ∃ x, e q = x + 1 := ⟨e q - 1, by omega⟩; rw [hx, Nat.pow_succ]; exact Nat.dvd_mul_left _ _ : pr q ∣ pr q ^ e q)) (dnk_dvd hq))
  · rw [hd]
    exact dnk_cg (fun j hj => (dg_f (he j hj)).symm)
theorem cop_dn {z : Int} {g : Nat → Int32} (h : RED z g) : Nat.Coprime z.natAbs (dn g) := by
  have : ∀ k, k ≤ 19 → Nat.Coprime z.natAbs (dnk (dg g) k) := by
    intro k
    induction k with
    | zero => intro _; exact Nat.coprime_one_right _
    | succ k ih =>
      intro hk
      show Nat.Coprime z.natAbs (dnk (dg g) k * pr k ^ dg g k)
      refine Nat.Coprime.mul_right (ih (by omega)) ?_
      rcases h k (by omega) with q | q
      · rw [q, Nat.pow_zero]; exact Nat.coprime_one_right _
      · exact Nat.Coprime.pow_right _ (Nat.Coprime.symm (pr_gcd (by omega) q))
  exact this 19 (Nat.le_refl _)
/-- a fraction reduces in one way only -/
theorem rdc_u {X z z' : Int} {D d d' : Nat} (hD : 0 < D) (h : RDC X D z d) (h' : RDC X D z' d') : z = z' ∧ d = d' := by
  obtain ⟨g, h1, h2, h3⟩ := h
  obtain ⟨g', k1, k2, k3⟩ := h'
  have c1 := cop_dn h1
  have c2 := cop_dn k1
  rw [← h2] at c1
  rw [← k2] at c2
  have hd : 0 < d := by rw [h2]; exact dn_pos
  have hd' : 0 < d' := by rw [k2]; exact dn_pos
  have e : z * (d' : Int) = z' * (d : Int) := by
    apply Int.eq_of_mul_eq_mul_right (a := (D : Int)) (by omega)
    rw [show z * (d' : Int) * (D : Int) = z * (D : Int) * d' by ac_rfl, h3, show z' * (d : Int) * (D : Int) = z' * (D : Int) * d by ac_rfl, k3]
    ac_rfl
  have en := nat_eq e
  have a1 : d ∣ d' := Nat.Coprime.dvd_of_dvd_mul_left (Nat.Coprime.symm c1) (by rw [en]; exact Nat.dvd_mul_left _ _)
  have a2 : d' ∣ d := Nat.Coprime.dvd_of_dvd_mul_left (Nat.Coprime.symm c2) (by rw [← en]; exact Nat.dvd_mul_left _ _)
  have ed : d = d' := Nat.dvd_antisymm a1 a2
  refine ⟨?_, ed⟩
  subst ed
  exact Int.eq_of_mul_eq_mul_right (a := (d : Int)) (by omega) e
theorem red_dv {z X : Int} {D d p : Nat} (hp : 0 < p) (h1 : d % p = 0) (h2 : z.natAbs % p = 0) (h : z * (D : Int) = X * (d : Int)) : z.tdiv (p : Int) * (D : Int) = X * ((d / p : Nat) : Int) := by
  have e1 := td_ex h2
  have e2 : d = p * (d / p) := (Nat.mul_div_cancel' (Nat.dvd_of_mod_eq_zero h1)).symm
  apply Int.eq_of_mul_eq_mul_right (a := (p : Int)) (by omega)
  rw [show z.tdiv (p : Int) * (D : Int) * (p : Int) = z.tdiv (p : Int) * (p : Int) * D by ac_rfl, ← e1, h]
  conv => lhs; rw [e2]
  rw [Int.natCast_mul]
  ac_rfl
theorem rd_b {d p J D : Nat} (hp : 2 ≤ p) (h : d % p = 0) (hb : d * 2 ^ J ≤ D) : d / p * 2 ^ (J + 1) ≤ D := up_b hp hb h
theorem dv_bn {a b : Prop} [Decidable a] [Decidable b] (h1 : a) (h2 : b) : (1 : Int32) = bn (decide (a ∧ b)) := by rw [decide_eq_true ⟨h1, h2⟩]; rfl
theorem dv_b0 {a b : Prop} [Decidable a] [Decidable b] (h : ¬ a ∨ ¬ b) : (0 : Int32) = bn (decide (a ∧ b)) := by rw [decide_eq_false (fun q => h.elim (fun r => r q.1) (fun r => r q.2))]; rfl
