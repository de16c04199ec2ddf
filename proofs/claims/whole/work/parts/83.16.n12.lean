/-! The reference's residuals over their common denominator. -/
/-- rows of fractions: the first n of them, over Pt -/
def ROWS (ru rl : Nat → Int32) (bb n : Nat) (zi Rr : Nat → Int) (Pt : Nat) : Prop := ∀ i, i < n → MR ru (132 * i) (zi i) ∧ LOK (sh (19 * i) rl) bb ∧ RED (zi i) (sh (19 * i) rl) ∧ zi i * (Pt : Int) = Rr i * (dn (sh (19 * i) rl) : Int)
/-- exponents that are the greatest of the rows' -/
def MAXE (rl g : Nat → Int32) (n : Nat) : Prop := ∀ q, q < 19 → (∀ i, i < n → dg (sh (19 * i) rl) q ≤ dg g q) ∧ (dg g q = 0 ∨ ∃ i, i < n ∧ dg (sh (19 * i) rl) q = dg g q)
theorem mr_cg {f g : Nat → Int32} {p : Nat} {z : Int} (h : MR f p z) (he : ∀ q, p ≤ q → q < p + 132 → g q = f q) : MR g p z := by
  obtain ⟨k, h1, h2, h3, h4, h5, h6⟩ := h
  exact mr_mk h2 h3 h4 h6 (fun q hq => he (p + q) (by omega) (by omega)) ((he _ (by omega) (by omega)).trans h1) ((he _ (by omega) (by omega)).trans h5)
theorem rows_s {ru rl ru' rl' : Nat → Int32} {bb n : Nat} {zi Rr : Nat → Int} {Pt : Nat} {z : Int} {g : Nat → Int32} (h : ROWS ru rl bb n zi Rr Pt) (h1 : MR ru' (132 * n) z) (h2 : ∀ q, q < 132 * n ∨ 132 * n + 132 ≤ q → ru' q = ru q) (h3 : ∀ q, q < 19 → rl' (19 * n + q) = g q) (h4 : ∀ q, q < 19 * n ∨ 19 * n + 19 ≤ q → rl' q = rl q) (hL : LOK g bb) (hR : RED z g) (hv : z * (Pt : Int) = Rr n * (dn g : Int)) : ROWS ru' rl' bb (n + 1) (va_up zi n z) Rr Pt := by
  intro i hi
  by_cases q : i = n
  · subst q
    rw [va_up_self]
    have e : ∀ q, q < 19 → sh (19 * i) rl' q = g q := fun q hq => h3 q hq
    exact ⟨h1, lok_cg hL e, red_cg hR e, by rw [dn_cg e]; exact hv⟩
  · rw [va_up_ne _ _ q]
    obtain ⟨a1, a2, a3, a4⟩ := h i (by omega)
    have e : ∀ q, q < 19 → sh (19 * i) rl' q = sh (19 * i) rl q := fun q hq => h4 (19 * i + q) (by omega)
    exact ⟨mr_cg a1 (fun q h1 h2' => h2 q (by omega)), lok_cg a2 e, red_cg a3 e, by rw [dn_cg e]; exact a4⟩
theorem maxe_s {rl rl' g g' o : Nat → Int32} {n : Nat} (h : MAXE rl g n) (h3 : ∀ q, q < 19 → rl' (19 * n + q) = o q) (h4 : ∀ q, q < 19 * n ∨ 19 * n + 19 ≤ q → rl' q = rl q) (hm : ∀ q, q < 19 → dg g' q = max (dg o q) (dg g q)) : MAXE rl' g' (n + 1) := by
  intro q hq
  obtain ⟨h1, h2⟩ := h q hq
  have e1 : dg (sh (19 * n) rl') q = dg o q := dg_cg (h3 q hq)
  have e2 : ∀ i, i < n → dg (sh (19 * i) rl') q = dg (sh (19 * i) rl) q := fun i hi => dg_cg (h4 (19 * i + q) (by omega))
  refine ⟨fun i hi => ?_, ?_⟩
  · by_cases r : i = n
    · rw [r, e1, hm q hq]; omega
    · rw [e2 i (by omega), hm q hq]
      have := h1 i (by omega)
      omega
  · rcases Nat.lt_or_ge (dg g q) (dg o q) with r | r
    · exact Or.inr ⟨n, by omega, by rw [e1, hm q hq]; omega⟩
    · rcases h2 with s | ⟨i, hi, s⟩
      · rcases Nat.eq_zero_or_pos (dg o q) with u | u
        · exact Or.inl (by rw [hm q hq]; omega)
        · omega
      · exact Or.inr ⟨i, by omega, by rw [e2 i hi, hm q hq, s]; omega⟩
/-- the rows raised to common exponents; no prime divides all of them and the denominator -/
def COMM (ru g : Nat → Int32) (n : Nat) (zr Rr : Nat → Int) (Pt : Nat) : Prop := (∀ i, i < n → MR ru (132 * i) (zr i) ∧ zr i * (Pt : Int) = Rr i * (dn g : Int)) ∧ ∀ q, q < 19 → dg g q = 0 ∨ ∃ i, i < n ∧ ¬ (zr i).natAbs % pr q = 0
theorem dnk_out {e : Nat → Nat} {q : Nat} : ∀ {k : Nat}, q < k → k ≤ 19 → ∃ A, dnk e k = pr q ^ e q * A ∧ Nat.Coprime (pr q) A
  | 0, h, _ => absurd h (by omega)
  | k + 1, h, hk => by
    by_cases r : q = k
    · subst r
      exact ⟨dnk e q, Nat.mul_comm _ _, dnk_cop (by omega) q (Nat.le_refl _)⟩
    · obtain ⟨A, h1, h2⟩ := dnk_out (e := e) (q := q) (k := k) (by omega) (by omega)
      refine ⟨A * pr k ^ e k, ?_, ?_⟩
      · show dnk e k * pr k ^ e k = _
        rw [h1, Nat.mul_assoc]
      · exact Nat.Coprime.mul_right h2 (Nat.Coprime.pow_right _ (Nat.Coprime.symm (pr_cop k (by omega) q (by omega))))
theorem raise_nd {z z9 : Int} {gl g : Nat → Int32} {q : Nat} (hq : q < 19) (he : dg gl q = dg g q) (hn : ¬ z.natAbs % pr q = 0) (h : z9 * (dn gl : Int) = z * (dn g : Int)) : ¬ z9.natAbs % pr q = 0 := fun r => by
  obtain ⟨A, a1, a2⟩ := dnk_out (e := dg gl) (q := q) hq (Nat.le_refl 19)
  obtain ⟨C, c1, c2⟩ := dnk_out (e := dg g) (q := q) hq (Nat.le_refl 19)
  have h1 := nat_eq h
  rw [show dn gl = pr q ^ dg g q * A by rw [← he]; exact a1, show dn g = pr q ^ dg g q * C from c1] at h1
  have hp : 0 < pr q ^ dg g q := Nat.pow_pos (by have := (pr_b q hq).1; omega)
  have h2 : z9.natAbs * A = z.natAbs * C := by
    apply Nat.eq_of_mul_eq_mul_left hp
    rw [show pr q ^ dg g q * (z9.natAbs * A) = z9.natAbs * (pr q ^ dg g q * A) by ac_rfl, h1]
    ac_rfl
  have h3 : pr q ∣ z.natAbs * C := by
    rw [← h2]
    exact Nat.dvd_mul_right_of_dvd (Nat.dvd_of_mod_eq_zero r) _
  exact hn (Nat.mod_eq_zero_of_dvd (Nat.Coprime.dvd_of_dvd_mul_right c2 h3))
theorem raise_v {z z9 R : Int} {P dl C : Nat} (hd : 0 < dl) (h1 : z * (P : Int) = R * (dl : Int)) (h2 : z9 * (dl : Int) = z * (C : Int)) : z9 * (P : Int) = R * (C : Int) := by
  apply Int.eq_of_mul_eq_mul_right (a := (dl : Int)) (by omega)
  rw [show z9 * (P : Int) * (dl : Int) = z9 * (dl : Int) * P by ac_rfl, h2, show z * (C : Int) * (P : Int) = z * (P : Int) * C by ac_rfl, h1]
  ac_rfl
theorem maxe_dvd {rl g : Nat → Int32} {n i q : Nat} (h : MAXE rl g n) (hi : i < n) (hq : q < 19) : max (dg (sh (19 * i) rl) q) (dg g q) = dg g q := by
  have := (h q hq).1 i hi
  omega
