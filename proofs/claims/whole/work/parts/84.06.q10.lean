/-! Numbers made of the primes up to 67. -/
def SMH (B x : Nat) : Prop := ∃ e : Nat → Nat, (∀ q, q < 19 → e q ≤ B) ∧ x = dnk e 19
theorem smh_o {B x : Nat} (h : SMH B x) (hB : B < 100000) : SMO x := by
  obtain ⟨e, h1, h2⟩ := h
  exact ⟨e, fun q hq => by have := h1 q hq; omega, h2⟩
theorem smh_w {B C x : Nat} (h : SMH B x) (hB : B ≤ C) : SMH C x := by
  obtain ⟨e, h1, h2⟩ := h
  exact ⟨e, fun q hq => by have := h1 q hq; omega, h2⟩
theorem dnk_add {e f : Nat → Nat} : ∀ k, dnk (fun q => e q + f q) k = dnk e k * dnk f k
  | 0 => rfl
  | k + 1 => by
    show dnk (fun q => e q + f q) k * pr k ^ (e k + f k) = dnk e k * pr k ^ e k * (dnk f k * pr k ^ f k)
    rw [dnk_add k, Nat.pow_add]
    ac_rfl
theorem smh_mul {a b x y : Nat} (hx : SMH a x) (hy : SMH b y) : SMH (a + b) (x * y) := by
  obtain ⟨e, h1, rfl⟩ := hx
  obtain ⟨f, h3, rfl⟩ := hy
  exact ⟨fun q => e q + f q, fun q hq => by have := h1 q hq; have := h3 q hq; show e q + f q ≤ _; omega, (dnk_add 19).symm⟩
theorem dnk_z : ∀ k, dnk (fun _ => 0) k = 1
  | 0 => rfl
  | k + 1 => by
    show dnk (fun _ => 0) k * pr k ^ 0 = 1
    rw [dnk_z k, Nat.pow_zero]
theorem smh_1 : SMH 0 1 := ⟨fun _ => 0, fun _ _ => Nat.le_refl _, (dnk_z 19).symm⟩
/-- how often p goes into x -/
def exo (p : Nat) : Nat → Nat → Nat
  | 0, _ => 0
  | f + 1, x => if x % p = 0 then exo p f (x / p) + 1 else 0
theorem smh_k0 : ∀ k, k < 69 → 1 ≤ k → dnk (fun q => exo (pr q) 6 k) 19 = k := by decide +kernel
theorem exo_le {p : Nat} : ∀ f x, exo p f x ≤ f
  | 0, _ => Nat.le_refl _
  | f + 1, x => by
    show (if _ then _ else _) ≤ _
    split
    · exact Nat.succ_le_succ (exo_le f (x / p))
    · exact Nat.zero_le _
theorem smh_k {k : Nat} (h1 : 1 ≤ k) (h2 : k ≤ 68) : SMH 6 k := ⟨fun q => exo (pr q) 6 k, fun q _ => exo_le 6 k, (smh_k0 k (by omega) h1).symm⟩
theorem pw_dvd {k : Nat} (hk : k < 19) : ∀ m d, d ∣ pr k ^ m → ∃ j, j ≤ m ∧ d = pr k ^ j
  | 0, d, h => ⟨0, Nat.le_refl _, by rw [Nat.pow_zero] at h ⊢; exact Nat.dvd_one.mp h⟩
  | m + 1, d, h => by
    by_cases q : d % pr k = 0
    · obtain ⟨x, hx⟩ := Nat.dvd_of_mod_eq_zero q
      have hp := (pr_b k hk).1
      rw [hx, Nat.pow_succ, Nat.mul_comm (pr k ^ m)] at h
      obtain ⟨j, hj, e⟩ := pw_dvd hk m x (Nat.dvd_of_mul_dvd_mul_left (by omega) h)
      exact ⟨j + 1, by omega, by rw [hx, e, Nat.pow_succ, Nat.mul_comm]⟩
    · have hc := Nat.Coprime.pow_left (m + 1) (pr_gcd hk q)
      have : d ∣ Nat.gcd (pr k ^ (m + 1)) d := Nat.dvd_gcd h (Nat.dvd_refl _)
      rw [show Nat.gcd (pr k ^ (m + 1)) d = 1 from hc] at this
      exact ⟨0, by omega, by rw [Nat.pow_zero]; exact Nat.dvd_one.mp this⟩
theorem dnk_dv {e : Nat → Nat} : ∀ k, k ≤ 19 → ∀ y, y ∣ dnk e k → ∃ f : Nat → Nat, (∀ q, f q ≤ e q) ∧ y = dnk f k
  | 0, _, y, h => ⟨fun _ => 0, fun _ => Nat.zero_le _, by
      have : y ∣ 1 := h
      exact Nat.dvd_one.mp this⟩
  | k + 1, hk, y, h => by
    have h : y ∣ dnk e k * pr k ^ e k := h
    have hc : Nat.Coprime (dnk e k) (pr k ^ e k) := Nat.Coprime.pow_right _ (Nat.Coprime.symm (dnk_cop (by omega) k (Nat.le_refl _)))
    have h1 : Nat.gcd y (dnk e k * pr k ^ e k) = Nat.gcd y (dnk e k) * Nat.gcd y (pr k ^ e k) := hc.gcd_mul y
    rw [Nat.gcd_eq_left h] at h1
    obtain ⟨f, hf, e1⟩ := dnk_dv k (by omega) _ (Nat.gcd_dvd_right y (dnk e k))
    obtain ⟨j, hj, e2⟩ := pw_dvd (k := k) (by omega) _ _ (Nat.gcd_dvd_right y (pr k ^ e k))
    refine ⟨va_up f k j, fun q => ?_, ?_⟩
    · by_cases r : q = k
      · rw [r, va_up_self]; exact hj
      · rw [va_up_ne _ _ r]; exact hf q
    · show y = dnk (va_up f k j) k * pr k ^ va_up f k j k
      rw [va_up_self, dnk_cg (e' := f) (fun q hq => va_up_ne _ _ (by omega)), ← e1, ← e2]
      exact h1
theorem smh_dvd {B x y : Nat} (h : SMH B x) (hd : y ∣ x) : SMH B y := by
  obtain ⟨e, h1, rfl⟩ := h
  obtain ⟨f, h3, h4⟩ := dnk_dv 19 (Nat.le_refl _) y hd
  exact ⟨f, fun q hq => Nat.le_trans (h3 q) (h1 q hq), h4⟩
/-- the product of what the first k nodes' sums are divided by -/
def prd (F : TFR) (t : Nat) : Nat → Nat
  | 0 => 1
  | k + 1 => prd F t k * unr F t k
theorem scl_prd {F : TFR} {t : Nat} : ∀ k, scl F t k ∣ prd F t k
  | 0 => Nat.dvd_refl _
  | k + 1 => by
    have ih := scl_prd (F := F) (t := t) k
    show (if _ then _ else _) ∣ prd F t k * unr F t k
    split
    · exact Nat.dvd_trans (Nat.lcm_dvd_mul _ _) (Nat.mul_dvd_mul ih ndd_dvd)
    · exact Nat.dvd_trans ih (Nat.dvd_mul_right _ _)
theorem smh_un {F : TFR} {t k : Nat} (h : TOK1 F t) (hk : k < tM F t) : SMH 12 (unr F t k) := by
  have h1 := (h.2.2.2.2 k hk).2.1
  have h2 := h.2.1
  have h3 := h.2.2.1
  exact smh_mul (a := 6) (b := 6) (smh_k (by omega) (by omega)) (smh_k (by omega) (by omega))
theorem smh_prd {F : TFR} {t : Nat} (h : TOK1 F t) : ∀ k, k ≤ tM F t → SMH (12 * k) (prd F t k)
  | 0, _ => smh_1
  | k + 1, hk => by
    have ih := smh_prd h k (by omega)
    exact smh_w (smh_mul ih (smh_un h (by omega))) (by omega)
theorem smh_sca {F : TFR} {t : Nat} (h : TOK1 F t) : SMH 372 (sca F t) := by
  have hm := h.1.2.1
  exact smh_w (smh_dvd (smh_prd h (tM F t) (Nat.le_refl _)) (scl_prd _)) (by omega)
theorem smh_P {F : TFR} : ∀ {t : Nat}, (∀ u, u < t → TOK1 F u) → SMH (372 * t) (Ppf F t)
  | 0, _ => smh_1
  | t + 1, h => by
    have ih := smh_P (F := F) (t := t) (fun u hu => h u (by omega))
    exact smh_w (smh_mul ih (smh_sca (h t (by omega)))) (by omega)
theorem smh_PT {F : TFR} {T t : Nat} (h : TOK F T) (hT : T ≤ 16) (ht : t ≤ T) : SMH 5952 (Ppf F t) := smh_w (smh_P (fun u hu => h.2 u (by omega))) (by omega)
