/-! The residuals' common denominator: one number, however it is found. -/
def CRD (n : Nat) (zs : Nat → Int) (d : Nat) : Prop := ∀ q, q < 19 → ¬ (d % pr q = 0 ∧ ∀ i, i < n → (zs i).natAbs % pr q = 0)
/-- d is the least number that makes X i / P whole for all i below n -/
def CMD (n : Nat) (X : Nat → Int) (P d : Nat) : Prop := SMO d ∧ ∃ zs : Nat → Int, (∀ i, i < n → zs i * (P : Int) = X i * (d : Int)) ∧ CRD n zs d
theorem com_dvd {g : Nat → Int32} {n : Nat} {zr Rr : Nat → Int} {Pt : Nat} (h1 : ∀ i, i < n → zr i * (Pt : Int) = Rr i * (dn g : Int)) (h2 : ∀ q, q < 19 → dg g q = 0 ∨ ∃ i, i < n ∧ ¬ (zr i).natAbs % pr q = 0) : dn g ∣ Pt := by
  suffices hs : ∀ k, k ≤ 19 → dnk (dg g) k ∣ Pt from hs 19 (Nat.le_refl _)
  intro k
  induction k with
  | zero => intro _; exact Nat.one_dvd _
  | succ k ih =>
    intro hk
    show dnk (dg g) k * pr k ^ dg g k ∣ Pt
    refine Nat.Coprime.mul_dvd_of_dvd_of_dvd (Nat.Coprime.pow_right _ (Nat.Coprime.symm (dnk_cop (by omega) k (Nat.le_refl _)))) (ih (by omega)) ?_
    rcases h2 k (by omega) with q | ⟨i, hi, q⟩
    · rw [q, Nat.pow_zero]
      exact Nat.one_dvd _
    · have h3 : pr k ^ dg g k ∣ (zr i).natAbs * Pt := by
        rw [nat_eq (h1 i hi)]
        exact Nat.dvd_mul_left_of_dvd (dnk_dvd (by omega)) _
      exact Nat.Coprime.dvd_of_dvd_mul_left (Nat.Coprime.pow_left _ (pr_gcd (by omega) q)) h3
theorem crd_g {n : Nat} {zs : Nat → Int} {d : Nat} (hs : SMO d) (h : CRD n zs d) : ∃ g : Nat → Int32, d = dn g ∧ ∀ q, q < 19 → dg g q = 0 ∨ ∃ i, i < n ∧ ¬ (zs i).natAbs % pr q = 0 := by
  obtain ⟨e, he, hd⟩ := hs
  refine ⟨fun j => nI (e j), ?_, fun q hq => ?_⟩
  · rw [hd]
    exact dnk_cg (fun j hj => (dg_f (he j hj)).symm)
  · rw [dg_f (he q hq)]
    rcases Nat.eq_zero_or_pos (e q) with r | r
    · exact Or.inl r
    · refine Or.inr (Classical.byContradiction fun s => h q hq ⟨?_, fun i hi => Classical.byContradiction fun u => s ⟨i, hi, u⟩⟩)
      rw [hd]
      exact Nat.mod_eq_zero_of_dvd (Nat.dvd_trans (by obtain ⟨x, hx⟩ : ∃ x, e q = x + 1 := ⟨e q - 1, by omega⟩; rw [hx, Nat.pow_succ]; exact Nat.dvd_mul_left _ _ : pr q ∣ pr q ^ e q) (dnk_dvd hq))
theorem com_x {z1 z2 X : Int} {P d1 d2 : Nat} (hP : 0 < P) (h1 : z1 * (P : Int) = X * (d1 : Int)) (h2 : z2 * (P : Int) = X * (d2 : Int)) : z1 * (d2 : Int) = z2 * (d1 : Int) := by
  apply Int.eq_of_mul_eq_mul_right (a := (P : Int)) (by omega)
  rw [show z1 * (d2 : Int) * (P : Int) = z1 * P * d2 by ac_rfl, h1, show z2 * (d1 : Int) * (P : Int) = z2 * P * d1 by ac_rfl, h2]
  ac_rfl
/-- the reference's common denominator is the class's -/
theorem cmd_eq {u g : Nat → Int32} {n : Nat} {zr X : Nat → Int} {P d : Nat} (hP : 0 < P) (hr : COMM u g n zr X P) (hc : CMD n X P d) : dn g = d := by
  obtain ⟨hs, zs, h1, h2⟩ := hc
  obtain ⟨g2, e2, h3⟩ := crd_g hs h2
  subst e2
  exact Nat.dvd_antisymm (com_dvd (Rr := zs) (fun i hi => com_x hP (hr.1 i hi).2 (h1 i hi)) hr.2) (com_dvd (Rr := zr) (fun i hi => com_x hP (h1 i hi) (hr.1 i hi).2) h3)
theorem crd_dv {n i p d : Nat} {zs : Nat → Int} (h : ∀ q, q < i → ¬ (d % pr q = 0 ∧ ∀ j, j < n → (zs j).natAbs % pr q = 0)) (h1 : d % p = 0) (h2 : ∀ j, j < n → (zs j).natAbs % p = 0) : ∀ q, q < i → ¬ (d / p % pr q = 0 ∧ ∀ j, j < n → ((zs j).tdiv (p : Int)).natAbs % pr q = 0) := fun q hq ⟨a, b⟩ => by
  refine h q hq ⟨?_, fun j hj => ?_⟩
  · rcases Nat.eq_zero_or_pos (d % pr q) with r | r
    · exact r
    · exact absurd a (md_part h1 (by omega))
  · rcases Nat.eq_zero_or_pos ((zs j).natAbs % pr q) with r | r
    · exact r
    · have := b j hj
      rw [Int.natAbs_tdiv, Int.natAbs_natCast] at this
      exact absurd this (md_part (h2 j hj) (by omega))
/-- the first k and the lower number are divided by p -/
def dvB (zs : Nat → Int) (zl : Int) (p : Nat) : Nat → Bool
  | 0 => decide (zl.natAbs % p = 0)
  | k + 1 => dvB zs zl p k && decide ((zs k).natAbs % p = 0)
theorem dvB_t {zs : Nat → Int} {zl : Int} {p : Nat} : ∀ {k : Nat}, dvB zs zl p k = true ↔ (zl.natAbs % p = 0 ∧ ∀ i, i < k → (zs i).natAbs % p = 0)
  | 0 => by
    show decide _ = true ↔ _
    rw [decide_eq_true_iff]
    exact ⟨fun h => ⟨h, fun i hi => absurd hi (by omega)⟩, fun h => h.1⟩
  | k + 1 => by
    show (_ && _) = true ↔ _
    rw [Bool.and_eq_true, dvB_t, decide_eq_true_iff]
    constructor
    · intro h
      refine ⟨h.1.1, fun i hi => ?_⟩
      by_cases q : i = k
      · rw [q]; exact h.2
      · exact h.1.2 i (by omega)
    · intro h
      exact ⟨⟨h.1, fun i hi => h.2 i (by omega)⟩, h.2 k (by omega)⟩
theorem dvB_m {zs : Nat → Int} {zl : Int} {p k : Nat} (h : dvB zs zl p k = false) : ∀ j, dvB zs zl p (k + j) = false
  | 0 => h
  | j + 1 => by
    show (dvB zs zl p (k + j) && decide ((zs (k + j)).natAbs % p = 0)) = false
    rw [dvB_m h j]
    rfl
theorem dvB_y {zs : Nat → Int} {zl : Int} {p k : Nat} (h : ¬ bn (dvB zs zl p k) = 0) (h2 : (zs k).natAbs % p = 0) : bn (dvB zs zl p (k + 1)) = 1 := by
  have h1 : dvB zs zl p k = true := Decidable.byContradiction (fun q => h (bn_0.mpr (Bool.eq_false_iff.mpr q)))
  show bn (_ && _) = 1
  rw [h1, decide_eq_true h2]; rfl
theorem dvB_n {zs : Nat → Int} {zl : Int} {p k : Nat} (h2 : ¬ (zs k).natAbs % p = 0) : bn (dvB zs zl p (k + 1)) = 0 := by
  show bn (_ && _) = 0
  rw [decide_eq_false h2, Bool.and_false]; rfl
theorem smv_and {X : Nat → Int} {x : Int64} {n : Nat} (hn : n ≤ 64) : ∀ k, k ≤ n → smv X (x &&& thr n) k = smv X x k
  | 0, _ => rfl
  | k + 1, hk => by
    have ih := smv_and (X := X) (x := x) hn k (by omega)
    have hb : bx (x &&& thr n) k = bx x k := by
      rw [bx_and, bx_thr (by omega), decide_eq_true (show k < n by omega), Bool.and_true]
    by_cases q : bx x k = true
    · rw [smv_t q, smv_t (hb.trans q), ih]
    · rw [smv_f q, smv_f (by rw [hb]; exact q), ih]
