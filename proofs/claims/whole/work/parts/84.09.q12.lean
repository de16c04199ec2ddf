/-- the fewest so far, over the scales' square -/
theorem few_b {F : TFR} {T t b : Nat} {S fz : Int} {X : Nat} (h : TOK F T) (hT : T ≤ 16) (ht : t ≤ T) (hb : b ≤ t) (hS : S.natAbs ≤ 48 * (X * Ppf F b * (X * Ppf F b))) (he : fz * ((Ppf F b * Ppf F b : Nat) : Int) = S * ((Ppf F t * Ppf F t : Nat) : Int)) : fz.natAbs ≤ 48 * (X * Ppf F t * (X * Ppf F t)) := by
  have hP := (Ppf_16 (t := b) h hT (by omega)).1
  have h1 := nat_eq he
  apply Nat.le_of_mul_le_mul_right (c := Ppf F b * Ppf F b) _ (Nat.mul_pos hP hP)
  rw [h1]
  have h2 := Nat.mul_le_mul_right (Ppf F t * Ppf F t) hS
  have e : 48 * (X * Ppf F b * (X * Ppf F b)) * (Ppf F t * Ppf F t) = 48 * (X * Ppf F t * (X * Ppf F t)) * (Ppf F b * Ppf F b) := by ac_rfl
  rw [e] at h2
  exact h2
theorem sx_b {F : TFR} {T t n : Nat} {vv tg : Nat → Int32} {x : Int64} (h : TOK F T) (ht : t ≤ T) (hT : T ≤ 16) (hn : n ≤ 48) (htg : ∀ i, i < n → -1000 ≤ (tg i).toInt ∧ (tg i).toInt ≤ 1000) : (sqs (fun i t => xF F (rwf vv i) (tg i).toInt t) x n t).natAbs ≤ 48 * (1000 * 2 ^ 16 * Ppf F t * (1000 * 2 ^ 16 * Ppf F t)) := by
  refine sqs_le (XB := 1000 * 2 ^ 16 * Ppf F t) (fun i hi => ?_) hn n (Nat.le_refl _)
  exact Nat.le_trans (xF_b (F := F) (vq := rwf vv i) (tg_b (htg i hi)) (T := t) (fun u hu => h.2 u (by omega))) (Nat.mul_le_mul_right _ (Nat.mul_le_mul_left _ (Nat.pow_le_pow_right (by decide) (by omega))))
theorem xb_sq {F : TFR} {T t : Nat} (h : TOK F T) (hT : T ≤ 16) (ht : t ≤ T) : 48 * (1000 * 2 ^ 16 * Ppf F t * (1000 * 2 ^ 16 * Ppf F t)) < 1000000000 ^ 48 := by
  have hP := (Ppf_16 (t := t) h hT ht).2
  have h1 : 1000 * 2 ^ 16 * Ppf F t ≤ XBc := Nat.mul_le_mul_left _ hP
  exact Nat.lt_of_le_of_lt (Nat.mul_le_mul_left _ (Nat.mul_le_mul h1 h1)) xbc_4.2.2.2.1
theorem few_s {fz S : Int} {P s q : Nat} (h : fz * (q : Int) = S * ((P * P : Nat) : Int)) : fz * (s : Int) * (s : Int) * (q : Int) = S * ((P * s * (P * s) : Nat) : Int) := by
  rw [show fz * (s : Int) * (s : Int) * (q : Int) = fz * (q : Int) * ((s : Int) * s) by ac_rfl, h]
  simp only [Int.natCast_mul]
  ac_rfl
theorem few_c {fz S Sb : Int} {q Q : Nat} (hq : 0 < q) (h : fz * (q : Int) = Sb * (Q : Int)) : S < fz ↔ S * (q : Int) < Sb * (Q : Int) := by
  rw [← h]
  constructor
  · intro r
    exact Int.mul_lt_mul_of_pos_right r (by omega)
  · intro r
    exact Int.lt_of_mul_lt_mul_right r (by omega)
theorem few_f {F : TFR} {T t : Nat} {fz : Int} (h : TOK F T) (hT : T ≤ 16) (ht : t < T) (hb : fz.natAbs ≤ 48 * (1000 * 2 ^ 16 * Ppf F t * (1000 * 2 ^ 16 * Ppf F t))) : fz.natAbs * sca F t < 1000000000 ^ 48 ∧ (fz * (sca F t : Int)).natAbs * sca F t < 1000000000 ^ 48 := by
  have hs := sca_pos (h.2 t ht)
  have h1 := xb_sq (t := t + 1) h hT (by omega)
  have e : 48 * (1000 * 2 ^ 16 * Ppf F (t + 1) * (1000 * 2 ^ 16 * Ppf F (t + 1))) = 48 * (1000 * 2 ^ 16 * Ppf F t * (1000 * 2 ^ 16 * Ppf F t)) * (sca F t * sca F t) := by
    show 48 * (1000 * 2 ^ 16 * (Ppf F t * sca F t) * (1000 * 2 ^ 16 * (Ppf F t * sca F t))) = _
    ac_rfl
  rw [e] at h1
  have h2 := Nat.mul_le_mul_right (sca F t * sca F t) hb
  have h3 : fz.natAbs * sca F t ≤ fz.natAbs * (sca F t * sca F t) := Nat.mul_le_mul_left _ (Nat.le_mul_of_pos_left _ hs)
  refine ⟨by omega, ?_⟩
  rw [Int.natAbs_mul, Int.natAbs_natCast, Nat.mul_assoc]
  omega
