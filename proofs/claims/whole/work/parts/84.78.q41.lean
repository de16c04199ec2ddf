theorem tak_v {k v : Int32} (h : ¬ v = -2147483648) : takB k v = vokB k v := by
  unfold takB
  rw [decide_eq_false h, Bool.false_or]
theorem vok_m {k v : Int32} (h : v = -2147483648) : vokB k v = false := by
  subst h
  unfold vokB
  split <;> decide
theorem spl_N {a : Nat → Nat → Int32} {t : Nat} {v : Int32} : ∀ k, spl a t v k = usN (a 0) (31 * t) v k
  | 0 => rfl
  | k + 1 => by
    show spl a t v k + _ = usN (a 0) (31 * t) v k + _
    rw [spl_N k]
theorem usf_T {F : TFR} {v : Int32} : ∀ T, usf F v T = usT (tA F 0) (tM F) v T
  | 0 => rfl
  | t + 1 => by
    show usf F v t + _ = usT _ _ v t + _
    rw [usf_T t, spl_N]
theorem eight {a : Int32} (h : 0 ≤ a ∧ a ≤ 7) : a = 0 ∨ a = 1 ∨ a = 2 ∨ a = 3 ∨ a = 4 ∨ a = 5 ∨ a = 6 ∨ a = 7 := by
  obtain ⟨r, h1, h2, h3⟩ := i_btw (lo := 0) (hi := 7) (by decide) (by decide) h
  rcases (show r = 0 ∨ r = 1 ∨ r = 2 ∨ r = 3 ∨ r = 4 ∨ r = 5 ∨ r = 6 ∨ r = 7 by omega) with e | e | e | e | e | e | e | e <;> subst e
  · exact Or.inl h3
  · exact Or.inr (Or.inl h3)
  · exact Or.inr (Or.inr (Or.inl h3))
  · exact Or.inr (Or.inr (Or.inr (Or.inl h3)))
  · exact Or.inr (Or.inr (Or.inr (Or.inr (Or.inl h3))))
  · exact Or.inr (Or.inr (Or.inr (Or.inr (Or.inr (Or.inl h3)))))
  · exact Or.inr (Or.inr (Or.inr (Or.inr (Or.inr (Or.inr (Or.inl h3))))))
  · exact Or.inr (Or.inr (Or.inr (Or.inr (Or.inr (Or.inr (Or.inr h3))))))
theorem out_rng {a : Int32} {k : Nat} (hk : k < 2 ^ 31) (h : ¬ (0 ≤ a ∧ a ≤ nI k)) : a.toInt < 0 ∨ (k : Int) < a.toInt := by
  have e0 : (0 : Int32).toInt = 0 := by decide
  have h3 : ¬ (0 ≤ a.toInt ∧ a.toInt ≤ (k : Int)) := fun q => h ⟨Int32.le_iff_toInt_le.mpr (by rw [e0]; exact q.1), Int32.le_iff_toInt_le.mpr (by rw [nI_toInt hk]; exact q.2)⟩
  omega
theorem lt_le1 {a : Int32} {n : Nat} (hn : n < 2 ^ 31) : (0 ≤ a ∧ a < nI n) ↔ (0 ≤ a ∧ a ≤ nI n - 1) := by
  constructor
  · rintro ⟨h0, h1⟩
    refine ⟨h0, ?_⟩
    have g0 := Int32.le_iff_toInt_le.mp h0
    have g1 := Int32.lt_iff_toInt_lt.mp h1
    have e0 : (0 : Int32).toInt = 0 := by decide
    rw [nI_toInt hn] at g1
    rw [nI_sub1 (by omega)]
    refine Int32.le_iff_toInt_le.mpr ?_
    rw [nI_toInt (by omega)]
    omega
  · intro h
    obtain ⟨r, h1, h2⟩ := i_nat hn h
    exact ⟨h.1, by rw [h2]; exact (nI_ltI (by omega) hn).mpr h1⟩
