/-! The law: what is told. -/
theorem gZ_b {s t : Int} {l r n B C : Nat} (hs : s.natAbs ≤ B) (ht : t.natAbs ≤ B) (hl : l ≤ C) (hr : r ≤ C) (hn : n ≤ C) : (gZ s t l r n).natAbs ≤ 6 * (B * B * (C * C)) := by
  unfold gZ
  have a1 : (s * s * ((r * n : Nat) : Int)).natAbs ≤ B * B * (C * C) := by
    rw [Int.natAbs_mul, Int.natAbs_mul, Int.natAbs_natCast]; exact Nat.mul_le_mul (Nat.mul_le_mul hs hs) (Nat.mul_le_mul hr hn)
  have a2 : (t * t * ((l * n : Nat) : Int)).natAbs ≤ B * B * (C * C) := by
    rw [Int.natAbs_mul, Int.natAbs_mul, Int.natAbs_natCast]; exact Nat.mul_le_mul (Nat.mul_le_mul ht ht) (Nat.mul_le_mul hl hn)
  have h3 : (s + t).natAbs ≤ 2 * B := Nat.le_trans (Int.natAbs_add_le _ _) (by omega)
  have a3 : ((s + t) * (s + t) * ((l * r : Nat) : Int)).natAbs ≤ 4 * (B * B * (C * C)) := by
    rw [Int.natAbs_mul, Int.natAbs_mul, Int.natAbs_natCast]
    have h4 := Nat.mul_le_mul (Nat.mul_le_mul h3 h3) (Nat.mul_le_mul hl hr)
    have e4 : 2 * B * (2 * B) * (C * C) = 4 * (B * B * (C * C)) := by
      have e5 : 2 * B * (2 * B) = 4 * (B * B) := Nat.mul_mul_mul_comm 2 B 2 B
      rw [e5, Nat.mul_assoc]
    rw [e4] at h4
    exact h4
  have b1 := Int.natAbs_sub_le (s * s * ((r * n : Nat) : Int) + t * t * ((l * n : Nat) : Int)) ((s + t) * (s + t) * ((l * r : Nat) : Int))
  have b2 := Int.natAbs_add_le (s * s * ((r * n : Nat) : Int)) (t * t * ((l * n : Nat) : Int))
  omega
theorem xbc_7 : 6 * (48 * XBc * (48 * XBc) * (68 * 68)) < 268435456 ^ 250 ∧ 48 * XBc * 16 < 268435456 ^ 250 ∧ 2 ^ 4096 < 268435456 ^ 250 := by decide +kernel
theorem tS_b {F : TFR} {T t k : Nat} (h : TOK F T) (hT : T ≤ 16) (ht : t < T) (hk : k < tM F t) : (tS F t k).natAbs ≤ 48 * XBc := by
  obtain ⟨_, h2, h3, _⟩ := (h.2 t ht).2.2.2.2 k hk
  exact Nat.le_trans h3 (Nat.mul_le_mul h2.2 (xb_m (by omega) (Ppf_16 h hT (Nat.le_of_lt ht)).2))
theorem nvX_b {F : TFR} {T t k : Nat} (h : TOK F T) (hT : T ≤ 16) (ht : t < T) (hk : k < tM F t) : (nvX F t k).natAbs < 268435456 ^ 250 := by
  obtain ⟨h1, h2, h3, h4, h5⟩ := h.2 t ht
  unfold nvX
  by_cases q : tA F 0 (31 * t + k) = -1
  · rw [if_pos q, Int.natAbs_mul, Int.natAbs_natCast]
    exact Nat.lt_of_le_of_lt (Nat.mul_le_mul (tS_b h hT ht hk) (show tU F t ≤ 16 by omega)) xbc_7.2.1
  · rw [if_neg q]
    rcases (h1.2.2.2 k hk).2 with r | ⟨_, _, _, _, r4, r5, _⟩
    · exact absurd r q
    · have s4 := (h5 _ r4).2.1
      have s5 := (h5 _ r5).2.1
      have s6 := (h5 k hk).2.2.2.resolve_left q
      have s7 := (h5 k hk).2.1
      exact Nat.lt_of_le_of_lt (gZ_b (C := 68) (tS_b h hT ht r4) (tS_b h hT ht r5) (by omega) (by omega) (by omega)) xbc_7.1
theorem nvX_s {F : TFR} {T t k : Nat} (h : TOK F T) (ht : t < T) (hk : k < tM F t) (q : ¬ tA F 0 (31 * t + k) = -1) : nvX F t k = gZ (tS F t (dg (tA F 3) (31 * t + k))) (tS F t (dg (tA F 4) (31 * t + k))) (nR F t (dg (tA F 3) (31 * t + k)) + tW F t) (nR F t (dg (tA F 4) (31 * t + k)) + tW F t) (nR F t k + tW F t) ∧ nvD F t k = Ppf F t * Ppf F t * ((nR F t (dg (tA F 3) (31 * t + k)) + tW F t) * (nR F t (dg (tA F 4) (31 * t + k)) + tW F t) * (nR F t k + tW F t)) := by
  obtain ⟨h1, h2, h3, h4, h5⟩ := h.2 t ht
  have s6 := ((h5 k hk).2.2.2.resolve_left q).1
  unfold nvX nvD
  rw [if_neg q, if_neg q, s6]
  exact ⟨rfl, rfl⟩
theorem tok_m {F : TFR} {T k : Nat} (h : TOK F T) (hk : k ≤ T) : TOK F k := ⟨h.1, fun t ht => h.2 t (by omega)⟩
theorem five {a : Int32} (h : 0 ≤ a ∧ a ≤ 4) : a = 0 ∨ a = 1 ∨ a = 2 ∨ a = 3 ∨ a = 4 := by
  obtain ⟨r, h1, h2, h3⟩ := i_btw (lo := 0) (hi := 4) (by decide) (by decide) h
  rcases (show r = 0 ∨ r = 1 ∨ r = 2 ∨ r = 3 ∨ r = 4 by omega) with e | e | e | e | e <;> subst e
  · exact Or.inl h3
  · exact Or.inr (Or.inl h3)
  · exact Or.inr (Or.inr (Or.inl h3))
  · exact Or.inr (Or.inr (Or.inr (Or.inl h3)))
  · exact Or.inr (Or.inr (Or.inr (Or.inr h3)))
