theorem ris_cut {bc : Int32} {vv eg ik : Nat → Int32} {ne : Nat → Nat} {c0 n nn : Nat} (hn : nn ≤ 12) (h0 : RIS (cutF bc vv c0 n nn eg).2 (11 * c0) (cutF bc vv c0 n nn eg).1) (hne : ∀ c, c < 6 → ne c ≤ 11) (h : ∀ c, c < 6 → ik c = 0 → RIS eg (11 * c) (ne c)) : ∀ c, c < 6 → ik c = 0 → RIS (cutF bc vv c0 n nn eg).2 (11 * c) (va_up ne c0 (cutF bc vv c0 n nn eg).1 c) := fun c hc hk => by
  by_cases q : c = c0
  · rw [q, va_up_self]; exact h0
  · rw [va_up_ne _ _ q]
    intro i j hij hj
    have hb := hne c hc
    rw [cutF_fr hn (by omega), cutF_fr hn (by omega)]
    exact h c hc hk i j hij hj
theorem col_0 {cT : Nat → ClassId} {ad : Nat → Nat} {g : Nat → Option va_E} {vv eg h1 h2 h3 : Nat → Int32} (h : ∀ j8, j8 < 6 → ∃ fv fe : Nat → Int32, COLe cT ad g j8 0 0 fv fe ∧ (∀ r8, r8 < 0 → fv r8 = 0) ∧ fv 48 = (-2147483648) ∧ ∀ q8, q8 < 0 → fe q8 = 0) (hy : ∀ q8, q8 < 6 → h1 q8 = vp_nar .boolean 0 ∧ h2 q8 = 0 ∧ h3 q8 = (-2147483648)) : COLF cT ad g 0 vv h3 eg h1 (fun _ => 0) := fun c hc => by
  obtain ⟨fv, fe, e1, _, e3, _⟩ := h c hc
  obtain ⟨y1, y2, y3⟩ := hy c hc
  refine ⟨fv, fe, ?_, fun r hr => absurd hr (by omega), by rw [y3]; exact e3, fun i hi => absurd hi (Nat.not_lt_zero _)⟩
  rw [y1]
  exact e1
theorem add_vv {vv v7 : Nat → Int32} {n : Nat} (h1 : ∀ q, q < 6 → v7 (6 * n + q) = (-2147483648)) (h2 : ∀ q, q < 6 * n ∨ 6 * n + 6 ≤ q → v7 q = vv q) : ∀ q, q < 6 * (n + 1) → v7 q = (fun q => if q < 6 * n then vv q else (-2147483648)) q := fun q hq => by
  show v7 q = if q < 6 * n then vv q else (-2147483648)
  by_cases r : q < 6 * n
  · rw [if_pos r, h2 q (Or.inl r)]
  · rw [if_neg r]
    have e := h1 (q - 6 * n) (by omega)
    rw [show 6 * n + (q - 6 * n) = q by omega] at e
    exact e
theorem add_k {vv v7 ik : Nat → Int32} {n : Nat} (h1 : ∀ q, q < 6 → v7 (6 * n + q) = (-2147483648)) (h2 : ∀ q, q < 6 * n ∨ 6 * n + 6 ≤ q → v7 q = vv q) (h : ∀ c, c < 6 → ¬ ik c = 0 → ∀ r, r < n → ¬ vv (6 * r + c) = (-2147483648) → 0 ≤ vv (6 * r + c) ∧ vv (6 * r + c) < 12) : ∀ c, c < 6 → ¬ ik c = 0 → ∀ r, r < n + 1 → ¬ v7 (6 * r + c) = (-2147483648) → 0 ≤ v7 (6 * r + c) ∧ v7 (6 * r + c) < 12 := fun c hc hk r hr hm => by
  by_cases q : r = n
  · subst q; exact absurd (h1 c hc) hm
  · have e := h2 (6 * r + c) (by omega)
    rw [e] at hm ⊢
    exact h c hc hk r (by omega) hm
theorem add_b {vv v7 : Nat → Int32} {n : Nat} (h1 : ∀ q, q < 6 → v7 (6 * n + q) = (-2147483648)) (h2 : ∀ q, q < 6 * n ∨ 6 * n + 6 ≤ q → v7 q = vv q) (h : ∀ c, c < 6 → ∀ r, r < n → ¬ vv (6 * r + c) = -2147483648 → -1000000 ≤ (vv (6 * r + c)).toInt ∧ (vv (6 * r + c)).toInt ≤ 1000000) : ∀ c, c < 6 → ∀ r, r < n + 1 → ¬ v7 (6 * r + c) = -2147483648 → -1000000 ≤ (v7 (6 * r + c)).toInt ∧ (v7 (6 * r + c)).toInt ≤ 1000000 := fun c hc r hr hm => by
  by_cases q : r = n
  · subst q; exact absurd (h1 c hc) hm
  · have e := h2 (6 * r + c) (by omega)
    rw [e] at hm ⊢
    exact h c hc r (by omega) hm
