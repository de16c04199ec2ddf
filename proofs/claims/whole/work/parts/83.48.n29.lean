/-! A fraction as it is told. -/
theorem dnk_dvd2 {e : Nat → Nat} {k m : Nat} (h : k ≤ m) : dnk e k ∣ dnk e m := by
  induction m with
  | zero => rw [show k = 0 by omega]; exact Nat.dvd_refl _
  | succ m ih =>
    by_cases q : k = m + 1
    · rw [q]; exact Nat.dvd_refl _
    · exact Nat.dvd_mul_right_of_dvd (ih (by omega)) _
theorem dnk_part {e : Nat → Nat} {k j : Nat} (hk : k < 19) (hj : j ≤ e k) : dnk e k * pr k ^ j ≤ dnk e 19 := by
  have h1 : pr k ^ j ≤ pr k ^ e k := Nat.pow_le_pow_right (by have := (pr_b k hk).1; omega) hj
  have h2 : dnk e (k + 1) ∣ dnk e 19 := dnk_dvd2 (by omega)
  have h3 := Nat.le_of_dvd (dnk_pos (Nat.le_refl _)) h2
  exact Nat.le_trans (Nat.mul_le_mul_left _ h1) h3
theorem dnk_1 {e : Nat → Nat} : ∀ {k : Nat}, (∀ q, q < k → e q = 0) → dnk e k = 1
  | 0, _ => rfl
  | k + 1, h => by
    show dnk e k * pr k ^ e k = 1
    rw [dnk_1 (fun q hq => h q (by omega)), h k (by omega), Nat.pow_zero]
theorem dnk_n1 {e : Nat → Nat} {k : Nat} (hk : k ≤ 19) (h : dnk e k = 1) : ∀ q, q < k → e q = 0 := by
  intro q hq
  have h1 : pr q ^ e q ∣ dnk e k := dnk_dvd hq
  rw [h] at h1
  have h2 := Nat.le_of_dvd (by decide) h1
  rcases Nat.eq_zero_or_pos (e q) with r | r
  · exact r
  · have h3 : pr q ^ 1 ≤ pr q ^ e q := Nat.pow_le_pow_right (by have := (pr_b q (by omega)).1; omega) r
    rw [Nat.pow_one] at h3
    have := (pr_b q (by omega)).1
    omega
theorem sg_ge {z : Int} : 0 ≤ sg z ↔ ¬ z < 0 := by
  rcases (show z < 0 ∨ z = 0 ∨ 0 < z by omega) with h | h | h
  · rw [sgN h]; exact ⟨fun q => absurd q (by decide), fun q => absurd h q⟩
  · rw [sgZ h]; exact ⟨fun _ => by omega, fun _ => by decide⟩
  · rw [sgP h]; exact ⟨fun _ => by omega, fun _ => by decide⟩
theorem ndg_b {v n : Nat} (h : NDG v n) (hv : v < 268435456 ^ 250) : n ≤ 2400 := by
  rcases h.2.2 with q | q
  · omega
  · rcases Nat.lt_or_ge 2400 n with r | r
    · have h1 : 8 ^ (n - 1) ≤ 10 ^ (n - 1) := Nat.pow_le_pow_left (by decide) _
      have h2 : 8 ^ 2400 ≤ 8 ^ (n - 1) := Nat.pow_le_pow_right (by decide) (by omega)
      have h3 : 268435456 ^ 250 ≤ 8 ^ 2400 := by
        rw [show (268435456 : Nat) = 2 ^ 28 from rfl, show (8 : Nat) = 2 ^ 3 from rfl, ← Nat.pow_mul, ← Nat.pow_mul]
        exact Nat.pow_le_pow_right (by decide) (by decide)
      exact absurd (Nat.lt_of_le_of_lt (Nat.le_trans h3 (Nat.le_trans h2 (Nat.le_trans h1 q))) hv) (Nat.lt_irrefl _)
    · exact r
theorem ndg_u {v n m : Nat} (h : NDG v n) (h' : NDG v m) : n = m := by
  obtain ⟨a1, a2, a3⟩ := h
  obtain ⟨b1, b2, b3⟩ := h'
  rcases Nat.lt_trichotomy n m with q | q | q
  · rcases b3 with r | r
    · omega
    · have := Nat.pow_le_pow_right (show 0 < 10 by decide) (show n ≤ m - 1 by omega)
      omega
  · exact q
  · rcases a3 with r | r
    · omega
    · have := Nat.pow_le_pow_right (show 0 < 10 by decide) (show m ≤ n - 1 by omega)
      omega
def sgo (z : Int) : Nat := if z < 0 then 1 else 0
/-- the bytes that tell z / d: L of them -/
def WRT (fo : Nat → Int32) (L : Nat) (z : Int) (d : Nat) : Prop := ∃ n, NDG z.natAbs n ∧ (z < 0 → fo 0 = 45) ∧ (∀ i, i < n → fo (sgo z + i) = nI (48 + dgt z.natAbs (n - 1 - i))) ∧ ((d = 1 ∧ L = sgo z + n) ∨ (¬ d = 1 ∧ ∃ m, NDG d m ∧ L = sgo z + n + 1 + m ∧ fo (sgo z + n) = 47 ∧ ∀ i, i < m → fo (sgo z + n + 1 + i) = nI (48 + dgt d (m - 1 - i))))
theorem wrt_u {fo fo' : Nat → Int32} {L L' : Nat} {z : Int} {d : Nat} (h : WRT fo L z d) (h' : WRT fo' L' z d) : L = L' ∧ ∀ i, i < L → fo i = fo' i := by
  obtain ⟨n, a1, a2, a3, a4⟩ := h
  obtain ⟨n', b1, b2, b3, b4⟩ := h'
  have e := ndg_u a1 b1
  subst e
  have first : ∀ i, i < sgo z + n → fo i = fo' i := fun i hi => by
    by_cases q : i < sgo z
    · have hz : z < 0 := by
        unfold sgo at q
        by_cases r : z < 0
        · exact r
        · rw [if_neg r] at q; omega
      have hs : sgo z = 1 := if_pos hz
      rw [show i = 0 by omega, a2 hz, b2 hz]
    · have h1 := a3 (i - sgo z) (by omega)
      have h2 := b3 (i - sgo z) (by omega)
      rw [show sgo z + (i - sgo z) = i by omega] at h1 h2
      rw [h1, h2]
  rcases a4 with ⟨c1, c2⟩ | ⟨c1, m, c2, c3, c4, c5⟩
  · rcases b4 with ⟨d1, d2⟩ | ⟨d1, _⟩
    · exact ⟨by omega, fun i hi => first i (by omega)⟩
    · exact absurd c1 d1
  · rcases b4 with ⟨d1, _⟩ | ⟨d1, m', d2, d3, d4, d5⟩
    · exact absurd d1 c1
    · have e2 := ndg_u c2 d2
      subst e2
      refine ⟨by omega, fun i hi => ?_⟩
      rcases (show i < sgo z + n ∨ i = sgo z + n ∨ sgo z + n < i by omega) with q | q | q
      · exact first i q
      · rw [q, c4, d4]
      · have h1 := c5 (i - (sgo z + n + 1)) (by omega)
        have h2 := d5 (i - (sgo z + n + 1)) (by omega)
        rw [show sgo z + n + 1 + (i - (sgo z + n + 1)) = i by omega] at h1 h2
        rw [h1, h2]
