/-! bits of a number by limbs; smooth numbers; a node's fraction -/
theorem bl_top {V L m tp : Nat} (hV : V = L + 2 ^ m * tp) (hL : L < 2 ^ m) : bl V = if tp = 0 then bl L else m + bl tp := by
  by_cases h : tp = 0
  · rw [if_pos h, hV, h, Nat.mul_zero, Nat.add_zero]
  · rw [if_neg h]
    have key : ∀ j, V < 2 ^ (m + j) ↔ tp < 2 ^ j := fun j => by
      rw [Nat.pow_add, hV]
      constructor
      · intro q
        rcases Nat.lt_or_ge tp (2 ^ j) with r | r
        · exact r
        · have := Nat.mul_le_mul_left (2 ^ m) r
          omega
      · intro q
        have := Nat.mul_le_mul_left (2 ^ m) (show tp + 1 ≤ 2 ^ j from q)
        rw [Nat.mul_add, Nat.mul_one] at this
        omega
    have k1 := bl_le.mpr ((key (bl tp)).mpr (bl_le.mp (Nat.le_refl _)))
    have hm : m ≤ bl V := by
      rcases Nat.lt_or_ge (bl V) m with r | r
      · have q := bl_le.mp (Nat.le_of_lt r)
        have := Nat.mul_le_mul_left (2 ^ m) (show 1 ≤ tp by omega)
        omega
      · exact r
    have k2 : tp < 2 ^ (bl V - m) := (key (bl V - m)).mp (by rw [show m + (bl V - m) = bl V by omega]; exact bl_le.mp (Nat.le_refl _))
    have k3 := bl_le.mpr k2
    omega
theorem bl_M {f : Nat → Int32} {K : Nat} (hd : dok 268435456 f K) (ht : top0 f K) (hK : 0 < K) : bl (vM f K) = 28 * (K - 1) + bl (dg f (K - 1)) := by
  obtain ⟨n, rfl⟩ : ∃ n, K = n + 1 := ⟨K - 1, by omega⟩
  have hV : vM f (n + 1) = vM f n + 2 ^ (28 * n) * dg f n := by
    show hv _ _ _ _ = _
    rw [hv_snoc, Nat.zero_add, Nat.pow_mul]
  have hL : vM f n < 2 ^ (28 * n) := by
    rw [Nat.pow_mul]
    exact vM_b (dok_le hd (by omega))
  have h1 := bl_top hV hL
  rw [if_neg (show ¬ dg f n = 0 from ht (by omega))] at h1
  exact h1
/-- no prime of the list is left of a product of numbers up to 68 -/
theorem fac_small : ∀ a, a < 69 → 1 < a → ∃ q, q < 19 ∧ a % pr q = 0 := by decide +kernel
theorem cop_small {a x : Nat} (ha : a < 69) (h0 : 0 < a) (hx : ∀ q, q < 19 → ¬ x % pr q = 0) : Nat.Coprime x a := by
  have hb : ∀ n a, a ≤ n → a < 69 → 0 < a → Nat.Coprime x a := by
    intro n
    induction n with
    | zero => intro a h1 _ h3; omega
    | succ n ih =>
      intro a h1 h2 h3
      rcases (show a = 1 ∨ 1 < a by omega) with r | r
      · rw [r]; exact Nat.coprime_one_right _
      · obtain ⟨q, hq, hm⟩ := fac_small a h2 r
        have hp := pr_b q hq
        have e : a = pr q * (a / pr q) := (Nat.mul_div_cancel' (Nat.dvd_of_mod_eq_zero hm)).symm
        have hl : a / pr q < a := Nat.div_lt_self h3 (by omega)
        have h0' : 0 < a / pr q := by
          rcases Nat.eq_zero_or_pos (a / pr q) with z | z
          · rw [z, Nat.mul_zero] at e; omega
          · exact z
        rw [e]
        exact Nat.Coprime.mul_right (Nat.Coprime.symm (pr_gcd hq (hx q hq))) (ih _ (by omega) (by omega) h0')
  exact hb a a (Nat.le_refl _) ha h0
/-- what under() leaves of a product of three numbers up to 68, two of them perhaps 1 -/
theorem und_1 {x d d0 a b c : Nat} (ha : a < 69) (hb : b < 69) (hc : c < 69) (ha0 : 0 < a) (hb0 : 0 < b) (hc0 : 0 < c) (hx : ∀ q, q < 19 → ¬ x % pr q = 0) (g : Nat → Int32) (hd : d = dn g) (h : d * x = d0 * (a * b * c)) (hg : ∃ g0 : Nat → Int32, d0 = dn g0) : x = 1 := by
  obtain ⟨g0, h0⟩ := hg
  have hc1 : Nat.Coprime x (a * b * c) := Nat.Coprime.mul_right (Nat.Coprime.mul_right (cop_small ha ha0 hx) (cop_small hb hb0 hx)) (cop_small hc hc0 hx)
  have hc2 : ∀ k, k ≤ 19 → Nat.Coprime x (dnk (dg g0) k) := by
    intro k
    induction k with
    | zero => intro _; exact Nat.coprime_one_right _
    | succ k ih =>
      intro hk
      exact Nat.Coprime.mul_right (ih (by omega)) (Nat.Coprime.pow_right _ (Nat.Coprime.symm (pr_gcd (by omega) (hx k (by omega)))))
  have h1 : x ∣ d0 * (a * b * c) := by
    rw [← h]
    exact Nat.dvd_mul_left _ _
  have h2 : Nat.Coprime x (d0 * (a * b * c)) := by
    rw [h0]
    exact Nat.Coprime.mul_right (hc2 19 (Nat.le_refl _)) hc1
  exact Nat.Coprime.eq_one_of_dvd h2 h1
theorem nf_mk {up lw : Nat → Int32} {bb nd : Nat} {X z z9 : Int} {Dn : Nat} {gl g9 : Nat → Int32} (h1 : MR up (132 * nd) z9) (h3 : ∀ q, q < 19 → lw (19 * nd + q) = g9 q) (hL : LOK g9 bb) (hR : RED z9 g9) (hv : z * (Dn : Int) = X * (dn gl : Int)) (h : z9 * (dn gl : Int) = z * (dn g9 : Int)) : NF up lw bb nd X Dn := by
  have e : ∀ q, q < 19 → sh (19 * nd) lw q = g9 q := fun q hq => h3 q hq
  refine ⟨z9, h1, lok_cg hL e, red_cg hR e, ?_⟩
  rw [dn_cg e]
  exact raise_v dn_pos hv h
theorem nf_eq {up lw : Nat → Int32} {bb nd : Nat} {X X' : Int} {Dn Dn' : Nat} (hD : 0 < Dn) (h : NF up lw bb nd X Dn) (he : X * (Dn' : Int) = X' * (Dn : Int)) : NF up lw bb nd X' Dn' := by
  obtain ⟨z, h1, h2, h3, h4⟩ := h
  refine ⟨z, h1, h2, h3, ?_⟩
  apply Int.eq_of_mul_eq_mul_right (a := (Dn : Int)) (by omega)
  rw [show z * (Dn' : Int) * (Dn : Int) = z * (Dn : Int) * Dn' by ac_rfl, h4, show X * (dn (sh (19 * nd) lw) : Int) * (Dn' : Int) = X * (Dn' : Int) * dn (sh (19 * nd) lw) by ac_rfl, he]
  ac_rfl
theorem nf_cg {up lw up' lw' : Nat → Int32} {bb nd : Nat} {X : Int} {Dn : Nat} (h : NF up lw bb nd X Dn) (h1 : ∀ q, 132 * nd ≤ q → q < 132 * nd + 132 → up' q = up q) (h2 : ∀ q, 19 * nd ≤ q → q < 19 * nd + 19 → lw' q = lw q) : NF up' lw' bb nd X Dn := by
  obtain ⟨z, a1, a2, a3, a4⟩ := h
  have e : ∀ q, q < 19 → sh (19 * nd) lw' q = sh (19 * nd) lw q := fun q hq => h2 (19 * nd + q) (by omega) (by omega)
  exact ⟨z, mr_cg a1 h1, lok_cg a2 e, red_cg a3 e, by rw [dn_cg e]; exact a4⟩
