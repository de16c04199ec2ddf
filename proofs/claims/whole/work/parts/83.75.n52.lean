/-! Kinds in the order of their means: sorted by the class, picked one by one by the reference. -/
theorem cr_le {a b c : Int} {x y z : Nat} (hx : 0 < x) (hy : 0 < y) (hz : 0 < z) (h1 : a * (y : Int) ≤ b * (x : Int)) (h2 : b * (z : Int) ≤ c * (y : Int)) : a * (z : Int) ≤ c * (x : Int) ∧ (a * (z : Int) = c * (x : Int) → a * (y : Int) = b * (x : Int) ∧ b * (z : Int) = c * (y : Int)) := by
  have p1 : a * (y : Int) * (z : Int) ≤ b * (x : Int) * (z : Int) := Int.mul_le_mul_of_nonneg_right h1 (by omega)
  have p2 : b * (z : Int) * (x : Int) ≤ c * (y : Int) * (x : Int) := Int.mul_le_mul_of_nonneg_right h2 (by omega)
  have e0 : b * (x : Int) * (z : Int) = b * (z : Int) * (x : Int) := by ac_rfl
  have e1 : a * (z : Int) * (y : Int) = a * (y : Int) * (z : Int) := by ac_rfl
  have e2 : c * (x : Int) * (y : Int) = c * (y : Int) * (x : Int) := by ac_rfl
  refine ⟨Int.le_of_mul_le_mul_right (a := (y : Int)) (by omega) (by omega), fun h => ?_⟩
  have e3 : a * (z : Int) * (y : Int) = c * (x : Int) * (y : Int) := by rw [h]
  exact ⟨Int.eq_of_mul_eq_mul_right (a := (z : Int)) (by omega) (by omega), Int.eq_of_mul_eq_mul_right (a := (x : Int)) (by omega) (by omega)⟩
section KO
variable (RR : Nat → Int) (n w : Nat) (vv : Nat → Int32) (c : Nat) (A : Int64)
/-- the rows of a kind; the order of kinds -/
abbrev kdr (k : Nat) : Int64 := rwk vv c (nI k) n &&& A
def kbf (i j : Nat) : Prop := bef RR n w (kdr n vv c A i) (nI i) (kdr n vv c A j) (nI j) = true
end KO
theorem nI_lt12 {i j : Nat} (hi : i < 12) (hj : j < 12) : nI i < nI j ↔ i < j := by
  rw [Int32.lt_iff_toInt_lt, nI_toInt (by omega), nI_toInt (by omega)]
  omega
theorem kbf_e {RR : Nat → Int} {n w : Nat} {vv : Nat → Int32} {c : Nat} {A : Int64} {i j : Nat} (hi : i < 12) (hj : j < 12) : kbf RR n w vv c A i j ↔ (smv RR (kdr n vv c A i) n * ((cb (kdr n vv c A j) + w : Nat) : Int) ≤ smv RR (kdr n vv c A j) n * ((cb (kdr n vv c A i) + w : Nat) : Int) ∧ (smv RR (kdr n vv c A i) n * ((cb (kdr n vv c A j) + w : Nat) : Int) = smv RR (kdr n vv c A j) n * ((cb (kdr n vv c A i) + w : Nat) : Int) → i < j)) := by
  unfold kbf bef
  rw [Bool.or_eq_true, Bool.and_eq_true, decide_eq_true_eq, decide_eq_true_eq, decide_eq_true_eq, nI_lt12 hi hj]
  constructor
  · rintro (h | ⟨h1, h2⟩)
    · exact ⟨by omega, fun q => absurd q (by omega)⟩
    · exact ⟨by omega, fun _ => h2⟩
  · rintro ⟨h1, h2⟩
    by_cases q : smv RR (kdr n vv c A i) n * ((cb (kdr n vv c A j) + w : Nat) : Int) = smv RR (kdr n vv c A j) n * ((cb (kdr n vv c A i) + w : Nat) : Int)
    · exact Or.inr ⟨q, h2 q⟩
    · exact Or.inl (by omega)
theorem kbf_tr {RR : Nat → Int} {n w : Nat} {vv : Nat → Int32} {c : Nat} {A : Int64} {i j k : Nat} (hi : i < 12) (hj : j < 12) (hk : k < 12) (pi : ¬ kdr n vv c A i = 0) (pj : ¬ kdr n vv c A j = 0) (pk : ¬ kdr n vv c A k = 0) (h1 : kbf RR n w vv c A i j) (h2 : kbf RR n w vv c A j k) : kbf RR n w vv c A i k := by
  rw [kbf_e hi hj] at h1
  rw [kbf_e hj hk] at h2
  rw [kbf_e hi hk]
  have ci := cb_pos pi
  have cj := cb_pos pj
  have ck := cb_pos pk
  have := cr_le (by omega) (by omega) (by omega) h1.1 h2.1
  exact ⟨this.1, fun q => by have r := this.2 q; have := h1.2 r.1; have := h2.2 r.2; omega⟩
theorem kbf_to {RR : Nat → Int} {n w : Nat} {vv : Nat → Int32} {c : Nat} {A : Int64} {i j : Nat} (hi : i < 12) (hj : j < 12) (hij : i ≠ j) : kbf RR n w vv c A i j ∨ kbf RR n w vv c A j i := by
  rw [kbf_e hi hj, kbf_e hj hi]
  omega
theorem kbf_as {RR : Nat → Int} {n w : Nat} {vv : Nat → Int32} {c : Nat} {A : Int64} {i j : Nat} (hi : i < 12) (hj : j < 12) (h1 : kbf RR n w vv c A i j) (h2 : kbf RR n w vv c A j i) : False := by
  rw [kbf_e hi hj] at h1
  rw [kbf_e hj hi] at h2
  omega
theorem nI_nn {k : Nat} (h : k < 2 ^ 31) : ¬ nI k < 0 := fun q => by
  rw [Int32.lt_iff_toInt_lt, nI_toInt h] at q
  have e0 : (0 : Int32).toInt = 0 := by decide
  omega
/-- a kind that can be picked -/
abbrev kcn (n : Nat) (vv : Nat → Int32) (c : Nat) (A : Int64) (bits : Int32) (j : Nat) : Prop := tk bits j = false ∧ ¬ kdr n vv c A j = 0
theorem nxk_min {RR : Nat → Int} {n w : Nat} {vv : Nat → Int32} {c : Nat} {A : Int64} {bits : Int32} : ∀ k, k ≤ 12 → (nxk RR n w vv c A bits k = -1 ∧ ∀ i, i < k → ¬ kcn n vv c A bits i) ∨ ∃ j, j < k ∧ kcn n vv c A bits j ∧ nxk RR n w vv c A bits k = nI j ∧ ∀ i, i < k → kcn n vv c A bits i → i ≠ j → kbf RR n w vv c A j i
  | 0, _ => Or.inl ⟨rfl, fun i hi => absurd hi (by omega)⟩
  | k + 1, hk => by
    have ih := nxk_min (RR := RR) (w := w) (vv := vv) (c := c) (A := A) (bits := bits) (n := n) k (by omega)
    by_cases hc : kcn n vv c A bits k
    · have h1 := (tk_0 bits (show k < 32 by omega)).mpr hc.1
      rcases ih with ⟨e, hn⟩ | ⟨j, hj, cj, e, hm⟩
      · rw [nxk_t h1 hc.2 (Or.inl (by rw [e]; decide))]
        refine Or.inr ⟨k, by omega, hc, rfl, fun i hi ci hne => absurd ci (hn i (by omega))⟩
      · by_cases hb : kbf RR n w vv c A k j
        · rw [nxk_t h1 hc.2 (Or.inr (by rw [e]; exact hb))]
          refine Or.inr ⟨k, by omega, hc, rfl, fun i hi ci hne => ?_⟩
          by_cases q : i = j
          · rw [q]; exact hb
          · exact kbf_tr (by omega) (by omega) (by omega) hc.2 cj.2 ci.2 hb (hm i (by omega) ci q)
        · rw [nxk_f (fun z => z.2.2.elim (fun y => absurd y (by rw [e]; exact nI_nn (by omega))) (fun y => hb (by rw [e] at y; exact y)))]
          refine Or.inr ⟨j, by omega, cj, e, fun i hi ci hne => ?_⟩
          by_cases q : i = k
          · rw [q]
            exact (kbf_to (RR := RR) (n := n) (w := w) (vv := vv) (c := c) (A := A) (show j < 12 by omega) (show k < 12 by omega) (by omega)).resolve_right hb
          · exact hm i (by omega) ci hne
    · rw [nxk_f (fun z => hc ⟨(tk_0 bits (by omega)).mp z.1, z.2.1⟩)]
      rcases ih with ⟨e, hn⟩ | ⟨j, hj, cj, e, hm⟩
      · refine Or.inl ⟨e, fun i hi => ?_⟩
        by_cases q : i = k
        · rw [q]; exact hc
        · exact hn i (by omega)
      · refine Or.inr ⟨j, by omega, cj, e, fun i hi ci hne => ?_⟩
        by_cases q : i = k
        · rw [q] at ci; exact absurd ci hc
        · exact hm i (by omega) ci hne
/-- the kinds that rows have, sorted -/
def KOR (RR : Nat → Int) (n w : Nat) (vv : Nat → Int32) (c : Nat) (A : Int64) (od : Nat → Nat) (F : Nat) : Prop :=
  (∀ p, p < F → od p < 12 ∧ ¬ kdr n vv c A (od p) = 0) ∧ (∀ p q, p < q → q < F → kbf RR n w vv c A (od p) (od q)) ∧ ∀ j, j < 12 → ¬ kdr n vv c A j = 0 → ∃ p, p < F ∧ od p = j
def bitK (od : Nat → Nat) : Nat → Int32
  | 0 => 0
  | p + 1 => bitK od p ||| ((1 : Int32) <<< (nI (od p) &&& 31))
def sidK (n : Nat) (vv : Nat → Int32) (c : Nat) (A : Int64) (od : Nat → Nat) : Nat → Int64
  | 0 => 0
  | p + 1 => sidK n vv c A od p ||| kdr n vv c A (od p)
theorem tk_z (j : Nat) : tk 0 j = false := by
  unfold tk
  show (0#32).getLsbD j = false
  exact BitVec.getLsbD_zero
theorem tk_bitK {od : Nat → Nat} {j : Nat} (hj : j < 12) : ∀ p, (∀ i, i < p → od i < 12) → (tk (bitK od p) j = true ↔ ∃ i, i < p ∧ od i = j)
  | 0, _ => ⟨fun h => absurd h (by show ¬ tk 0 j = true; rw [tk_z]; decide), fun ⟨i, hi, _⟩ => absurd hi (by omega)⟩
  | p + 1, h => by
    have ih := tk_bitK (od := od) hj p (fun i hi => h i (by omega))
    show tk (bitK od p ||| ((1 : Int32) <<< (nI (od p) &&& 31))) j = true ↔ _
    rw [tk_or _ (show od p < 32 by have := h p (by omega); omega) (show j < 32 by omega), Bool.or_eq_true, ih, decide_eq_true_eq]
    constructor
    · rintro (⟨i, hi, e⟩ | e)
      · exact ⟨i, by omega, e⟩
      · exact ⟨p, by omega, e.symm⟩
    · rintro ⟨i, hi, e⟩
      by_cases q : i = p
      · exact Or.inr (by rw [← e, q])
      · exact Or.inl ⟨i, by omega, e⟩
theorem kor_in {RR : Nat → Int} {n w : Nat} {vv : Nat → Int32} {c : Nat} {A : Int64} {od : Nat → Nat} {F p q : Nat} (h : KOR RR n w vv c A od F) (hp : p < F) (hq : q < F) (e : od p = od q) : p = q := by
  rcases Nat.lt_trichotomy p q with r | r | r
  · exfalso
    have := h.2.1 p q r hq
    rw [e] at this
    exact kbf_as (h.1 q hq).1 (h.1 q hq).1 this this
  · exact r
  · exfalso
    have := h.2.1 q p r hp
    rw [e] at this
    exact kbf_as (h.1 q hq).1 (h.1 q hq).1 this this
theorem nxk_od {RR : Nat → Int} {n w : Nat} {vv : Nat → Int32} {c : Nat} {A : Int64} {od : Nat → Nat} {F p : Nat} (h : KOR RR n w vv c A od F) (hp : p < F) : nxk RR n w vv c A (bitK od p) 12 = nI (od p) := by
  have ho := h.1 p hp
  have hc : kcn n vv c A (bitK od p) (od p) := ⟨by
    cases hb : tk (bitK od p) (od p)
    · rfl
    · obtain ⟨i, hi, e⟩ := (tk_bitK ho.1 p (fun i hi => (h.1 i (by omega)).1)).mp hb
      exact absurd (kor_in h (by omega) hp e) (by omega), ho.2⟩
  rcases nxk_min (RR := RR) (n := n) (w := w) (vv := vv) (c := c) (A := A) (bits := bitK od p) 12 (Nat.le_refl _) with ⟨_, hn⟩ | ⟨j, hj, cj, e, hm⟩
  · exact absurd hc (hn _ ho.1)
  · rw [e]
    by_cases q : od p = j
    · rw [q]
    · exfalso
      obtain ⟨r, hr, er⟩ := h.2.2 j hj cj.2
      have hr2 : p < r := by
        rcases Nat.lt_trichotomy p r with z | z | z
        · exact z
        · exact absurd (by rw [z, er]) q
        · have := (tk_bitK (od := od) hj p (fun i hi => (h.1 i (by omega)).1)).mpr ⟨r, z, er⟩
          rw [cj.1] at this
          exact absurd this (by decide)
      have h1 := h.2.1 p r hr2 hr
      rw [er] at h1
      exact kbf_as ho.1 hj h1 (hm _ ho.1 hc q)
theorem nxk_end {RR : Nat → Int} {n w : Nat} {vv : Nat → Int32} {c : Nat} {A : Int64} {od : Nat → Nat} {F : Nat} (h : KOR RR n w vv c A od F) : nxk RR n w vv c A (bitK od F) 12 < 0 := by
  rcases nxk_min (RR := RR) (n := n) (w := w) (vv := vv) (c := c) (A := A) (bits := bitK od F) 12 (Nat.le_refl _) with ⟨e, _⟩ | ⟨j, hj, cj, _, _⟩
  · rw [e]; decide
  · exfalso
    obtain ⟨p, hp, e⟩ := h.2.2 j hj cj.2
    have := (tk_bitK (od := od) hj F (fun i hi => (h.1 i hi).1)).mpr ⟨p, hp, e⟩
    rw [cj.1] at this
    exact absurd this (by decide)
/-- both searches through the kinds, in their order -/
def lkd (RR : Nat → Int) (n w lst : Nat) (vv : Nat → Int32) (c : Nat) (A M : Int64) (od : Nat → Nat) (r : BST) : Nat → BST
  | 0 => r
  | p + 1 => lks RR n w lst A M (lkd RR n w lst vv c A M od r p) (sidK n vv c A od (p + 1)) (nI c) (bitK od (p + 1))
def clK (RR : Nat → Int) (n w lst : Nat) (vv : Nat → Int32) (c : Nat) (A M : Int64) (od : Nat → Nat) (b : CST) : Nat → CST
  | 0 => b
  | p + 1 => cls RR n w lst A M (clK RR n w lst vv c A M od b p) (sidK n vv c A od (p + 1)) (nI c) (bitK od (p + 1))
theorem lkk_od {RR : Nat → Int} {n w lst : Nat} {vv : Nat → Int32} {c : Nat} {A M : Int64} {od : Nat → Nat} {F : Nat} {r : BST} (h : KOR RR n w vv c A od F) : ∀ d p f, p + d = F → d ≤ f → lkk RR n w lst vv c A M f (bitK od p) (sidK n vv c A od p) (lkd RR n w lst vv c A M od r (min p (F - 1))) = lkd RR n w lst vv c A M od r (F - 1)
  | 0, p, f, hp, _ => by
    have e : p = F := by omega
    subst e
    rw [lkk_0 (nxk_end h), show min p (p - 1) = p - 1 by omega]
  | d + 1, p, 0, _, hf => absurd hf (by omega)
  | d + 1, p, f + 1, hp, hf => by
    have hpF : p < F := by omega
    have e1 := nxk_od h hpF
    have ih := lkk_od (lst := lst) (M := M) (r := r) h d (p + 1) f (by omega) (by omega)
    rw [lkk_s (bits2 := bitK od (p + 1)) (side2 := sidK n vv c A od (p + 1)) (by rw [e1]; exact nI_nn (by have := (h.1 p hpF).1; omega)) (by rw [e1]; rfl) (by rw [e1]; rfl), show min p (F - 1) = p by omega]
    by_cases q : p + 1 < F
    · rw [show min (p + 1) (F - 1) = p + 1 by omega] at ih
      rw [if_neg (by rw [nxk_od h q]; exact nI_nn (by have := (h.1 _ q).1; omega))]
      exact ih
    · have e2 : p + 1 = F := by omega
      rw [if_pos (by rw [e2]; exact nxk_end h)]
      rw [show min (p + 1) (F - 1) = p by omega] at ih
      exact ih
theorem lkk_all {RR : Nat → Int} {n w lst : Nat} {vv : Nat → Int32} {c : Nat} {A M : Int64} {od : Nat → Nat} {F : Nat} {r : BST} (h : KOR RR n w vv c A od F) (hF : F ≤ 13) : lkk RR n w lst vv c A M 13 0 0 r = lkd RR n w lst vv c A M od r (F - 1) := by
  have := lkk_od (lst := lst) (M := M) (r := r) h F 0 13 (by omega) (by omega)
  rw [show min 0 (F - 1) = 0 by omega] at this
  exact this
theorem win_sidK {n : Nat} {vv : Nat → Int32} {c : Nat} {A : Int64} {od : Nat → Nat} : ∀ p, WIN (sidK n vv c A od p) A
  | 0 => win_0
  | p + 1 => win_or (win_sidK p) win_and
theorem srl_K {RR : Nat → Int} {n w lst : Nat} {vv : Nat → Int32} {c : Nat} {A M : Int64} {od : Nat → Nat} {b : CST} {r : BST} (hn : n ≤ 64) (hl : 1 ≤ lst) (hM : WIN M A) (h : SRL (cb A + w) (smv RR A n) b r) : ∀ p, SRL (cb A + w) (smv RR A n) (clK RR n w lst vv c A M od b p) (lkd RR n w lst vv c A M od r p)
  | 0 => h
  | p + 1 => srl_s hn hl hM (win_sidK (p + 1)) (srl_K hn hl hM h p)
