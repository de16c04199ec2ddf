/-! The trees are in order: what both sides rest on. -/
abbrev goF (a : Nat → Nat → Int32) (vq : Nat → Int32) (t k : Nat) : Bool := goB (a 2 (31 * t + k)) (a 7 (31 * t + k)) (a 1 (31 * t + k)) (vq (a 0 (31 * t + k)).toNatClampNeg)
def lfF (a : Nat → Nat → Int32) (vq : Nat → Int32) (t : Nat) : Nat := lfw (a 0) (a 3) (a 4) (goF a vq t) (31 * t) 4 0
/-- what the first trees leave of a number -/
def xF (F : TFR) (vq : Nat → Int32) (x0 : Int) : Nat → Int
  | 0 => x0
  | t + 1 => xF F vq x0 t * (sca F t : Int) - lvf F t (lfF (tA F) vq t)
def TOK1 (F : TFR) (t : Nat) : Prop :=
  TWF (tA F 0) (tA F 3) (tA F 4) (fun k => dg (tA F 6) (31 * t + k)) (31 * t) (tM F t) ∧ (0 < tU F t ∧ tU F t ≤ tL F t ∧ tL F t ≤ 16) ∧ tW F t ≤ 20 ∧ lfs F t (tM F t) ≤ 48 ∧
  ∀ k, k < tM F t → (tA F 5 (31 * t + k) = nI (nR F t k) ∧ tA F 6 (31 * t + k) = nI (dg (tA F 6) (31 * t + k))) ∧ (1 ≤ nR F t k ∧ nR F t k ≤ 48) ∧ (tS F t k).natAbs ≤ nR F t k * (1000 * 2 ^ t * Ppf F t) ∧
    (tA F 0 (31 * t + k) = -1 ∨ (nR F t k = nR F t (dg (tA F 3) (31 * t + k)) + nR F t (dg (tA F 4) (31 * t + k)) ∧ tS F t k = tS F t (dg (tA F 3) (31 * t + k)) + tS F t (dg (tA F 4) (31 * t + k))))
def TOK (F : TFR) (T : Nat) : Prop := (∀ q, q < 496 → tA F 2 q = 0 ∨ tA F 2 q = 1) ∧ ∀ t, t < T → TOK1 F t
theorem lfw_end {nc nl nr : Nat → Int32} {go : Nat → Bool} {dp : Nat → Nat} {b n : Nat} (h : TWF nc nl nr dp b n) : ∀ f k, k < n → 4 ≤ dp k + f → lfw nc nl nr go b f k < n ∧ nc (b + lfw nc nl nr go b f k) = -1
  | 0, k, hk, hd => by
    have h1 := h.2.2.2 k hk
    refine ⟨hk, ?_⟩
    rcases h1.2 with q | ⟨_, q, _⟩
    · exact q
    · exact absurd q (by omega)
  | f + 1, k, hk, hd => by
    have h1 := h.2.2.2 k hk
    rcases h1.2 with q | ⟨⟨c, q0, q00⟩, q1, q2, q3, q4, q5, q6, q7⟩
    · have hn : nc (b + k) < 0 := by rw [q]; decide
      rw [lfw_leaf hn]
      exact ⟨hk, q⟩
    · have hn : ¬ nc (b + k) < 0 := fun r => by
        have e := nI_toInt (n := c) (by omega)
        rw [q00, Int32.lt_iff_toInt_lt, e] at r
        have e0 : (0 : Int32).toInt = 0 := by decide
        omega
      rw [lfw_s hn]
      split
      · exact lfw_end h f _ q4 (by omega)
      · exact lfw_end h f _ q5 (by omega)
theorem lfF_ok {F : TFR} {t : Nat} (h : TOK1 F t) (vq : Nat → Int32) : lfF (tA F) vq t < tM F t ∧ tA F 0 (31 * t + lfF (tA F) vq t) = -1 := lfw_end h.1 4 0 h.1.1 (by omega)
theorem unr_pos {F : TFR} {t k : Nat} (h : TOK1 F t) (hk : k < tM F t) : 0 < unr F t k := Nat.mul_pos (by have := h.2.1; omega) (by have := (h.2.2.2.2 k hk).2.1; omega)
theorem sca_pos {F : TFR} {t : Nat} (h : TOK1 F t) : 0 < sca F t := scl_pos (fun j hj => unr_pos h hj)
theorem sca_le {F : TFR} {t : Nat} (h : TOK1 F t) : sca F t ≤ 1788279292800 := by
  have h1 := scl_dvd (F := F) (t := t) (k := tM F t) (fun j hj => (h.2.2.2.2 j hj).2.1)
  have h2 : lcn (tW F t) (inl F t (tM F t)) 48 ≤ 111767455800 := lcn_le h.2.2.1 (Nat.le_trans (smn_inl _) h.2.2.2.1)
  have h3 : 0 < tL F t := by have := h.2.1; omega
  have h4 : sca F t ≤ tL F t * lcn (tW F t) (inl F t (tM F t)) 48 := Nat.le_of_dvd (Nat.mul_pos h3 (lcn_pos _)) h1
  have h5 := Nat.mul_le_mul h.2.1.2.2 h2
  omega
theorem Ppf_b {F : TFR} : ∀ {T : Nat}, (∀ t, t < T → TOK1 F t) → 0 < Ppf F T ∧ Ppf F T ≤ 1788279292800 ^ T
  | 0, _ => ⟨by show 0 < 1; decide, by show 1 ≤ _; exact Nat.le_refl _⟩
  | T + 1, h => by
    have ih := Ppf_b (F := F) (T := T) (fun t ht => h t (by omega))
    exact ⟨Nat.mul_pos ih.1 (sca_pos (h T (by omega))), Nat.mul_le_mul ih.2 (sca_le (h T (by omega)))⟩
/-- the greatest product of scales, and the greatest number over it -/
def PBc : Nat := 1788279292800 ^ 16
def XBc : Nat := 1000 * 2 ^ 16 * PBc
theorem lvf_b {F : TFR} {t k : Nat} (h : TOK1 F t) (hk : k < tM F t) (hl : tA F 0 (31 * t + k) = -1) : (lvf F t k).natAbs ≤ 1000 * 2 ^ t * (Ppf F t * sca F t) := by
  have hv := nat_eq (lvf_v hk hl)
  have hu := unr_pos h hk
  obtain ⟨_, h1, h2, _⟩ := h.2.2.2.2 k hk
  have hr := h.2.1
  apply Nat.le_of_mul_le_mul_right (c := unr F t k) _ hu
  rw [hv]
  have a1 : (tS F t k).natAbs * (tU F t * sca F t) ≤ nR F t k * (1000 * 2 ^ t * Ppf F t) * (tL F t * sca F t) := Nat.mul_le_mul h2 (Nat.mul_le_mul_right _ hr.2.1)
  have a2 : nR F t k * (1000 * 2 ^ t * Ppf F t) * (tL F t * sca F t) = (1000 * 2 ^ t * (Ppf F t * sca F t)) * (tL F t * nR F t k) := by ac_rfl
  rw [a2] at a1
  exact Nat.le_trans a1 (Nat.mul_le_mul_left _ (Nat.mul_le_mul_left _ (by omega)))
theorem xF_b {F : TFR} {vq : Nat → Int32} {x0 : Int} (hx : x0.natAbs ≤ 1000) : ∀ {T : Nat}, (∀ t, t < T → TOK1 F t) → (xF F vq x0 T).natAbs ≤ 1000 * 2 ^ T * Ppf F T
  | 0, _ => by show x0.natAbs ≤ 1000 * 1 * 1; omega
  | T + 1, h => by
    have ih := xF_b (F := F) (vq := vq) hx (T := T) (fun t ht => h t (by omega))
    have hT := h T (by omega)
    obtain ⟨l1, l2⟩ := lfF_ok hT vq
    have hl := lvf_b hT l1 l2
    show (xF F vq x0 T * (sca F T : Int) - lvf F T (lfF (tA F) vq T)).natAbs ≤ 1000 * 2 ^ (T + 1) * (Ppf F T * sca F T)
    have a1 : (xF F vq x0 T * (sca F T : Int)).natAbs ≤ 1000 * 2 ^ T * (Ppf F T * sca F T) := by
      rw [Int.natAbs_mul, Int.natAbs_natCast, ← Nat.mul_assoc]
      exact Nat.mul_le_mul_right _ ih
    have a2 : 1000 * 2 ^ (T + 1) * (Ppf F T * sca F T) = 1000 * 2 ^ T * (Ppf F T * sca F T) + 1000 * 2 ^ T * (Ppf F T * sca F T) := by
      rw [Nat.pow_succ, ← Nat.add_mul]; congr 1; omega
    rw [a2]
    generalize 1000 * 2 ^ T * (Ppf F T * sca F T) = Z at a1 hl ⊢
    omega
theorem Ppf_16 {F : TFR} {T t : Nat} (h : TOK F T) (hT : T ≤ 16) (ht : t ≤ T) : 0 < Ppf F t ∧ Ppf F t ≤ PBc := by
  have h1 := Ppf_b (F := F) (T := t) (fun u hu => h.2 u (by omega))
  exact ⟨h1.1, Nat.le_trans h1.2 (Nat.pow_le_pow_right (by decide) (by omega))⟩
theorem xb_m {t P : Nat} (ht : t ≤ 16) (hP : P ≤ PBc) : 1000 * 2 ^ t * P ≤ XBc := Nat.mul_le_mul (Nat.mul_le_mul_left _ (Nat.pow_le_pow_right (by decide) ht)) hP
theorem chn_tok {F : TFR} {T : Nat} (h : TOK F T) (hT : T ≤ 16) (vq : Nat → Int32) {x0 : Int} (hx : x0.natAbs ≤ 1000) : CHN (Ppf F) (sca F) (xF F vq x0) (fun t => lvf F t (lfF (tA F) vq t)) true T PBc XBc := by
  refine ⟨rfl, fun t ht => ⟨rfl, (if_pos rfl).symm, ?_⟩, fun t ht => ?_⟩
  · obtain ⟨l1, l2⟩ := lfF_ok (h.2 t ht) vq
    exact Nat.le_trans (lvf_b (h.2 t ht) l1 l2) (xb_m (by omega) (Ppf_16 (t := t + 1) h hT (by omega)).2)
  · have h1 := Ppf_16 h hT ht
    exact ⟨h1.1, h1.2, Nat.le_trans (xF_b hx (fun u hu => h.2 u (by omega))) (xb_m (by omega) h1.2)⟩
/-- the question: added, not taken away -/
theorem chn_tokQ {F : TFR} {T : Nat} (h : TOK F T) (hT : T ≤ 16) (vq : Nat → Int32) : CHN (Ppf F) (sca F) (fun t => -(xF F vq 0 t)) (fun t => lvf F t (lfF (tA F) vq t)) false T PBc XBc := by
  obtain ⟨h1, h2, h3⟩ := chn_tok h hT vq (x0 := 0) (by decide)
  refine ⟨h1, fun t ht => ⟨(h2 t ht).1, ?_, (h2 t ht).2.2⟩, fun t ht => ⟨(h3 t ht).1, (h3 t ht).2.1, by rw [Int.natAbs_neg]; exact (h3 t ht).2.2⟩⟩
  rw [if_neg (by decide)]
  show -(xF F vq 0 t * (sca F t : Int) - lvf F t (lfF (tA F) vq t)) = -(xF F vq 0 t) * (sca F t : Int) + lvf F t (lfF (tA F) vq t)
  rw [Int.neg_mul]; omega
/-! Trees before the newest stay as they are. -/
def FEQ (F F' : TFR) (T : Nat) : Prop := (∀ t, t < T → tM F' t = tM F t ∧ tS F' t = tS F t ∧ tW F' t = tW F t ∧ tU F' t = tU F t ∧ tL F' t = tL F t) ∧ OLD8 (tA F') (tA F) (31 * T)
theorem nR_eq {F F' : TFR} {T t k : Nat} (h : FEQ F F' T) (ht : t < T) (hk : k < 31) : nR F' t k = nR F t k := dg_cg (h.2 (31 * t + k) (by omega)).2.2.2.2.2.1
theorem unr_eq {F F' : TFR} {T t k : Nat} (h : FEQ F F' T) (ht : t < T) (hk : k < 31) : unr F' t k = unr F t k := by
  unfold unr; rw [nR_eq h ht hk, (h.1 t ht).2.2.1, (h.1 t ht).2.2.2.2]
theorem scl_eq {F F' : TFR} {T t : Nat} (h : FEQ F F' T) (ht : t < T) : ∀ k, k ≤ 31 → scl F' t k = scl F t k
  | 0, _ => rfl
  | k + 1, hk => by
    show (if tA F' 0 (31 * t + k) = -1 then Nat.lcm (scl F' t k) (ndd F' t k) else scl F' t k) = (if tA F 0 (31 * t + k) = -1 then Nat.lcm (scl F t k) (ndd F t k) else scl F t k)
    have e : ndd F' t k = ndd F t k := by unfold ndd; rw [unr_eq h ht (by omega), (h.1 t ht).2.1, (h.1 t ht).2.2.2.1]
    rw [(h.2 (31 * t + k) (by omega)).1, scl_eq h ht k (by omega), e]
theorem sca_eq {F F' : TFR} {T t : Nat} (h : FEQ F F' T) (ht : t < T) (hm : tM F t ≤ 31) : sca F' t = sca F t := by
  unfold sca; rw [(h.1 t ht).1]; exact scl_eq h ht _ hm
theorem Ppf_eq {F F' : TFR} {T : Nat} (h : FEQ F F' T) (hm : ∀ t, t < T → tM F t ≤ 31) : ∀ t, t ≤ T → Ppf F' t = Ppf F t
  | 0, _ => rfl
  | t + 1, ht => by
    show Ppf F' t * sca F' t = Ppf F t * sca F t
    rw [Ppf_eq h hm t (by omega), sca_eq h (by omega) (hm t (by omega))]
theorem lvf_eq {F F' : TFR} {T t k : Nat} (h : FEQ F F' T) (ht : t < T) (hm : tM F t ≤ 31) (hk : k < 31) : lvf F' t k = lvf F t k := by
  unfold lvf; rw [sca_eq h ht hm, unr_eq h ht hk, (h.1 t ht).2.1, (h.1 t ht).2.2.2.1]
theorem lfs_eq {F F' : TFR} {T t : Nat} (h : FEQ F F' T) (ht : t < T) : ∀ k, k ≤ 31 → lfs F' t k = lfs F t k
  | 0, _ => rfl
  | k + 1, hk => by
    show lfs F' t k + (if tA F' 0 (31 * t + k) = -1 then nR F' t k else 0) = lfs F t k + if tA F 0 (31 * t + k) = -1 then nR F t k else 0
    rw [(h.2 (31 * t + k) (by omega)).1, lfs_eq h ht k (by omega), nR_eq h ht (by omega)]
theorem twf_cg {nc nl nr nc' nl' nr' : Nat → Int32} {dp dp' : Nat → Nat} {b n : Nat} (h : TWF nc nl nr dp b n) (he : ∀ k, k < 31 → nc' (b + k) = nc (b + k) ∧ nl' (b + k) = nl (b + k) ∧ nr' (b + k) = nr (b + k) ∧ dp' k = dp k) : TWF nc' nl' nr' dp' b n := by
  obtain ⟨h1, h2, h3, h4⟩ := h
  refine ⟨h1, h2, by rw [(he 0 (by omega)).2.2.2]; exact h3, fun k hk => ?_⟩
  obtain ⟨e1, e2, e3, e4⟩ := he k (by omega)
  have d2 : dg nl' (b + k) = dg nl (b + k) := dg_cg e2
  have d3 : dg nr' (b + k) = dg nr (b + k) := dg_cg e3
  rw [e1, e2, e3, e4, d2, d3]
  refine ⟨(h4 k hk).1, (h4 k hk).2.imp id (fun ⟨q1, q2, q3, q4, q5, q6, q7, q8⟩ => ⟨q1, q2, q3, q4, q5, q6, ?_, ?_⟩)⟩
  · rw [(he _ (by omega)).2.2.2]; exact q7
  · rw [(he _ (by omega)).2.2.2]; exact q8
theorem lfw_cg {nc nl nr nc' nl' nr' : Nat → Int32} {dp : Nat → Nat} {go go' : Nat → Bool} {b n : Nat} (h : TWF nc nl nr dp b n) (he : ∀ k, k < 31 → nc' (b + k) = nc (b + k) ∧ nl' (b + k) = nl (b + k) ∧ nr' (b + k) = nr (b + k) ∧ go' k = go k) : ∀ f k, k < n → lfw nc' nl' nr' go' b f k = lfw nc nl nr go b f k
  | 0, _, _ => rfl
  | f + 1, k, hk => by
    obtain ⟨e1, e2, e3, e4⟩ := he k (by have := h.2.1; omega)
    have d2 : dg nl' (b + k) = dg nl (b + k) := dg_cg e2
    have d3 : dg nr' (b + k) = dg nr (b + k) := dg_cg e3
    by_cases q : nc (b + k) < 0
    · rw [lfw_leaf q, lfw_leaf (by rw [e1]; exact q)]
    · rw [lfw_s q, lfw_s (by rw [e1]; exact q), d2, d3, e4]
      obtain ⟨_, _, _, _, q4, q5, _⟩ := tw_in h hk q
      split
      · exact lfw_cg h he f _ q4
      · exact lfw_cg h he f _ q5
theorem lfF_eq {F F' : TFR} {T t : Nat} (h : FEQ F F' T) (ht : t < T) (h1 : TOK1 F t) (vq : Nat → Int32) : lfF (tA F') vq t = lfF (tA F) vq t := by
  refine lfw_cg h1.1 (fun k hk => ?_) 4 0 h1.1.1
  obtain ⟨a0, a1, a2, a3, a4, a5, a6, a7⟩ := h.2 (31 * t + k) (by omega)
  exact ⟨a0, a3, a4, by unfold goF; rw [a0, a1, a2, a7]⟩
theorem xF_eq {F F' : TFR} {T : Nat} (h : FEQ F F' T) (hk : ∀ t, t < T → TOK1 F t) (vq : Nat → Int32) (x0 : Int) : ∀ t, t ≤ T → xF F' vq x0 t = xF F vq x0 t
  | 0, _ => rfl
  | t + 1, ht => by
    have h1 := hk t (by omega)
    show xF F' vq x0 t * (sca F' t : Int) - lvf F' t (lfF (tA F') vq t) = xF F vq x0 t * (sca F t : Int) - lvf F t (lfF (tA F) vq t)
    rw [xF_eq h hk vq x0 t (by omega), sca_eq h (by omega) h1.1.2.1, lfF_eq h (by omega) h1 vq, lvf_eq h (by omega) h1.1.2.1 (by have := (lfF_ok h1 vq).1; have := h1.1.2.1; omega)]
theorem tok1_eq {F F' : TFR} {T t : Nat} (h : FEQ F F' T) (ht : t < T) (hk : ∀ t, t < T → TOK1 F t) : TOK1 F' t := by
  obtain ⟨h1, h2, h3, h4, h5⟩ := hk t ht
  have hm := h1.2.1
  have P := Ppf_eq h (fun t ht => (hk t ht).1.2.1) t (by omega)
  obtain ⟨m1, m2, m3, m4, m5⟩ := h.1 t ht
  unfold TOK1
  rw [m1, m3, m4, m5, m2, P]
  refine ⟨twf_cg h1 (fun k hk => ?_), h2, h3, by rw [lfs_eq h ht _ hm]; exact h4, fun k hk => ?_⟩
  · obtain ⟨a0, a1, a2, a3, a4, a5, a6, a7⟩ := h.2 (31 * t + k) (by omega)
    exact ⟨a0, a3, a4, dg_cg a6⟩
  · obtain ⟨a0, a1, a2, a3, a4, a5, a6, a7⟩ := h.2 (31 * t + k) (by omega)
    have d3 : dg (tA F' 3) (31 * t + k) = dg (tA F 3) (31 * t + k) := dg_cg a3
    have d4 : dg (tA F' 4) (31 * t + k) = dg (tA F 4) (31 * t + k) := dg_cg a4
    have d6 : dg (tA F' 6) (31 * t + k) = dg (tA F 6) (31 * t + k) := dg_cg a6
    rw [a0, a5, a6, d3, d4, d6, nR_eq h ht (by omega)]
    obtain ⟨q1, q2, q3, q4⟩ := h5 k hk
    refine ⟨q1, q2, q3, ?_⟩
    rcases (h1.2.2.2 k hk).2 with r | ⟨_, _, _, _, r4, r5, _⟩
    · exact Or.inl r
    · rw [nR_eq h ht (by omega), nR_eq h ht (by omega)]; exact q4
theorem tok_eq {F F' : TFR} {T : Nat} (h : FEQ F F' T) (hk : ∀ t, t < T → TOK1 F t) : ∀ t, t < T → TOK1 F' t := fun _ ht => tok1_eq h ht hk
