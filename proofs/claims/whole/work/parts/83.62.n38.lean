/-! One round of training: the new tree. -/
theorem giv_ind {best : Int64 → BST} {ik : Nat → Int32} {b0 dpt : Nat} {AA : Int64} (hb0 : b0 + 31 < 2 ^ 30) (hd4 : dpt ≤ 4) (hv0 : vp_nar .boolean 0 = 0) (hv1 : vp_nar .boolean 1 = 1) (hB : HBS best AA) (I : (Nat → Nat → Int32) → Prop)
    (hI : ∀ a m rs x d ab lf st, GIV best b0 dpt AA a m rs ((x, d, ab, lf) :: st) → m < 31 → I a → I (gst best ik b0 dpt (a, m, rs) (x, d, ab, lf)).1.1) : ∀ f a m rs st, GIV best b0 dpt AA a m rs st → m + gws dpt st ≤ 31 → I a → I (gall best ik b0 dpt f (a, m, rs) st).1
  | 0, a, m, rs, _, h, _, hi => hi
  | f + 1, a, m, rs, [], h, hm, hi => hi
  | f + 1, a, m, rs, (x, d, ab, lf) :: st, h, hm, hi => by
    have h1 : d ≤ dpt := (h.2.1 _ (List.mem_cons_self ..)).1
    have hw := gst_w (best := best) (ik := ik) (b0 := b0) (a := a) (m := m) (rs := rs) (x := x) (ab := ab) (lf := lf) (st := st) h1
    have hs := giv_s (ik := ik) (by omega) hd4 hv0 hv1 hB h
    have hg := gst_m (best := best) (ik := ik) (b0 := b0) (dpt := dpt) (a := a) (m := m) (rs := rs) (it := (x, d, ab, lf))
    have ih := giv_ind (ik := ik) hb0 hd4 hv0 hv1 hB I hI f (gst best ik b0 dpt (a, m, rs) (x, d, ab, lf)).1.1 (m + 1) (va_up rs m x) ((gst best ik b0 dpt (a, m, rs) (x, d, ab, lf)).2 ++ st) hs (by omega) (hI a m rs x d ab lf st h (by omega) hi)
    have e : (gst best ik b0 dpt (a, m, rs) (x, d, ab, lf)).1 = ((gst best ik b0 dpt (a, m, rs) (x, d, ab, lf)).1.1, m + 1, va_up rs m x) := Prod.ext rfl hg
    show I (gall best ik b0 dpt f (gst best ik b0 dpt (a, m, rs) (x, d, ab, lf)).1 _).1
    rw [e]
    exact ih
theorem gst_old {best : Int64 → BST} {ik : Nat → Int32} {b0 dpt : Nat} {AA : Int64} {a a0 : Nat → Nat → Int32} {m : Nat} {rs : Nat → Int64} {x : Int64} {d : Nat} {ab lf : Int32} {st : List ITM} (hb0 : b0 + 31 < 2 ^ 30) (hm : m < 31) (h : GIV best b0 dpt AA a m rs ((x, d, ab, lf) :: st)) (ho : OLD8 a a0 b0) : OLD8 (gst best ik b0 dpt (a, m, rs) (x, d, ab, lf)).1.1 a0 b0 := by
  intro j hj
  obtain ⟨o0, o1, o2, o3, o4, o5, o6, o7⟩ := ho j hj
  obtain ⟨p0, p1, p2, p5, p6, p7⟩ := gPar_0 (a := a) (m := m) (ab := ab) (lf := lf)
  have it0 := (h.2.1 _ (List.mem_cons_self ..)).2.2.2
  have hne : ¬ ab < 0 → ¬ j = ab.toNatClampNeg := fun q r => by
    rcases it0 with s | ⟨k, s1, s2, _⟩
    · exact q s
    · have s2 : ab = nI (b0 + k) := s2
      rw [s2, nI_clamp (by omega)] at r
      omega
  have p3 : gPar a m ab lf 3 j = a 3 j := by rw [gPar_3, if_neg (fun q => hne q.1 q.2.2)]
  have p4 : gPar a m ab lf 4 j = a 4 j := by rw [gPar_4, if_neg (fun q => hne q.1 q.2.2)]
  have hjn : j ≠ b0 + m := by omega
  by_cases q : d = dpt ∨ (best x).1 ≤ 0
  · rw [gst_l q]
    exact ⟨(pk_un hjn).trans (by rw [p0]; exact o0), (pk_un hjn).trans (by rw [p1]; exact o1), (pk_un hjn).trans (by rw [p2]; exact o2), (pk_un hjn).trans (by rw [p3]; exact o3), (pk_un hjn).trans (by rw [p4]; exact o4), (pk_un hjn).trans (by rw [p5]; exact o5), (pk_un hjn).trans (by rw [p6]; exact o6), (pk_un hjn).trans (by rw [p7]; exact o7)⟩
  · rw [gst_s q]
    exact ⟨(pk_un hjn).trans ((pk_un hjn).trans (by rw [p0]; exact o0)), (pk_un hjn).trans ((pk_un hjn).trans (by rw [p1]; exact o1)), (pk_un hjn).trans ((pk_un hjn).trans (by rw [p2]; exact o2)), (pk_un hjn).trans (by rw [p3]; exact o3), (pk_un hjn).trans (by rw [p4]; exact o4), (pk_un hjn).trans (by rw [p5]; exact o5), (pk_un hjn).trans (by rw [p6]; exact o6), (pk_un hjn).trans ((pk_un hjn).trans (by rw [p7]; exact o7))⟩
theorem gst_2 {best : Int64 → BST} {ik : Nat → Int32} {b0 dpt : Nat} {a : Nat → Nat → Int32} {m : Nat} {rs : Nat → Int64} {it : ITM} (hv : ∀ x, vp_nar .boolean x = 0 ∨ vp_nar .boolean x = 1) (ho : ∀ q, q < 496 → a 2 q = 0 ∨ a 2 q = 1) : ∀ q, q < 496 → (gst best ik b0 dpt (a, m, rs) it).1.1 2 q = 0 ∨ (gst best ik b0 dpt (a, m, rs) it).1.1 2 q = 1 := by
  intro j hj
  obtain ⟨x, d, ab, lf⟩ := it
  obtain ⟨p0, p1, p2, p5, p6, p7⟩ := gPar_0 (a := a) (m := m) (ab := ab) (lf := lf)
  have u : ∀ (g : Nat → Int32) k v, (g j = 0 ∨ g j = 1) → (v = 0 ∨ v = 1) → (upd g k v j = 0 ∨ upd g k v j = 1) := fun g k v h1 h2 => by
    by_cases e : j = k
    · subst e; rw [pk_us]; exact h2
    · rw [pk_un e]; exact h1
  by_cases q : d = dpt ∨ (best x).1 ≤ 0
  · rw [gst_l q]
    exact u _ _ _ (by rw [p2]; exact ho j hj) (hv 0)
  · rw [gst_s q]
    exact u _ _ _ (u _ _ _ (by rw [p2]; exact ho j hj) (hv 0)) (hv _)
theorem giv_0 {best : Int64 → BST} {b0 dpt : Nat} {AA : Int64} {a : Nat → Nat → Int32} {rs : Nat → Int64} {lf : Int32} (hA : 0 < cb AA) : GIV best b0 dpt AA a 0 rs [(AA, 0, -1, lf)] :=
  ⟨fun k hk => absurd hk (by omega), fun it hi => by
    rcases List.mem_cons.mp hi with e | e
    · subst e; exact ⟨Nat.zero_le _, hA, fun _ h => h, Or.inl (by show (-1 : Int32) < 0; decide)⟩
    · exact absurd e (List.not_mem_nil), by show 0 + (cb AA + 0) = cb AA; omega, Or.inl ⟨rfl, _, _, rfl⟩⟩
theorem gws_0 {dpt : Nat} {AA : Int64} {lf : Int32} (hd : dpt ≤ 4) : gws dpt [(AA, 0, -1, lf)] ≤ 31 := by
  show (2 ^ (dpt - 0 + 1) - 1) + 0 ≤ 31
  have := Nat.pow_le_pow_right (show 0 < 2 by decide) (show dpt - 0 + 1 ≤ 5 by omega)
  omega
theorem hbs_col {RR : Nat → Int} {n w lst wd : Nat} {vv eg ik : Nat → Int32} {ne : Nat → Nat} {chb : Int32} {AA : Int64} (hn : n ≤ 48) (hw : w ≤ 20) (hl : 1 ≤ lst) (hwd : wd ≤ 6) (hA : SUBn AA n) : HBS (fun x => colF RR n w lst vv eg ik ne chb x wd) AA := by
  intro x hx h0 hg
  have hg : ¬ (colF RR n w lst vv eg ik ne chb x wd).1 ≤ 0 := hg
  have hs : SUBn x n := fun r hr => hA r (hx r hr)
  have h1 := colF_ok (zr := RR) (w := w) (lst := lst) (vv := vv) (eg := eg) (ik := ik) (ne := ne) (chb := chb) hn hw hl hs wd hwd
  obtain ⟨f1, f2, f3, f4, f5⟩ := colF_sd (zr := RR) (n := n) (w := w) (lst := lst) (vv := vv) (eg := eg) (ik := ik) (ne := ne) (chb := chb) (A := x) hl wd (by omega)
  exact ⟨(h1.2 (by omega)).1, f1, f2, f3⟩
theorem cbn_mono (x : Int64) {k : Nat} : ∀ j, cbn x k ≤ cbn x (k + j)
  | 0 => Nat.le_refl _
  | j + 1 => Nat.le_trans (cbn_mono x j) (Nat.le_add_right _ _)
theorem smv_cb {RR : Nat → Int} {x : Int64} {n B : Nat} (h : ∀ i, i < n → (RR i).natAbs ≤ B) : ∀ k, k ≤ n → (smv RR x k).natAbs ≤ cbn x k * B
  | 0, _ => by show (0 : Int).natAbs ≤ 0 * B; omega
  | k + 1, hk => by
    have ih := smv_cb (x := x) h k (by omega)
    have h1 := h k (by omega)
    show (smv RR x k + _).natAbs ≤ (cbn x k + _) * B
    rw [Nat.add_mul]
    split
    · rw [Nat.one_mul]; omega
    · rw [Nat.zero_mul]; omega
theorem smv_add {RR : Nat → Int} {A S : Int64} (h : WIN S A) : ∀ k, k ≤ 64 → smv RR S k + smv RR (A &&& (S ^^^ (-1))) k = smv RR A k
  | 0, _ => rfl
  | k + 1, hk => by
    have ih := smv_add (RR := RR) h k (by omega)
    show smv RR S k + _ + (smv RR (A &&& (S ^^^ (-1))) k + _) = smv RR A k + _
    have e : bx (A &&& (S ^^^ (-1))) k = (bx A k && !bx S k) := by rw [bx_and, bx_not S (by omega)]
    rw [e]
    generalize smv RR (A &&& (S ^^^ (-1))) k = u1 at ih ⊢
    generalize smv RR S k = u2 at ih ⊢
    generalize smv RR A k = u3 at ih ⊢
    cases hs : bx S k
    · cases ha : bx A k
      · simp; omega
      · simp; omega
    · rw [h k hs]; simp; omega
/-- the trees with one more -/
def trn (F : TFR) (T : Nat) (g : GST) (RR : Nat → Int) (n w ru rl : Nat) : TFR := (g.1, va_up (tM F) T g.2.1, va_up (tS F) T (fun k => smv RR (g.2.2 k) n), va_up (tW F) T w, va_up (tU F) T ru, va_up (tL F) T rl)
theorem trn_feq {F : TFR} {T : Nat} {g : GST} {RR : Nat → Int} {n w ru rl : Nat} (h : OLD8 g.1 (tA F) (31 * T)) : FEQ F (trn F T g RR n w ru rl) T :=
  ⟨fun t ht => ⟨va_up_ne _ _ (by omega), va_up_ne _ _ (by omega), va_up_ne _ _ (by omega), va_up_ne _ _ (by omega), va_up_ne _ _ (by omega)⟩, h⟩
theorem lfs_lsm {F : TFR} {t : Nat} {rs : Nat → Int64} : ∀ {m : Nat}, (∀ k, k < m → nR F t k = cb (rs k)) → lfs F t m = lsm (tA F 0) rs (31 * t) m
  | 0, _ => rfl
  | m + 1, h => by
    show lfs F t m + _ = lsm (tA F 0) rs (31 * t) m + _
    rw [lfs_lsm (fun k hk => h k (by omega)), h m (by omega)]
theorem nR_trn {F : TFR} {T : Nat} {a : Nat → Nat → Int32} {m : Nat} {rs : Nat → Int64} {RR : Nat → Int} {n w ru rl k : Nat} (h : a 5 (31 * T + k) = nI (cb (rs k))) : nR (trn F T (a, m, rs) RR n w ru rl) T k = cb (rs k) := by
  show (a 5 (31 * T + k)).toNatClampNeg = _
  rw [h]
  exact nI_clamp (by have := cbn_le (rs k) 64; show cbn (rs k) 64 < _; omega)
theorem tok_new {F : TFR} {T : Nat} {best : Int64 → BST} {dpt : Nat} {AA : Int64} {a : Nat → Nat → Int32} {m : Nat} {rs : Nat → Int64} {RR : Nat → Int} {n w ru rl : Nat} (hk : ∀ t, t < T → TOK1 F t) (hT : T < 16) (hd4 : dpt ≤ 4) (hn : n ≤ 48) (hA : SUBn AA n) (hw : w ≤ 20) (hr : 0 < ru ∧ ru ≤ rl ∧ rl ≤ 16) (hRR : ∀ i, i < n → (RR i).natAbs ≤ 1000 * 2 ^ T * Ppf F T) (hm : m ≤ 31) (hO : OLD8 a (tA F) (31 * T)) (h : GIV best (31 * T) dpt AA a m rs []) : TOK1 (trn F T (a, m, rs) RR n w ru rl) T := by
  obtain ⟨g1, g2, g3, g4⟩ := h
  have hF := trn_feq (RR := RR) (n := n) (w := w) (ru := ru) (rl := rl) (g := (a, m, rs)) hO
  have hP : Ppf (trn F T (a, m, rs) RR n w ru rl) T = Ppf F T := Ppf_eq hF (fun t ht => (hk t ht).1.2.1) T (Nat.le_refl _)
  have e1 : tM (trn F T (a, m, rs) RR n w ru rl) T = m := va_up_self _ _ _
  have e2 : tS (trn F T (a, m, rs) RR n w ru rl) T = fun k => smv RR (rs k) n := va_up_self _ _ _
  have e3 : tW (trn F T (a, m, rs) RR n w ru rl) T = w := va_up_self _ _ _
  have e4 : tU (trn F T (a, m, rs) RR n w ru rl) T = ru := va_up_self _ _ _
  have e5 : tL (trn F T (a, m, rs) RR n w ru rl) T = rl := va_up_self _ _ _
  have hnR : ∀ k, k < m → nR (trn F T (a, m, rs) RR n w ru rl) T k = cb (rs k) := fun k hk => nR_trn (g1 k hk).2.2.1
  have hcb : ∀ k, k < m → cb (rs k) ≤ 48 := fun k hk => cb_n (fun r hr => hA r ((g1 k hk).2.2.2.2.1 r hr)) hn
  have g4' : 0 < m ∧ a 6 (31 * T) = nI 0 ∧ rs 0 = AA := by
    rcases g4 with ⟨_, _, _, e⟩ | q
    · exact absurd e (by simp)
    · exact q
  -- the sides
  have sides : ∀ k, k < m → ¬ a 0 (31 * T + k) = -1 → (∃ c, c < 6 ∧ a 0 (31 * T + k) = nI c) ∧ dg (a 6) (31 * T + k) < dpt ∧ (a 3 (31 * T + k) = nI (dg (a 3) (31 * T + k)) ∧ dg (a 3) (31 * T + k) < m ∧ dg (a 6) (31 * T + dg (a 3) (31 * T + k)) = dg (a 6) (31 * T + k) + 1 ∧ rs (dg (a 3) (31 * T + k)) = bsd best (rs k)) ∧ (a 4 (31 * T + k) = nI (dg (a 4) (31 * T + k)) ∧ dg (a 4) (31 * T + k) < m ∧ dg (a 6) (31 * T + dg (a 4) (31 * T + k)) = dg (a 6) (31 * T + k) + 1 ∧ rs (dg (a 4) (31 * T + k)) = rs k &&& (bsd best (rs k) ^^^ (-1))) ∧ WIN (bsd best (rs k)) (rs k) := by
    intro k hk hl
    obtain ⟨n1, n2, n3, n4, n5, n6⟩ := g1 k hk
    rcases n6 with q | ⟨c1, c2, _, c3, c4, c5⟩
    · exact absurd q hl
    · rcases c4 with ⟨l, l1, l2, l3, l4⟩ | ⟨it, i1, _⟩
      · rcases c5 with ⟨r, r1, r2, r3, r4⟩ | ⟨it, i1, _⟩
        · have dl : dg (a 3) (31 * T + k) = l := by show (a 3 (31 * T + k)).toNatClampNeg = l; rw [l2]; exact nI_clamp (by omega)
          have dr : dg (a 4) (31 * T + k) = r := by show (a 4 (31 * T + k)).toNatClampNeg = r; rw [r2]; exact nI_clamp (by omega)
          rw [dl, dr]
          exact ⟨c1, c2, ⟨l2, l1, l3, by rw [l4]; exact win_eq c3⟩, ⟨r2, r1, r3, r4⟩, c3⟩
        · exact absurd i1 (List.not_mem_nil)
      · exact absurd i1 (List.not_mem_nil)
  unfold TOK1
  rw [e1, e2, e3, e4, e5, hP]
  refine ⟨⟨g4'.1, hm, ?_, fun k hk => ⟨?_, ?_⟩⟩, hr, hw, ?_, fun k hk => ⟨⟨?_, ?_⟩, ⟨?_, ?_⟩, ?_, ?_⟩⟩
  · show (a 6 (31 * T + 0)).toNatClampNeg = 0
    rw [Nat.add_zero, g4'.2.1]; exact nI_clamp (by decide)
  · exact Nat.le_trans (g1 k hk).2.1 hd4
  · by_cases hl : a 0 (31 * T + k) = -1
    · exact Or.inl hl
    · obtain ⟨s1, s2, ⟨s3, s4, s5, _⟩, ⟨s6, s7, s8, _⟩, _⟩ := sides k hk hl
      exact Or.inr ⟨s1, by show dg (a 6) (31 * T + k) < 4; omega, s3, s6, s4, s7, s5, s8⟩
  · rw [lfs_lsm hnR]
    have g3 : lsm (a 0) rs (31 * T) m + 0 = cb AA := g3
    have := cb_n hA hn
    show lsm (a 0) rs (31 * T) m ≤ 48
    omega
  · rw [hnR k hk]; exact (g1 k hk).2.2.1
  · exact (g1 k hk).1
  · rw [hnR k hk]; exact (g1 k hk).2.2.2.1
  · rw [hnR k hk]; exact hcb k hk
  · rw [hnR k hk]
    have h1 := smv_cb (x := rs k) hRR n (Nat.le_refl _)
    have h2 := cbn_mono (rs k) (k := n) (64 - n)
    rw [show n + (64 - n) = 64 by omega] at h2
    exact Nat.le_trans h1 (Nat.mul_le_mul_right _ h2)
  · by_cases hl : a 0 (31 * T + k) = -1
    · exact Or.inl hl
    · obtain ⟨s1, s2, ⟨s3, s4, s5, s9⟩, ⟨s6, s7, s8, s10⟩, s11⟩ := sides k hk hl
      refine Or.inr ⟨?_, ?_⟩
      · show nR _ T k = nR _ T (dg (a 3) (31 * T + k)) + nR _ T (dg (a 4) (31 * T + k))
        rw [hnR k hk, hnR _ s4, hnR _ s7, s9, s10]
        exact (cb_add s11 64 (Nat.le_refl _)).symm
      · show smv RR (rs k) n = smv RR (rs (dg (a 3) (31 * T + k))) n + smv RR (rs (dg (a 4) (31 * T + k))) n
        rw [s9, s10]
        exact (smv_add s11 n (by omega)).symm
/-- one round: the tree that the search grows -/
def grw (F : TFR) (T : Nat) (RR : Nat → Int) (n w lst dpt wd : Nat) (vv eg ik : Nat → Int32) (ne : Nat → Nat) (chb : Int32) (AA : Int64) : GST := gall (fun x => colF RR n w lst vv eg ik ne chb x wd) ik (31 * T) dpt 32 (tA F, 0, fun _ => 0) [(AA, 0, -1, vp_nar .boolean 0)]
theorem tok_s {F : TFR} {T : Nat} {RR : Nat → Int} {n w lst dpt wd ru rl : Nat} {vv eg ik : Nat → Int32} {ne : Nat → Nat} {chb : Int32} {AA : Int64} (hv0 : vp_nar .boolean 0 = 0) (hv1 : vp_nar .boolean 1 = 1) (hv : ∀ x, vp_nar .boolean x = 0 ∨ vp_nar .boolean x = 1) (h : TOK F T) (hT : T < 16) (hd4 : dpt ≤ 4) (hn : n ≤ 48) (hA : SUBn AA n) (hA0 : 0 < cb AA) (hw : w ≤ 20) (hl : 1 ≤ lst) (hwd : wd ≤ 6) (hr : 0 < ru ∧ ru ≤ rl ∧ rl ≤ 16) (hRR : ∀ i, i < n → (RR i).natAbs ≤ 1000 * 2 ^ T * Ppf F T) :
    TOK (trn F T (grw F T RR n w lst dpt wd vv eg ik ne chb AA) RR n w ru rl) (T + 1) ∧ FEQ F (trn F T (grw F T RR n w lst dpt wd vv eg ik ne chb AA) RR n w ru rl) T ∧ GIV (fun x => colF RR n w lst vv eg ik ne chb x wd) (31 * T) dpt AA (grw F T RR n w lst dpt wd vv eg ik ne chb AA).1 (grw F T RR n w lst dpt wd vv eg ik ne chb AA).2.1 (grw F T RR n w lst dpt wd vv eg ik ne chb AA).2.2 [] := by
  have hB := hbs_col (RR := RR) (w := w) (lst := lst) (wd := wd) (vv := vv) (eg := eg) (ik := ik) (ne := ne) (chb := chb) hn hw hl hwd hA
  have g0 := giv_0 (best := fun x => colF RR n w lst vv eg ik ne chb x wd) (b0 := 31 * T) (dpt := dpt) (a := tA F) (rs := fun _ => 0) (lf := vp_nar .boolean 0) hA0
  have w0 := gws_0 (AA := AA) (lf := vp_nar .boolean 0) hd4
  obtain ⟨gv, gm⟩ := giv_all (ik := ik) (by omega) hd4 hv0 hv1 hB 32 _ _ _ _ g0 (by omega) (by omega)
  have ho : OLD8 (grw F T RR n w lst dpt wd vv eg ik ne chb AA).1 (tA F) (31 * T) := giv_ind (ik := ik) (by omega) hd4 hv0 hv1 hB (fun a => OLD8 a (tA F) (31 * T)) (fun a m rs x d ab lf st hg hm hi => gst_old (by omega) hm hg hi) 32 _ _ _ _ g0 (by omega) (fun _ _ => ⟨rfl, rfl, rfl, rfl, rfl, rfl, rfl, rfl⟩)
  have h2 : ∀ q, q < 496 → (grw F T RR n w lst dpt wd vv eg ik ne chb AA).1 2 q = 0 ∨ (grw F T RR n w lst dpt wd vv eg ik ne chb AA).1 2 q = 1 := giv_ind (ik := ik) (by omega) hd4 hv0 hv1 hB (fun a => ∀ q, q < 496 → a 2 q = 0 ∨ a 2 q = 1) (fun a m rs x d ab lf st hg hm hi => gst_2 hv hi) 32 _ _ _ _ g0 (by omega) h.1
  have hF := trn_feq (RR := RR) (n := n) (w := w) (ru := ru) (rl := rl) ho
  refine ⟨⟨h2, fun t ht => ?_⟩, hF, gv⟩
  rcases (show t < T ∨ t = T by omega) with q | q
  · exact tok1_eq hF q h.2
  · rw [q]
    exact tok_new h.2 hT hd4 hn hA hw hr hRR gm ho gv
