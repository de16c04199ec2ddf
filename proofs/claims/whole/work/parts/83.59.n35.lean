/-! What a grown tree is like. -/
theorem cb_add {A S : Int64} (h : WIN S A) : ∀ k, k ≤ 64 → cbn S k + cbn (A &&& (S ^^^ (-1))) k = cbn A k
  | 0, _ => rfl
  | k + 1, hk => by
    have ih := cb_add h k (by omega)
    show cbn S k + _ + (cbn (A &&& (S ^^^ (-1))) k + _) = cbn A k + _
    have e : bx (A &&& (S ^^^ (-1))) k = (bx A k && !bx S k) := by rw [bx_and, bx_not S (by omega)]
    rw [e]
    generalize cbn (A &&& (S ^^^ (-1))) k = u1 at ih ⊢
    generalize cbn S k = u2 at ih ⊢
    generalize cbn A k = u3 at ih ⊢
    cases hs : bx S k
    · cases ha : bx A k
      · simp; omega
      · simp; omega
    · rw [h k hs]; simp; omega
theorem gPar_0 {a : Nat → Nat → Int32} {m : Nat} {ab lf : Int32} : gPar a m ab lf 0 = a 0 ∧ gPar a m ab lf 1 = a 1 ∧ gPar a m ab lf 2 = a 2 ∧ gPar a m ab lf 5 = a 5 ∧ gPar a m ab lf 6 = a 6 ∧ gPar a m ab lf 7 = a 7 := by
  unfold gPar
  split
  · exact ⟨rfl, rfl, rfl, rfl, rfl, rfl⟩
  · split <;> exact ⟨rfl, rfl, rfl, rfl, rfl, rfl⟩
theorem gPar_3 {a : Nat → Nat → Int32} {m j : Nat} {ab lf : Int32} : gPar a m ab lf 3 j = if ¬ ab < 0 ∧ ¬ lf = 0 ∧ j = ab.toNatClampNeg then nI m else a 3 j := by
  unfold gPar
  by_cases h : ab < 0
  · rw [if_pos h, if_neg (fun q => q.1 h)]
  · rw [if_neg h]
    by_cases h2 : lf = 0
    · rw [if_pos h2, if_neg (fun q => q.2.1 h2)]; rfl
    · rw [if_neg h2]
      show upd (a 3) ab.toNatClampNeg (nI m) j = _
      by_cases h3 : j = ab.toNatClampNeg
      · rw [if_pos ⟨h, h2, h3⟩, h3]; exact pk_us
      · rw [if_neg (fun q => h3 q.2.2)]; exact pk_un h3
theorem gPar_4 {a : Nat → Nat → Int32} {m j : Nat} {ab lf : Int32} : gPar a m ab lf 4 j = if ¬ ab < 0 ∧ lf = 0 ∧ j = ab.toNatClampNeg then nI m else a 4 j := by
  unfold gPar
  by_cases h : ab < 0
  · rw [if_pos h, if_neg (fun q => q.1 h)]
  · rw [if_neg h]
    by_cases h2 : lf = 0
    · rw [if_pos h2]
      show upd (a 4) ab.toNatClampNeg (nI m) j = _
      by_cases h3 : j = ab.toNatClampNeg
      · rw [if_pos ⟨h, h2, h3⟩, h3]; exact pk_us
      · rw [if_neg (fun q => h3 q.2.2)]; exact pk_un h3
    · rw [if_neg h2, if_neg (fun q => h2 q.2.1)]; rfl
/-- the best split's left side of a node's rows -/
abbrev bsd (best : Int64 → BST) (x : Int64) : Int64 := (best x).2.2.2.2.2
/-- one side of node k: made already, or waiting -/
def SDN (a : Nat → Nat → Int32) (m : Nat) (rs : Nat → Int64) (st : List ITM) (b0 f k : Nat) (lf : Int32) (x : Int64) : Prop :=
  (∃ l, l < m ∧ a f (b0 + k) = nI l ∧ dg (a 6) (b0 + l) = dg (a 6) (b0 + k) + 1 ∧ rs l = x) ∨ (∃ it, it ∈ st ∧ it.1 = x ∧ it.2.1 = dg (a 6) (b0 + k) + 1 ∧ it.2.2.1 = nI (b0 + k) ∧ it.2.2.2 = lf)
def NOD (best : Int64 → BST) (b0 dpt : Nat) (AA : Int64) (a : Nat → Nat → Int32) (m : Nat) (rs : Nat → Int64) (st : List ITM) (k : Nat) : Prop :=
  a 6 (b0 + k) = nI (dg (a 6) (b0 + k)) ∧ dg (a 6) (b0 + k) ≤ dpt ∧ a 5 (b0 + k) = nI (cb (rs k)) ∧ 0 < cb (rs k) ∧ WIN (rs k) AA ∧
  (a 0 (b0 + k) = -1 ∨ ((∃ c, c < 6 ∧ a 0 (b0 + k) = nI c) ∧ dg (a 6) (b0 + k) < dpt ∧ ¬ (best (rs k)).1 ≤ 0 ∧ WIN (bsd best (rs k)) (rs k) ∧ SDN a m rs st b0 3 k 1 (rs k &&& bsd best (rs k)) ∧ SDN a m rs st b0 4 k 0 (rs k &&& (bsd best (rs k) ^^^ (-1)))))
def STI (best : Int64 → BST) (b0 dpt : Nat) (AA : Int64) (a : Nat → Nat → Int32) (m : Nat) (rs : Nat → Int64) (it : ITM) : Prop :=
  it.2.1 ≤ dpt ∧ 0 < cb it.1 ∧ WIN it.1 AA ∧ (it.2.2.1 < 0 ∨ ∃ k, k < m ∧ it.2.2.1 = nI (b0 + k) ∧ it.2.1 = dg (a 6) (b0 + k) + 1 ∧ (it.2.2.2 = 0 → it.1 = rs k &&& (bsd best (rs k) ^^^ (-1))) ∧ (¬ it.2.2.2 = 0 → it.1 = rs k &&& bsd best (rs k)))
/-- the rows of the leaves that are made, and of what waits -/
def lsm (nc : Nat → Int32) (rs : Nat → Int64) (b0 : Nat) : Nat → Nat
  | 0 => 0
  | k + 1 => lsm nc rs b0 k + if nc (b0 + k) = -1 then cb (rs k) else 0
def ssm : List ITM → Nat
  | [] => 0
  | it :: st => cb it.1 + ssm st
theorem lsm_cg {nc nc' : Nat → Int32} {rs rs' : Nat → Int64} {b0 : Nat} : ∀ {m : Nat}, (∀ k, k < m → nc' (b0 + k) = nc (b0 + k) ∧ rs' k = rs k) → lsm nc' rs' b0 m = lsm nc rs b0 m
  | 0, _ => rfl
  | m + 1, h => by
    show lsm nc' rs' b0 m + _ = lsm nc rs b0 m + _
    rw [lsm_cg (fun k hk => h k (by omega)), (h m (by omega)).1, (h m (by omega)).2]
def GIV (best : Int64 → BST) (b0 dpt : Nat) (AA : Int64) (a : Nat → Nat → Int32) (m : Nat) (rs : Nat → Int64) (st : List ITM) : Prop :=
  (∀ k, k < m → NOD best b0 dpt AA a m rs st k) ∧ (∀ it, it ∈ st → STI best b0 dpt AA a m rs it) ∧ lsm (a 0) rs b0 m + ssm st = cb AA ∧ ((m = 0 ∧ ∃ ab lf, st = [(AA, 0, ab, lf)]) ∨ (0 < m ∧ a 6 b0 = nI 0 ∧ rs 0 = AA))
/-- what the search gives for a set of rows -/
def HBS (best : Int64 → BST) (AA : Int64) : Prop := ∀ x, WIN x AA → 0 < cb x → ¬ (best x).1 ≤ 0 → (∃ c, c < 6 ∧ (best x).2.2.1 = nI c) ∧ WIN (bsd best x) x ∧ 0 < cb (bsd best x) ∧ 0 < cb (x &&& (bsd best x ^^^ (-1)))
theorem win_tr {x y z : Int64} (h1 : WIN x y) (h2 : WIN y z) : WIN x z := fun r h => h2 r (h1 r h)
/-- a node behind the others: its number goes to the node above; it is a leaf at first -/
theorem giv_b {best : Int64 → BST} {b0 dpt : Nat} {AA : Int64} {a : Nat → Nat → Int32} {m : Nat} {rs : Nat → Int64} {st : List ITM} {x : Int64} {d : Nat} {ab lf : Int32} {a' : Nat → Nat → Int32} {ch : List ITM} (hb0 : b0 + m < 2 ^ 30) (hd4 : dpt ≤ 4) (h : GIV best b0 dpt AA a m rs ((x, d, ab, lf) :: st))
    (h3 : ∀ k, k < m → a' 3 (b0 + k) = gPar a m ab lf 3 (b0 + k)) (h4 : ∀ k, k < m → a' 4 (b0 + k) = gPar a m ab lf 4 (b0 + k)) (hot : ∀ k, k < m → a' 0 (b0 + k) = a 0 (b0 + k) ∧ a' 5 (b0 + k) = a 5 (b0 + k) ∧ a' 6 (b0 + k) = a 6 (b0 + k)) (h6 : a' 6 (b0 + m) = nI d)
    (hnew : NOD best b0 dpt AA a' (m + 1) (va_up rs m x) (ch ++ st) m) (hch : ∀ it, it ∈ ch → STI best b0 dpt AA a' (m + 1) (va_up rs m x) it) (hsum : (if a' 0 (b0 + m) = -1 then cb x else 0) + ssm ch = cb x) (happ : ssm (ch ++ st) = ssm ch + ssm st) : GIV best b0 dpt AA a' (m + 1) (va_up rs m x) (ch ++ st) := by
  obtain ⟨g1, g2, g3, g4⟩ := h
  have it0 := g2 _ (List.mem_cons_self ..)
  have d6 : ∀ k, k < m → dg (a' 6) (b0 + k) = dg (a 6) (b0 + k) := fun k hk => dg_cg (hot k hk).2.2
  have d6m : dg (a' 6) (b0 + m) = d := by
    show (a' 6 (b0 + m)).toNatClampNeg = d
    rw [h6]
    exact nI_clamp (by have := it0.1; show d < 2 ^ 31; have h5 : d ≤ dpt := this; omega)
  have rsk : ∀ k, k < m → va_up rs m x k = rs k := fun k hk => va_up_ne _ _ (by omega)
  have clp : ∀ k, k < m → (nI (b0 + k)).toNatClampNeg = b0 + k := fun k hk => nI_clamp (by omega)
  have nneg : ∀ k, k < m → ¬ nI (b0 + k) < 0 := fun k hk q => by
    have := nI_toInt (n := b0 + k) (by omega)
    rw [Int32.lt_iff_toInt_lt, this] at q
    have e0 : (0 : Int32).toInt = 0 := by decide
    omega
  have sd : ∀ k, k < m → ∀ f l0 y, (f = 3 ∧ l0 = 1 ∨ f = 4 ∧ l0 = 0) → (f = 3 → y = rs k &&& bsd best (rs k)) → (f = 4 → y = rs k &&& (bsd best (rs k) ^^^ (-1))) → SDN a m rs ((x, d, ab, lf) :: st) b0 f k l0 y → SDN a' (m + 1) (va_up rs m x) (ch ++ st) b0 f k l0 y := by
    intro k hk f l0 y hf hy3 hy4 hs
    by_cases hq : ¬ ab < 0 ∧ b0 + k = ab.toNatClampNeg ∧ (f = 3 ∧ ¬ lf = 0 ∨ f = 4 ∧ lf = 0)
    · -- the new node is this side
      obtain ⟨q1, q2, q3⟩ := hq
      rcases it0.2.2.2 with r | ⟨k2, r1, r2, r3, r4, r5⟩
      · exact absurd r q1
      · have r2 : ab = nI (b0 + k2) := r2
        have ek : k2 = k := by rw [r2, clp k2 r1] at q2; omega
        subst ek
        refine Or.inl ⟨m, by omega, ?_, ?_, ?_⟩
        · rcases q3 with ⟨e, q⟩ | ⟨e, q⟩
          · rw [e, h3 k2 hk, gPar_3, if_pos ⟨q1, q, q2⟩]
          · rw [e, h4 k2 hk, gPar_4, if_pos ⟨q1, q, q2⟩]
        · rw [d6m, d6 k2 hk]; exact r3
        · rw [va_up_self]
          rcases q3 with ⟨e, q⟩ | ⟨e, q⟩
          · rw [hy3 e]; exact r5 q
          · rw [hy4 e]; exact r4 q
    · have ef : a' f (b0 + k) = a f (b0 + k) := by
        rcases hf with ⟨e, _⟩ | ⟨e, _⟩
        · subst e; rw [h3 k hk, gPar_3, if_neg (fun q => hq ⟨q.1, q.2.2, Or.inl ⟨rfl, q.2.1⟩⟩)]
        · subst e; rw [h4 k hk, gPar_4, if_neg (fun q => hq ⟨q.1, q.2.2, Or.inr ⟨rfl, q.2.1⟩⟩)]
      rcases hs with ⟨l, s1, s2, s3, s4⟩ | ⟨it, s1, s2, s3, s4, s5⟩
      · exact Or.inl ⟨l, by omega, by rw [ef]; exact s2, by rw [d6 l s1, d6 k hk]; exact s3, by rw [rsk l s1]; exact s4⟩
      · rcases List.mem_cons.mp s1 with e | e
        · exfalso
          subst e
          have s4 : ab = nI (b0 + k) := s4
          have s5 : lf = l0 := s5
          refine hq ⟨by rw [s4]; exact nneg k hk, by rw [s4, clp k hk], ?_⟩
          rcases hf with ⟨e, e2⟩ | ⟨e, e2⟩
          · exact Or.inl ⟨e, by rw [s5, e2]; decide⟩
          · exact Or.inr ⟨e, by rw [s5, e2]⟩
        · exact Or.inr ⟨it, List.mem_append_right _ e, s2, by rw [d6 k hk]; exact s3, s4, s5⟩
  refine ⟨fun k hk => ?_, fun it hi => ?_, ?_, Or.inr ⟨by omega, ?_⟩⟩
  · rcases (show k = m ∨ k < m by omega) with e | e
    · rw [e]; exact hnew
    · obtain ⟨n1, n2, n3, n4, n5, n6⟩ := g1 k e
      obtain ⟨o1, o2, o3⟩ := hot k e
      unfold NOD
      rw [rsk k e, d6 k e, o1, o2, o3]
      refine ⟨n1, n2, n3, n4, n5, n6.imp id (fun ⟨c1, c2, c0, c3, c5, c6⟩ => ⟨c1, c2, c0, c3, ?_, ?_⟩)⟩
      · exact sd k e 3 1 _ (Or.inl ⟨rfl, rfl⟩) (fun _ => rfl) (fun q => absurd q (by decide)) c5
      · exact sd k e 4 0 _ (Or.inr ⟨rfl, rfl⟩) (fun q => absurd q (by decide)) (fun _ => rfl) c6
  · rcases List.mem_append.mp hi with e | e
    · exact hch it e
    · obtain ⟨s1, s2, s3, s4⟩ := g2 it (List.mem_cons_of_mem _ e)
      exact ⟨s1, s2, s3, s4.imp id (fun ⟨k, r1, r2, r3, r4, r5⟩ => ⟨k, by omega, r2, by rw [d6 k r1]; exact r3, by rw [rsk k r1]; exact r4, by rw [rsk k r1]; exact r5⟩)⟩
  · show lsm (a' 0) (va_up rs m x) b0 m + _ + _ = _
    rw [lsm_cg (fun k hk => ⟨(hot k hk).1, rsk k hk⟩), va_up_self, happ]
    have g3 : lsm (a 0) rs b0 m + (cb x + ssm st) = cb AA := g3
    omega
  · rcases g4 with ⟨e, ab', lf', e2⟩ | ⟨p, q1, q2⟩
    · subst e
      obtain ⟨e3, _⟩ := List.cons.inj e2
      have ex : x = AA := congrArg (fun z : ITM => z.1) e3
      have ed : d = 0 := congrArg (fun z : ITM => z.2.1) e3
      exact ⟨by rw [Nat.add_zero, ed] at h6; exact h6, by rw [va_up_self]; exact ex⟩
    · exact ⟨by have := (hot 0 p).2.2; rw [Nat.add_zero] at this; rw [this]; exact q1, by rw [rsk 0 p]; exact q2⟩
theorem ssm_app : ∀ s t, ssm (s ++ t) = ssm s + ssm t
  | [], t => by show ssm t = 0 + ssm t; omega
  | it :: s, t => by show cb it.1 + ssm (s ++ t) = cb it.1 + ssm s + ssm t; rw [ssm_app s t]; omega
theorem giv_s {best : Int64 → BST} {ik : Nat → Int32} {b0 dpt : Nat} {AA : Int64} {a : Nat → Nat → Int32} {m : Nat} {rs : Nat → Int64} {st : List ITM} {x : Int64} {d : Nat} {ab lf : Int32} (hb0 : b0 + m + 1 < 2 ^ 30) (hd4 : dpt ≤ 4) (hv0 : vp_nar .boolean 0 = 0) (hv1 : vp_nar .boolean 1 = 1) (hB : HBS best AA) (h : GIV best b0 dpt AA a m rs ((x, d, ab, lf) :: st)) :
    GIV best b0 dpt AA (gst best ik b0 dpt (a, m, rs) (x, d, ab, lf)).1.1 (m + 1) (va_up rs m x) ((gst best ik b0 dpt (a, m, rs) (x, d, ab, lf)).2 ++ st) := by
  have it0 := h.2.1 _ (List.mem_cons_self ..)
  obtain ⟨i1, i2, i3, i4⟩ := it0
  have i1 : d ≤ dpt := i1
  obtain ⟨p0, p1, p2, p5, p6, p7⟩ := gPar_0 (a := a) (m := m) (ab := ab) (lf := lf)
  have dnew : ∀ {g : Nat → Int32}, g (b0 + m) = nI d → dg g (b0 + m) = d := fun {g} hg => by
    show (g (b0 + m)).toNatClampNeg = d
    rw [hg]; exact nI_clamp (by omega)
  by_cases q : d = dpt ∨ (best x).1 ≤ 0
  · rw [gst_l q]
    have e6 : (gBeg (gPar a m ab lf) (b0 + m) x d) 6 (b0 + m) = nI d := pk_us
    refine giv_b (by omega) hd4 h (fun k hk => pk_un (by omega)) (fun k hk => pk_un (by omega)) (fun k hk => ⟨?_, ?_, ?_⟩) e6 ?_ (fun it hi => absurd hi (List.not_mem_nil)) ?_ (ssm_app _ _)
    · exact (pk_un (by omega)).trans (by rw [p0])
    · exact (pk_un (by omega)).trans (by rw [p5])
    · exact (pk_un (by omega)).trans (by rw [p6])
    · refine ⟨by rw [dnew e6]; exact e6, by rw [dnew e6]; exact i1, by rw [va_up_self]; exact pk_us, by rw [va_up_self]; exact i2, by rw [va_up_self]; exact i3, Or.inl pk_us⟩
    · rw [if_pos (show (gBeg (gPar a m ab lf) (b0 + m) x d) 0 (b0 + m) = -1 from pk_us)]; rfl
  · rw [gst_s q]
    have hq2 : ¬ (best x).1 ≤ 0 := fun r => q (Or.inr r)
    have hq1 : d < dpt := by rcases Nat.lt_or_ge d dpt with r | r; exact r; exact absurd (Or.inl (by omega)) q
    obtain ⟨⟨c, hc, hcc⟩, b2, b3, b4⟩ := hB x i3 i2 hq2
    have hxl : x &&& bsd best x = bsd best x := win_eq b2
    have e6 : (gSpl (gBeg (gPar a m ab lf) (b0 + m) x d) (b0 + m) (best x) (ik (best x).2.2.1.toNatClampNeg)) 6 (b0 + m) = nI d := pk_us
    have e0 : (gSpl (gBeg (gPar a m ab lf) (b0 + m) x d) (b0 + m) (best x) (ik (best x).2.2.1.toNatClampNeg)) 0 (b0 + m) = nI c := by
      have r : (gSpl (gBeg (gPar a m ab lf) (b0 + m) x d) (b0 + m) (best x) (ik (best x).2.2.1.toNatClampNeg)) 0 (b0 + m) = (best x).2.2.1 := pk_us
      rw [r, hcc]
    have hadd : cb (bsd best x) + cb (x &&& (bsd best x ^^^ (-1))) = cb x := cb_add b2 64 (Nat.le_refl _)
    rw [hv0, hv1]
    have hst : ∀ it, it ∈ [(x &&& bsd best x, d + 1, nI (b0 + m), (1 : Int32)), (x &&& (bsd best x ^^^ (-1)), d + 1, nI (b0 + m), (0 : Int32))] → STI best b0 dpt AA (gSpl (gBeg (gPar a m ab lf) (b0 + m) x d) (b0 + m) (best x) (ik (best x).2.2.1.toNatClampNeg)) (m + 1) (va_up rs m x) it := by
      intro it hi
      rcases List.mem_cons.mp hi with e | e
      · subst e
        refine ⟨by show d + 1 ≤ dpt; omega, by show 0 < cb (x &&& bsd best x); rw [hxl]; exact b3, win_andl i3, Or.inr ⟨m, by omega, rfl, by rw [dnew e6], fun r => absurd (show (1 : Int32) = 0 from r) (by decide), fun _ => by rw [va_up_self]⟩⟩
      · rcases List.mem_cons.mp e with e | e
        · subst e
          refine ⟨by show d + 1 ≤ dpt; omega, b4, win_andl i3, Or.inr ⟨m, by omega, rfl, by rw [dnew e6], fun _ => by rw [va_up_self], fun r => absurd rfl r⟩⟩
        · exact absurd e (List.not_mem_nil)
    refine giv_b (by omega) hd4 h (fun k hk => pk_un (by omega)) (fun k hk => pk_un (by omega)) (fun k hk => ⟨?_, ?_, ?_⟩) e6 ?_ hst ?_ (ssm_app _ _)
    · exact (pk_un (by omega)).trans ((pk_un (by omega)).trans (by rw [p0]))
    · exact (pk_un (by omega)).trans (by rw [p5])
    · exact (pk_un (by omega)).trans (by rw [p6])
    · refine ⟨by rw [dnew e6]; exact e6, by rw [dnew e6]; exact i1, by rw [va_up_self]; exact pk_us, by rw [va_up_self]; exact i2, by rw [va_up_self]; exact i3, Or.inr ⟨⟨c, hc, e0⟩, by rw [dnew e6]; exact hq1, by rw [va_up_self]; exact hq2, by rw [va_up_self]; exact b2, Or.inr ⟨_, List.mem_append_left _ (List.mem_cons_self ..), by rw [va_up_self], by rw [dnew e6], rfl, rfl⟩, Or.inr ⟨_, List.mem_append_left _ (List.mem_cons_of_mem _ (List.mem_cons_self ..)), by rw [va_up_self], by rw [dnew e6], rfl, rfl⟩⟩⟩
    · rw [if_neg (show ¬ (gSpl (gBeg (gPar a m ab lf) (b0 + m) x d) (b0 + m) (best x) (ik (best x).2.2.1.toNatClampNeg)) 0 (b0 + m) = -1 by rw [e0]; exact nI_nm1 (by omega))]
      show 0 + (cb (x &&& bsd best x) + (cb (x &&& (bsd best x ^^^ (-1))) + 0)) = cb x
      rw [hxl]
      omega
theorem gst_m {best : Int64 → BST} {ik : Nat → Int32} {b0 dpt : Nat} {a : Nat → Nat → Int32} {m : Nat} {rs : Nat → Int64} {it : ITM} : (gst best ik b0 dpt (a, m, rs) it).1.2 = (m + 1, va_up rs m it.1) := by
  obtain ⟨x, d, ab, lf⟩ := it
  by_cases q : d = dpt ∨ (best x).1 ≤ 0
  · rw [gst_l q]
  · rw [gst_s q]
theorem gst_w {best : Int64 → BST} {ik : Nat → Int32} {b0 dpt : Nat} {a : Nat → Nat → Int32} {m : Nat} {rs : Nat → Int64} {x : Int64} {d : Nat} {ab lf : Int32} {st : List ITM} (hd : d ≤ dpt) : gws dpt ((gst best ik b0 dpt (a, m, rs) (x, d, ab, lf)).2 ++ st) + 1 ≤ gws dpt ((x, d, ab, lf) :: st) := by
  have hp := Nat.pow_le_pow_right (show 0 < 2 by decide) (show 1 ≤ dpt - d + 1 by omega)
  by_cases q : d = dpt ∨ (best x).1 ≤ 0
  · rw [gst_l q]
    show gws dpt st + 1 ≤ (2 ^ (dpt - d + 1) - 1) + gws dpt st
    omega
  · rw [gst_s q]
    show (2 ^ (dpt - (d + 1) + 1) - 1) + ((2 ^ (dpt - (d + 1) + 1) - 1) + gws dpt st) + 1 ≤ (2 ^ (dpt - d + 1) - 1) + gws dpt st
    have hq1 : d < dpt := by rcases Nat.lt_or_ge d dpt with r | r; exact r; exact absurd (Or.inl (by omega)) q
    have := gws_2 hq1
    omega
theorem giv_all {best : Int64 → BST} {ik : Nat → Int32} {b0 dpt : Nat} {AA : Int64} (hb0 : b0 + 31 < 2 ^ 30) (hd4 : dpt ≤ 4) (hv0 : vp_nar .boolean 0 = 0) (hv1 : vp_nar .boolean 1 = 1) (hB : HBS best AA) : ∀ f a m rs st, GIV best b0 dpt AA a m rs st → gws dpt st ≤ f → m + gws dpt st ≤ 31 →
    GIV best b0 dpt AA (gall best ik b0 dpt f (a, m, rs) st).1 (gall best ik b0 dpt f (a, m, rs) st).2.1 (gall best ik b0 dpt f (a, m, rs) st).2.2 [] ∧ (gall best ik b0 dpt f (a, m, rs) st).2.1 ≤ 31
  | 0, a, m, rs, [], h, _, hm => ⟨h, by show m ≤ 31; omega⟩
  | 0, a, m, rs, it :: st, h, hf, _ => by
    exfalso
    have h1 := (h.2.1 _ (List.mem_cons_self ..)).1
    have hp := Nat.pow_le_pow_right (show 0 < 2 by decide) (show 1 ≤ dpt - it.2.1 + 1 by omega)
    have hf : (2 ^ (dpt - it.2.1 + 1) - 1) + gws dpt st ≤ 0 := hf
    omega
  | f + 1, a, m, rs, [], h, _, hm => ⟨h, by show m ≤ 31; omega⟩
  | f + 1, a, m, rs, (x, d, ab, lf) :: st, h, hf, hm => by
    have h1 : d ≤ dpt := (h.2.1 _ (List.mem_cons_self ..)).1
    have hw := gst_w (best := best) (ik := ik) (b0 := b0) (a := a) (m := m) (rs := rs) (x := x) (ab := ab) (lf := lf) (st := st) h1
    have hs := giv_s (ik := ik) (by omega) hd4 hv0 hv1 hB h
    have hg := gst_m (best := best) (ik := ik) (b0 := b0) (dpt := dpt) (a := a) (m := m) (rs := rs) (it := (x, d, ab, lf))
    have ih := giv_all (ik := ik) hb0 hd4 hv0 hv1 hB f (gst best ik b0 dpt (a, m, rs) (x, d, ab, lf)).1.1 (m + 1) (va_up rs m x) ((gst best ik b0 dpt (a, m, rs) (x, d, ab, lf)).2 ++ st) hs (by omega) (by omega)
    have e : (gst best ik b0 dpt (a, m, rs) (x, d, ab, lf)).1 = ((gst best ik b0 dpt (a, m, rs) (x, d, ab, lf)).1.1, m + 1, va_up rs m x) := Prod.ext rfl hg
    show GIV best b0 dpt AA (gall best ik b0 dpt f (gst best ik b0 dpt (a, m, rs) (x, d, ab, lf)).1 _).1 (gall best ik b0 dpt f (gst best ik b0 dpt (a, m, rs) (x, d, ab, lf)).1 _).2.1 (gall best ik b0 dpt f (gst best ik b0 dpt (a, m, rs) (x, d, ab, lf)).1 _).2.2 [] ∧ (gall best ik b0 dpt f (gst best ik b0 dpt (a, m, rs) (x, d, ab, lf)).1 _).2.1 ≤ 31
    rw [e]
    exact ih
