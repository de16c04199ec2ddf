/-! The class's grow: what it needs, what it leaves. -/
def MLb (b : BST) : Prop := b.2.2.2.2.1 = 0 ∨ b.2.2.2.2.1 = 1
theorem wgh_ml {zr : Nat → Int} {n w lst : Nat} {A S : Int64} {b : BST} {cc ee ml : Int32} (hm : ml = 0 ∨ ml = 1) (hb : MLb b) : MLb (wgh zr n w lst A b S cc ee ml) := by
  unfold wgh
  split
  · exact hb
  · split
    · exact hm
    · exact hb
theorem lks_ml {zr : Nat → Int} {n w lst : Nat} {A M S : Int64} {b : BST} {cc ee : Int32} (hb : MLb b) : MLb (lks zr n w lst A M b S cc ee) := by
  unfold lks
  have h1 := wgh_ml (zr := zr) (n := n) (w := w) (lst := lst) (A := A) (S := S ||| M) (cc := cc) (ee := ee) (ml := 1) (Or.inr rfl) hb
  split
  · exact h1
  · exact wgh_ml (Or.inl rfl) h1
theorem lkk_ml {zr : Nat → Int} {n w lst : Nat} {vv : Nat → Int32} {c : Nat} {A M : Int64} : ∀ f bits side b, MLb b → MLb (lkk zr n w lst vv c A M f bits side b)
  | 0, _, _, _, hb => hb
  | f + 1, bits, side, b, hb => by
    show MLb (if _ then _ else _)
    split
    · exact hb
    · refine lkk_ml f _ _ _ ?_
      split
      · exact hb
      · exact lks_ml hb
theorem lkE_ml {zr : Nat → Int} {n w lst : Nat} {vv eg : Nat → Int32} {c : Nat} {A M : Int64} {b : BST} (hb : MLb b) : ∀ k, MLb (lkE zr n w lst vv eg c A M b k)
  | 0 => hb
  | k + 1 => lks_ml (lkE_ml hb k)
theorem colF_ml {zr : Nat → Int} {n w lst : Nat} {vv eg ik : Nat → Int32} {ne : Nat → Nat} {chb : Int32} {A : Int64} : ∀ c, MLb (colF zr n w lst vv eg ik ne chb A c)
  | 0 => Or.inl rfl
  | c + 1 => by
    have ih := colF_ml (zr := zr) (n := n) (w := w) (lst := lst) (vv := vv) (eg := eg) (ik := ik) (ne := ne) (chb := chb) (A := A) c
    show MLb (colS _ _ _ _ _ _ _ _ _ _ _ _)
    unfold colS
    split
    · split
      · exact lkE_ml ih _
      · exact lkk_ml _ _ _ _ ih
    · exact ih
/-- the split that the class has found is the search's -/
theorem spl_use {nw : Nat} {s : Int} {b : CST} {r : BST} {bc bm bo bl : Int32} {br : Int64} {bu : Int32} {zb : Int} {ik : Nat → Int32} (h : SRL nw s b r) (hs : SPF bc bm bo bl br bu zb ik b) (h0 : 0 < r.1) : r.2.2.1 = bc ∧ r.2.2.2.1 = bm ∧ r.2.2.2.2.1 = bl ∧ r.2.2.2.2.2 = br ∧ bo = ik r.2.2.1.toNatClampNeg ∧ ∃ c, c < 6 ∧ bc = nI c := by
  rcases h with ⟨_, e⟩ | ⟨e1, _, ⟨_, e⟩ | ⟨_, e⟩⟩
  · rw [e] at h0; exact absurd h0 (by decide)
  · rw [e] at h0; exact absurd h0 (by decide)
  · rcases hs with ⟨q, _⟩ | ⟨_, _, _, _, _, q1, q2, q3, q4, c, hc, q5, q6⟩
    · rw [q] at e1; exact absurd e1 (by decide)
    · refine ⟨by rw [e]; exact q1, by rw [e]; exact q2, by rw [e]; exact q3, by rw [e]; exact q4, ?_, c, hc, q5⟩
      have e2 : r.2.2.1 = nI c := by rw [e]; exact q1.trans q5
      rw [e2, nI_clamp (by omega)]
      exact q6
def GRB (cT : Nat → ClassId) (ad : Nat → Nat) (g : Nat → Option va_E) (n : Nat) (zs : Nat → Int) (XB : Nat) (vv vq eg ik : Nat → Int32) (ne : Nat → Nat) (dpt lst w : Nat) (pu pq9 : Int32) (psb : Int64) (pcb : Int32) (wd : Nat) : Prop :=
  g 1 = some (eTB ad (nI wd) (nI n)) ∧ RSp cT ad g n zs ∧ CAp cT ad g ∧ COLF cT ad g n vv vq eg ik ne ∧ g 4 = some (ePL (nI dpt) (nI lst) (nI w) pu pq9 psb pcb) ∧ GAp cT ad g ∧ SCG cT ad g ∧ (∀ j, j < 15 → ∃ (r : Int64) (z : Int), GPp cT ad g j r z) ∧ (∃ fo : Nat → Int32, g 8 = some (eA (cT 0) 12 fo)) ∧ ∃ (b9 t9 : Nat) (cs : CST) (ik0 : Nat → Int32), g 6 = some (eGR ad b9 t9) ∧ BTK b9 t9 ∧ SPL cT ad g b9 t9 ik0 cs (48 * XB)
theorem GRB.cg {cT : Nat → ClassId} {ad ad2 : Nat → Nat} {g g2 : Nat → Option va_E} {n : Nat} {zs : Nat → Int} {XB : Nat} {vv vq eg ik : Nat → Int32} {ne : Nat → Nat} {dpt lst w : Nat} {pu pq9 : Int32} {psb : Int64} {pcb : Int32} {wd : Nat} (h : GRB cT ad g n zs XB vv vq eg ik ne dpt lst w pu pq9 psb pcb wd) (ha : ∀ x, x ≠ 40 → x < 1000 → ad2 x = ad x) (hg : ∀ x, x < 260 → x ≠ 0 → x ≠ 9 → x ≠ 40 → g2 x = g x) : GRB cT ad2 g2 n zs XB vv vq eg ik ne dpt lst w pu pq9 psb pcb wd := by
  obtain ⟨h1, h2, h3, h4, h5, h6, h7, h8, ⟨fo, h9⟩, b9, t9, cs, ik0, i1, i2, i3⟩ := h
  refine ⟨by rw [eTB_ca ha]; exact (hg _ (by omega) (by omega) (by omega) (by omega)).trans h1, (h2.cg (hg _ (by omega) (by omega) (by omega) (by omega)) (fun x x1 x2 => hg x (by omega) (by omega) (by omega) (by omega))).ca (fun x x1 x2 => ha x (by omega) (by omega)), (h3.cg (hg _ (by omega) (by omega) (by omega) (by omega))).ca (fun x x1 => ha x (by omega) (by omega)), (h4.cg (fun x x1 x2 => hg x (by omega) (by omega) (by omega) (by omega))).ca (fun x x1 => ha x (by omega) (by omega)), (hg _ (by omega) (by omega) (by omega) (by omega)).trans h5, ?_, (h7.cg (fun x x1 x2 => hg x (by omega) (by omega) (by omega) (by omega))).ca (fun x x1 x2 => ha x (by omega) (by omega)), fun j hj => ?_, ⟨fo, (hg _ (by omega) (by omega) (by omega) (by omega)).trans h9⟩, b9, t9, cs, ik0, by rw [eGR_ca i2 ha]; exact (hg _ (by omega) (by omega) (by omega) (by omega)).trans i1, i2, (i3.cg i2 (fun x x1 x2 => hg x (by omega) (by omega) (by omega) (by omega))).ca i2 (fun x x1 x2 => ha x (by omega) (by omega))⟩
  · obtain ⟨qf, e1, e2⟩ := h6
    exact GAp.ca ⟨qf, (hg _ (by omega) (by omega) (by omega) (by omega)).trans e1, e2⟩ (fun x x1 x2 => ha x (by omega) (by omega))
  · obtain ⟨r, z, e⟩ := h8 j hj
    exact ⟨r, z, (e.cg (hg _ (by omega) (by omega) (by omega) (by omega)) (hg _ (by omega) (by omega) (by omega) (by omega)) (hg _ (by omega) (by omega) (by omega) (by omega))).ca (ha _ (by omega) (by omega)) (ha _ (by omega) (by omega))⟩
/-- the nodes from lo to hi, as G has them -/
def NDS (cT : Nat → ClassId) (ad : Nat → Nat) (g : Nat → Option va_E) (G : GST) (t : Nat) (zs : Nat → Int) (n lo hi : Nat) : Prop := ∀ j, lo ≤ j → j < hi → NDp ad g G.1 t j ∧ WHO cT ad g (3000 + 32 * t + j) (4000 + 32 * t + j) 24 (smv zs (G.2.2 j) n)
theorem NDp.cg {ad ad2 : Nat → Nat} {g g2 : Nat → Option va_E} {a a2 : Nat → Nat → Int32} {t j : Nat} (h : NDp ad g a t j) (hg : g2 (2000 + 32 * t + j) = g (2000 + 32 * t + j)) (ha : ad2 (3000 + 32 * t + j) = ad (3000 + 32 * t + j)) (he : ∀ f, f < 8 → a2 f (31 * t + j) = a f (31 * t + j)) : NDp ad2 g2 a2 t j := by
  unfold NDp
  rw [ha, he 0 (by decide), he 1 (by decide), he 2 (by decide), he 3 (by decide), he 4 (by decide), he 5 (by decide), he 6 (by decide), he 7 (by decide), hg]
  exact h
theorem NDS.cg {cT : Nat → ClassId} {ad ad2 : Nat → Nat} {g g2 : Nat → Option va_E} {G G2 : GST} {t : Nat} {zs : Nat → Int} {n lo hi : Nat} (h : NDS cT ad g G t zs n lo hi) (hg : ∀ j, lo ≤ j → j < hi → g2 (2000 + 32 * t + j) = g (2000 + 32 * t + j) ∧ g2 (3000 + 32 * t + j) = g (3000 + 32 * t + j) ∧ g2 (4000 + 32 * t + j) = g (4000 + 32 * t + j) ∧ ad2 (3000 + 32 * t + j) = ad (3000 + 32 * t + j) ∧ ad2 (4000 + 32 * t + j) = ad (4000 + 32 * t + j)) (he : ∀ f j, f < 8 → lo ≤ j → j < hi → G2.1 f (31 * t + j) = G.1 f (31 * t + j)) (hr : ∀ j, lo ≤ j → j < hi → G2.2.2 j = G.2.2 j) : NDS cT ad2 g2 G2 t zs n lo hi := fun j h1 h2 => by
  obtain ⟨e1, e2, e3, e4, e5⟩ := hg j h1 h2
  obtain ⟨d1, d2⟩ := h j h1 h2
  refine ⟨d1.cg e1 e4 (fun f hf => he f j hf h1 h2), ?_⟩
  rw [hr j h1 h2]
  exact (d2.cg e2 e3).ca e5
theorem NDS.app {cT : Nat → ClassId} {ad : Nat → Nat} {g : Nat → Option va_E} {G : GST} {t : Nat} {zs : Nat → Int} {n lo mi hi : Nat} (h1 : NDS cT ad g G t zs n lo mi) (h2 : NDS cT ad g G t zs n mi hi) : NDS cT ad g G t zs n lo hi := fun j a b => by
  rcases Nat.lt_or_ge j mi with q | q
  · exact h1 j a q
  · exact h2 j q b
theorem nds_leaf {cT : Nat → ClassId} {ad : Nat → Nat} {g : Nat → Option va_E} {a : Nat → Nat → Int32} {rs : Nat → Int64} {t k d : Nat} {x : Int64} {zs : Nat → Int} {n : Nat} (h1 : g (2000 + 32 * t + k) = some (eND (-1) 0 0 0 (-1) (-1) (nI (cb x)) (nI d) (ad (3000 + 32 * t + k)))) (h2 : WHO cT ad g (3000 + 32 * t + k) (4000 + 32 * t + k) 24 (smv zs x n)) : NDS cT ad g (cgL (31 * t) (a, k, rs) x d) t zs n k (k + 1) := fun j a1 a2 => by
  have e : j = k := by omega
  rw [e]
  refine ⟨?_, by show WHO cT ad g _ _ 24 (smv zs (va_up rs k x k) n); rw [va_up_self]; exact h2⟩
  unfold NDp
  show g _ = some (eND (upd (a 0) (31 * t + k) (-1) (31 * t + k)) (upd (a 1) (31 * t + k) 0 (31 * t + k)) (upd (a 7) (31 * t + k) (vp_nar .boolean 0) (31 * t + k)) (upd (a 2) (31 * t + k) (vp_nar .boolean 0) (31 * t + k)) (upd (a 3) (31 * t + k) (-1) (31 * t + k)) (upd (a 4) (31 * t + k) (-1) (31 * t + k)) (upd (a 5) (31 * t + k) (nI (cb x)) (31 * t + k)) (upd (a 6) (31 * t + k) (nI d) (31 * t + k)) _)
  rw [pk_us, pk_us, pk_us, pk_us, pk_us, pk_us, pk_us, pk_us]
  exact h1
/-- a split: its left side, its right side -/
theorem cgw_sp {best : Int64 → BST} {ik : Nat → Int32} {b0 dpt h : Nat} {a : Nat → Nat → Int32} {k : Nat} {rs : Nat → Int64} {x xl xr : Int64} {d : Nat} (hb : b0 + k + 2 ^ (h + 1 + 1) < 2 ^ 30) (q : ¬ (d = dpt ∨ (best x).1 ≤ 0)) (hl : x &&& (best x).2.2.2.2.2 = xl) (hr : x &&& ((best x).2.2.2.2.2 ^^^ (-1)) = xr) :
    ∃ (GL GR : GST) (n1 n2 : Nat), cgw best ik b0 dpt h (gPar (gSpl (gBeg a (b0 + k) x d) (b0 + k) (best x) (ik (best x).2.2.1.toNatClampNeg)) (k + 1) (nI (b0 + k)) (vp_nar .boolean 1), k + 1, va_up rs k x) xl (d + 1) = GL ∧ cgw best ik b0 dpt h (gPar GL.1 GL.2.1 (nI (b0 + k)) (vp_nar .boolean 0), GL.2.1, GL.2.2) xr (d + 1) = GR ∧ cgw best ik b0 dpt (h + 1) (a, k, rs) x d = GR ∧ GL.2.1 = k + 1 + n1 ∧ 1 ≤ n1 ∧ n1 ≤ 2 ^ (h + 1) - 1 ∧ GR.2.1 = GL.2.1 + n2 ∧ 1 ≤ n2 ∧ n2 ≤ 2 ^ (h + 1) - 1 ∧
      (GR.1 0 (b0 + k) = (best x).2.2.1 ∧ GR.1 1 (b0 + k) = (best x).2.2.2.1 ∧ GR.1 2 (b0 + k) = vp_nar .boolean (best x).2.2.2.2.1 ∧ GR.1 3 (b0 + k) = nI (k + 1) ∧ GR.1 4 (b0 + k) = nI GL.2.1 ∧ GR.1 5 (b0 + k) = nI (cb x) ∧ GR.1 6 (b0 + k) = nI d ∧ GR.1 7 (b0 + k) = vp_nar .boolean (ik (best x).2.2.1.toNatClampNeg)) ∧ GR.2.2 k = x ∧
      (∀ f j, f < 8 → k + 1 ≤ j → j < GL.2.1 → GR.1 f (b0 + j) = GL.1 f (b0 + j)) ∧ ∀ j, j < GL.2.1 → GR.2.2 j = GL.2.2 j := by
  have p2 : 2 ^ (h + 1 + 1) = 2 * 2 ^ (h + 1) := by rw [Nat.pow_succ]; omega
  have pp : 1 ≤ 2 ^ (h + 1) := Nat.pow_pos (by decide)
  have e : cgw best ik b0 dpt (h + 1) (a, k, rs) x d = _ := if_neg q
  rw [e, hl, hr]
  obtain ⟨n1, a1, a2, a3⟩ := cgw_n (best := best) (ik := ik) (b0 := b0) (dpt := dpt) h (gPar (gSpl (gBeg a (b0 + k) x d) (b0 + k) (best x) (ik (best x).2.2.1.toNatClampNeg)) (k + 1) (nI (b0 + k)) (vp_nar .boolean 1), k + 1, va_up rs k x) xl (d + 1)
  have l1 := cgw_lo (best := best) (ik := ik) (b0 := b0) (dpt := dpt) h (gPar (gSpl (gBeg a (b0 + k) x d) (b0 + k) (best x) (ik (best x).2.2.1.toNatClampNeg)) (k + 1) (nI (b0 + k)) (vp_nar .boolean 1), k + 1, va_up rs k x) xl (d + 1) (by show b0 + (k + 1) + _ < _; omega)
  obtain ⟨GL, hGL⟩ : ∃ G, cgw best ik b0 dpt h (gPar (gSpl (gBeg a (b0 + k) x d) (b0 + k) (best x) (ik (best x).2.2.1.toNatClampNeg)) (k + 1) (nI (b0 + k)) (vp_nar .boolean 1), k + 1, va_up rs k x) xl (d + 1) = G := ⟨_, rfl⟩
  rw [hGL] at a3 l1
  have a3 : GL.2.1 = k + 1 + n1 := a3
  have l1 : (∀ j, j < k + 1 → GL.2.2 j = va_up rs k x j) ∧ ∀ f j, f < 8 → j < b0 + (k + 1) → GL.1 f j = gPar (gSpl (gBeg a (b0 + k) x d) (b0 + k) (best x) (ik (best x).2.2.1.toNatClampNeg)) (k + 1) (nI (b0 + k)) (vp_nar .boolean 1) f j := l1
  obtain ⟨n2, b1, b2, b3⟩ := cgw_n (best := best) (ik := ik) (b0 := b0) (dpt := dpt) h (gPar GL.1 GL.2.1 (nI (b0 + k)) (vp_nar .boolean 0), GL.2.1, GL.2.2) xr (d + 1)
  have l2 := cgw_lo (best := best) (ik := ik) (b0 := b0) (dpt := dpt) h (gPar GL.1 GL.2.1 (nI (b0 + k)) (vp_nar .boolean 0), GL.2.1, GL.2.2) xr (d + 1) (by show b0 + GL.2.1 + _ < _; omega)
  obtain ⟨GR, hGR⟩ : ∃ G, cgw best ik b0 dpt h (gPar GL.1 GL.2.1 (nI (b0 + k)) (vp_nar .boolean 0), GL.2.1, GL.2.2) xr (d + 1) = G := ⟨_, rfl⟩
  rw [hGR] at b3 l2
  have cl : (nI (b0 + k)).toNatClampNeg = b0 + k := nI_clamp (by omega)
  have ng : ¬ nI (b0 + k) < 0 := fun z => by
    have h1 := nI_toInt (n := b0 + k) (by omega)
    rw [Int32.lt_iff_toInt_lt, h1] at z
    have e0 : (0 : Int32).toInt = 0 := by decide
    omega
  have v0 : vp_nar .boolean 0 = 0 := rfl
  have v1 : ¬ vp_nar .boolean 1 = 0 := by decide
  have P0 := gPar_r (a := GL.1) (m := GL.2.1) (k := b0 + k) (ab := nI (b0 + k)) ng v0 rfl (by omega)
  have P1 := gPar_l (a := gSpl (gBeg a (b0 + k) x d) (b0 + k) (best x) (ik (best x).2.2.1.toNatClampNeg)) (m := k + 1) (k := b0 + k) (ab := nI (b0 + k)) ng v1 rfl (by omega)
  have lw : ∀ f, f < 8 → GR.1 f (b0 + k) = gPar GL.1 GL.2.1 (nI (b0 + k)) (vp_nar .boolean 0) f (b0 + k) := fun f hf => l2.2 f (b0 + k) hf (by show b0 + k < b0 + GL.2.1; omega)
  have lg : ∀ f, f < 8 → GL.1 f (b0 + k) = gPar (gSpl (gBeg a (b0 + k) x d) (b0 + k) (best x) (ik (best x).2.2.1.toNatClampNeg)) (k + 1) (nI (b0 + k)) (vp_nar .boolean 1) f (b0 + k) := fun f hf => l1.2 f (b0 + k) hf (by omega)
  rw [P0] at lw
  rw [P1] at lg
  refine ⟨GL, GR, n1, n2, hGL, hGR, ?_, a3, a1, a2, b3, b1, b2, ⟨(lw 0 (by decide)).trans ((lg 0 (by decide)).trans pk_us), (lw 1 (by decide)).trans ((lg 1 (by decide)).trans pk_us), (lw 2 (by decide)).trans ((lg 2 (by decide)).trans pk_us), (lw 3 (by decide)).trans ((lg 3 (by decide)).trans pk_us), (lw 4 (by decide)).trans pk_us, (lw 5 (by decide)).trans ((lg 5 (by decide)).trans pk_us), (lw 6 (by decide)).trans ((lg 6 (by decide)).trans pk_us), (lw 7 (by decide)).trans ((lg 7 (by decide)).trans pk_us)⟩, (l2.1 k (by show k < GL.2.1; omega)).trans ((l1.1 k (by omega)).trans (va_up_self _ _ _)), fun f j hf h1 h2 => (l2.2 f (b0 + j) hf (by show b0 + j < b0 + GL.2.1; omega)).trans (gPar_o (by omega) (by omega) f hf), fun j hj => l2.1 j hj⟩
  rw [← hGR, ← hGL]
