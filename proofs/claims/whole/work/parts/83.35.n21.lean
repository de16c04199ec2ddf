/-! Growing a tree: the reference's stack, as a function. -/
/-- a set within a set -/
def WIN (x y : Int64) : Prop := ∀ r, bx x r = true → bx y r = true
theorem win_and {x y : Int64} : WIN (x &&& y) y := fun r h => by
  rw [bx_and] at h
  cases hy : bx y r
  · rw [hy, Bool.and_false] at h; exact absurd h (by decide)
  · rfl
theorem win_andl {x y z : Int64} (h : WIN x z) : WIN (x &&& y) z := fun r q => by
  rw [bx_and] at q
  cases hx : bx x r
  · rw [hx, Bool.false_and] at q; exact absurd q (by decide)
  · exact h r hx
theorem win_or {x y z : Int64} (h1 : WIN x z) (h2 : WIN y z) : WIN (x ||| y) z := fun r q => by
  rw [bx_or] at q
  cases hx : bx x r
  · rw [hx, Bool.false_or] at q; exact h2 r q
  · exact h1 r hx
theorem win_0 {z : Int64} : WIN 0 z := fun r q => by
  rw [bx_zero] at q
  exact absurd q (by decide)
theorem win_eq {x y : Int64} (h : WIN x y) : y &&& x = x := bx_ext (fun r _ => by
  rw [bx_and]
  cases hx : bx x r
  · exact Bool.and_false _
  · rw [h r hx]; rfl)
/-- the best split's side, its rows, its gain -/
def BSD (zr : Nat → Int) (n w : Nat) (A : Int64) (b : BST) : Prop := ¬ b.1 = 0 → WIN b.2.2.2.2.2 A ∧ 0 < cb b.2.2.2.2.2 ∧ 0 < cb (A &&& (b.2.2.2.2.2 ^^^ (-1))) ∧ b.1 = gZ (smv zr b.2.2.2.2.2 n) (smv zr (A &&& (b.2.2.2.2.2 ^^^ (-1))) n) (cb b.2.2.2.2.2 + w) (cb (A &&& (b.2.2.2.2.2 ^^^ (-1))) + w) (cb b.2.2.2.2.2 + cb (A &&& (b.2.2.2.2.2 ^^^ (-1))) + w) ∧ b.2.1 = (cb b.2.2.2.2.2 + w) * (cb (A &&& (b.2.2.2.2.2 ^^^ (-1))) + w) * (cb b.2.2.2.2.2 + cb (A &&& (b.2.2.2.2.2 ^^^ (-1))) + w)
theorem wgh_sd {zr : Nat → Int} {n w lst : Nat} {A S : Int64} {b : BST} {cc ee ml : Int32} (hl : 1 ≤ lst) (hS : WIN S A) (hb : BSD zr n w A b) : BSD zr n w A (wgh zr n w lst A b S cc ee ml) := by
  unfold wgh
  split
  · exact hb
  · rename_i h
    split
    · exact fun _ => ⟨hS, by show 0 < cb S; omega, by show 0 < cb (A &&& (S ^^^ (-1))); omega, rfl, rfl⟩
    · exact hb
theorem lks_sd {zr : Nat → Int} {n w lst : Nat} {A M S : Int64} {b : BST} {cc ee : Int32} (hl : 1 ≤ lst) (hM : WIN M A) (hS : WIN S A) (hb : BSD zr n w A b) : BSD zr n w A (lks zr n w lst A M b S cc ee) := by
  unfold lks
  have h1 := wgh_sd (lst := lst) (cc := cc) (ee := ee) (ml := 1) hl (win_or hS hM) hb
  split
  · exact h1
  · exact wgh_sd hl hS h1
theorem lkk_sd {zr : Nat → Int} {n w lst : Nat} {vv : Nat → Int32} {c : Nat} {A M : Int64} (hl : 1 ≤ lst) (hM : WIN M A) : ∀ f bits side b, WIN side A → BSD zr n w A b → BSD zr n w A (lkk zr n w lst vv c A M f bits side b)
  | 0, _, _, _, _, hb => hb
  | f + 1, bits, side, b, hs, hb => by
    show BSD zr n w A (if _ then _ else _)
    split
    · exact hb
    · refine lkk_sd hl hM f _ _ _ (win_or hs win_and) ?_
      split
      · exact hb
      · exact lks_sd hl hM (win_or hs win_and) hb
theorem lkE_sd {zr : Nat → Int} {n w lst : Nat} {vv eg : Nat → Int32} {c : Nat} {A M : Int64} {b : BST} (hl : 1 ≤ lst) (hM : WIN M A) (hb : BSD zr n w A b) : ∀ k, BSD zr n w A (lkE zr n w lst vv eg c A M b k)
  | 0 => hb
  | k + 1 => lks_sd hl hM (win_andl win_and) (lkE_sd hl hM hb k)
theorem colF_sd {zr : Nat → Int} {n w lst : Nat} {vv eg ik : Nat → Int32} {ne : Nat → Nat} {chb : Int32} {A : Int64} (hl : 1 ≤ lst) : ∀ c, BSD zr n w A (colF zr n w lst vv eg ik ne chb A c)
  | 0 => fun h => absurd rfl h
  | c + 1 => by
    have ih := colF_sd (zr := zr) (n := n) (w := w) (lst := lst) (vv := vv) (eg := eg) (ik := ik) (ne := ne) (chb := chb) (A := A) hl c
    show BSD zr n w A (colS _ _ _ _ _ _ _ _ _ _ _ _)
    unfold colS
    split
    · split
      · exact lkE_sd hl win_and ih _
      · exact lkk_sd hl win_and _ _ _ _ win_0 ih
    · exact ih
theorem gZ_lin {s t S T : Int} {P C l r n : Nat} (h1 : s * (P : Int) = S * (C : Int)) (h2 : t * (P : Int) = T * (C : Int)) : gZ s t l r n * ((P * P : Nat) : Int) = gZ S T l r n * ((C * C : Nat) : Int) := by
  unfold gZ
  have h3 : (s + t) * (P : Int) = (S + T) * (C : Int) := by rw [Int.add_mul, Int.add_mul, h1, h2]
  have q : ∀ {a b : Int} {d : Nat}, a * (P : Int) = b * (C : Int) → a * a * (d : Int) * ((P * P : Nat) : Int) = b * b * (d : Int) * ((C * C : Nat) : Int) := by
    intro a b d h
    rw [Int.natCast_mul, Int.natCast_mul, show a * a * (d : Int) * ((P : Int) * (P : Int)) = a * (P : Int) * (a * (P : Int)) * d by ac_rfl, h]
    ac_rfl
  generalize s + t = u9 at h3 ⊢
  generalize S + T = v9 at h3 ⊢
  rw [Int.sub_mul, Int.add_mul, Int.sub_mul, Int.add_mul, q h1, q h2, q h3]
/-- the eight arrays of the nodes: column, edge, toLeft, left, right, many, deep, byKinds -/
def mk8 (t0 t1 t2 t3 t4 t5 t6 t7 : Nat → Int32) : Nat → Nat → Int32 := fun f => match f with
  | 0 => t0
  | 1 => t1
  | 2 => t2
  | 3 => t3
  | 4 => t4
  | 5 => t5
  | 6 => t6
  | _ => t7
abbrev ITM : Type := Int64 × Nat × Int32 × Int32
abbrev GST : Type := (Nat → Nat → Int32) × Nat × (Nat → Int64)
/-- the node's number goes to the node above -/
def gPar (a : Nat → Nat → Int32) (m : Nat) (ab lf : Int32) : Nat → Nat → Int32 :=
  if ab < 0 then a else if lf = 0 then mk8 (a 0) (a 1) (a 2) (a 3) (upd (a 4) ab.toNatClampNeg (nI m)) (a 5) (a 6) (a 7) else mk8 (a 0) (a 1) (a 2) (upd (a 3) ab.toNatClampNeg (nI m)) (a 4) (a 5) (a 6) (a 7)
def gBeg (a : Nat → Nat → Int32) (nd : Nat) (x : Int64) (d : Nat) : Nat → Nat → Int32 :=
  mk8 (upd (a 0) nd (-1)) (upd (a 1) nd 0) (upd (a 2) nd (vp_nar .boolean 0)) (upd (a 3) nd (-1)) (upd (a 4) nd (-1)) (upd (a 5) nd (nI (cb x))) (upd (a 6) nd (nI d)) (upd (a 7) nd (vp_nar .boolean 0))
def gSpl (a : Nat → Nat → Int32) (nd : Nat) (b : BST) (kk : Int32) : Nat → Nat → Int32 :=
  mk8 (upd (a 0) nd b.2.2.1) (upd (a 1) nd b.2.2.2.1) (upd (a 2) nd (vp_nar .boolean b.2.2.2.2.1)) (a 3) (a 4) (a 5) (a 6) (upd (a 7) nd (vp_nar .boolean kk))
/-- one node: best x: the best split of a set of rows -/
def gst (best : Int64 → BST) (ik : Nat → Int32) (b0 dpt : Nat) (g : GST) (it : ITM) : GST × List ITM :=
  if it.2.1 = dpt ∨ (best it.1).1 ≤ 0 then ((gBeg (gPar g.1 g.2.1 it.2.2.1 it.2.2.2) (b0 + g.2.1) it.1 it.2.1, g.2.1 + 1, va_up g.2.2 g.2.1 it.1), [])
  else ((gSpl (gBeg (gPar g.1 g.2.1 it.2.2.1 it.2.2.2) (b0 + g.2.1) it.1 it.2.1) (b0 + g.2.1) (best it.1) (ik (best it.1).2.2.1.toNatClampNeg), g.2.1 + 1, va_up g.2.2 g.2.1 it.1),
    [(it.1 &&& (best it.1).2.2.2.2.2, it.2.1 + 1, nI (b0 + g.2.1), vp_nar .boolean 1), (it.1 &&& ((best it.1).2.2.2.2.2 ^^^ (-1)), it.2.1 + 1, nI (b0 + g.2.1), vp_nar .boolean 0)])
def gall (best : Int64 → BST) (ik : Nat → Int32) (b0 dpt : Nat) : Nat → GST → List ITM → GST
  | 0, g, _ => g
  | _ + 1, g, [] => g
  | f + 1, g, it :: st => gall best ik b0 dpt f (gst best ik b0 dpt g it).1 ((gst best ik b0 dpt g it).2 ++ st)
theorem gall_n {best : Int64 → BST} {ik : Nat → Int32} {b0 dpt : Nat} {g : GST} : ∀ f, gall best ik b0 dpt f g [] = g
  | 0 => rfl
  | _ + 1 => rfl
/-- how many nodes may come of what waits -/
def gws (dpt : Nat) : List ITM → Nat
  | [] => 0
  | it :: st => (2 ^ (dpt - it.2.1 + 1) - 1) + gws dpt st
/-- what waits, out of the four arrays -/
def stk (wr : Nat → Int64) (wd wa wl : Nat → Int32) : Nat → List ITM
  | 0 => []
  | q + 1 => (wr q, dg wd q, wa q, wl q) :: stk wr wd wa wl q
theorem stk_cg {wr wr' : Nat → Int64} {wd wd' wa wa' wl wl' : Nat → Int32} : ∀ {q : Nat}, (∀ i, i < q → wr' i = wr i ∧ wd' i = wd i ∧ wa' i = wa i ∧ wl' i = wl i) → stk wr' wd' wa' wl' q = stk wr wd wa wl q
  | 0, _ => rfl
  | q + 1, h => by
    obtain ⟨h1, h2, h3, h4⟩ := h q (by omega)
    show (_, _, _, _) :: _ = (_, _, _, _) :: _
    rw [h1, h3, h4, dg_cg h2, stk_cg (fun i hi => h i (by omega))]
theorem gws_2 {dpt d : Nat} (h : d < dpt) : (2 ^ (dpt - (d + 1) + 1) - 1) + (2 ^ (dpt - (d + 1) + 1) - 1) + 1 = 2 ^ (dpt - d + 1) - 1 := by
  have e : dpt - d + 1 = (dpt - (d + 1) + 1) + 1 := by omega
  have p := Nat.pow_pos (n := dpt - (d + 1) + 1) (show 0 < 2 by decide)
  rw [e, Nat.pow_succ]
  omega
theorem nf_m {up lw : Nat → Int32} {bb bb' nd : Nat} {X : Int} {Dn : Nat} (h : NF up lw bb nd X Dn) (hb : bb ≤ bb') : NF up lw bb' nd X Dn := by
  obtain ⟨z, h1, h2, h3, h4⟩ := h
  exact ⟨z, h1, lok_m h2 hb, h3, h4⟩
theorem gst_l {best : Int64 → BST} {ik : Nat → Int32} {b0 dpt : Nat} {a : Nat → Nat → Int32} {m : Nat} {rs : Nat → Int64} {x : Int64} {d : Nat} {ab lf : Int32} (h : d = dpt ∨ (best x).1 ≤ 0) : gst best ik b0 dpt (a, m, rs) (x, d, ab, lf) = ((gBeg (gPar a m ab lf) (b0 + m) x d, m + 1, va_up rs m x), []) := if_pos h
theorem gst_s {best : Int64 → BST} {ik : Nat → Int32} {b0 dpt : Nat} {a : Nat → Nat → Int32} {m : Nat} {rs : Nat → Int64} {x : Int64} {d : Nat} {ab lf : Int32} (h : ¬ (d = dpt ∨ (best x).1 ≤ 0)) : gst best ik b0 dpt (a, m, rs) (x, d, ab, lf) = ((gSpl (gBeg (gPar a m ab lf) (b0 + m) x d) (b0 + m) (best x) (ik (best x).2.2.1.toNatClampNeg), m + 1, va_up rs m x), [(x &&& (best x).2.2.2.2.2, d + 1, nI (b0 + m), vp_nar .boolean 1), (x &&& ((best x).2.2.2.2.2 ^^^ (-1)), d + 1, nI (b0 + m), vp_nar .boolean 0)]) := if_neg h
theorem gPar_n {a : Nat → Nat → Int32} {m : Nat} {ab lf : Int32} (h : ab < 0) : gPar a m ab lf = a := if_pos h
theorem gPar_r {a : Nat → Nat → Int32} {m k : Nat} {ab lf : Int32} (h : ¬ ab < 0) (hl : lf = 0) (hk : ab = nI k) (hb : k < 2 ^ 31) : gPar a m ab lf = mk8 (a 0) (a 1) (a 2) (a 3) (upd (a 4) k (nI m)) (a 5) (a 6) (a 7) := by
  unfold gPar
  rw [if_neg h, if_pos hl, hk, nI_clamp hb]
theorem gPar_l {a : Nat → Nat → Int32} {m k : Nat} {ab lf : Int32} (h : ¬ ab < 0) (hl : ¬ lf = 0) (hk : ab = nI k) (hb : k < 2 ^ 31) : gPar a m ab lf = mk8 (a 0) (a 1) (a 2) (upd (a 3) k (nI m)) (a 4) (a 5) (a 6) (a 7) := by
  unfold gPar
  rw [if_neg h, if_neg hl, hk, nI_clamp hb]
theorem gall_s {best : Int64 → BST} {ik : Nat → Int32} {b0 dpt f : Nat} {g g' : GST} {it : ITM} {ch st : List ITM} {F : GST} (h : gall best ik b0 dpt (f + 1) g (it :: st) = F) (hg : gst best ik b0 dpt g it = (g', ch)) : gall best ik b0 dpt f g' (ch ++ st) = F := by
  rw [← h]
  show _ = gall best ik b0 dpt f (gst best ik b0 dpt g it).1 ((gst best ik b0 dpt g it).2 ++ st)
  rw [hg]
/-- the object's fields but those of the search and of the stack -/
def YK5 (yi yi' : Nat → Int32) : Prop := ∀ k, k ≠ 50 → k ≠ 51 → k ≠ 52 → k ≠ 53 → k ≠ 55 → yi' k = yi k
/-- what waits is in order -/
def ITS (wr : Nat → Int64) (wd wa : Nat → Int32) (q n dpt b0 m : Nat) : Prop := ∀ i, i < q → wd i = nI (dg wd i) ∧ dg wd i ≤ dpt ∧ i ≤ dg wd i ∧ SUBn (wr i) n ∧ 0 < cb (wr i) ∧ (wa i < 0 ∨ ∃ k, k < m ∧ wa i = nI (b0 + k))
/-- a node's fraction: a leaf's value, or a split's gain -/
def NDF (best : Int64 → BST) (RR : Nat → Int) (n w ru rl Pt BB b0 : Nat) (up lw : Nat → Int32) (nc : Nat → Int32) (rs : Nat → Int64) (k : Nat) : Prop :=
  if nc (b0 + k) = -1 then NF up lw BB (b0 + k) (smv RR (rs k) n * (ru : Int)) (Pt * (rl * (cb (rs k) + w)))
  else NF up lw BB (b0 + k) (gZ (smv RR (best (rs k)).2.2.2.2.2 n) (smv RR (rs k &&& ((best (rs k)).2.2.2.2.2 ^^^ (-1))) n) (cb (best (rs k)).2.2.2.2.2 + w) (cb (rs k &&& ((best (rs k)).2.2.2.2.2 ^^^ (-1))) + w) (cb (best (rs k)).2.2.2.2.2 + cb (rs k &&& ((best (rs k)).2.2.2.2.2 ^^^ (-1))) + w)) (Pt * Pt * (best (rs k)).2.1)
theorem ndf_cg {best : Int64 → BST} {RR : Nat → Int} {n w ru rl Pt BB b0 : Nat} {up lw up' lw' nc nc' : Nat → Int32} {rs rs' : Nat → Int64} {k nd : Nat} (h : NDF best RR n w ru rl Pt BB b0 up lw nc rs k) (hk : b0 + k ≠ nd) (h1 : ∀ q, q < 132 * nd ∨ 132 * nd + 132 ≤ q → up' q = up q) (h2 : ∀ q, q < 19 * nd ∨ 19 * nd + 19 ≤ q → lw' q = lw q) (h3 : nc' (b0 + k) = nc (b0 + k)) (h4 : rs' k = rs k) : NDF best RR n w ru rl Pt BB b0 up' lw' nc' rs' k := by
  unfold NDF at h ⊢
  rw [h3, h4]
  have e : ∀ {X : Int} {Dn : Nat}, NF up lw BB (b0 + k) X Dn → NF up' lw' BB (b0 + k) X Dn := fun q => nf_cg q (fun r r1 r2 => h1 r (by omega)) (fun r r1 r2 => h2 r (by omega))
  split
  · rename_i g; rw [if_pos g] at h; exact e h
  · rename_i g; rw [if_neg g] at h; exact e h
theorem sg_pos {z : Int} : 0 < sg z ↔ 0 < z := by
  rcases (show z < 0 ∨ z = 0 ∨ 0 < z by omega) with h | h | h
  · rw [sgN h]; exact ⟨fun q => absurd q (by decide), fun q => by omega⟩
  · rw [sgZ h]; exact ⟨fun q => absurd q (by decide), fun q => by omega⟩
  · rw [sgP h]; exact ⟨fun _ => h, fun _ => by decide⟩
theorem mn_sg {f : Nat → Int32} {z : Int} (h : MN f z) : f 301 = sg z := by
  obtain ⟨_, _, _, _, _, q, _⟩ := h
  exact q
def OLD8 (a a0 : Nat → Nat → Int32) (b0 : Nat) : Prop := ∀ k, k < b0 → a 0 k = a0 0 k ∧ a 1 k = a0 1 k ∧ a 2 k = a0 2 k ∧ a 3 k = a0 3 k ∧ a 4 k = a0 4 k ∧ a 5 k = a0 5 k ∧ a 6 k = a0 6 k ∧ a 7 k = a0 7 k
theorem stk_2 {wr : Nat → Int64} {wd wa wl : Nat → Int32} {q d : Nat} {xl xr : Int64} {ab lr ll : Int32} (hd : d < 2 ^ 31) : stk (vp_updL (vp_updL wr q xr) (q + 1) xl) (upd (upd wd q (nI d)) (q + 1) (nI d)) (upd (upd wa q ab) (q + 1) ab) (upd (upd wl q lr) (q + 1) ll) (q + 2) = (xl, d, ab, ll) :: (xr, d, ab, lr) :: stk wr wd wa wl q := by
  show (_, _, _, _) :: (_, _, _, _) :: stk _ _ _ _ q = _
  have n1 : q ≠ q + 1 := by omega
  rw [pk_uLs, dg_us hd, pk_us, pk_us, pk_uLn n1, pk_uLs, dg_un n1, dg_us hd, pk_un n1, pk_us, pk_un n1, pk_us]
  congr 2
  exact stk_cg (fun i hi => ⟨(pk_uLn (by omega)).trans (pk_uLn (by omega)), (pk_un (by omega)).trans (pk_un (by omega)), (pk_un (by omega)).trans (pk_un (by omega)), (pk_un (by omega)).trans (pk_un (by omega))⟩)
theorem its_2 {wr : Nat → Int64} {wd wa : Nat → Int32} {q n dpt b0 m d : Nat} {xl xr : Int64} (h : ∀ i, i < q → wd i = nI (dg wd i) ∧ dg wd i ≤ dpt ∧ i ≤ dg wd i ∧ SUBn (wr i) n ∧ 0 < cb (wr i) ∧ (wa i < 0 ∨ ∃ k, k < m ∧ wa i = nI (b0 + k))) (hd : d ≤ dpt) (hd2 : dpt ≤ 4) (hq : q + 1 ≤ d) (hl : SUBn xl n ∧ 0 < cb xl) (hr : SUBn xr n ∧ 0 < cb xr) : ITS (vp_updL (vp_updL wr q xr) (q + 1) xl) (upd (upd wd q (nI d)) (q + 1) (nI d)) (upd (upd wa q (nI (b0 + m))) (q + 1) (nI (b0 + m))) (q + 2) n dpt b0 (m + 1) := by
  intro i hi
  rcases (show i = q + 1 ∨ i = q ∨ i < q by omega) with e | e | e
  · subst e
    rw [pk_uLs, pk_us, pk_us, dg_us (by omega)]
    exact ⟨rfl, hd, hq, hl.1, hl.2, Or.inr ⟨m, by omega, rfl⟩⟩
  · subst e
    have n1 : i ≠ i + 1 := by omega
    rw [pk_uLn n1, pk_uLs, pk_un n1, pk_us, pk_un n1, pk_us, dg_un n1, dg_us (by omega)]
    exact ⟨rfl, hd, by omega, hr.1, hr.2, Or.inr ⟨m, by omega, rfl⟩⟩
  · have n1 : i ≠ q + 1 := by omega
    have n2 : i ≠ q := by omega
    rw [pk_uLn n1, pk_uLn n2, pk_un n1, pk_un n2, pk_un n1, pk_un n2, dg_un n1, dg_un n2]
    obtain ⟨z1, z2, z3, z4, z5, z6⟩ := h i e
    exact ⟨z1, z2, z3, z4, z5, z6.imp id (fun ⟨k, z7, z8⟩ => ⟨k, by omega, z8⟩)⟩
theorem nI_nm1 {c : Nat} (h : c < 2 ^ 31) : ¬ nI c = -1 := fun q => by
  have h1 := nI_toInt h
  rw [q] at h1
  have h2 : (-1 : Int32).toInt = -1 := by decide
  rw [h2] at h1
  omega
theorem gxg {g G : Int} {P C u : Nat} (h : g * ((P * P : Nat) : Int) = G * ((C * C : Nat) : Int)) : g * ((P * P * u : Nat) : Int) = G * ((C * C * u : Nat) : Int) := by
  rw [Int.natCast_mul (P * P) u, Int.natCast_mul (C * C) u, ← Int.mul_assoc, h, Int.mul_assoc]
