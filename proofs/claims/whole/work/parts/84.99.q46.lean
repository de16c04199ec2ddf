/-! The law: training. -/
theorem apart {x S : Int64} (h : x &&& S = x &&& (S ^^^ (-1))) : x &&& S = 0 := bx_ext (fun r hr => by
  have h1 : bx (x &&& S) r = bx (x &&& (S ^^^ (-1))) r := by rw [h]
  rw [bx_and, bx_and, bx_not S hr] at h1
  rw [bx_and, bx_zero]
  cases hx : bx x r
  · rfl
  · rw [hx] at h1
    cases hS : bx S r
    · rfl
    · rw [hS] at h1
      exact absurd h1 (by decide))
theorem cgw_7 {best : Int64 → BST} {ik : Nat → Int32} {b0 dpt : Nat} (h : Nat) (g : GST) (x : Int64) (d : Nat) (hg : SV7 g.1) : SV7 (cgw best ik b0 dpt h g x d).1 := by
  have u : ∀ (f : Nat → Int32) k v, (∀ q, q < 496 → f q = 0 ∨ f q = 1) → (v = 0 ∨ v = 1) → ∀ q, q < 496 → upd f k v q = 0 ∨ upd f k v q = 1 := fun f k v h1 h2 q hq => by
    by_cases e : q = k
    · rw [e, pk_us]; exact h2
    · rw [pk_un e]; exact h1 q hq
  have L : ∀ (g : GST) x d, SV7 g.1 → SV7 (cgL b0 g x d).1 := fun g x d hg => u (g.1 7) _ _ hg (nar_bb 0)
  have P : ∀ (g : GST) m lf, SV7 g.1 → SV7 (cgP b0 m lf g).1 := fun g m lf hg => by
    show SV7 (gPar g.1 g.2.1 (nI (b0 + m)) lf)
    unfold SV7
    rw [(gPar_0 (a := g.1) (m := g.2.1) (ab := nI (b0 + m)) (lf := lf)).2.2.2.2.2]
    exact hg
  have Sp : ∀ (g : GST) x d, SV7 g.1 → SV7 (cgS best ik b0 g x d).1 := fun g x d hg => u _ _ _ (u (g.1 7) _ _ hg (nar_bb 0)) (nar_bb _)
  induction h generalizing g x d with
  | zero => exact L g x d hg
  | succ h ih =>
    by_cases q : d = dpt ∨ (best x).1 ≤ 0
    · have e : cgw best ik b0 dpt (h + 1) g x d = cgL b0 g x d := if_pos q
      rw [e]; exact L g x d hg
    · have e : cgw best ik b0 dpt (h + 1) g x d = _ := if_neg q
      rw [e]
      exact ih _ _ _ (P _ _ _ (ih _ _ _ (P _ _ _ (Sp g x d hg))))
theorem sv7_rd1 {F : TFR} {T n w lst dpt wd ru rl : Nat} {vv eg ik : Nat → Int32} {ne : Nat → Nat} {chb : Int32} {AA : Int64} {tg : Nat → Int32} (hd : dpt ≤ 4) (h : SV7 (tA F)) : SV7 (tA (rd1 F T n w lst dpt wd ru rl vv eg ik ne chb AA tg)) := by
  show SV7 (grw F T (xR F vv tg T) n w lst dpt wd vv eg ik ne chb AA).1
  rw [← cgw_grw hd]
  exact cgw_7 4 _ _ _ h
theorem sep_rd1 {F : TFR} {T n w lst dpt wd ru rl : Nat} {vv eg ik : Nat → Int32} {ne : Nat → Nat} {chb : Int32} {AA : Int64} {tg : Nat → Int32} (h : TOK F T) (hT : T < 16) (hd4 : dpt ≤ 4) (hn : n ≤ 48) (hA : SUBn AA n) (hA0 : 0 < cb AA) (hw : w ≤ 20) (hl : 1 ≤ lst) (hwd : wd ≤ 6) (hr : 0 < ru ∧ ru ≤ rl ∧ rl ≤ 16) (htg : ∀ i, i < n → -1000 ≤ (tg i).toInt ∧ (tg i).toInt ≤ 1000) (hs : SEP F T) : SEP (rd1 F T n w lst dpt wd ru rl vv eg ik ne chb AA tg) (T + 1) := by
  obtain ⟨t1, t2, t3⟩ := rd_tok (vv := vv) (eg := eg) (ik := ik) (ne := ne) (chb := chb) h hT hd4 hn hA hA0 hw hl hwd hr htg
  intro t ht k hk hnl
  rcases (show t = T ∨ t < T by omega) with q | q
  · subst q
    have e1 : tM (rd1 F t n w lst dpt wd ru rl vv eg ik ne chb AA tg) t = (grw F t (xR F vv tg t) n w lst dpt wd vv eg ik ne chb AA).2.1 := va_up_self _ _ _
    rw [e1] at hk
    have hnl : ¬ (grw F t (xR F vv tg t) n w lst dpt wd vv eg ik ne chb AA).1 0 (31 * t + k) = -1 := hnl
    show ¬ dg ((grw F t (xR F vv tg t) n w lst dpt wd vv eg ik ne chb AA).1 3) (31 * t + k) = dg ((grw F t (xR F vv tg t) n w lst dpt wd vv eg ik ne chb AA).1 4) (31 * t + k)
    have hm : (grw F t (xR F vv tg t) n w lst dpt wd vv eg ik ne chb AA).2.1 ≤ 31 := by
      have := (t1.2 t (by omega)).1.2.1
      rw [e1] at this
      exact this
    generalize grw F t (xR F vv tg t) n w lst dpt wd vv eg ik ne chb AA = G at t3 hk hnl hm ⊢
    obtain ⟨_, _, _, _, _, n6⟩ := t3.1 k hk
    obtain ⟨_, _, _, _, c5, c6⟩ := n6.resolve_left hnl
    rcases c5 with ⟨l, l1, l2, l3, l4⟩ | ⟨it, i1, _⟩
    · rcases c6 with ⟨r, r1, r2, r3, r4⟩ | ⟨it, i1, _⟩
      · intro e
        have d1 : dg (G.1 3) (31 * t + k) = l := by
          show (G.1 3 (31 * t + k)).toNatClampNeg = l
          rw [l2]; exact nI_clamp (by omega)
        have d2 : dg (G.1 4) (31 * t + k) = r := by
          show (G.1 4 (31 * t + k)).toNatClampNeg = r
          rw [r2]; exact nI_clamp (by omega)
        rw [d1, d2] at e
        subst e
        have hz := apart (l4.symm.trans r4)
        have hc := (t3.1 l l1).2.2.2.1
        rw [l4, hz] at hc
        exact absurd hc (by decide)
      · exact absurd i1 List.not_mem_nil
    · exact absurd i1 List.not_mem_nil
  · obtain ⟨e1, _⟩ := t2.1 t q
    rw [e1] at hk
    have hm := (h.2 t q).1.2.1
    obtain ⟨o0, o1, o2, o3, o4, o5, o6, o7⟩ := t2.2 (31 * t + k) (by omega)
    rw [o0] at hnl
    rw [dg_cg o3, dg_cg o4]
    exact hs t q k hk hnl
theorem rds_all {F : TFR} {T n w lst dpt wd ru rl : Nat} {vv eg ik : Nat → Int32} {ne : Nat → Nat} {chb : Int32} {AA : Int64} {tg : Nat → Int32} (h : TOK F T) (hd4 : dpt ≤ 4) (hn : n ≤ 48) (hA : SUBn AA n) (hA0 : 0 < cb AA) (hw : w ≤ 20) (hl : 1 ≤ lst) (hwd : wd ≤ 6) (hr : 0 < ru ∧ ru ≤ rl ∧ rl ≤ 16) (htg : ∀ i, i < n → -1000 ≤ (tg i).toInt ∧ (tg i).toInt ≤ 1000) (hs : SEP F T) (h7 : SV7 (tA F)) : ∀ k, T + k ≤ 16 → TOK (rds F T n w lst dpt wd ru rl vv eg ik ne chb AA tg k) (T + k) ∧ SEP (rds F T n w lst dpt wd ru rl vv eg ik ne chb AA tg k) (T + k) ∧ SV7 (tA (rds F T n w lst dpt wd ru rl vv eg ik ne chb AA tg k))
  | 0, _ => ⟨h, hs, h7⟩
  | k + 1, hk => by
    obtain ⟨i1, i2, i3⟩ := rds_all (vv := vv) (eg := eg) (ik := ik) (ne := ne) (chb := chb) h hd4 hn hA hA0 hw hl hwd hr htg hs h7 k (by omega)
    exact ⟨(rd_tok i1 (by omega) hd4 hn hA hA0 hw hl hwd hr htg).1, sep_rd1 i1 (by omega) hd4 hn hA hA0 hw hl hwd hr htg i2, sv7_rd1 hd4 i3⟩
/-- the class behind a training -/
theorem CLI.tr {cT : Nat → ClassId} {ad ad2 : Nat → Nat} {g g2 : Nat → Option va_E} {tE T T2 fm fm2 : Nat} {mk mk2 : Nat → Nat} {F F2 : TFR} {n wd : Nat} {vv vq eg ik : Nat → Int32} {ne : Nat → Nat} {tg : Nat → Int32} {dpt lst w ru rl : Nat} {psb : Int64} {pcb : Int32} {Lo : Nat} {fo : Nat → Int32} (h : CLI cT ad g tE T fm mk F n wd vv vq eg ik ne tg dpt lst w ru rl psb pcb Lo fo) (hv : TRV cT ad2 g2 tE T2 fm2 mk2 F2 n wd vv vq eg ik ne tg dpt lst w ru rl psb pcb) (ha : ∀ z8, z8 ≠ 40 → z8 < 1000 → ad2 z8 = ad z8) (hg : ∀ z8, ((40 < z8 ∧ z8 < 50) ∨ (53 < z8 ∧ z8 < 60)) → g2 z8 = g z8) : CLI cT ad2 g2 tE T2 fm2 mk2 F2 n wd vv vq eg ik ne tg dpt lst w ru rl psb pcb Lo fo := by
  obtain ⟨_, b2, ⟨sa, b3⟩, ⟨z54, b4⟩, ⟨z56, b5⟩, z58, b6⟩ := h
  exact ⟨hv, (b2.cg (fun x x1 x2 => hg x (by omega))).ca (fun x x1 x2 => ha x (by omega) (by omega)), ⟨sa, (hg _ (by omega)).trans b3⟩, ⟨z54, (b4.cg (hg _ (by omega)) (hg _ (by omega))).ca (ha _ (by omega) (by omega))⟩, ⟨z56, (b5.cg (hg _ (by omega)) (hg _ (by omega))).ca (ha _ (by omega) (by omega))⟩, z58, (b6.cg (hg _ (by omega)) (hg _ (by omega))).ca (ha _ (by omega) (by omega))⟩
