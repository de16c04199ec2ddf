set_option maxHeartbeats 4000000 in
set_option maxRecDepth 100000 in
theorem k_sumSq (l : Launch) (D : va_G) (cT : Nat → ClassId) (cds : List Nat) (ad : Nat → Nat) (gg : Nat → Option va_E) (tc : Int32) (wd9 : Int32) (rw9 : Int32) (n : Nat) (zs : Nat → Int) (XB : Nat) (x : Int64) (zq : Int) (zr : Int) (hcd : CD cds) (hob : gg 0 = some (eOB ad tc)) (htb : gg 1 = some (eTB ad wd9 rw9)) (hrn : rw9 = nI n) (hn48 : n ≤ 48) (hRs : RSp cT ad gg n zs) (hS1 : WHO cT ad gg 54 55 48 zq) (hS2 : WHO cT ad gg 56 57 48 zr) (hXB : ∀ i, i < n → (zs i).natAbs ≤ XB) (hfit : 48 * (XB * XB) < 1000000000 ^ 48) (sz : Nat) : Met l yR_sumSquares WR_sumSquares ({ frames := 3, cells := 0, slots := 0, locals := 77 } : Room) (RW D vwCl [.ref (ad 0), .long x] ([] ++ pg cds ad gg) (TY cT) sz) (va_Qv (fun u9 : (Nat → Option va_E) => (∀ z8, z8 ≠ 54 → z8 ≠ 55 → z8 ≠ 56 → z8 ≠ 57 → u9 z8 = gg z8) ∧ WHO cT ad u9 56 57 48 (smv (fun j => zs j * zs j) x n) ∧ ∃ z8, WHO cT ad u9 54 55 48 z8) (BW D vwCl (va_A ([] ++ pg cds ad gg) sz) (fun u9 : (Nat → Option va_E) => ([] ++ pg cds ad u9))) (va_A ([] ++ pg cds ad gg) sz)) 0 0 (va_A ([] ++ pg cds ad gg) sz) := by
  refine Met.ofW (cc := cR_sumSquares) (maxL := 4) (ret := none) (by decide) rfl ?_
  intro p e s m args below meth c s₁ B hml hv
  obtain ⟨rfl, hsz, hZ, hP, hK, hD0⟩ := hv
  have hx := B.exec
  have hb := B.bytes
  have hr := B.returns
  have hts := atoms_spec (ws := WR_sumSquares) B.pre
  have hT : ∀ w ∈ TB, w.before _ s = true := fun w h => hts w (List.mem_cons_of_mem _ h)
  have hown : s.vm.findClass R_R = some m.cls := findClass_of_methodNamed B.named
  have hlocks := B.notSynchronized
  subst hsz
  have hD := hD0.self (sz := s.heap.size)
  generalize hAe : va_A ([] ++ pg cds ad gg) s.heap.size = A at hD hZ ⊢
  have hA : ∀ q : Nat, s.heap.size ≤ q → A q := fun q h => by rw [← hAe]; exact Or.inr h
  have hS : va_S A s.heap s.heap [] := va_S.rf
  have hl := lv_entry ([.ref (ad 0), .long x]) (n := 4) (Nat.le_of_ble_eq_true rfl)
  rw [lg_entry_eq]
  generalize (lg_sl ([.ref (ad 0), .long x]) ++ List.replicate (4 - (lg_sl ([.ref (ad 0), .long x])).length) Slot.unset).toArray = ls at hl ⊢
  have hl : lv_has ls 4 [(0, .ref (ad 0)), (1, .long x)] := hl
  obtain ⟨⟨qf, hrq, hrq2⟩, hrs⟩ := hRs
  obtain ⟨wvn, wvb, wvf, wv1, wv2, wv3⟩ := hS2
  refine lv_aload_n hx hb dR_sumSquares_0 rfl (lv_at hl 0 rfl) ?_
  refine va_get (D := D) (ci := 0) (v := .ref (ad 56)) (C := R_R) (T := T_R) (N := 13) hx hb hT in_R hown hK (pg_1 (x := 0) hcd hP (by decide) hob) 0 rfl rfl 11 (by decide) (hT _ w335) (fun _ h9 => h9) rfl dR_sumSquares_1 ?_
  refine lv_iconst (v := 0) hx hb dR_sumSquares_4 (by decide) ?_
  have hB9 : QI gg [(56, .inr (4, [.ref (ad 57), .int wvn, .int wvb])), (57, .inl (cT 0, 48, .inl wvf))] := (qi_c (by decide) wv1 (qi_c (by decide) wv2 qi_0))
  have hN9 := (show NDc [56, 57] from (nd_c (na_c (by decide) na_0) (nd_c na_0 nd_0)))
  have hP := bo_P (wc := [(56, .inr (4, [.ref (ad 57), .int wvn, .int wvb])), (57, .inl (cT 0, 48, .inl wvf))]) (X := []) hcd hN9 hB9 hP
  have hD := bo_D (wc := [(56, .inr (4, [.ref (ad 57), .int wvn, .int wvb])), (57, .inl (cT 0, 48, .inl wvf))]) (X := []) hcd hN9 hB9 hD
  have hP : va_P D vwCl ([(ad 56, .inr (4, [.ref (ad 57), .int wvn, .int wvb])), (ad 57, .inl (cT 0, 48, .inl wvf))] ++ pg cds ad (upo gg [56, 57])) _ := hP
  have hD : va_D A ([(ad 56, .inr (4, [.ref (ad 57), .int wvn, .int wvb])), (ad 57, .inl (cT 0, 48, .inl wvf))] ++ pg cds ad (upo gg [56, 57])) := hD
  refine hy_vQ (X := [(ad 56, .inr (4, [.ref (ad 57), .int wvn, .int wvb])), (ad 57, .inl (cT 0, 48, .inl wvf))]) (pl := pg cds ad (upo gg [56, 57])) (cx := [(ad 56, .inr (4, [.ref (ad 57), .int wvn, .int wvb])), (ad 57, .inl (cT 0, 48, .inl wvf))]) (wr := []) hP hD hS hA [0, 1] [] rfl rfl (by decide) (by decide) (va_runV (As := [.int 0]) (rest := []) ⟨hx, hb, hml, hown, hT⟩ (k_setI l D cT (ad 56) (ad 57) 48 wvn wvb wvf (0 : Int32) (by decide) (by decide) (by decide) _) ⟨callB_of 1 hT (tb_gd w393) rfl rfl rfl (hT _ w5) (hT _ w390) hW_set ⟨Nat.le_of_ble_eq_true rfl, Nat.le_of_ble_eq_true rfl⟩, (hT _ w391), (hT _ w392)⟩ (RW.preV (ci := 4) (q0 := 0) hZ hS (hy_free (cx := [(ad 56, .inr (4, [.ref (ad 57), .int wvn, .int wvb])), (ad 57, .inl (cT 0, 48, .inl wvf))]) hD hS hA [0, 1] rfl) (hP.sub (ws' := [(ad 56, .inr (4, [.ref (ad 57), .int wvn, .int wvb])), (ad 57, .inl (cT 0, 48, .inl wvf))]) [0, 1] rfl) hK (hD.sub (ws' := [(ad 56, .inr (4, [.ref (ad 57), .int wvn, .int wvb])), (ad 57, .inl (cT 0, 48, .inl wvf))]) [0, 1] (by decide) rfl) rfl rfl) rfl rfl hl.1 rfl (lv_room (Nat.le_of_ble_eq_true rfl)) dR_sumSquares_5 ⟨Nat.le_of_ble_eq_true rfl, Nat.le_of_ble_eq_true rfl⟩) (fun u9 H locs hpu1 hP hD hS => ?_)
  obtain ⟨n1u1, b1u1, f1u1⟩ := u9
  have hpu1 : WN 48 n1u1 b1u1 f1u1 (0 : Int32).toInt := hpu1
  have hP : va_P D vwCl ([(ad 56, .inr (4, [.ref (ad 57), .int n1u1, .int b1u1])), (ad 57, .inl (cT 0, 48, .inl f1u1))] ++ pg cds ad (upo gg [56, 57])) _ := hP
  have hD : va_D A ([(ad 56, .inr (4, [.ref (ad 57), .int n1u1, .int b1u1])), (ad 57, .inl (cT 0, 48, .inl f1u1))] ++ pg cds ad (upo gg [56, 57])) := hD
  have a1 : WN 48 n1u1 b1u1 f1u1 (smv (fun j => zs j * zs j) x 0) := hpu1
  have hN9 := (show NDc [56, 57] from (nd_c (na_c (by decide) na_0) (nd_c na_0 nd_0)))
  have hP := gb_P (w9 := [(56, .inr (4, [.ref (ad 57), .int n1u1, .int b1u1])), (57, .inl (cT 0, 48, .inl f1u1))]) (X := []) (g := gg) hcd hN9 (show QB [(56, .inr (4, [.ref (ad 57), .int n1u1, .int b1u1])), (57, .inl (cT 0, 48, .inl f1u1))] from (qb_c (by decide) (qb_c (by decide) qb_0))) (hP.part (cx := [(ad 56, .inr (4, [.ref (ad 57), .int n1u1, .int b1u1])), (ad 57, .inl (cT 0, 48, .inl f1u1))]) [0, 1] rfl)
  have hD := gb_D (w9 := [(56, .inr (4, [.ref (ad 57), .int n1u1, .int b1u1])), (57, .inl (cT 0, 48, .inl f1u1))]) (X := []) (g := gg) hcd hN9 (show QB [(56, .inr (4, [.ref (ad 57), .int n1u1, .int b1u1])), (57, .inl (cT 0, 48, .inl f1u1))] from (qb_c (by decide) (qb_c (by decide) qb_0))) (hD.part (cx := [(ad 56, .inr (4, [.ref (ad 57), .int n1u1, .int b1u1])), (ad 57, .inl (cT 0, 48, .inl f1u1))]) [0, 1] (by decide) rfl)
  obtain ⟨g1, hg1⟩ : ∃ q9, q9 = ups gg [(56, .inr (4, [.ref (ad 57), .int n1u1, .int b1u1])), (57, .inl (cT 0, 48, .inl f1u1))] := ⟨_, rfl⟩
  rw [← hg1] at hP hD
  have hP : va_P D vwCl ([] ++ pg cds ad g1) _ := hP
  have hD : va_D A ([] ++ pg cds ad g1) := hD
  have fg1 : ∀ z8, z8 ≠ 56 → z8 ≠ 57 → g1 z8 = gg z8 := fun z8 z1 z2 => by rw [hg1]; exact ups_k (kp_n z1 (kp_n z2 kp_0))
  have g1_0 : g1 56 = some (.inr (4, [.ref (ad 57), .int n1u1, .int b1u1])) := by rw [hg1]; exact ups_1
  have g1_1 : g1 57 = some (.inl (cT 0, 48, .inl f1u1)) := by rw [hg1]; exact ups_2 (by decide)
  refine lv_iconst (v := 0) hx hb dR_sumSquares_8 (by decide) ?_
  refine lv_istore_n hx hb dR_sumSquares_9 rfl hl (by decide) rfl (fun ls hl => ?_)
  have hl : lv_has ls 4 [(3, .int 0), (0, .ref (ad 0)), (1, .long x)] := hl
  have hl : lv_has ls 4 [(3, .int (nI 0)), (0, .ref (ad 0)), (1, .long x)] := by
    rw [(show nI 0 = 0 from rfl)]; exact hl
  refine lp_w (α := Nat × (Nat → Option va_E)) (fun a9 => a9.1 ≤ n ∧ (∀ z8, z8 ≠ 54 → z8 ≠ 55 → z8 ≠ 56 → z8 ≠ 57 → a9.2 z8 = gg z8) ∧ WHO cT ad a9.2 56 57 48 (smv (fun j => zs j * zs j) x a9.1) ∧ ∃ z8, WHO cT ad a9.2 54 55 48 z8) (fun a9 => n - a9.1) (fun a9 => [(0, .ref (ad 0)), (1, .long x), (3, .int (nI a9.1))]) (fun a9 => ([] ++ pg cds ad a9.2)) 10 ?_ (0, g1) (show 0 ≤ n ∧ (∀ z8, z8 ≠ 54 → z8 ≠ 55 → z8 ≠ 56 → z8 ≠ 57 → g1 z8 = gg z8) ∧ WHO cT ad g1 56 57 48 (smv (fun j => zs j * zs j) x 0) ∧ ∃ z8, WHO cT ad g1 54 55 48 z8 from ⟨by omega, fun z8 _ _ n3 n4 => fg1 z8 n3 n4, ⟨_, _, _, g1_0, g1_1, a1⟩, ⟨zq, hS1.cg (fg1 _ (by omega) (by omega)) (fg1 _ (by omega) (by omega))⟩⟩) (lv_sub hl [1, 2, 0] rfl) hP hD hS
  intro a9 hI10 ih10 ls H locs hl hP hD hS
  obtain ⟨i, g2⟩ := a9
  have hI10 : i ≤ n ∧ (∀ z8, z8 ≠ 54 → z8 ≠ 55 → z8 ≠ 56 → z8 ≠ 57 → g2 z8 = gg z8) ∧ WHO cT ad g2 56 57 48 (smv (fun j => zs j * zs j) x i) ∧ ∃ z8, WHO cT ad g2 54 55 48 z8 := hI10
  obtain ⟨ii, iF, iW, iQ⟩ := hI10
  have hl : lv_has ls 4 [(0, .ref (ad 0)), (1, .long x), (3, .int (nI i))] := hl
  have hP : va_P D vwCl ([] ++ pg cds ad g2) _ := hP
  have hD : va_D A ([] ++ pg cds ad g2) := hD
  refine lv_iload_n hx hb dR_sumSquares_10 rfl (lv_at hl 2 rfl) ?_
  refine lv_aload_n hx hb dR_sumSquares_11 rfl (lv_at hl 0 rfl) ?_
  refine va_get (D := D) (ci := 0) (v := .ref (ad 1)) (C := R_R) (T := T_R) (N := 13) hx hb hT in_R hown hK (pg_1 (x := 0) hcd hP (by decide) ((iF _ (by omega) (by omega) (by omega) (by omega)).trans hob)) 0 rfl rfl 0 (by decide) (hT _ w324) (fun _ h9 => h9) rfl dR_sumSquares_12 ?_
  refine va_get (D := D) (ci := 2) (v := .int rw9) (C := R_T) (T := T_T) (N := 4) hx hb hT in_T hown hK (pg_1 (x := 1) hcd hP (by decide) ((iF _ (by omega) (by omega) (by omega) (by omega)).trans htb)) 0 rfl rfl 3 (by decide) (hT _ w82) (fun _ h9 => h9) rfl dR_sumSquares_15 ?_
  refine lv_topi (fun y9 e9 => ?_)
  cases (show y9 = nI n from e9.trans hrn)
  refine lv_icmp_ge (tgt := 68) hx hb dR_sumSquares_18 rfl (fun h2 => ?_) (fun h2 => ?_)
  · have gh2 : n ≤ i := (nI_leI (a := n) (b := i) (by omega) (by omega)).mp h2
    have hP9 : va_P D vwCl ([] ++ pg cds ad g2) _ := hP.part (cx := []) [] rfl
    have hD9 : va_D A ([] ++ pg cds ad g2) := hD.part (cx := []) [] (by decide) rfl
    refine W.widen (k := 0) (n := 0) (Nat.le_of_ble_eq_true rfl) (Nat.le_of_ble_eq_true rfl) ?_
    exact W.vret hx hb hr (fun t9 ht9 hW9 => ⟨⟨g2, rfl, (show (∀ z8, z8 ≠ 54 → z8 ≠ 55 → z8 ≠ 56 → z8 ≠ 57 → g2 z8 = gg z8) ∧ WHO cT ad g2 56 57 48 (smv (fun j => zs j * zs j) x n) ∧ ∃ z8, WHO cT ad g2 54 55 48 z8 from ⟨iF, by rw [show n = i by omega]; exact iW, iQ⟩), by rw [ht9]; exact hP9, hD9⟩, hS.F ht9⟩) hS.2.2 dR_sumSquares_68
  · have gh2 : i < n := Nat.not_le.mp (fun q => h2 ((nI_leI (a := n) (b := i) (by omega) (by omega)).mpr q))
    refine lv_lload_n hx hb dR_sumSquares_21 rfl (lv_at hl 1 rfl) ?_
    refine lv_iload_n hx hb dR_sumSquares_22 rfl (lv_at hl 2 rfl) ?_
    refine lv_lshr hx hb dR_sumSquares_23 rfl ?_
    refine lv_lconst (v := 1) hx hb dR_sumSquares_24 (by decide) ?_
    refine lv_land hx hb dR_sumSquares_25 ?_
    refine lv_lconst (v := 1) hx hb dR_sumSquares_26 (by decide) ?_
    refine W.lcmp hx hb dR_sumSquares_27 ?_
    refine lv_if_ne (tgt := 62) hx hb dR_sumSquares_28 rfl (fun h3 => ?_) (fun h3 => ?_)
    · have gb : ¬ bx x i = true := fun q => h3 ((bx_t x (by omega)).mpr q)
      refine lv_iinc (k := 2) (v := nI (i + 1)) hx hb dR_sumSquares_62 hl rfl (nI_1 i) (by decide) rfl (fun ls hl => ?_)
      have hl : lv_has ls 4 [(3, .int (nI (i + 1))), (0, .ref (ad 0)), (1, .long x)] := hl
      refine lv_goto (tgt := 10) hx hb dR_sumSquares_65 rfl ?_
      exact ih10 (i + 1, g2) (show (i + 1) ≤ n ∧ (∀ z8, z8 ≠ 54 → z8 ≠ 55 → z8 ≠ 56 → z8 ≠ 57 → g2 z8 = gg z8) ∧ WHO cT ad g2 56 57 48 (smv (fun j => zs j * zs j) x (i + 1)) ∧ ∃ z8, WHO cT ad g2 54 55 48 z8 from ⟨by omega, iF, (by rw [smv_f gb]; exact iW), iQ⟩) (show n - (i + 1) < n - i from (by omega)) ls H locs (lv_sub hl [1, 2, 0] rfl) hP hD hS
    · have gb : bx x i = true := (bx_t x (by omega)).mp h3
      have hin : i < n := by omega
      obtain ⟨zi, hWi, hzi⟩ := hrs i (by omega)
      have hzi := hzi hin
      subst hzi
      have hWi := hWi.cg (g2 := g2) (iF _ (by omega) (by omega) (by omega) (by omega)) (iF _ (by omega) (by omega) (by omega) (by omega))
      obtain ⟨zq2, iQ⟩ := iQ
      obtain ⟨win, wib, wif, wi1, wi2, wi3⟩ := hWi
      obtain ⟨wqn, wqb, wqf, wq1, wq2, wq3⟩ := iQ
      obtain ⟨wsn, wsb, wsf, ws1, ws2, ws3⟩ := iW
      have hb1 := hXB i hin
      have hb2 := Nat.mul_le_mul hb1 hb1
      have hb3 := smv_le (x := x) (zr := fun j => zs j * zs j) (B := XB * XB) (n := n) (fun k hk => sqn_le (hXB k hk)) i (by omega)
      have hb4 : i * (XB * XB) ≤ 47 * (XB * XB) := Nat.mul_le_mul_right _ (by omega)
      have hb5 := sqn_le hb1
      refine lv_aload_n hx hb dR_sumSquares_31 rfl (lv_at hl 0 rfl) ?_
      refine va_get (D := D) (ci := 0) (v := .ref (ad 54)) (C := R_R) (T := T_R) (N := 13) hx hb hT in_R hown hK (pg_1 (x := 0) hcd hP (by decide) ((iF _ (by omega) (by omega) (by omega) (by omega)).trans hob)) 0 rfl rfl 10 (by decide) (hT _ w334) (fun _ h9 => h9) rfl dR_sumSquares_32 ?_
      refine lv_aload_n hx hb dR_sumSquares_35 rfl (lv_at hl 0 rfl) ?_
      refine va_get (D := D) (ci := 0) (v := .ref (ad 5)) (C := R_R) (T := T_R) (N := 13) hx hb hT in_R hown hK (pg_1 (x := 0) hcd hP (by decide) ((iF _ (by omega) (by omega) (by omega) (by omega)).trans hob)) 0 rfl rfl 2 (by decide) (hT _ w326) (fun _ h9 => h9) rfl dR_sumSquares_36 ?_
      refine lv_iload_n hx hb dR_sumSquares_39 rfl (lv_at hl 2 rfl) ?_
      refine al_q (q := ad (100 + i)) hx hb hK (pg_1 (x := 5) hcd hP (by decide) ((iF _ (by omega) (by omega) (by omega) (by omega)).trans hrq)) 0 4 rfl rfl (vp_in_nI (by omega) (by decide)) (by rw [nI_clamp (by omega)]; exact hrq2 i (by omega)) dR_sumSquares_40 ?_
      refine lv_aload_n hx hb dR_sumSquares_41 rfl (lv_at hl 0 rfl) ?_
      refine va_get (D := D) (ci := 0) (v := .ref (ad 5)) (C := R_R) (T := T_R) (N := 13) hx hb hT in_R hown hK (pg_1 (x := 0) hcd hP (by decide) ((iF _ (by omega) (by omega) (by omega) (by omega)).trans hob)) 0 rfl rfl 2 (by decide) (hT _ w326) (fun _ h9 => h9) rfl dR_sumSquares_42 ?_
      refine lv_iload_n hx hb dR_sumSquares_45 rfl (lv_at hl 2 rfl) ?_
      refine al_q (q := ad (100 + i)) hx hb hK (pg_1 (x := 5) hcd hP (by decide) ((iF _ (by omega) (by omega) (by omega) (by omega)).trans hrq)) 0 4 rfl rfl (vp_in_nI (by omega) (by decide)) (by rw [nI_clamp (by omega)]; exact hrq2 i (by omega)) dR_sumSquares_46 ?_
      have hB9 : QI g2 [(54, .inr (4, [.ref (ad 55), .int wqn, .int wqb])), (55, .inl (cT 0, 48, .inl wqf)), (100 + i, .inr (4, [.ref (ad (150 + i)), .int win, .int wib])), (150 + i, .inl (cT 0, 24, .inl wif))] := (qi_c (by decide) wq1 (qi_c (by decide) wq2 (qi_c (by omega) wi1 (qi_c (by omega) wi2 qi_0))))
      have hN9 := (show NDc [54, 55, 100 + i, 150 + i] from (nd_c (na_c (by decide) (na_c (by omega) (na_c (by omega) na_0))) (nd_c (na_c (by omega) (na_c (by omega) na_0)) (nd_c (na_c (by omega) na_0) (nd_c na_0 nd_0)))))
      have hP := bo_P (wc := [(54, .inr (4, [.ref (ad 55), .int wqn, .int wqb])), (55, .inl (cT 0, 48, .inl wqf)), (100 + i, .inr (4, [.ref (ad (150 + i)), .int win, .int wib])), (150 + i, .inl (cT 0, 24, .inl wif))]) (X := []) hcd hN9 hB9 hP
      have hD := bo_D (wc := [(54, .inr (4, [.ref (ad 55), .int wqn, .int wqb])), (55, .inl (cT 0, 48, .inl wqf)), (100 + i, .inr (4, [.ref (ad (150 + i)), .int win, .int wib])), (150 + i, .inl (cT 0, 24, .inl wif))]) (X := []) hcd hN9 hB9 hD
      have hP : va_P D vwCl ([(ad 54, .inr (4, [.ref (ad 55), .int wqn, .int wqb])), (ad 55, .inl (cT 0, 48, .inl wqf)), (ad (100 + i), .inr (4, [.ref (ad (150 + i)), .int win, .int wib])), (ad (150 + i), .inl (cT 0, 24, .inl wif))] ++ pg cds ad (upo g2 [54, 55, 100 + i, 150 + i])) _ := hP
      have hD : va_D A ([(ad 54, .inr (4, [.ref (ad 55), .int wqn, .int wqb])), (ad 55, .inl (cT 0, 48, .inl wqf)), (ad (100 + i), .inr (4, [.ref (ad (150 + i)), .int win, .int wib])), (ad (150 + i), .inl (cT 0, 24, .inl wif))] ++ pg cds ad (upo g2 [54, 55, 100 + i, 150 + i])) := hD
      refine hy_vQ (X := [(ad 54, .inr (4, [.ref (ad 55), .int wqn, .int wqb])), (ad 55, .inl (cT 0, 48, .inl wqf)), (ad (100 + i), .inr (4, [.ref (ad (150 + i)), .int win, .int wib])), (ad (150 + i), .inl (cT 0, 24, .inl wif))]) (pl := pg cds ad (upo g2 [54, 55, 100 + i, 150 + i])) (cx := [(ad 54, .inr (4, [.ref (ad 55), .int wqn, .int wqb])), (ad 55, .inl (cT 0, 48, .inl wqf)), (ad (100 + i), .inr (4, [.ref (ad (150 + i)), .int win, .int wib])), (ad (150 + i), .inl (cT 0, 24, .inl wif))]) (wr := []) hP hD hS hA [0, 1, 2, 3] [] rfl rfl (by decide) (by decide) (va_runV (As := [.ref (ad (100 + i)), .ref (ad (100 + i))]) (rest := []) ⟨hx, hb, hml, hown, hT⟩ (k_square l D cT (ad 54) (ad 55) 48 wqn wqb wqf (ad (100 + i)) (ad (150 + i)) 24 win wib wif (zs i) (by decide) (by decide) wi3 (by omega) _) ⟨callB_of 2 hT (tb_gd w474) rfl rfl rfl (hT _ w5) (hT _ w471) hW_setProduct ⟨Nat.le_of_ble_eq_true rfl, Nat.le_of_ble_eq_true rfl⟩, (hT _ w472), (hT _ w473)⟩ (RW.preV (ci := 4) (q0 := 0) hZ hS (hy_free (cx := [(ad 54, .inr (4, [.ref (ad 55), .int wqn, .int wqb])), (ad 55, .inl (cT 0, 48, .inl wqf)), (ad (100 + i), .inr (4, [.ref (ad (150 + i)), .int win, .int wib])), (ad (150 + i), .inl (cT 0, 24, .inl wif))]) hD hS hA [0, 1, 2, 3] rfl) (hP.sub (ws' := [(ad 54, .inr (4, [.ref (ad 55), .int wqn, .int wqb])), (ad 55, .inl (cT 0, 48, .inl wqf)), (ad (100 + i), .inr (4, [.ref (ad (150 + i)), .int win, .int wib])), (ad (150 + i), .inl (cT 0, 24, .inl wif))]) [0, 1, 2, 3] rfl) hK (hD.sub (ws' := [(ad 54, .inr (4, [.ref (ad 55), .int wqn, .int wqb])), (ad 55, .inl (cT 0, 48, .inl wqf)), (ad (100 + i), .inr (4, [.ref (ad (150 + i)), .int win, .int wib])), (ad (150 + i), .inl (cT 0, 24, .inl wif))]) [0, 1, 2, 3] (by decide) rfl) rfl rfl) rfl rfl hl.1 rfl (lv_room (Nat.le_of_ble_eq_true rfl)) dR_sumSquares_47 ⟨Nat.le_of_ble_eq_true rfl, Nat.le_of_ble_eq_true rfl⟩) (fun u9 H locs hpu4 hP hD hS => ?_)
      obtain ⟨n1u4, b1u4, f1u4⟩ := u9
      have hpu4 : WN 48 n1u4 b1u4 f1u4 ((zs i) * (zs i)) := hpu4
      have hP : va_P D vwCl ([(ad 54, .inr (4, [.ref (ad 55), .int n1u4, .int b1u4])), (ad 55, .inl (cT 0, 48, .inl f1u4)), (ad (100 + i), .inr (4, [.ref (ad (150 + i)), .int win, .int wib])), (ad (150 + i), .inl (cT 0, 24, .inl wif))] ++ pg cds ad (upo g2 [54, 55, 100 + i, 150 + i])) _ := hP
      have hD : va_D A ([(ad 54, .inr (4, [.ref (ad 55), .int n1u4, .int b1u4])), (ad 55, .inl (cT 0, 48, .inl f1u4)), (ad (100 + i), .inr (4, [.ref (ad (150 + i)), .int win, .int wib])), (ad (150 + i), .inl (cT 0, 24, .inl wif))] ++ pg cds ad (upo g2 [54, 55, 100 + i, 150 + i])) := hD
      have b1 := hpu4
      have hN9 := (show NDc [54, 55, 100 + i, 150 + i] from (nd_c (na_c (by decide) (na_c (by omega) (na_c (by omega) na_0))) (nd_c (na_c (by omega) (na_c (by omega) na_0)) (nd_c (na_c (by omega) na_0) (nd_c na_0 nd_0)))))
      have hP := gb_P (w9 := [(54, .inr (4, [.ref (ad 55), .int n1u4, .int b1u4])), (55, .inl (cT 0, 48, .inl f1u4)), (100 + i, .inr (4, [.ref (ad (150 + i)), .int win, .int wib])), (150 + i, .inl (cT 0, 24, .inl wif))]) (X := []) (g := g2) hcd hN9 (show QB [(54, .inr (4, [.ref (ad 55), .int n1u4, .int b1u4])), (55, .inl (cT 0, 48, .inl f1u4)), (100 + i, .inr (4, [.ref (ad (150 + i)), .int win, .int wib])), (150 + i, .inl (cT 0, 24, .inl wif))] from (qb_c (by decide) (qb_c (by decide) (qb_c (by omega) (qb_c (by omega) qb_0))))) (hP.part (cx := [(ad 54, .inr (4, [.ref (ad 55), .int n1u4, .int b1u4])), (ad 55, .inl (cT 0, 48, .inl f1u4)), (ad (100 + i), .inr (4, [.ref (ad (150 + i)), .int win, .int wib])), (ad (150 + i), .inl (cT 0, 24, .inl wif))]) [0, 1, 2, 3] rfl)
      have hD := gb_D (w9 := [(54, .inr (4, [.ref (ad 55), .int n1u4, .int b1u4])), (55, .inl (cT 0, 48, .inl f1u4)), (100 + i, .inr (4, [.ref (ad (150 + i)), .int win, .int wib])), (150 + i, .inl (cT 0, 24, .inl wif))]) (X := []) (g := g2) hcd hN9 (show QB [(54, .inr (4, [.ref (ad 55), .int n1u4, .int b1u4])), (55, .inl (cT 0, 48, .inl f1u4)), (100 + i, .inr (4, [.ref (ad (150 + i)), .int win, .int wib])), (150 + i, .inl (cT 0, 24, .inl wif))] from (qb_c (by decide) (qb_c (by decide) (qb_c (by omega) (qb_c (by omega) qb_0))))) (hD.part (cx := [(ad 54, .inr (4, [.ref (ad 55), .int n1u4, .int b1u4])), (ad 55, .inl (cT 0, 48, .inl f1u4)), (ad (100 + i), .inr (4, [.ref (ad (150 + i)), .int win, .int wib])), (ad (150 + i), .inl (cT 0, 24, .inl wif))]) [0, 1, 2, 3] (by decide) rfl)
      obtain ⟨g3, hg3⟩ : ∃ q9, q9 = ups g2 [(54, .inr (4, [.ref (ad 55), .int n1u4, .int b1u4])), (55, .inl (cT 0, 48, .inl f1u4)), (100 + i, .inr (4, [.ref (ad (150 + i)), .int win, .int wib])), (150 + i, .inl (cT 0, 24, .inl wif))] := ⟨_, rfl⟩
      rw [← hg3] at hP hD
      have hP : va_P D vwCl ([] ++ pg cds ad g3) _ := hP
      have hD : va_D A ([] ++ pg cds ad g3) := hD
      have fg3 : ∀ z8, z8 ≠ 54 → z8 ≠ 55 → g3 z8 = g2 z8 := fun z8 z1 z2 => by rw [hg3]; exact ups_k (kp_n z1 (kp_n z2 (kp_s wi1 (kp_s wi2 kp_0))))
      have g3_0 : g3 54 = some (.inr (4, [.ref (ad 55), .int n1u4, .int b1u4])) := by rw [hg3]; exact ups_1
      have g3_1 : g3 55 = some (.inl (cT 0, 48, .inl f1u4)) := by rw [hg3]; exact ups_2 (by decide)
      refine lv_aload_n hx hb dR_sumSquares_50 rfl (lv_at hl 0 rfl) ?_
      refine va_get (D := D) (ci := 0) (v := .ref (ad 56)) (C := R_R) (T := T_R) (N := 13) hx hb hT in_R hown hK (pg_1 (x := 0) hcd hP (by decide) ((fg3 _ (by decide) (by decide)).trans ((iF _ (by omega) (by omega) (by omega) (by omega)).trans hob))) 0 rfl rfl 11 (by decide) (hT _ w335) (fun _ h9 => h9) rfl dR_sumSquares_51 ?_
      refine lv_aload_n hx hb dR_sumSquares_54 rfl (lv_at hl 0 rfl) ?_
      refine va_get (D := D) (ci := 0) (v := .ref (ad 54)) (C := R_R) (T := T_R) (N := 13) hx hb hT in_R hown hK (pg_1 (x := 0) hcd hP (by decide) ((fg3 _ (by decide) (by decide)).trans ((iF _ (by omega) (by omega) (by omega) (by omega)).trans hob))) 0 rfl rfl 10 (by decide) (hT _ w334) (fun _ h9 => h9) rfl dR_sumSquares_55 ?_
      refine lv_iconst (v := 0) hx hb dR_sumSquares_58 (by decide) ?_
      have hB9 : QI g3 [(56, .inr (4, [.ref (ad 57), .int wsn, .int wsb])), (57, .inl (cT 0, 48, .inl wsf)), (54, .inr (4, [.ref (ad 55), .int n1u4, .int b1u4])), (55, .inl (cT 0, 48, .inl f1u4))] := (qi_c (by decide) ((fg3 _ (by decide) (by decide)).trans ws1) (qi_c (by decide) ((fg3 _ (by decide) (by decide)).trans ws2) (qi_c (by decide) g3_0 (qi_c (by decide) g3_1 qi_0))))
      have hN9 := (show NDc [56, 57, 54, 55] from (nd_c (na_c (by decide) (na_c (by decide) (na_c (by decide) na_0))) (nd_c (na_c (by decide) (na_c (by decide) na_0)) (nd_c (na_c (by decide) na_0) (nd_c na_0 nd_0)))))
      have hP := bo_P (wc := [(56, .inr (4, [.ref (ad 57), .int wsn, .int wsb])), (57, .inl (cT 0, 48, .inl wsf)), (54, .inr (4, [.ref (ad 55), .int n1u4, .int b1u4])), (55, .inl (cT 0, 48, .inl f1u4))]) (X := []) hcd hN9 hB9 hP
      have hD := bo_D (wc := [(56, .inr (4, [.ref (ad 57), .int wsn, .int wsb])), (57, .inl (cT 0, 48, .inl wsf)), (54, .inr (4, [.ref (ad 55), .int n1u4, .int b1u4])), (55, .inl (cT 0, 48, .inl f1u4))]) (X := []) hcd hN9 hB9 hD
      have hP : va_P D vwCl ([(ad 56, .inr (4, [.ref (ad 57), .int wsn, .int wsb])), (ad 57, .inl (cT 0, 48, .inl wsf)), (ad 54, .inr (4, [.ref (ad 55), .int n1u4, .int b1u4])), (ad 55, .inl (cT 0, 48, .inl f1u4))] ++ pg cds ad (upo g3 [56, 57, 54, 55])) _ := hP
      have hD : va_D A ([(ad 56, .inr (4, [.ref (ad 57), .int wsn, .int wsb])), (ad 57, .inl (cT 0, 48, .inl wsf)), (ad 54, .inr (4, [.ref (ad 55), .int n1u4, .int b1u4])), (ad 55, .inl (cT 0, 48, .inl f1u4))] ++ pg cds ad (upo g3 [56, 57, 54, 55])) := hD
      refine hy_vQ (X := [(ad 56, .inr (4, [.ref (ad 57), .int wsn, .int wsb])), (ad 57, .inl (cT 0, 48, .inl wsf)), (ad 54, .inr (4, [.ref (ad 55), .int n1u4, .int b1u4])), (ad 55, .inl (cT 0, 48, .inl f1u4))]) (pl := pg cds ad (upo g3 [56, 57, 54, 55])) (cx := [(ad 56, .inr (4, [.ref (ad 57), .int wsn, .int wsb])), (ad 57, .inl (cT 0, 48, .inl wsf)), (ad 54, .inr (4, [.ref (ad 55), .int n1u4, .int b1u4])), (ad 55, .inl (cT 0, 48, .inl f1u4))]) (wr := []) hP hD hS hA [0, 1, 2, 3] [] rfl rfl (by decide) (by decide) (va_runV (As := [.ref (ad 54), .int 0]) (rest := []) ⟨hx, hb, hml, hown, hT⟩ (k_plus0 l D cT (ad 56) (ad 57) 48 wsn wsb wsf (smv (fun j => zs j * zs j) x i) (ad 54) (ad 55) 48 n1u4 b1u4 f1u4 (zs i * zs i) (by decide) ws3 (by decide) b1 (by omega) _) ⟨callB_of 2 hT (tb_gd w461) rfl rfl rfl (hT _ w5) (hT _ w458) hW_plus ⟨Nat.le_of_ble_eq_true rfl, Nat.le_of_ble_eq_true rfl⟩, (hT _ w459), (hT _ w460)⟩ (RW.preV (ci := 4) (q0 := 0) hZ hS (hy_free (cx := [(ad 56, .inr (4, [.ref (ad 57), .int wsn, .int wsb])), (ad 57, .inl (cT 0, 48, .inl wsf)), (ad 54, .inr (4, [.ref (ad 55), .int n1u4, .int b1u4])), (ad 55, .inl (cT 0, 48, .inl f1u4))]) hD hS hA [0, 1, 2, 3] rfl) (hP.sub (ws' := [(ad 56, .inr (4, [.ref (ad 57), .int wsn, .int wsb])), (ad 57, .inl (cT 0, 48, .inl wsf)), (ad 54, .inr (4, [.ref (ad 55), .int n1u4, .int b1u4])), (ad 55, .inl (cT 0, 48, .inl f1u4))]) [0, 1, 2, 3] rfl) hK (hD.sub (ws' := [(ad 56, .inr (4, [.ref (ad 57), .int wsn, .int wsb])), (ad 57, .inl (cT 0, 48, .inl wsf)), (ad 54, .inr (4, [.ref (ad 55), .int n1u4, .int b1u4])), (ad 55, .inl (cT 0, 48, .inl f1u4))]) [0, 1, 2, 3] (by decide) rfl) rfl rfl) rfl rfl hl.1 rfl (lv_room (Nat.le_of_ble_eq_true rfl)) dR_sumSquares_59 ⟨Nat.le_of_ble_eq_true rfl, Nat.le_of_ble_eq_true rfl⟩) (fun u9 H locs hpu5 hP hD hS => ?_)
      obtain ⟨n1u5, b1u5, f1u5⟩ := u9
      have hpu5 : WN 48 n1u5 b1u5 f1u5 ((smv (fun j => zs j * zs j) x i) + (zs i * zs i)) := hpu5
      have hP : va_P D vwCl ([(ad 56, .inr (4, [.ref (ad 57), .int n1u5, .int b1u5])), (ad 57, .inl (cT 0, 48, .inl f1u5)), (ad 54, .inr (4, [.ref (ad 55), .int n1u4, .int b1u4])), (ad 55, .inl (cT 0, 48, .inl f1u4))] ++ pg cds ad (upo g3 [56, 57, 54, 55])) _ := hP
      have hD : va_D A ([(ad 56, .inr (4, [.ref (ad 57), .int n1u5, .int b1u5])), (ad 57, .inl (cT 0, 48, .inl f1u5)), (ad 54, .inr (4, [.ref (ad 55), .int n1u4, .int b1u4])), (ad 55, .inl (cT 0, 48, .inl f1u4))] ++ pg cds ad (upo g3 [56, 57, 54, 55])) := hD
      have b2 := hpu5
      have hN9 := (show NDc [56, 57, 54, 55] from (nd_c (na_c (by decide) (na_c (by decide) (na_c (by decide) na_0))) (nd_c (na_c (by decide) (na_c (by decide) na_0)) (nd_c (na_c (by decide) na_0) (nd_c na_0 nd_0)))))
      have hP := gb_P (w9 := [(56, .inr (4, [.ref (ad 57), .int n1u5, .int b1u5])), (57, .inl (cT 0, 48, .inl f1u5)), (54, .inr (4, [.ref (ad 55), .int n1u4, .int b1u4])), (55, .inl (cT 0, 48, .inl f1u4))]) (X := []) (g := g3) hcd hN9 (show QB [(56, .inr (4, [.ref (ad 57), .int n1u5, .int b1u5])), (57, .inl (cT 0, 48, .inl f1u5)), (54, .inr (4, [.ref (ad 55), .int n1u4, .int b1u4])), (55, .inl (cT 0, 48, .inl f1u4))] from (qb_c (by decide) (qb_c (by decide) (qb_c (by decide) (qb_c (by decide) qb_0))))) (hP.part (cx := [(ad 56, .inr (4, [.ref (ad 57), .int n1u5, .int b1u5])), (ad 57, .inl (cT 0, 48, .inl f1u5)), (ad 54, .inr (4, [.ref (ad 55), .int n1u4, .int b1u4])), (ad 55, .inl (cT 0, 48, .inl f1u4))]) [0, 1, 2, 3] rfl)
      have hD := gb_D (w9 := [(56, .inr (4, [.ref (ad 57), .int n1u5, .int b1u5])), (57, .inl (cT 0, 48, .inl f1u5)), (54, .inr (4, [.ref (ad 55), .int n1u4, .int b1u4])), (55, .inl (cT 0, 48, .inl f1u4))]) (X := []) (g := g3) hcd hN9 (show QB [(56, .inr (4, [.ref (ad 57), .int n1u5, .int b1u5])), (57, .inl (cT 0, 48, .inl f1u5)), (54, .inr (4, [.ref (ad 55), .int n1u4, .int b1u4])), (55, .inl (cT 0, 48, .inl f1u4))] from (qb_c (by decide) (qb_c (by decide) (qb_c (by decide) (qb_c (by decide) qb_0))))) (hD.part (cx := [(ad 56, .inr (4, [.ref (ad 57), .int n1u5, .int b1u5])), (ad 57, .inl (cT 0, 48, .inl f1u5)), (ad 54, .inr (4, [.ref (ad 55), .int n1u4, .int b1u4])), (ad 55, .inl (cT 0, 48, .inl f1u4))]) [0, 1, 2, 3] (by decide) rfl)
      obtain ⟨g4, hg4⟩ : ∃ q9, q9 = ups g3 [(56, .inr (4, [.ref (ad 57), .int n1u5, .int b1u5])), (57, .inl (cT 0, 48, .inl f1u5)), (54, .inr (4, [.ref (ad 55), .int n1u4, .int b1u4])), (55, .inl (cT 0, 48, .inl f1u4))] := ⟨_, rfl⟩
      rw [← hg4] at hP hD
      have hP : va_P D vwCl ([] ++ pg cds ad g4) _ := hP
      have hD : va_D A ([] ++ pg cds ad g4) := hD
      have fg4 : ∀ z8, z8 ≠ 56 → z8 ≠ 57 → g4 z8 = g3 z8 := fun z8 z1 z2 => by rw [hg4]; exact ups_k (kp_n z1 (kp_n z2 (kp_s g3_0 (kp_s g3_1 kp_0))))
      have g4_0 : g4 56 = some (.inr (4, [.ref (ad 57), .int n1u5, .int b1u5])) := by rw [hg4]; exact ups_1
      have g4_1 : g4 57 = some (.inl (cT 0, 48, .inl f1u5)) := by rw [hg4]; exact ups_2 (by decide)
      refine lv_iinc (k := 2) (v := nI (i + 1)) hx hb dR_sumSquares_62 hl rfl (nI_1 i) (by decide) rfl (fun ls hl => ?_)
      have hl : lv_has ls 4 [(3, .int (nI (i + 1))), (0, .ref (ad 0)), (1, .long x)] := hl
      refine lv_goto (tgt := 10) hx hb dR_sumSquares_65 rfl ?_
      exact ih10 (i + 1, g4) (show (i + 1) ≤ n ∧ (∀ z8, z8 ≠ 54 → z8 ≠ 55 → z8 ≠ 56 → z8 ≠ 57 → g4 z8 = gg z8) ∧ WHO cT ad g4 56 57 48 (smv (fun j => zs j * zs j) x (i + 1)) ∧ ∃ z8, WHO cT ad g4 54 55 48 z8 from ⟨by omega, fun z8 n1 n2 n3 n4 => (fg4 z8 n3 n4).trans ((fg3 z8 n1 n2).trans (iF z8 n1 n2 n3 n4)), ⟨_, _, _, g4_0, g4_1, (by rw [smv_t gb]; exact b2)⟩, ⟨_, _, _, _, (fg4 _ (by decide) (by decide)).trans g3_0, (fg4 _ (by decide) (by decide)).trans g3_1, b1⟩⟩) (show n - (i + 1) < n - i from (by omega)) ls H locs (lv_sub hl [1, 2, 0] rfl) hP hD hS
set_option maxHeartbeats 4000000 in
set_option maxRecDepth 100000 in
theorem k_dividesN (l : Launch) (D : va_G) (cT : Nat → ClassId) (cds : List Nat) (ad : Nat → Nat) (gg : Nat → Option va_E) (n : Nat) (zs : Nat → Int) (zl : Int) (pp : Nat) (hcd : CD cds) (hn48 : n ≤ 48) (hRs : RSp cT ad gg n zs) (hLo : WHO cT ad gg 52 53 24 zl) (hp0 : 0 < pp) (hp1 : pp < 2 ^ 31) : Met l yR_divides WR_divides ({ frames := 1, cells := 0, slots := 0, locals := 24 } : Room) (RO D vwCl [.int (nI pp), .ref (ad 5), .int (nI n), .ref (ad 52)] ([] ++ pg cds ad gg) (TY cT)) (QcRead (bn (dvB zs zl pp n))) 0 0 (fun _ => False) := by
  refine Met.ofW (cc := cR_divides) (maxL := 6) (ret := (some .boolean)) (by decide) rfl ?_
  intro p e s m args below meth c s₁ B hml hv
  obtain ⟨rfl, hZ, hP, hK⟩ := hv
  have hx := B.exec
  have hb := B.bytes
  have hr := B.returns
  have hts := atoms_spec (ws := WR_divides) B.pre
  have hT : ∀ w ∈ TB, w.before _ s = true := fun w h => hts w (List.mem_cons_of_mem _ h)
  have hown : s.vm.findClass R_R = some m.cls := findClass_of_methodNamed B.named
  have hlocks := B.notSynchronized
  have hS : va_S (fun _ => False) s.heap s.heap [] := va_S.rf
  have hl := lv_entry ([.int (nI pp), .ref (ad 5), .int (nI n), .ref (ad 52)]) (n := 6) (Nat.le_of_ble_eq_true rfl)
  rw [lg_entry_eq]
  generalize (lg_sl ([.int (nI pp), .ref (ad 5), .int (nI n), .ref (ad 52)]) ++ List.replicate (6 - (lg_sl ([.int (nI pp), .ref (ad 5), .int (nI n), .ref (ad 52)])).length) Slot.unset).toArray = ls at hl ⊢
  have hl : lv_has ls 6 [(0, .int (nI pp)), (1, .ref (ad 5)), (2, .int (nI n)), (3, .ref (ad 52))] := hl
  obtain ⟨⟨qf, hrq, hrq2⟩, hrs⟩ := hRs
  obtain ⟨wln, wlb, wlf, wl1, wl2, wl3⟩ := hLo
  have m1 := Nat.mod_lt zl.natAbs hp0
  refine lv_aload_n hx hb dR_divides_0 rfl (lv_at hl 3 rfl) ?_
  refine lv_iload_n hx hb dR_divides_1 rfl (lv_at hl 0 rfl) ?_
  refine ro_i (va_Run.run (va_runV (As := [.int (nI pp)]) (rest := []) ⟨hx, hb, hml, hown, hT⟩ (k_rest l D cT (ad 52) (ad 53) 24 wln wlb wlf zl pp (by decide) wl3 hp0 hp1) ⟨callB_of 1 hT (tb_gd w958) rfl rfl rfl (hT _ w5) (hT _ w979) hW_rest ⟨Nat.le_of_ble_eq_true rfl, Nat.le_of_ble_eq_true rfl⟩, (hT _ w956), (hT _ w957)⟩ (RO.preV (ci := 4) (q0 := 0) hZ hS ((show va_P D vwCl [(ad 52, .inr (4, [.ref (ad 53), .int wln, .int wlb])), (ad 53, .inl (cT 0, 24, .inl wlf))] _ from (pv_c (pg_1 (x := 52) hcd hP (by decide) wl1) (pv_c (pg_1 (x := 53) hcd hP (by decide) wl2) pv_0)))) hK rfl rfl) rfl rfl hl.1 rfl (lv_room (Nat.le_of_ble_eq_true rfl)) dR_divides_2 ⟨Nat.le_of_ble_eq_true rfl, Nat.le_of_ble_eq_true rfl⟩)) ?_
  refine lv_if_ne (tgt := 12) hx hb dR_divides_5 rfl (fun h1 => ?_) (fun h1 => ?_)
  · have gh1 : ¬ (zl.natAbs % pp = 0) := fun q => h1 (congrArg nI q)
    refine lv_iconst (v := 0) hx hb dR_divides_12 (by decide) ?_
    refine lv_istore hx hb dR_divides_13 hl (by decide) rfl (fun ls hl => ?_)
    have hl : lv_has ls 6 [(4, .int 0), (0, .int (nI pp)), (1, .ref (ad 5)), (2, .int (nI n)), (3, .ref (ad 52))] := hl
    refine lv_iconst (v := 0) hx hb dR_divides_15 (by decide) ?_
    refine lv_istore hx hb dR_divides_16 hl (by decide) rfl (fun ls hl => ?_)
    have hl : lv_has ls 6 [(5, .int 0), (4, .int 0), (0, .int (nI pp)), (1, .ref (ad 5)), (2, .int (nI n)), (3, .ref (ad 52))] := hl
    have hl : lv_has ls 6 [(5, .int 0), (4, .int (bn (dvB zs zl pp 0))), (0, .int (nI pp)), (1, .ref (ad 5)), (2, .int (nI n)), (3, .ref (ad 52))] := by
      rw [(show bn (dvB zs zl pp 0) = 0 from congrArg bn (decide_eq_false (show ¬ zl.natAbs % pp = 0 by omega)))]; exact hl
    have hl : lv_has ls 6 [(5, .int (nI 0)), (4, .int (bn (dvB zs zl pp 0))), (0, .int (nI pp)), (1, .ref (ad 5)), (2, .int (nI n)), (3, .ref (ad 52))] := by
      rw [(show nI 0 = 0 from rfl)]; exact hl
    refine lp_r (α := Nat) (fun a9 => a9 ≤ n) (fun a9 => n - a9) (fun a9 => [(0, .int (nI pp)), (1, .ref (ad 5)), (2, .int (nI n)), (3, .ref (ad 52)), (4, .int (bn (dvB zs zl pp a9))), (5, .int (nI a9))]) 18 ?_ 0 (show 0 ≤ n from by omega) (lv_sub hl [2, 3, 4, 5, 1, 0] rfl)
    intro a9 hI18 ih18 ls hl
    obtain ⟨k, rfl⟩ : ∃ q9, q9 = a9 := ⟨_, rfl⟩
    have hI18 : k ≤ n := hI18
    have hl : lv_has ls 6 [(0, .int (nI pp)), (1, .ref (ad 5)), (2, .int (nI n)), (3, .ref (ad 52)), (4, .int (bn (dvB zs zl pp k))), (5, .int (nI k))] := hl
    refine lv_iload hx hb dR_divides_18 (lv_at hl 5 rfl) ?_
    refine lv_iload_n hx hb dR_divides_20 rfl (lv_at hl 2 rfl) ?_
    refine lv_icmp_ge (tgt := 53) hx hb dR_divides_21 rfl (fun h2 => ?_) (fun h2 => ?_)
    · have gh2 : n ≤ k := (nI_leI (a := n) (b := k) (by omega) (by omega)).mp h2
      refine lv_iload hx hb dR_divides_53 (lv_at hl 4 rfl) ?_
      exact W.zret (v := bn (dvB zs zl pp k)) hx hb hr bn_n (fun t9 ht9 hW9 => ⟨(by rw [show k = n by omega]), ht9⟩) (fun q h => nomatch h) dR_divides_55
    · have gh2 : k < n := Nat.not_le.mp (fun q => h2 ((nI_leI (a := n) (b := k) (by omega) (by omega)).mpr q))
      refine lv_iload hx hb dR_divides_24 (lv_at hl 4 rfl) ?_
      refine lv_if_eq (tgt := 53) hx hb dR_divides_26 rfl (fun h3 => ?_) (fun h3 => ?_)
      · refine lv_iload hx hb dR_divides_53 (lv_at hl 4 rfl) ?_
        exact W.zret (v := bn (dvB zs zl pp k)) hx hb hr bn_n (fun t9 ht9 hW9 => ⟨(by rw [bn_0.mp h3, show n = k + (n - k) by omega, dvB_m (bn_0.mp h3) (n - k)]), ht9⟩) (fun q h => nomatch h) dR_divides_55
      · have hkn : k < n := by omega
        obtain ⟨zk, hWk, hzk⟩ := hrs k (by omega)
        have hzk := hzk hkn
        subst hzk
        obtain ⟨win, wib, wif, wi1, wi2, wi3⟩ := hWk
        have m2 := Nat.mod_lt (zs k).natAbs hp0
        refine lv_aload_n hx hb dR_divides_29 rfl (lv_at hl 1 rfl) ?_
        refine lv_iload hx hb dR_divides_30 (lv_at hl 5 rfl) ?_
        refine al_q (q := ad (100 + k)) hx hb hK (pg_1 (x := 5) hcd hP (by decide) hrq) 0 4 rfl rfl (vp_in_nI (by omega) (by decide)) (by rw [nI_clamp (by omega)]; exact hrq2 k (by omega)) dR_divides_32 ?_
        refine lv_iload_n hx hb dR_divides_33 rfl (lv_at hl 0 rfl) ?_
        refine ro_i (va_Run.run (va_runV (As := [.int (nI pp)]) (rest := []) ⟨hx, hb, hml, hown, hT⟩ (k_rest l D cT (ad (100 + k)) (ad (150 + k)) 24 win wib wif (zs k) pp (by decide) wi3 hp0 hp1) ⟨callB_of 1 hT (tb_gd w958) rfl rfl rfl (hT _ w5) (hT _ w979) hW_rest ⟨Nat.le_of_ble_eq_true rfl, Nat.le_of_ble_eq_true rfl⟩, (hT _ w956), (hT _ w957)⟩ (RO.preV (ci := 4) (q0 := 0) hZ hS ((show va_P D vwCl [(ad (100 + k), .inr (4, [.ref (ad (150 + k)), .int win, .int wib])), (ad (150 + k), .inl (cT 0, 24, .inl wif))] _ from (pv_c (pg_1 (x := 100 + k) hcd hP (by omega) wi1) (pv_c (pg_1 (x := 150 + k) hcd hP (by omega) wi2) pv_0)))) hK rfl rfl) rfl rfl hl.1 rfl (lv_room (Nat.le_of_ble_eq_true rfl)) dR_divides_34 ⟨Nat.le_of_ble_eq_true rfl, Nat.le_of_ble_eq_true rfl⟩)) ?_
        refine lv_if_ne (tgt := 44) hx hb dR_divides_37 rfl (fun h4 => ?_) (fun h4 => ?_)
        · have gh4 : ¬ ((zs k).natAbs % pp = 0) := fun q => h4 (congrArg nI q)
          refine lv_iconst (v := 0) hx hb dR_divides_44 (by decide) ?_
          refine lv_istore hx hb dR_divides_45 hl (by decide) rfl (fun ls hl => ?_)
          have hl : lv_has ls 6 [(4, .int 0), (0, .int (nI pp)), (1, .ref (ad 5)), (2, .int (nI n)), (3, .ref (ad 52)), (5, .int (nI k))] := hl
          refine lv_iinc (k := 5) (v := nI (k + 1)) hx hb dR_divides_47 hl rfl (nI_1 k) (by decide) rfl (fun ls hl => ?_)
          have hl : lv_has ls 6 [(5, .int (nI (k + 1))), (4, .int 0), (0, .int (nI pp)), (1, .ref (ad 5)), (2, .int (nI n)), (3, .ref (ad 52))] := hl
          refine lv_goto (tgt := 18) hx hb dR_divides_50 rfl ?_
          have hl : lv_has ls 6 [(5, .int (nI (k + 1))), (4, .int (bn (dvB zs zl pp (k + 1)))), (0, .int (nI pp)), (1, .ref (ad 5)), (2, .int (nI n)), (3, .ref (ad 52))] := by
            rw [(show bn (dvB zs zl pp (k + 1)) = 0 from dvB_n (by omega))]; exact hl
          exact ih18 (k + 1) (show (k + 1) ≤ n from by omega) (show n - (k + 1) < n - k from (by omega)) ls (lv_sub hl [2, 3, 4, 5, 1, 0] rfl)
        · have gh4 : (zs k).natAbs % pp = 0 := (nI_eq (a := (zs k).natAbs % pp) (b := 0) (by omega) (by decide)).mp h4
          refine lv_iconst (v := 1) hx hb dR_divides_40 (by decide) ?_
          refine lv_goto (tgt := 45) hx hb dR_divides_41 rfl ?_
          refine lv_istore hx hb dR_divides_45 hl (by decide) rfl (fun ls hl => ?_)
          have hl : lv_has ls 6 [(4, .int 1), (0, .int (nI pp)), (1, .ref (ad 5)), (2, .int (nI n)), (3, .ref (ad 52)), (5, .int (nI k))] := hl
          refine lv_iinc (k := 5) (v := nI (k + 1)) hx hb dR_divides_47 hl rfl (nI_1 k) (by decide) rfl (fun ls hl => ?_)
          have hl : lv_has ls 6 [(5, .int (nI (k + 1))), (4, .int 1), (0, .int (nI pp)), (1, .ref (ad 5)), (2, .int (nI n)), (3, .ref (ad 52))] := hl
          refine lv_goto (tgt := 18) hx hb dR_divides_50 rfl ?_
          have hl : lv_has ls 6 [(5, .int (nI (k + 1))), (4, .int (bn (dvB zs zl pp (k + 1)))), (0, .int (nI pp)), (1, .ref (ad 5)), (2, .int (nI n)), (3, .ref (ad 52))] := by
            rw [(show bn (dvB zs zl pp (k + 1)) = 1 from dvB_y h3 (by omega))]; exact hl
          exact ih18 (k + 1) (show (k + 1) ≤ n from by omega) (show n - (k + 1) < n - k from (by omega)) ls (lv_sub hl [2, 3, 4, 5, 1, 0] rfl)
  · have gh1 : zl.natAbs % pp = 0 := (nI_eq (a := zl.natAbs % pp) (b := 0) (by omega) (by decide)).mp h1
    refine lv_iconst (v := 1) hx hb dR_divides_8 (by decide) ?_
    refine lv_goto (tgt := 13) hx hb dR_divides_9 rfl ?_
    refine lv_istore hx hb dR_divides_13 hl (by decide) rfl (fun ls hl => ?_)
    have hl : lv_has ls 6 [(4, .int 1), (0, .int (nI pp)), (1, .ref (ad 5)), (2, .int (nI n)), (3, .ref (ad 52))] := hl
    refine lv_iconst (v := 0) hx hb dR_divides_15 (by decide) ?_
    refine lv_istore hx hb dR_divides_16 hl (by decide) rfl (fun ls hl => ?_)
    have hl : lv_has ls 6 [(5, .int 0), (4, .int 1), (0, .int (nI pp)), (1, .ref (ad 5)), (2, .int (nI n)), (3, .ref (ad 52))] := hl
    have hl : lv_has ls 6 [(5, .int 0), (4, .int (bn (dvB zs zl pp 0))), (0, .int (nI pp)), (1, .ref (ad 5)), (2, .int (nI n)), (3, .ref (ad 52))] := by
      rw [(show bn (dvB zs zl pp 0) = 1 from congrArg bn (decide_eq_true (show zl.natAbs % pp = 0 by omega)))]; exact hl
    have hl : lv_has ls 6 [(5, .int (nI 0)), (4, .int (bn (dvB zs zl pp 0))), (0, .int (nI pp)), (1, .ref (ad 5)), (2, .int (nI n)), (3, .ref (ad 52))] := by
      rw [(show nI 0 = 0 from rfl)]; exact hl
    refine lp_r (α := Nat) (fun a9 => a9 ≤ n) (fun a9 => n - a9) (fun a9 => [(0, .int (nI pp)), (1, .ref (ad 5)), (2, .int (nI n)), (3, .ref (ad 52)), (4, .int (bn (dvB zs zl pp a9))), (5, .int (nI a9))]) 18 ?_ 0 (show 0 ≤ n from by omega) (lv_sub hl [2, 3, 4, 5, 1, 0] rfl)
    intro a9 hI18 ih18 ls hl
    obtain ⟨k, rfl⟩ : ∃ q9, q9 = a9 := ⟨_, rfl⟩
    have hI18 : k ≤ n := hI18
    have hl : lv_has ls 6 [(0, .int (nI pp)), (1, .ref (ad 5)), (2, .int (nI n)), (3, .ref (ad 52)), (4, .int (bn (dvB zs zl pp k))), (5, .int (nI k))] := hl
    refine lv_iload hx hb dR_divides_18 (lv_at hl 5 rfl) ?_
    refine lv_iload_n hx hb dR_divides_20 rfl (lv_at hl 2 rfl) ?_
    refine lv_icmp_ge (tgt := 53) hx hb dR_divides_21 rfl (fun h5 => ?_) (fun h5 => ?_)
    · have gh5 : n ≤ k := (nI_leI (a := n) (b := k) (by omega) (by omega)).mp h5
      refine lv_iload hx hb dR_divides_53 (lv_at hl 4 rfl) ?_
      exact W.zret (v := bn (dvB zs zl pp k)) hx hb hr bn_n (fun t9 ht9 hW9 => ⟨(by rw [show k = n by omega]), ht9⟩) (fun q h => nomatch h) dR_divides_55
    · have gh5 : k < n := Nat.not_le.mp (fun q => h5 ((nI_leI (a := n) (b := k) (by omega) (by omega)).mpr q))
      refine lv_iload hx hb dR_divides_24 (lv_at hl 4 rfl) ?_
      refine lv_if_eq (tgt := 53) hx hb dR_divides_26 rfl (fun h6 => ?_) (fun h6 => ?_)
      · refine lv_iload hx hb dR_divides_53 (lv_at hl 4 rfl) ?_
        exact W.zret (v := bn (dvB zs zl pp k)) hx hb hr bn_n (fun t9 ht9 hW9 => ⟨(by rw [bn_0.mp h6, show n = k + (n - k) by omega, dvB_m (bn_0.mp h6) (n - k)]), ht9⟩) (fun q h => nomatch h) dR_divides_55
      · have hkn : k < n := by omega
        obtain ⟨zk, hWk, hzk⟩ := hrs k (by omega)
        have hzk := hzk hkn
        subst hzk
        obtain ⟨win, wib, wif, wi1, wi2, wi3⟩ := hWk
        have m2 := Nat.mod_lt (zs k).natAbs hp0
        refine lv_aload_n hx hb dR_divides_29 rfl (lv_at hl 1 rfl) ?_
        refine lv_iload hx hb dR_divides_30 (lv_at hl 5 rfl) ?_
        refine al_q (q := ad (100 + k)) hx hb hK (pg_1 (x := 5) hcd hP (by decide) hrq) 0 4 rfl rfl (vp_in_nI (by omega) (by decide)) (by rw [nI_clamp (by omega)]; exact hrq2 k (by omega)) dR_divides_32 ?_
        refine lv_iload_n hx hb dR_divides_33 rfl (lv_at hl 0 rfl) ?_
        refine ro_i (va_Run.run (va_runV (As := [.int (nI pp)]) (rest := []) ⟨hx, hb, hml, hown, hT⟩ (k_rest l D cT (ad (100 + k)) (ad (150 + k)) 24 win wib wif (zs k) pp (by decide) wi3 hp0 hp1) ⟨callB_of 1 hT (tb_gd w958) rfl rfl rfl (hT _ w5) (hT _ w979) hW_rest ⟨Nat.le_of_ble_eq_true rfl, Nat.le_of_ble_eq_true rfl⟩, (hT _ w956), (hT _ w957)⟩ (RO.preV (ci := 4) (q0 := 0) hZ hS ((show va_P D vwCl [(ad (100 + k), .inr (4, [.ref (ad (150 + k)), .int win, .int wib])), (ad (150 + k), .inl (cT 0, 24, .inl wif))] _ from (pv_c (pg_1 (x := 100 + k) hcd hP (by omega) wi1) (pv_c (pg_1 (x := 150 + k) hcd hP (by omega) wi2) pv_0)))) hK rfl rfl) rfl rfl hl.1 rfl (lv_room (Nat.le_of_ble_eq_true rfl)) dR_divides_34 ⟨Nat.le_of_ble_eq_true rfl, Nat.le_of_ble_eq_true rfl⟩)) ?_
        refine lv_if_ne (tgt := 44) hx hb dR_divides_37 rfl (fun h7 => ?_) (fun h7 => ?_)
        · have gh7 : ¬ ((zs k).natAbs % pp = 0) := fun q => h7 (congrArg nI q)
          refine lv_iconst (v := 0) hx hb dR_divides_44 (by decide) ?_
          refine lv_istore hx hb dR_divides_45 hl (by decide) rfl (fun ls hl => ?_)
          have hl : lv_has ls 6 [(4, .int 0), (0, .int (nI pp)), (1, .ref (ad 5)), (2, .int (nI n)), (3, .ref (ad 52)), (5, .int (nI k))] := hl
          refine lv_iinc (k := 5) (v := nI (k + 1)) hx hb dR_divides_47 hl rfl (nI_1 k) (by decide) rfl (fun ls hl => ?_)
          have hl : lv_has ls 6 [(5, .int (nI (k + 1))), (4, .int 0), (0, .int (nI pp)), (1, .ref (ad 5)), (2, .int (nI n)), (3, .ref (ad 52))] := hl
          refine lv_goto (tgt := 18) hx hb dR_divides_50 rfl ?_
          have hl : lv_has ls 6 [(5, .int (nI (k + 1))), (4, .int (bn (dvB zs zl pp (k + 1)))), (0, .int (nI pp)), (1, .ref (ad 5)), (2, .int (nI n)), (3, .ref (ad 52))] := by
            rw [(show bn (dvB zs zl pp (k + 1)) = 0 from dvB_n (by omega))]; exact hl
          exact ih18 (k + 1) (show (k + 1) ≤ n from by omega) (show n - (k + 1) < n - k from (by omega)) ls (lv_sub hl [2, 3, 4, 5, 1, 0] rfl)
        · have gh7 : (zs k).natAbs % pp = 0 := (nI_eq (a := (zs k).natAbs % pp) (b := 0) (by omega) (by decide)).mp h7
          refine lv_iconst (v := 1) hx hb dR_divides_40 (by decide) ?_
          refine lv_goto (tgt := 45) hx hb dR_divides_41 rfl ?_
          refine lv_istore hx hb dR_divides_45 hl (by decide) rfl (fun ls hl => ?_)
          have hl : lv_has ls 6 [(4, .int 1), (0, .int (nI pp)), (1, .ref (ad 5)), (2, .int (nI n)), (3, .ref (ad 52)), (5, .int (nI k))] := hl
          refine lv_iinc (k := 5) (v := nI (k + 1)) hx hb dR_divides_47 hl rfl (nI_1 k) (by decide) rfl (fun ls hl => ?_)
          have hl : lv_has ls 6 [(5, .int (nI (k + 1))), (4, .int 1), (0, .int (nI pp)), (1, .ref (ad 5)), (2, .int (nI n)), (3, .ref (ad 52))] := hl
          refine lv_goto (tgt := 18) hx hb dR_divides_50 rfl ?_
          have hl : lv_has ls 6 [(5, .int (nI (k + 1))), (4, .int (bn (dvB zs zl pp (k + 1)))), (0, .int (nI pp)), (1, .ref (ad 5)), (2, .int (nI n)), (3, .ref (ad 52))] := by
            rw [(show bn (dvB zs zl pp (k + 1)) = 1 from dvB_y h6 (by omega))]; exact hl
          exact ih18 (k + 1) (show (k + 1) ≤ n from by omega) (show n - (k + 1) < n - k from (by omega)) ls (lv_sub hl [2, 3, 4, 5, 1, 0] rfl)
set_option maxHeartbeats 4000000 in
set_option maxRecDepth 100000 in
theorem k_reduceN (l : Launch) (D : va_G) (cT : Nat → ClassId) (cds : List Nat) (ad : Nat → Nat) (gg : Nat → Option va_E) (n : Nat) (zs : Nat → Int) (DD : Nat) (hcd : CD cds) (hn48 : n ≤ 48) (hRs : RSp cT ad gg n zs) (hLo : WHO cT ad gg 52 53 24 ((DD : Nat) : Int)) (hSM : SMO DD) (hDD : DD < 1000000000 ^ 24) (sz : Nat) : Met l yR_reduce WR_reduce ({ frames := 2, cells := 0, slots := 0, locals := 49 } : Room) (RW D vwCl [.ref (ad 5), .int (nI n), .ref (ad 52)] ([] ++ pg cds ad gg) (TY cT) sz) (va_Qv (fun u9 : (Nat → Option va_E) × (Nat → Int) × Nat => (∀ z8, (z8 < 100 ∨ 200 ≤ z8) → z8 ≠ 52 → z8 ≠ 53 → u9.1 z8 = gg z8) ∧ RSp cT ad u9.1 n u9.2.1 ∧ WHO cT ad u9.1 52 53 24 ((u9.2.2 : Nat) : Int) ∧ SMO u9.2.2 ∧ (∀ j, j < n → u9.2.1 j * (DD : Int) = zs j * (u9.2.2 : Int)) ∧ CRD n u9.2.1 u9.2.2) (BW D vwCl (va_A ([] ++ pg cds ad gg) sz) (fun u9 : (Nat → Option va_E) × (Nat → Int) × Nat => ([] ++ pg cds ad u9.1))) (va_A ([] ++ pg cds ad gg) sz)) 0 0 (va_A ([] ++ pg cds ad gg) sz) := by
  refine Met.ofW (cc := cR_reduce) (maxL := 9) (ret := none) (by decide) rfl ?_
  intro p e s m args below meth c s₁ B hml hv
  obtain ⟨rfl, hsz, hZ, hP, hK, hD0⟩ := hv
  have hx := B.exec
  have hb := B.bytes
  have hr := B.returns
  have hts := atoms_spec (ws := WR_reduce) B.pre
  have hT : ∀ w ∈ TB, w.before _ s = true := fun w h => hts w (List.mem_cons_of_mem _ h)
  have hown : s.vm.findClass R_R = some m.cls := findClass_of_methodNamed B.named
  have hlocks := B.notSynchronized
  subst hsz
  have hD := hD0.self (sz := s.heap.size)
  generalize hAe : va_A ([] ++ pg cds ad gg) s.heap.size = A at hD hZ ⊢
  have hA : ∀ q : Nat, s.heap.size ≤ q → A q := fun q h => by rw [← hAe]; exact Or.inr h
  have hS : va_S A s.heap s.heap [] := va_S.rf
  have hl := lv_entry ([.ref (ad 5), .int (nI n), .ref (ad 52)]) (n := 9) (Nat.le_of_ble_eq_true rfl)
  rw [lg_entry_eq]
  generalize (lg_sl ([.ref (ad 5), .int (nI n), .ref (ad 52)]) ++ List.replicate (9 - (lg_sl ([.ref (ad 5), .int (nI n), .ref (ad 52)])).length) Slot.unset).toArray = ls at hl ⊢
  have hl : lv_has ls 9 [(0, .ref (ad 5)), (1, .int (nI n)), (2, .ref (ad 52))] := hl
  obtain ⟨tQ, hQ1, hQ2⟩ := hZ.2.2.2.1
  refine va_gets hx hb hQ1 hS hown (hT _ w970) (fun _ h => h) dR_reduce_0 ?_
  refine lv_astore_n hx hb dR_reduce_3 rfl hl (by decide) rfl (fun ls hl => ?_)
  have hl : lv_has ls 9 [(3, .ref tQ), (0, .ref (ad 5)), (1, .int (nI n)), (2, .ref (ad 52))] := hl
  refine lv_aload_n hx hb dR_reduce_4 rfl (lv_at hl 0 rfl) ?_
  refine va_tlen (v := 19) hx hb hQ2 hS rfl dR_reduce_5 ?_
  refine lv_istore hx hb dR_reduce_6 hl (by decide) rfl (fun ls hl => ?_)
  have hl : lv_has ls 9 [(4, .int 19), (3, .ref tQ), (0, .ref (ad 5)), (1, .int (nI n)), (2, .ref (ad 52))] := hl
  refine lv_iconst (v := 0) hx hb dR_reduce_8 (by decide) ?_
  refine lv_istore hx hb dR_reduce_9 hl (by decide) rfl (fun ls hl => ?_)
  have hl : lv_has ls 9 [(5, .int 0), (4, .int 19), (3, .ref tQ), (0, .ref (ad 5)), (1, .int (nI n)), (2, .ref (ad 52))] := hl
  have hl : lv_has ls 9 [(5, .int (nI 0)), (4, .int 19), (3, .ref tQ), (0, .ref (ad 5)), (1, .int (nI n)), (2, .ref (ad 52))] := by
    rw [(show nI 0 = 0 from rfl)]; exact hl
  refine lp_w (α := Nat × (Nat → Int) × Nat × (Nat → Option va_E)) (fun a9 => a9.1 ≤ 19 ∧ (∀ z8, (z8 < 100 ∨ 200 ≤ z8) → z8 ≠ 52 → z8 ≠ 53 → a9.2.2.2 z8 = gg z8) ∧ RSp cT ad a9.2.2.2 n a9.2.1 ∧ WHO cT ad a9.2.2.2 52 53 24 ((a9.2.2.1 : Nat) : Int) ∧ SMO a9.2.2.1 ∧ a9.2.2.1 ≤ DD ∧ (∀ j, j < n → a9.2.1 j * (DD : Int) = zs j * (a9.2.2.1 : Int)) ∧ (∀ q, q < a9.1 → ¬ (a9.2.2.1 % pr q = 0 ∧ ∀ j, j < n → (a9.2.1 j).natAbs % pr q = 0))) (fun a9 => 19 - a9.1) (fun a9 => [(0, .ref (ad 5)), (1, .int (nI n)), (2, .ref (ad 52)), (3, .ref tQ), (4, .int 19), (5, .int (nI a9.1))]) (fun a9 => ([] ++ pg cds ad a9.2.2.2)) 11 ?_ (0, zs, DD, gg) (show 0 ≤ 19 ∧ (∀ z8, (z8 < 100 ∨ 200 ≤ z8) → z8 ≠ 52 → z8 ≠ 53 → gg z8 = gg z8) ∧ RSp cT ad gg n zs ∧ WHO cT ad gg 52 53 24 ((DD : Nat) : Int) ∧ SMO DD ∧ DD ≤ DD ∧ (∀ j, j < n → zs j * (DD : Int) = zs j * (DD : Int)) ∧ (∀ q, q < 0 → ¬ (DD % pr q = 0 ∧ ∀ j, j < n → (zs j).natAbs % pr q = 0)) from ⟨by omega, fun _ _ _ _ => rfl, hRs, hLo, hSM, Nat.le_refl _, fun _ _ => rfl, fun q h => absurd h (by omega)⟩) (lv_sub hl [3, 4, 5, 2, 1, 0] rfl) hP hD hS
  intro a9 hI11 ih11 ls H locs hl hP hD hS
  obtain ⟨i, z1, d1, g1⟩ := a9
  have hI11 : i ≤ 19 ∧ (∀ z8, (z8 < 100 ∨ 200 ≤ z8) → z8 ≠ 52 → z8 ≠ 53 → g1 z8 = gg z8) ∧ RSp cT ad g1 n z1 ∧ WHO cT ad g1 52 53 24 ((d1 : Nat) : Int) ∧ SMO d1 ∧ d1 ≤ DD ∧ (∀ j, j < n → z1 j * (DD : Int) = zs j * (d1 : Int)) ∧ (∀ q, q < i → ¬ (d1 % pr q = 0 ∧ ∀ j, j < n → (z1 j).natAbs % pr q = 0)) := hI11
  obtain ⟨ii, iF, iR, iL, iS, iD, iv, iC⟩ := hI11
  have hl : lv_has ls 9 [(0, .ref (ad 5)), (1, .int (nI n)), (2, .ref (ad 52)), (3, .ref tQ), (4, .int 19), (5, .int (nI i))] := hl
  have hP : va_P D vwCl ([] ++ pg cds ad g1) _ := hP
  have hD : va_D A ([] ++ pg cds ad g1) := hD
  refine lv_iload hx hb dR_reduce_11 (lv_at hl 5 rfl) ?_
  refine lv_iload hx hb dR_reduce_13 (lv_at hl 4 rfl) ?_
  refine lv_icmp_ge (tgt := 89) hx hb dR_reduce_15 rfl (fun h1 => ?_) (fun h1 => ?_)
  · have gh1 : 19 ≤ i := (nI_leI (a := 19) (b := i) (by omega) (by omega)).mp h1
    have hP9 : va_P D vwCl ([] ++ pg cds ad g1) _ := hP.part (cx := []) [] rfl
    have hD9 : va_D A ([] ++ pg cds ad g1) := hD.part (cx := []) [] (by decide) rfl
    refine W.widen (k := 0) (n := 0) (Nat.le_of_ble_eq_true rfl) (Nat.le_of_ble_eq_true rfl) ?_
    exact W.vret hx hb hr (fun t9 ht9 hW9 => ⟨⟨(g1, z1, d1), rfl, (show (∀ z8, (z8 < 100 ∨ 200 ≤ z8) → z8 ≠ 52 → z8 ≠ 53 → g1 z8 = gg z8) ∧ RSp cT ad g1 n z1 ∧ WHO cT ad g1 52 53 24 ((d1 : Nat) : Int) ∧ SMO d1 ∧ (∀ j, j < n → z1 j * (DD : Int) = zs j * (d1 : Int)) ∧ CRD n z1 d1 from ⟨iF, iR, iL, iS, iv, fun q hq => iC q (by omega)⟩), by rw [ht9]; exact hP9, hD9⟩, hS.F ht9⟩) hS.2.2 dR_reduce_89
  · have gh1 : i < 19 := Nat.not_le.mp (fun q => h1 ((nI_leI (a := 19) (b := i) (by omega) (by omega)).mpr q))
    refine lv_aload_n hx hb dR_reduce_18 rfl (lv_at hl 3 rfl) ?_
    refine lv_iload hx hb dR_reduce_19 (lv_at hl 5 rfl) ?_
    have hpb := pr_b i (by omega)
    refine va_ti (v := .int (nI (pr i))) hx hb hQ2 hS (vp_in_nI (by omega) (by decide)) (congrArg Value.int (zp_pr i (by omega))) dR_reduce_21 ?_
    refine lv_istore hx hb dR_reduce_22 hl (by decide) rfl (fun ls hl => ?_)
    have hl : lv_has ls 9 [(6, .int (nI (pr i))), (0, .ref (ad 5)), (1, .int (nI n)), (2, .ref (ad 52)), (3, .ref tQ), (4, .int 19), (5, .int (nI i))] := hl
    refine lv_iconst (v := 0) hx hb dR_reduce_24 (by decide) ?_
    refine lv_istore hx hb dR_reduce_25 hl (by decide) rfl (fun ls hl => ?_)
    have hl : lv_has ls 9 [(7, .int 0), (6, .int (nI (pr i))), (0, .ref (ad 5)), (1, .int (nI n)), (2, .ref (ad 52)), (3, .ref tQ), (4, .int 19), (5, .int (nI i))] := hl
    have hl : lv_has ls 9 [(7, .int (nI 0)), (6, .int (nI (pr i))), (0, .ref (ad 5)), (1, .int (nI n)), (2, .ref (ad 52)), (3, .ref tQ), (4, .int 19), (5, .int (nI i))] := by
      rw [(show nI 0 = 0 from rfl)]; exact hl
    refine lp_w (α := Nat × (Nat → Int) × Nat × (Nat → Option va_E)) (fun a9 => (∀ z8, (z8 < 100 ∨ 200 ≤ z8) → z8 ≠ 52 → z8 ≠ 53 → a9.2.2.2 z8 = gg z8) ∧ RSp cT ad a9.2.2.2 n a9.2.1 ∧ WHO cT ad a9.2.2.2 52 53 24 ((a9.2.2.1 : Nat) : Int) ∧ SMO a9.2.2.1 ∧ a9.2.2.1 ≤ DD ∧ (∀ j, j < n → a9.2.1 j * (DD : Int) = zs j * (a9.2.2.1 : Int)) ∧ (∀ q, q < i → ¬ (a9.2.2.1 % pr q = 0 ∧ ∀ j, j < n → (a9.2.1 j).natAbs % pr q = 0)) ∧ a9.2.2.1 * 2 ^ a9.1 ≤ DD) (fun a9 => a9.2.2.1) (fun a9 => [(0, .ref (ad 5)), (1, .int (nI n)), (2, .ref (ad 52)), (3, .ref tQ), (4, .int 19), (5, .int (nI i)), (6, .int (nI (pr i))), (7, .int (nI a9.1))]) (fun a9 => ([] ++ pg cds ad a9.2.2.2)) 27 ?_ (0, z1, d1, g1) (show (∀ z8, (z8 < 100 ∨ 200 ≤ z8) → z8 ≠ 52 → z8 ≠ 53 → g1 z8 = gg z8) ∧ RSp cT ad g1 n z1 ∧ WHO cT ad g1 52 53 24 ((d1 : Nat) : Int) ∧ SMO d1 ∧ d1 ≤ DD ∧ (∀ j, j < n → z1 j * (DD : Int) = zs j * (d1 : Int)) ∧ (∀ q, q < i → ¬ (d1 % pr q = 0 ∧ ∀ j, j < n → (z1 j).natAbs % pr q = 0)) ∧ d1 * 2 ^ 0 ≤ DD from ⟨iF, iR, iL, iS, iD, iv, iC, by rw [Nat.pow_zero, Nat.mul_one]; exact iD⟩) (lv_sub hl [2, 3, 4, 5, 6, 7, 1, 0] rfl) hP hD hS
    intro a9 hI27 ih27 ls H locs hl hP hD hS
    obtain ⟨jj, z2, d2, g2⟩ := a9
    have hI27 : (∀ z8, (z8 < 100 ∨ 200 ≤ z8) → z8 ≠ 52 → z8 ≠ 53 → g2 z8 = gg z8) ∧ RSp cT ad g2 n z2 ∧ WHO cT ad g2 52 53 24 ((d2 : Nat) : Int) ∧ SMO d2 ∧ d2 ≤ DD ∧ (∀ j, j < n → z2 j * (DD : Int) = zs j * (d2 : Int)) ∧ (∀ q, q < i → ¬ (d2 % pr q = 0 ∧ ∀ j, j < n → (z2 j).natAbs % pr q = 0)) ∧ d2 * 2 ^ jj ≤ DD := hI27
    obtain ⟨jF, jR, jL, jS, jD, jv, jC, jb⟩ := hI27
    have hl : lv_has ls 9 [(0, .ref (ad 5)), (1, .int (nI n)), (2, .ref (ad 52)), (3, .ref tQ), (4, .int 19), (5, .int (nI i)), (6, .int (nI (pr i))), (7, .int (nI jj))] := hl
    have hP : va_P D vwCl ([] ++ pg cds ad g2) _ := hP
    have hD : va_D A ([] ++ pg cds ad g2) := hD
    have hd2 := smo_pos jS
    have hj14 : jj < 720 := rd_j24 hd2 jb hDD
    have jL0 := jL
    obtain ⟨wln, wlb, wlf, wl1, wl2, wl3⟩ := jL
    have jL := jL0
    refine lv_iload hx hb dR_reduce_27 (lv_at hl 7 rfl) ?_
    refine lv_aload_n hx hb dR_reduce_29 rfl (lv_at hl 2 rfl) ?_
    refine ro_i (va_Run.run (va_runV (As := []) (rest := [.int (nI jj)]) ⟨hx, hb, hml, hown, hT⟩ (k_mostBits l D cT (ad 52) (ad 53) 24 wln wlb wlf) ⟨callB_of 0 hT (tb_gd w975) rfl rfl rfl (hT _ w5) (hT _ w972) hW_mostBits ⟨Nat.le_of_ble_eq_true rfl, Nat.le_of_ble_eq_true rfl⟩, (hT _ w973), (hT _ w974)⟩ (RO.preV (ci := 4) (q0 := 0) hZ hS ((show va_P D vwCl [(ad 52, .inr (4, [.ref (ad 53), .int wln, .int wlb])), (ad 53, .inl (cT 0, 24, .inl wlf))] _ from (pv_c (pg_1 (x := 52) hcd hP (by decide) wl1) (pv_c (pg_1 (x := 53) hcd hP (by decide) wl2) pv_0)))) hK rfl rfl) rfl rfl hl.1 rfl (lv_room (Nat.le_of_ble_eq_true rfl)) dR_reduce_30 ⟨Nat.le_of_ble_eq_true rfl, Nat.le_of_ble_eq_true rfl⟩)) ?_
    refine lv_icmp_ge (tgt := 83) hx hb dR_reduce_33 rfl (fun h2 => absurd h2 (fun q => absurd ((nI_leI (a := 24 * 30) (b := jj) (by decide) (by omega)).mp q) (by omega))) (fun _ => ?_)
    refine lv_iload hx hb dR_reduce_36 (lv_at hl 6 rfl) ?_
    refine lv_aload_n hx hb dR_reduce_38 rfl (lv_at hl 0 rfl) ?_
    refine lv_iload_n hx hb dR_reduce_39 rfl (lv_at hl 1 rfl) ?_
    refine lv_aload_n hx hb dR_reduce_40 rfl (lv_at hl 2 rfl) ?_
    refine ro_i (va_Run.run (va_runS (As := [.int (nI (pr i)), .ref (ad 5), .int (nI n), .ref (ad 52)]) (rest := []) ⟨hx, hb, hml, hown, hT⟩ (k_dividesN l D cT cds ad g2 n z2 ((d2 : Nat) : Int) (pr i) hcd hn48 jR jL (by omega) (by omega)) ⟨callB_of 4 hT (tb_gd w978) rfl rfl rfl (hT _ w1) (hT _ w976) hR_divides ⟨Nat.le_of_ble_eq_true rfl, Nat.le_of_ble_eq_true rfl⟩, (hT _ w977)⟩ (RO.preS hZ hS ((show va_P D vwCl ([] ++ pg cds ad g2) _ from (pv_p hP))) hK) rfl rfl hl.1 rfl (lv_room (Nat.le_of_ble_eq_true rfl)) dR_reduce_41 ⟨Nat.le_of_ble_eq_true rfl, Nat.le_of_ble_eq_true rfl⟩)) ?_
    refine lv_if_eq (tgt := 83) hx hb dR_reduce_44 rfl (fun h3 => ?_) (fun h3 => ?_)
    · have hend : ¬ (d2 % pr i = 0 ∧ ∀ j, j < n → (z2 j).natAbs % pr i = 0) := fun q => by have q9 := bn_0.mp h3; rw [dvB_t.mpr (show ((d2 : Nat) : Int).natAbs % pr i = 0 ∧ ∀ j, j < n → (z2 j).natAbs % pr i = 0 by rw [Int.natAbs_natCast]; exact q)] at q9; exact absurd q9 (by decide)
      refine lv_iinc (k := 5) (v := nI (i + 1)) hx hb dR_reduce_83 hl rfl (nI_1 i) (by decide) rfl (fun ls hl => ?_)
      have hl : lv_has ls 9 [(5, .int (nI (i + 1))), (0, .ref (ad 5)), (1, .int (nI n)), (2, .ref (ad 52)), (3, .ref tQ), (4, .int 19), (6, .int (nI (pr i))), (7, .int (nI jj))] := hl
      refine lv_goto (tgt := 11) hx hb dR_reduce_86 rfl ?_
      exact ih11 (i + 1, z2, d2, g2) (show (i + 1) ≤ 19 ∧ (∀ z8, (z8 < 100 ∨ 200 ≤ z8) → z8 ≠ 52 → z8 ≠ 53 → g2 z8 = gg z8) ∧ RSp cT ad g2 n z2 ∧ WHO cT ad g2 52 53 24 ((d2 : Nat) : Int) ∧ SMO d2 ∧ d2 ≤ DD ∧ (∀ j, j < n → z2 j * (DD : Int) = zs j * (d2 : Int)) ∧ (∀ q, q < (i + 1) → ¬ (d2 % pr q = 0 ∧ ∀ j, j < n → (z2 j).natAbs % pr q = 0)) from ⟨by omega, jF, jR, jL, jS, jD, jv, fun q h => (by by_cases r9 : q = i; (subst r9; exact hend); (exact jC q (by omega)))⟩) (show 19 - (i + 1) < 19 - i from (by omega)) ls H locs (lv_sub hl [1, 2, 3, 4, 5, 0] rfl) hP hD hS
    · have hdv : d2 % pr i = 0 ∧ ∀ j, j < n → (z2 j).natAbs % pr i = 0 := by have q9 := dvB_t.mp (Decidable.byContradiction (fun q => h3 (bn_0.mpr (Bool.eq_false_iff.mpr q)))); rw [Int.natAbs_natCast] at q9; exact q9
      refine lv_aload_n hx hb dR_reduce_47 rfl (lv_at hl 2 rfl) ?_
      refine lv_iload hx hb dR_reduce_48 (lv_at hl 6 rfl) ?_
      have hB9 : QI g2 [(52, .inr (4, [.ref (ad 53), .int wln, .int wlb])), (53, .inl (cT 0, 24, .inl wlf))] := (qi_c (by decide) wl1 (qi_c (by decide) wl2 qi_0))
      have hN9 := (show NDc [52, 53] from (nd_c (na_c (by decide) na_0) (nd_c na_0 nd_0)))
      have hP := bo_P (wc := [(52, .inr (4, [.ref (ad 53), .int wln, .int wlb])), (53, .inl (cT 0, 24, .inl wlf))]) (X := []) hcd hN9 hB9 hP
      have hD := bo_D (wc := [(52, .inr (4, [.ref (ad 53), .int wln, .int wlb])), (53, .inl (cT 0, 24, .inl wlf))]) (X := []) hcd hN9 hB9 hD
      have hP : va_P D vwCl ([(ad 52, .inr (4, [.ref (ad 53), .int wln, .int wlb])), (ad 53, .inl (cT 0, 24, .inl wlf))] ++ pg cds ad (upo g2 [52, 53])) _ := hP
      have hD : va_D A ([(ad 52, .inr (4, [.ref (ad 53), .int wln, .int wlb])), (ad 53, .inl (cT 0, 24, .inl wlf))] ++ pg cds ad (upo g2 [52, 53])) := hD
      refine hy_vQ (X := [(ad 52, .inr (4, [.ref (ad 53), .int wln, .int wlb])), (ad 53, .inl (cT 0, 24, .inl wlf))]) (pl := pg cds ad (upo g2 [52, 53])) (cx := [(ad 52, .inr (4, [.ref (ad 53), .int wln, .int wlb])), (ad 53, .inl (cT 0, 24, .inl wlf))]) (wr := []) hP hD hS hA [0, 1] [] rfl rfl (by decide) (by decide) (va_runV (As := [.int (nI (pr i))]) (rest := []) ⟨hx, hb, hml, hown, hT⟩ (k_divide l D cT (ad 52) (ad 53) 24 wln wlb wlf ((d2 : Nat) : Int) (pr i) (by decide) wl3 (by omega) (by omega) _) ⟨callB_of 1 hT (tb_gd w457) rfl rfl rfl (hT _ w5) (hT _ w980) hW_divide ⟨Nat.le_of_ble_eq_true rfl, Nat.le_of_ble_eq_true rfl⟩, (hT _ w455), (hT _ w456)⟩ (RW.preV (ci := 4) (q0 := 0) hZ hS (hy_free (cx := [(ad 52, .inr (4, [.ref (ad 53), .int wln, .int wlb])), (ad 53, .inl (cT 0, 24, .inl wlf))]) hD hS hA [0, 1] rfl) (hP.sub (ws' := [(ad 52, .inr (4, [.ref (ad 53), .int wln, .int wlb])), (ad 53, .inl (cT 0, 24, .inl wlf))]) [0, 1] rfl) hK (hD.sub (ws' := [(ad 52, .inr (4, [.ref (ad 53), .int wln, .int wlb])), (ad 53, .inl (cT 0, 24, .inl wlf))]) [0, 1] (by decide) rfl) rfl rfl) rfl rfl hl.1 rfl (lv_room (Nat.le_of_ble_eq_true rfl)) dR_reduce_50 ⟨Nat.le_of_ble_eq_true rfl, Nat.le_of_ble_eq_true rfl⟩) (fun u9 H locs hpu4 hP hD hS => ?_)
      obtain ⟨n1u4, f1u4⟩ := u9
      have hpu4 : WN 24 n1u4 wlb f1u4 (((d2 : Nat) : Int).tdiv (pr i)) := hpu4
      have hP : va_P D vwCl ([(ad 52, .inr (4, [.ref (ad 53), .int n1u4, .int wlb])), (ad 53, .inl (cT 0, 24, .inl f1u4))] ++ pg cds ad (upo g2 [52, 53])) _ := hP
      have hD : va_D A ([(ad 52, .inr (4, [.ref (ad 53), .int n1u4, .int wlb])), (ad 53, .inl (cT 0, 24, .inl f1u4))] ++ pg cds ad (upo g2 [52, 53])) := hD
      have lN9 : WN 24 n1u4 wlb f1u4 ((d2 / pr i : Nat) : Int) := by have q9 := hpu4; rw [show ((d2 : Nat) : Int).tdiv ((pr i : Nat) : Int) = ((d2 / pr i : Nat) : Int) from rfl] at q9; exact q9
      have hN9 := (show NDc [52, 53] from (nd_c (na_c (by decide) na_0) (nd_c na_0 nd_0)))
      have hP := gb_P (w9 := [(52, .inr (4, [.ref (ad 53), .int n1u4, .int wlb])), (53, .inl (cT 0, 24, .inl f1u4))]) (X := []) (g := g2) hcd hN9 (show QB [(52, .inr (4, [.ref (ad 53), .int n1u4, .int wlb])), (53, .inl (cT 0, 24, .inl f1u4))] from (qb_c (by decide) (qb_c (by decide) qb_0))) (hP.part (cx := [(ad 52, .inr (4, [.ref (ad 53), .int n1u4, .int wlb])), (ad 53, .inl (cT 0, 24, .inl f1u4))]) [0, 1] rfl)
      have hD := gb_D (w9 := [(52, .inr (4, [.ref (ad 53), .int n1u4, .int wlb])), (53, .inl (cT 0, 24, .inl f1u4))]) (X := []) (g := g2) hcd hN9 (show QB [(52, .inr (4, [.ref (ad 53), .int n1u4, .int wlb])), (53, .inl (cT 0, 24, .inl f1u4))] from (qb_c (by decide) (qb_c (by decide) qb_0))) (hD.part (cx := [(ad 52, .inr (4, [.ref (ad 53), .int n1u4, .int wlb])), (ad 53, .inl (cT 0, 24, .inl f1u4))]) [0, 1] (by decide) rfl)
      obtain ⟨g3, hg3⟩ : ∃ q9, q9 = ups g2 [(52, .inr (4, [.ref (ad 53), .int n1u4, .int wlb])), (53, .inl (cT 0, 24, .inl f1u4))] := ⟨_, rfl⟩
      rw [← hg3] at hP hD
      have hP : va_P D vwCl ([] ++ pg cds ad g3) _ := hP
      have hD : va_D A ([] ++ pg cds ad g3) := hD
      have fg3 : ∀ z8, z8 ≠ 52 → z8 ≠ 53 → g3 z8 = g2 z8 := fun z8 z1 z2 => by rw [hg3]; exact ups_k (kp_n z1 (kp_n z2 kp_0))
      have g3_0 : g3 52 = some (.inr (4, [.ref (ad 53), .int n1u4, .int wlb])) := by rw [hg3]; exact ups_1
      have g3_1 : g3 53 = some (.inl (cT 0, 24, .inl f1u4)) := by rw [hg3]; exact ups_2 (by decide)
      obtain ⟨⟨qf, hrq, hrq2⟩, hrs⟩ := jR
      refine lv_iconst (v := 0) hx hb dR_reduce_53 (by decide) ?_
      refine lv_istore hx hb dR_reduce_54 hl (by decide) rfl (fun ls hl => ?_)
      have hl : lv_has ls 9 [(8, .int 0), (0, .ref (ad 5)), (1, .int (nI n)), (2, .ref (ad 52)), (3, .ref tQ), (4, .int 19), (5, .int (nI i)), (6, .int (nI (pr i))), (7, .int (nI jj))] := hl
      have hl : lv_has ls 9 [(8, .int (nI 0)), (0, .ref (ad 5)), (1, .int (nI n)), (2, .ref (ad 52)), (3, .ref tQ), (4, .int 19), (5, .int (nI i)), (6, .int (nI (pr i))), (7, .int (nI jj))] := by
        rw [(show nI 0 = 0 from rfl)]; exact hl
      refine lp_w (α := Nat × (Nat → Option va_E)) (fun a9 => a9.1 ≤ n ∧ (∀ z8, (z8 < 100 ∨ 200 ≤ z8) → a9.2 z8 = g3 z8) ∧ ∀ j, j < 48 → ∃ z8, WHO cT ad a9.2 (100 + j) (150 + j) 24 z8 ∧ (j < n → z8 = if j < a9.1 then (z2 j).tdiv (pr i : Int) else z2 j)) (fun a9 => n - a9.1) (fun a9 => [(0, .ref (ad 5)), (1, .int (nI n)), (2, .ref (ad 52)), (3, .ref tQ), (4, .int 19), (5, .int (nI i)), (6, .int (nI (pr i))), (7, .int (nI jj)), (8, .int (nI a9.1))]) (fun a9 => ([] ++ pg cds ad a9.2)) 56 ?_ (0, g3) (show 0 ≤ n ∧ (∀ z8, (z8 < 100 ∨ 200 ≤ z8) → g3 z8 = g3 z8) ∧ ∀ j, j < 48 → ∃ z8, WHO cT ad g3 (100 + j) (150 + j) 24 z8 ∧ (j < n → z8 = if j < 0 then (z2 j).tdiv (pr i : Int) else z2 j) from ⟨by omega, fun _ _ => rfl, fun j hj => (by obtain ⟨z, e1, e2⟩ := hrs j hj; exact ⟨z, e1.cg (fg3 _ (by omega) (by omega)) (fg3 _ (by omega) (by omega)), fun r => (by rw [if_neg (show ¬ j < 0 by omega)]; exact e2 r)⟩)⟩) (lv_sub hl [1, 2, 3, 4, 5, 6, 7, 8, 0] rfl) hP hD hS
      intro a9 hI56 ih56 ls H locs hl hP hD hS
      obtain ⟨k, g5⟩ := a9
      have hI56 : k ≤ n ∧ (∀ z8, (z8 < 100 ∨ 200 ≤ z8) → g5 z8 = g3 z8) ∧ ∀ j, j < 48 → ∃ z8, WHO cT ad g5 (100 + j) (150 + j) 24 z8 ∧ (j < n → z8 = if j < k then (z2 j).tdiv (pr i : Int) else z2 j) := hI56
      obtain ⟨kk9, kF, kR⟩ := hI56
      have hl : lv_has ls 9 [(0, .ref (ad 5)), (1, .int (nI n)), (2, .ref (ad 52)), (3, .ref tQ), (4, .int 19), (5, .int (nI i)), (6, .int (nI (pr i))), (7, .int (nI jj)), (8, .int (nI k))] := hl
      have hP : va_P D vwCl ([] ++ pg cds ad g5) _ := hP
      have hD : va_D A ([] ++ pg cds ad g5) := hD
      refine lv_iload hx hb dR_reduce_56 (lv_at hl 8 rfl) ?_
      refine lv_iload_n hx hb dR_reduce_58 rfl (lv_at hl 1 rfl) ?_
      refine lv_icmp_ge (tgt := 77) hx hb dR_reduce_59 rfl (fun h5 => ?_) (fun h5 => ?_)
      · have gh5 : n ≤ k := (nI_leI (a := n) (b := k) (by omega) (by omega)).mp h5
        refine lv_iinc (k := 7) (v := nI (jj + 1)) hx hb dR_reduce_77 hl rfl (nI_1 jj) (by decide) rfl (fun ls hl => ?_)
        have hl : lv_has ls 9 [(7, .int (nI (jj + 1))), (0, .ref (ad 5)), (1, .int (nI n)), (2, .ref (ad 52)), (3, .ref tQ), (4, .int 19), (5, .int (nI i)), (6, .int (nI (pr i))), (8, .int (nI k))] := hl
        refine lv_goto (tgt := 27) hx hb dR_reduce_80 rfl ?_
        exact ih27 (jj + 1, fun j => (z2 j).tdiv (pr i : Int), d2 / pr i, g5) (show (∀ z8, (z8 < 100 ∨ 200 ≤ z8) → z8 ≠ 52 → z8 ≠ 53 → g5 z8 = gg z8) ∧ RSp cT ad g5 n (fun j => (z2 j).tdiv (pr i : Int)) ∧ WHO cT ad g5 52 53 24 (((d2 / pr i) : Nat) : Int) ∧ SMO (d2 / pr i) ∧ (d2 / pr i) ≤ DD ∧ (∀ j, j < n → (fun j => (z2 j).tdiv (pr i : Int)) j * (DD : Int) = zs j * ((d2 / pr i) : Int)) ∧ (∀ q, q < i → ¬ ((d2 / pr i) % pr q = 0 ∧ ∀ j, j < n → ((fun j => (z2 j).tdiv (pr i : Int)) j).natAbs % pr q = 0)) ∧ (d2 / pr i) * 2 ^ (jj + 1) ≤ DD from ⟨fun z8 n1 n2 n3 => (kF z8 n1).trans ((fg3 z8 n2 n3).trans (jF z8 n1 n2 n3)), ⟨⟨qf, (kF 5 (by omega)).trans ((fg3 5 (by omega) (by omega)).trans hrq), hrq2⟩, fun j hj => (by obtain ⟨z, e1, e2⟩ := kR j hj; exact ⟨z, e1, fun r => (by have q9 := e2 r; rw [if_pos (show j < k by omega)] at q9; exact q9)⟩)⟩, ⟨_, _, _, (kF _ (by omega)).trans g3_0, (kF _ (by omega)).trans g3_1, lN9⟩, smo_div jS (by omega) hdv.1, Nat.le_trans (Nat.div_le_self _ _) jD, fun j hj => red_dv (by omega) hdv.1 (hdv.2 j hj) (jv j hj), crd_dv jC hdv.1 hdv.2, rd_b hpb.1 hdv.1 jb⟩) (show (d2 / pr i) < d2 from (Nat.div_lt_self hd2 (by omega))) ls H locs (lv_sub hl [1, 2, 3, 4, 5, 6, 7, 0] rfl) hP hD hS
      · have gh5 : k < n := Nat.not_le.mp (fun q => h5 ((nI_leI (a := n) (b := k) (by omega) (by omega)).mpr q))
        have hkn : k < n := by omega
        obtain ⟨zk, hWk, hzk⟩ := kR k (by omega)
        have hzk : zk = z2 k := by have q9 := hzk hkn; rw [if_neg (show ¬ k < k by omega)] at q9; exact q9
        subst hzk
        obtain ⟨win, wib, wif, wi1, wi2, wi3⟩ := hWk
        refine lv_aload_n hx hb dR_reduce_62 rfl (lv_at hl 0 rfl) ?_
        refine lv_iload hx hb dR_reduce_63 (lv_at hl 8 rfl) ?_
        refine al_q (q := ad (100 + k)) hx hb hK (pg_1 (x := 5) hcd hP (by decide) ((kF 5 (by omega)).trans ((fg3 5 (by omega) (by omega)).trans hrq))) 0 4 rfl rfl (vp_in_nI (by omega) (by decide)) (by rw [nI_clamp (by omega)]; exact hrq2 k (by omega)) dR_reduce_65 ?_
        refine lv_iload hx hb dR_reduce_66 (lv_at hl 6 rfl) ?_
        have hB9 : QI g5 [(100 + k, .inr (4, [.ref (ad (150 + k)), .int win, .int wib])), (150 + k, .inl (cT 0, 24, .inl wif))] := (qi_c (by omega) wi1 (qi_c (by omega) wi2 qi_0))
        have hN9 := (show NDc [100 + k, 150 + k] from (nd_c (na_c (by omega) na_0) (nd_c na_0 nd_0)))
        have hP := bo_P (wc := [(100 + k, .inr (4, [.ref (ad (150 + k)), .int win, .int wib])), (150 + k, .inl (cT 0, 24, .inl wif))]) (X := []) hcd hN9 hB9 hP
        have hD := bo_D (wc := [(100 + k, .inr (4, [.ref (ad (150 + k)), .int win, .int wib])), (150 + k, .inl (cT 0, 24, .inl wif))]) (X := []) hcd hN9 hB9 hD
        have hP : va_P D vwCl ([(ad (100 + k), .inr (4, [.ref (ad (150 + k)), .int win, .int wib])), (ad (150 + k), .inl (cT 0, 24, .inl wif))] ++ pg cds ad (upo g5 [100 + k, 150 + k])) _ := hP
        have hD : va_D A ([(ad (100 + k), .inr (4, [.ref (ad (150 + k)), .int win, .int wib])), (ad (150 + k), .inl (cT 0, 24, .inl wif))] ++ pg cds ad (upo g5 [100 + k, 150 + k])) := hD
        refine hy_vQ (X := [(ad (100 + k), .inr (4, [.ref (ad (150 + k)), .int win, .int wib])), (ad (150 + k), .inl (cT 0, 24, .inl wif))]) (pl := pg cds ad (upo g5 [100 + k, 150 + k])) (cx := [(ad (100 + k), .inr (4, [.ref (ad (150 + k)), .int win, .int wib])), (ad (150 + k), .inl (cT 0, 24, .inl wif))]) (wr := []) hP hD hS hA [0, 1] [] rfl rfl (by decide) (by decide) (va_runV (As := [.int (nI (pr i))]) (rest := []) ⟨hx, hb, hml, hown, hT⟩ (k_divide l D cT (ad (100 + k)) (ad (150 + k)) 24 win wib wif (z2 k) (pr i) (by decide) wi3 (by omega) (by omega) _) ⟨callB_of 1 hT (tb_gd w457) rfl rfl rfl (hT _ w5) (hT _ w980) hW_divide ⟨Nat.le_of_ble_eq_true rfl, Nat.le_of_ble_eq_true rfl⟩, (hT _ w455), (hT _ w456)⟩ (RW.preV (ci := 4) (q0 := 0) hZ hS (hy_free (cx := [(ad (100 + k), .inr (4, [.ref (ad (150 + k)), .int win, .int wib])), (ad (150 + k), .inl (cT 0, 24, .inl wif))]) hD hS hA [0, 1] rfl) (hP.sub (ws' := [(ad (100 + k), .inr (4, [.ref (ad (150 + k)), .int win, .int wib])), (ad (150 + k), .inl (cT 0, 24, .inl wif))]) [0, 1] rfl) hK (hD.sub (ws' := [(ad (100 + k), .inr (4, [.ref (ad (150 + k)), .int win, .int wib])), (ad (150 + k), .inl (cT 0, 24, .inl wif))]) [0, 1] (by decide) rfl) rfl rfl) rfl rfl hl.1 rfl (lv_room (Nat.le_of_ble_eq_true rfl)) dR_reduce_68 ⟨Nat.le_of_ble_eq_true rfl, Nat.le_of_ble_eq_true rfl⟩) (fun u9 H locs hpu6 hP hD hS => ?_)
        obtain ⟨n1u6, f1u6⟩ := u9
        have hpu6 : WN 24 n1u6 wib f1u6 ((z2 k).tdiv (pr i)) := hpu6
        have hP : va_P D vwCl ([(ad (100 + k), .inr (4, [.ref (ad (150 + k)), .int n1u6, .int wib])), (ad (150 + k), .inl (cT 0, 24, .inl f1u6))] ++ pg cds ad (upo g5 [100 + k, 150 + k])) _ := hP
        have hD : va_D A ([(ad (100 + k), .inr (4, [.ref (ad (150 + k)), .int n1u6, .int wib])), (ad (150 + k), .inl (cT 0, 24, .inl f1u6))] ++ pg cds ad (upo g5 [100 + k, 150 + k])) := hD
        have c1 := hpu6
        have hN9 := (show NDc [100 + k, 150 + k] from (nd_c (na_c (by omega) na_0) (nd_c na_0 nd_0)))
        have hP := gb_P (w9 := [(100 + k, .inr (4, [.ref (ad (150 + k)), .int n1u6, .int wib])), (150 + k, .inl (cT 0, 24, .inl f1u6))]) (X := []) (g := g5) hcd hN9 (show QB [(100 + k, .inr (4, [.ref (ad (150 + k)), .int n1u6, .int wib])), (150 + k, .inl (cT 0, 24, .inl f1u6))] from (qb_c (by omega) (qb_c (by omega) qb_0))) (hP.part (cx := [(ad (100 + k), .inr (4, [.ref (ad (150 + k)), .int n1u6, .int wib])), (ad (150 + k), .inl (cT 0, 24, .inl f1u6))]) [0, 1] rfl)
        have hD := gb_D (w9 := [(100 + k, .inr (4, [.ref (ad (150 + k)), .int n1u6, .int wib])), (150 + k, .inl (cT 0, 24, .inl f1u6))]) (X := []) (g := g5) hcd hN9 (show QB [(100 + k, .inr (4, [.ref (ad (150 + k)), .int n1u6, .int wib])), (150 + k, .inl (cT 0, 24, .inl f1u6))] from (qb_c (by omega) (qb_c (by omega) qb_0))) (hD.part (cx := [(ad (100 + k), .inr (4, [.ref (ad (150 + k)), .int n1u6, .int wib])), (ad (150 + k), .inl (cT 0, 24, .inl f1u6))]) [0, 1] (by decide) rfl)
        obtain ⟨g6, hg6⟩ : ∃ q9, q9 = ups g5 [(100 + k, .inr (4, [.ref (ad (150 + k)), .int n1u6, .int wib])), (150 + k, .inl (cT 0, 24, .inl f1u6))] := ⟨_, rfl⟩
        rw [← hg6] at hP hD
        have hP : va_P D vwCl ([] ++ pg cds ad g6) _ := hP
        have hD : va_D A ([] ++ pg cds ad g6) := hD
        have fg6 : ∀ z8, z8 ≠ 100 + k → z8 ≠ 150 + k → g6 z8 = g5 z8 := fun z8 z1 z2 => by rw [hg6]; exact ups_k (kp_n z1 (kp_n z2 kp_0))
        have g6_0 : g6 (100 + k) = some (.inr (4, [.ref (ad (150 + k)), .int n1u6, .int wib])) := by rw [hg6]; exact ups_1
        have g6_1 : g6 (150 + k) = some (.inl (cT 0, 24, .inl f1u6)) := by rw [hg6]; exact ups_2 (by omega)
        refine lv_iinc (k := 8) (v := nI (k + 1)) hx hb dR_reduce_71 hl rfl (nI_1 k) (by decide) rfl (fun ls hl => ?_)
        have hl : lv_has ls 9 [(8, .int (nI (k + 1))), (0, .ref (ad 5)), (1, .int (nI n)), (2, .ref (ad 52)), (3, .ref tQ), (4, .int 19), (5, .int (nI i)), (6, .int (nI (pr i))), (7, .int (nI jj))] := hl
        refine lv_goto (tgt := 56) hx hb dR_reduce_74 rfl ?_
        exact ih56 (k + 1, g6) (show (k + 1) ≤ n ∧ (∀ z8, (z8 < 100 ∨ 200 ≤ z8) → g6 z8 = g3 z8) ∧ ∀ j, j < 48 → ∃ z8, WHO cT ad g6 (100 + j) (150 + j) 24 z8 ∧ (j < n → z8 = if j < (k + 1) then (z2 j).tdiv (pr i : Int) else z2 j) from ⟨by omega, fun z8 n1 => (fg6 z8 (by omega) (by omega)).trans (kF z8 n1), fun j hj => (by by_cases q9 : j = k; (subst q9; exact ⟨_, ⟨_, _, _, g6_0, g6_1, c1⟩, fun _ => (by rw [if_pos (show j < j + 1 by omega)])⟩); (obtain ⟨z, e1, e2⟩ := kR j hj; exact ⟨z, e1.cg (fg6 _ (by omega) (by omega)) (fg6 _ (by omega) (by omega)), fun r => (by have q8 := e2 r; by_cases r9 : j < k; (rw [if_pos r9] at q8; rw [if_pos (show j < k + 1 by omega)]; exact q8); (rw [if_neg r9] at q8; rw [if_neg (show ¬ j < k + 1 by omega)]; exact q8))⟩))⟩) (show n - (k + 1) < n - k from (by omega)) ls H locs (lv_sub hl [1, 2, 3, 4, 5, 6, 7, 8, 0] rfl) hP hD hS
