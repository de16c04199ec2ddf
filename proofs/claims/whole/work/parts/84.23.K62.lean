set_option maxHeartbeats 4000000 in
set_option maxRecDepth 100000 in
theorem k_sumUp (l : Launch) (D : va_G) (cT : Nat → ClassId) (cds : List Nat) (ad : Nat → Nat) (gg : Nat → Option va_E) (bb9 : Nat) (tt9 : Nat) (wd9 : Int32) (rw9 : Int32) (n : Nat) (zs : Nat → Int) (XB : Nat) (xa : Nat) (xw : Nat) (x : Int64) (zu : Int) (hcd : CD cds) (hgr : gg 6 = some (eGR ad bb9 tt9)) (htb : gg 1 = some (eTB ad wd9 rw9)) (hrn : rw9 = nI n) (hn48 : n ≤ 48) (hRs : RSp cT ad gg n zs) (hXB : ∀ i, i < n → (zs i).natAbs ≤ XB) (hfit : 49 * XB < 1000000000 ^ 24) (hxw : 2000 ≤ xa ∧ 2000 ≤ xw ∧ xw ≠ xa ∧ (xa < 8192 ∧ xw < 8192)) (hL : WHO cT ad gg xa xw 24 zu) (sz : Nat) : Met l yGr_sumUp WGr_sumUp ({ frames := 2, cells := 0, slots := 0, locals := 51 } : Room) (RW D vwCl [.ref (ad 6), .long x, .ref (ad xa)] ([] ++ pg cds ad gg) (TY cT) sz) (va_Qv (fun u9 : (Nat → Option va_E) => (∀ z8, z8 ≠ xa → z8 ≠ xw → u9 z8 = gg z8) ∧ WHO cT ad u9 xa xw 24 (smv zs x n)) (BW D vwCl (va_A ([] ++ pg cds ad gg) sz) (fun u9 : (Nat → Option va_E) => ([] ++ pg cds ad u9))) (va_A ([] ++ pg cds ad gg) sz)) 0 0 (va_A ([] ++ pg cds ad gg) sz) := by
  refine Met.ofW (cc := cGr_sumUp) (maxL := 5) (ret := none) (by decide) rfl ?_
  intro p e s m args below meth c s₁ B hml hv
  obtain ⟨rfl, hsz, hZ, hP, hK, hD0⟩ := hv
  have hx := B.exec
  have hb := B.bytes
  have hr := B.returns
  have hts := atoms_spec (ws := WGr_sumUp) B.pre
  have hT : ∀ w ∈ TB, w.before _ s = true := fun w h => hts w (List.mem_cons_of_mem _ h)
  have hown : s.vm.findClass R_Gr = some m.cls := findClass_of_methodNamed B.named
  have hlocks := B.notSynchronized
  subst hsz
  have hD := hD0.self (sz := s.heap.size)
  generalize hAe : va_A ([] ++ pg cds ad gg) s.heap.size = A at hD hZ ⊢
  have hA : ∀ q : Nat, s.heap.size ≤ q → A q := fun q h => by rw [← hAe]; exact Or.inr h
  have hS : va_S A s.heap s.heap [] := va_S.rf
  have hl := lv_entry ([.ref (ad 6), .long x, .ref (ad xa)]) (n := 5) (Nat.le_of_ble_eq_true rfl)
  rw [lg_entry_eq]
  generalize (lg_sl ([.ref (ad 6), .long x, .ref (ad xa)]) ++ List.replicate (5 - (lg_sl ([.ref (ad 6), .long x, .ref (ad xa)])).length) Slot.unset).toArray = ls at hl ⊢
  have hl : lv_has ls 5 [(0, .ref (ad 6)), (1, .long x), (3, .ref (ad xa))] := hl
  obtain ⟨⟨qf, hrq, hrq2⟩, hrs⟩ := hRs
  obtain ⟨wun, wub, wuf, wu1, wu2, wu3⟩ := hL
  obtain ⟨x1, x2, x3, x4⟩ := hxw
  refine lv_aload_n hx hb dGr_sumUp_0 rfl (lv_at hl 2 rfl) ?_
  refine lv_iconst (v := 0) hx hb dGr_sumUp_1 (by decide) ?_
  have hB9 : QI gg [(xa, .inr (4, [.ref (ad xw), .int wun, .int wub])), (xw, .inl (cT 0, 24, .inl wuf))] := (qi_c (by omega) wu1 (qi_c (by omega) wu2 qi_0))
  have hN9 := (show NDc [xa, xw] from (nd_c (na_c (by omega) na_0) (nd_c na_0 nd_0)))
  have hP := bo_P (wc := [(xa, .inr (4, [.ref (ad xw), .int wun, .int wub])), (xw, .inl (cT 0, 24, .inl wuf))]) (X := []) hcd hN9 hB9 hP
  have hD := bo_D (wc := [(xa, .inr (4, [.ref (ad xw), .int wun, .int wub])), (xw, .inl (cT 0, 24, .inl wuf))]) (X := []) hcd hN9 hB9 hD
  have hP : va_P D vwCl ([(ad xa, .inr (4, [.ref (ad xw), .int wun, .int wub])), (ad xw, .inl (cT 0, 24, .inl wuf))] ++ pg cds ad (upo gg [xa, xw])) _ := hP
  have hD : va_D A ([(ad xa, .inr (4, [.ref (ad xw), .int wun, .int wub])), (ad xw, .inl (cT 0, 24, .inl wuf))] ++ pg cds ad (upo gg [xa, xw])) := hD
  refine hy_vQ (X := [(ad xa, .inr (4, [.ref (ad xw), .int wun, .int wub])), (ad xw, .inl (cT 0, 24, .inl wuf))]) (pl := pg cds ad (upo gg [xa, xw])) (cx := [(ad xa, .inr (4, [.ref (ad xw), .int wun, .int wub])), (ad xw, .inl (cT 0, 24, .inl wuf))]) (wr := []) hP hD hS hA [0, 1] [] rfl rfl (by decide) (by decide) (va_runV (As := [.int 0]) (rest := []) ⟨hx, hb, hml, hown, hT⟩ (k_setI l D cT (ad xa) (ad xw) 24 wun wub wuf (0 : Int32) (by decide) (by decide) (by decide) _) ⟨callB_of 1 hT (tb_gd w393) rfl rfl rfl (hT _ w5) (hT _ w891) hW_set ⟨Nat.le_of_ble_eq_true rfl, Nat.le_of_ble_eq_true rfl⟩, (hT _ w391), (hT _ w392)⟩ (RW.preV (ci := 4) (q0 := 0) hZ hS (hy_free (cx := [(ad xa, .inr (4, [.ref (ad xw), .int wun, .int wub])), (ad xw, .inl (cT 0, 24, .inl wuf))]) hD hS hA [0, 1] rfl) (hP.sub (ws' := [(ad xa, .inr (4, [.ref (ad xw), .int wun, .int wub])), (ad xw, .inl (cT 0, 24, .inl wuf))]) [0, 1] rfl) hK (hD.sub (ws' := [(ad xa, .inr (4, [.ref (ad xw), .int wun, .int wub])), (ad xw, .inl (cT 0, 24, .inl wuf))]) [0, 1] (by decide) rfl) rfl rfl) rfl rfl hl.1 rfl (lv_room (Nat.le_of_ble_eq_true rfl)) dGr_sumUp_2 ⟨Nat.le_of_ble_eq_true rfl, Nat.le_of_ble_eq_true rfl⟩) (fun u9 H locs hpu1 hP hD hS => ?_)
  obtain ⟨n1u1, b1u1, f1u1⟩ := u9
  have hpu1 : WN 24 n1u1 b1u1 f1u1 (0 : Int32).toInt := hpu1
  have hP : va_P D vwCl ([(ad xa, .inr (4, [.ref (ad xw), .int n1u1, .int b1u1])), (ad xw, .inl (cT 0, 24, .inl f1u1))] ++ pg cds ad (upo gg [xa, xw])) _ := hP
  have hD : va_D A ([(ad xa, .inr (4, [.ref (ad xw), .int n1u1, .int b1u1])), (ad xw, .inl (cT 0, 24, .inl f1u1))] ++ pg cds ad (upo gg [xa, xw])) := hD
  have a1 : WN 24 n1u1 b1u1 f1u1 (smv zs x 0) := hpu1
  have hN9 := (show NDc [xa, xw] from (nd_c (na_c (by omega) na_0) (nd_c na_0 nd_0)))
  have hP := gb_P (w9 := [(xa, .inr (4, [.ref (ad xw), .int n1u1, .int b1u1])), (xw, .inl (cT 0, 24, .inl f1u1))]) (X := []) (g := gg) hcd hN9 (show QB [(xa, .inr (4, [.ref (ad xw), .int n1u1, .int b1u1])), (xw, .inl (cT 0, 24, .inl f1u1))] from (qb_c (by omega) (qb_c (by omega) qb_0))) (hP.part (cx := [(ad xa, .inr (4, [.ref (ad xw), .int n1u1, .int b1u1])), (ad xw, .inl (cT 0, 24, .inl f1u1))]) [0, 1] rfl)
  have hD := gb_D (w9 := [(xa, .inr (4, [.ref (ad xw), .int n1u1, .int b1u1])), (xw, .inl (cT 0, 24, .inl f1u1))]) (X := []) (g := gg) hcd hN9 (show QB [(xa, .inr (4, [.ref (ad xw), .int n1u1, .int b1u1])), (xw, .inl (cT 0, 24, .inl f1u1))] from (qb_c (by omega) (qb_c (by omega) qb_0))) (hD.part (cx := [(ad xa, .inr (4, [.ref (ad xw), .int n1u1, .int b1u1])), (ad xw, .inl (cT 0, 24, .inl f1u1))]) [0, 1] (by decide) rfl)
  obtain ⟨g1, hg1⟩ : ∃ q9, q9 = ups gg [(xa, .inr (4, [.ref (ad xw), .int n1u1, .int b1u1])), (xw, .inl (cT 0, 24, .inl f1u1))] := ⟨_, rfl⟩
  rw [← hg1] at hP hD
  have hP : va_P D vwCl ([] ++ pg cds ad g1) _ := hP
  have hD : va_D A ([] ++ pg cds ad g1) := hD
  have fg1 : ∀ z8, z8 ≠ xa → z8 ≠ xw → g1 z8 = gg z8 := fun z8 z1 z2 => by rw [hg1]; exact ups_k (kp_n z1 (kp_n z2 kp_0))
  have g1_0 : g1 xa = some (.inr (4, [.ref (ad xw), .int n1u1, .int b1u1])) := by rw [hg1]; exact ups_1
  have g1_1 : g1 xw = some (.inl (cT 0, 24, .inl f1u1)) := by rw [hg1]; exact ups_2 (by omega)
  refine lv_iconst (v := 0) hx hb dGr_sumUp_5 (by decide) ?_
  refine lv_istore hx hb dGr_sumUp_6 hl (by decide) rfl (fun ls hl => ?_)
  have hl : lv_has ls 5 [(4, .int 0), (0, .ref (ad 6)), (1, .long x), (3, .ref (ad xa))] := hl
  have hl : lv_has ls 5 [(4, .int (nI 0)), (0, .ref (ad 6)), (1, .long x), (3, .ref (ad xa))] := by
    rw [(show nI 0 = 0 from rfl)]; exact hl
  refine lp_w (α := Nat × (Nat → Option va_E)) (fun a9 => a9.1 ≤ n ∧ (∀ z8, z8 ≠ xa → z8 ≠ xw → a9.2 z8 = gg z8) ∧ WHO cT ad a9.2 xa xw 24 (smv zs x a9.1)) (fun a9 => n - a9.1) (fun a9 => [(0, .ref (ad 6)), (1, .long x), (3, .ref (ad xa)), (4, .int (nI a9.1))]) (fun a9 => ([] ++ pg cds ad a9.2)) 8 ?_ (0, g1) (show 0 ≤ n ∧ (∀ z8, z8 ≠ xa → z8 ≠ xw → g1 z8 = gg z8) ∧ WHO cT ad g1 xa xw 24 (smv zs x 0) from ⟨Nat.zero_le _, fg1, ⟨_, _, _, g1_0, g1_1, a1⟩⟩) (lv_sub hl [1, 2, 3, 0] rfl) hP hD hS
  intro a9 hI8 ih8 ls H locs hl hP hD hS
  obtain ⟨i, g2⟩ := a9
  have hI8 : i ≤ n ∧ (∀ z8, z8 ≠ xa → z8 ≠ xw → g2 z8 = gg z8) ∧ WHO cT ad g2 xa xw 24 (smv zs x i) := hI8
  obtain ⟨ii, iF, iW⟩ := hI8
  have hl : lv_has ls 5 [(0, .ref (ad 6)), (1, .long x), (3, .ref (ad xa)), (4, .int (nI i))] := hl
  have hP : va_P D vwCl ([] ++ pg cds ad g2) _ := hP
  have hD : va_D A ([] ++ pg cds ad g2) := hD
  refine lv_iload hx hb dGr_sumUp_8 (lv_at hl 3 rfl) ?_
  refine lv_aload_n hx hb dGr_sumUp_10 rfl (lv_at hl 0 rfl) ?_
  refine va_get (D := D) (ci := 7) (v := .ref (ad 1)) (C := R_Gr) (T := T_Gr) (N := 13) hx hb hT in_Gr hown hK (pg_1 (x := 6) hcd hP (by decide) ((iF _ (by omega) (by omega)).trans hgr)) 0 rfl rfl 0 (by decide) (hT _ w214) (fun _ h9 => h9) rfl dGr_sumUp_11 ?_
  refine va_get (D := D) (ci := 2) (v := .int rw9) (C := R_T) (T := T_T) (N := 4) hx hb hT in_T hown hK (pg_1 (x := 1) hcd hP (by decide) ((iF _ (by omega) (by omega)).trans htb)) 0 rfl rfl 3 (by decide) (hT _ w83) (fun _ h9 => h9) rfl dGr_sumUp_14 ?_
  refine lv_topi (fun y9 e9 => ?_)
  cases (show y9 = nI n from e9.trans hrn)
  refine lv_icmp_ge (tgt := 49) hx hb dGr_sumUp_17 rfl (fun h2 => ?_) (fun h2 => ?_)
  · have gh2 : n ≤ i := (nI_leI (a := n) (b := i) (by omega) (by omega)).mp h2
    have hP9 : va_P D vwCl ([] ++ pg cds ad g2) _ := hP.part (cx := []) [] rfl
    have hD9 : va_D A ([] ++ pg cds ad g2) := hD.part (cx := []) [] (by decide) rfl
    refine W.widen (k := 0) (n := 0) (Nat.le_of_ble_eq_true rfl) (Nat.le_of_ble_eq_true rfl) ?_
    exact W.vret hx hb hr (fun t9 ht9 hW9 => ⟨⟨g2, rfl, (show (∀ z8, z8 ≠ xa → z8 ≠ xw → g2 z8 = gg z8) ∧ WHO cT ad g2 xa xw 24 (smv zs x n) from ⟨iF, by rw [show n = i by omega]; exact iW⟩), by rw [ht9]; exact hP9, hD9⟩, hS.F ht9⟩) hS.2.2 dGr_sumUp_49
  · have gh2 : i < n := Nat.not_le.mp (fun q => h2 ((nI_leI (a := n) (b := i) (by omega) (by omega)).mpr q))
    refine lv_lload_n hx hb dGr_sumUp_20 rfl (lv_at hl 1 rfl) ?_
    refine lv_iload hx hb dGr_sumUp_21 (lv_at hl 3 rfl) ?_
    refine lv_lshr hx hb dGr_sumUp_23 rfl ?_
    refine lv_lconst (v := 1) hx hb dGr_sumUp_24 (by decide) ?_
    refine lv_land hx hb dGr_sumUp_25 ?_
    refine lv_lconst (v := 1) hx hb dGr_sumUp_26 (by decide) ?_
    refine W.lcmp hx hb dGr_sumUp_27 ?_
    refine lv_if_ne (tgt := 43) hx hb dGr_sumUp_28 rfl (fun h3 => ?_) (fun h3 => ?_)
    · have gb : ¬ bx x i = true := fun q => h3 ((bx_t x (by omega)).mpr q)
      refine lv_iinc (k := 3) (v := nI (i + 1)) hx hb dGr_sumUp_43 hl rfl (nI_1 i) (by decide) rfl (fun ls hl => ?_)
      have hl : lv_has ls 5 [(4, .int (nI (i + 1))), (0, .ref (ad 6)), (1, .long x), (3, .ref (ad xa))] := hl
      refine lv_goto (tgt := 8) hx hb dGr_sumUp_46 rfl ?_
      exact ih8 (i + 1, g2) (show (i + 1) ≤ n ∧ (∀ z8, z8 ≠ xa → z8 ≠ xw → g2 z8 = gg z8) ∧ WHO cT ad g2 xa xw 24 (smv zs x (i + 1)) from ⟨by omega, iF, by rw [smv_f gb]; exact iW⟩) (show n - (i + 1) < n - i from (by omega)) ls H locs (lv_sub hl [1, 2, 3, 0] rfl) hP hD hS
    · have gb : bx x i = true := (bx_t x (by omega)).mp h3
      have hin : i < n := by omega
      obtain ⟨zi, hWi, hzi⟩ := hrs i (by omega)
      have hzi := hzi hin
      subst hzi
      have hWi := hWi.cg (g2 := g2) (iF _ (by omega) (by omega)) (iF _ (by omega) (by omega))
      obtain ⟨win, wib, wif, wi1, wi2, wi3⟩ := hWi
      obtain ⟨wsn, wsb, wsf, ws1, ws2, ws3⟩ := iW
      have hb1 := hXB i hin
      have hb3 := smv_le (x := x) (zr := zs) (B := XB) (n := n) hXB i (by omega)
      have hb4 : i * XB ≤ 47 * XB := Nat.mul_le_mul_right _ (by omega)
      refine lv_aload_n hx hb dGr_sumUp_31 rfl (lv_at hl 2 rfl) ?_
      refine lv_aload_n hx hb dGr_sumUp_32 rfl (lv_at hl 0 rfl) ?_
      refine va_get (D := D) (ci := 7) (v := .ref (ad 5)) (C := R_Gr) (T := T_Gr) (N := 13) hx hb hT in_Gr hown hK (pg_1 (x := 6) hcd hP (by decide) ((iF _ (by omega) (by omega)).trans hgr)) 0 rfl rfl 2 (by decide) (hT _ w216) (fun _ h9 => h9) rfl dGr_sumUp_33 ?_
      refine lv_iload hx hb dGr_sumUp_36 (lv_at hl 3 rfl) ?_
      refine al_q (q := ad (100 + i)) hx hb hK (pg_1 (x := 5) hcd hP (by decide) ((iF _ (by omega) (by omega)).trans hrq)) 0 4 rfl rfl (vp_in_nI (by omega) (by decide)) (by rw [nI_clamp (by omega)]; exact hrq2 i (by omega)) dGr_sumUp_38 ?_
      refine lv_iconst (v := 0) hx hb dGr_sumUp_39 (by decide) ?_
      have hB9 : QI g2 [(xa, .inr (4, [.ref (ad xw), .int wsn, .int wsb])), (xw, .inl (cT 0, 24, .inl wsf)), (100 + i, .inr (4, [.ref (ad (150 + i)), .int win, .int wib])), (150 + i, .inl (cT 0, 24, .inl wif))] := (qi_c (by omega) ws1 (qi_c (by omega) ws2 (qi_c (by omega) wi1 (qi_c (by omega) wi2 qi_0))))
      have hN9 := (show NDc [xa, xw, 100 + i, 150 + i] from (nd_c (na_c (by omega) (na_c (by omega) (na_c (by omega) na_0))) (nd_c (na_c (by omega) (na_c (by omega) na_0)) (nd_c (na_c (by omega) na_0) (nd_c na_0 nd_0)))))
      have hP := bo_P (wc := [(xa, .inr (4, [.ref (ad xw), .int wsn, .int wsb])), (xw, .inl (cT 0, 24, .inl wsf)), (100 + i, .inr (4, [.ref (ad (150 + i)), .int win, .int wib])), (150 + i, .inl (cT 0, 24, .inl wif))]) (X := []) hcd hN9 hB9 hP
      have hD := bo_D (wc := [(xa, .inr (4, [.ref (ad xw), .int wsn, .int wsb])), (xw, .inl (cT 0, 24, .inl wsf)), (100 + i, .inr (4, [.ref (ad (150 + i)), .int win, .int wib])), (150 + i, .inl (cT 0, 24, .inl wif))]) (X := []) hcd hN9 hB9 hD
      have hP : va_P D vwCl ([(ad xa, .inr (4, [.ref (ad xw), .int wsn, .int wsb])), (ad xw, .inl (cT 0, 24, .inl wsf)), (ad (100 + i), .inr (4, [.ref (ad (150 + i)), .int win, .int wib])), (ad (150 + i), .inl (cT 0, 24, .inl wif))] ++ pg cds ad (upo g2 [xa, xw, 100 + i, 150 + i])) _ := hP
      have hD : va_D A ([(ad xa, .inr (4, [.ref (ad xw), .int wsn, .int wsb])), (ad xw, .inl (cT 0, 24, .inl wsf)), (ad (100 + i), .inr (4, [.ref (ad (150 + i)), .int win, .int wib])), (ad (150 + i), .inl (cT 0, 24, .inl wif))] ++ pg cds ad (upo g2 [xa, xw, 100 + i, 150 + i])) := hD
      refine hy_vQ (X := [(ad xa, .inr (4, [.ref (ad xw), .int wsn, .int wsb])), (ad xw, .inl (cT 0, 24, .inl wsf)), (ad (100 + i), .inr (4, [.ref (ad (150 + i)), .int win, .int wib])), (ad (150 + i), .inl (cT 0, 24, .inl wif))]) (pl := pg cds ad (upo g2 [xa, xw, 100 + i, 150 + i])) (cx := [(ad xa, .inr (4, [.ref (ad xw), .int wsn, .int wsb])), (ad xw, .inl (cT 0, 24, .inl wsf)), (ad (100 + i), .inr (4, [.ref (ad (150 + i)), .int win, .int wib])), (ad (150 + i), .inl (cT 0, 24, .inl wif))]) (wr := []) hP hD hS hA [0, 1, 2, 3] [] rfl rfl (by decide) (by decide) (va_runV (As := [.ref (ad (100 + i)), .int 0]) (rest := []) ⟨hx, hb, hml, hown, hT⟩ (k_plus0 l D cT (ad xa) (ad xw) 24 wsn wsb wsf (smv zs x i) (ad (100 + i)) (ad (150 + i)) 24 win wib wif (zs i) (by decide) ws3 (by decide) wi3 (by omega) _) ⟨callB_of 2 hT (tb_gd w461) rfl rfl rfl (hT _ w5) (hT _ w892) hW_plus ⟨Nat.le_of_ble_eq_true rfl, Nat.le_of_ble_eq_true rfl⟩, (hT _ w459), (hT _ w460)⟩ (RW.preV (ci := 4) (q0 := 0) hZ hS (hy_free (cx := [(ad xa, .inr (4, [.ref (ad xw), .int wsn, .int wsb])), (ad xw, .inl (cT 0, 24, .inl wsf)), (ad (100 + i), .inr (4, [.ref (ad (150 + i)), .int win, .int wib])), (ad (150 + i), .inl (cT 0, 24, .inl wif))]) hD hS hA [0, 1, 2, 3] rfl) (hP.sub (ws' := [(ad xa, .inr (4, [.ref (ad xw), .int wsn, .int wsb])), (ad xw, .inl (cT 0, 24, .inl wsf)), (ad (100 + i), .inr (4, [.ref (ad (150 + i)), .int win, .int wib])), (ad (150 + i), .inl (cT 0, 24, .inl wif))]) [0, 1, 2, 3] rfl) hK (hD.sub (ws' := [(ad xa, .inr (4, [.ref (ad xw), .int wsn, .int wsb])), (ad xw, .inl (cT 0, 24, .inl wsf)), (ad (100 + i), .inr (4, [.ref (ad (150 + i)), .int win, .int wib])), (ad (150 + i), .inl (cT 0, 24, .inl wif))]) [0, 1, 2, 3] (by decide) rfl) rfl rfl) rfl rfl hl.1 rfl (lv_room (Nat.le_of_ble_eq_true rfl)) dGr_sumUp_40 ⟨Nat.le_of_ble_eq_true rfl, Nat.le_of_ble_eq_true rfl⟩) (fun u9 H locs hpu4 hP hD hS => ?_)
      obtain ⟨n1u4, b1u4, f1u4⟩ := u9
      have hpu4 : WN 24 n1u4 b1u4 f1u4 ((smv zs x i) + (zs i)) := hpu4
      have hP : va_P D vwCl ([(ad xa, .inr (4, [.ref (ad xw), .int n1u4, .int b1u4])), (ad xw, .inl (cT 0, 24, .inl f1u4)), (ad (100 + i), .inr (4, [.ref (ad (150 + i)), .int win, .int wib])), (ad (150 + i), .inl (cT 0, 24, .inl wif))] ++ pg cds ad (upo g2 [xa, xw, 100 + i, 150 + i])) _ := hP
      have hD : va_D A ([(ad xa, .inr (4, [.ref (ad xw), .int n1u4, .int b1u4])), (ad xw, .inl (cT 0, 24, .inl f1u4)), (ad (100 + i), .inr (4, [.ref (ad (150 + i)), .int win, .int wib])), (ad (150 + i), .inl (cT 0, 24, .inl wif))] ++ pg cds ad (upo g2 [xa, xw, 100 + i, 150 + i])) := hD
      have b2 := hpu4
      have hN9 := (show NDc [xa, xw, 100 + i, 150 + i] from (nd_c (na_c (by omega) (na_c (by omega) (na_c (by omega) na_0))) (nd_c (na_c (by omega) (na_c (by omega) na_0)) (nd_c (na_c (by omega) na_0) (nd_c na_0 nd_0)))))
      have hP := gb_P (w9 := [(xa, .inr (4, [.ref (ad xw), .int n1u4, .int b1u4])), (xw, .inl (cT 0, 24, .inl f1u4)), (100 + i, .inr (4, [.ref (ad (150 + i)), .int win, .int wib])), (150 + i, .inl (cT 0, 24, .inl wif))]) (X := []) (g := g2) hcd hN9 (show QB [(xa, .inr (4, [.ref (ad xw), .int n1u4, .int b1u4])), (xw, .inl (cT 0, 24, .inl f1u4)), (100 + i, .inr (4, [.ref (ad (150 + i)), .int win, .int wib])), (150 + i, .inl (cT 0, 24, .inl wif))] from (qb_c (by omega) (qb_c (by omega) (qb_c (by omega) (qb_c (by omega) qb_0))))) (hP.part (cx := [(ad xa, .inr (4, [.ref (ad xw), .int n1u4, .int b1u4])), (ad xw, .inl (cT 0, 24, .inl f1u4)), (ad (100 + i), .inr (4, [.ref (ad (150 + i)), .int win, .int wib])), (ad (150 + i), .inl (cT 0, 24, .inl wif))]) [0, 1, 2, 3] rfl)
      have hD := gb_D (w9 := [(xa, .inr (4, [.ref (ad xw), .int n1u4, .int b1u4])), (xw, .inl (cT 0, 24, .inl f1u4)), (100 + i, .inr (4, [.ref (ad (150 + i)), .int win, .int wib])), (150 + i, .inl (cT 0, 24, .inl wif))]) (X := []) (g := g2) hcd hN9 (show QB [(xa, .inr (4, [.ref (ad xw), .int n1u4, .int b1u4])), (xw, .inl (cT 0, 24, .inl f1u4)), (100 + i, .inr (4, [.ref (ad (150 + i)), .int win, .int wib])), (150 + i, .inl (cT 0, 24, .inl wif))] from (qb_c (by omega) (qb_c (by omega) (qb_c (by omega) (qb_c (by omega) qb_0))))) (hD.part (cx := [(ad xa, .inr (4, [.ref (ad xw), .int n1u4, .int b1u4])), (ad xw, .inl (cT 0, 24, .inl f1u4)), (ad (100 + i), .inr (4, [.ref (ad (150 + i)), .int win, .int wib])), (ad (150 + i), .inl (cT 0, 24, .inl wif))]) [0, 1, 2, 3] (by decide) rfl)
      obtain ⟨g3, hg3⟩ : ∃ q9, q9 = ups g2 [(xa, .inr (4, [.ref (ad xw), .int n1u4, .int b1u4])), (xw, .inl (cT 0, 24, .inl f1u4)), (100 + i, .inr (4, [.ref (ad (150 + i)), .int win, .int wib])), (150 + i, .inl (cT 0, 24, .inl wif))] := ⟨_, rfl⟩
      rw [← hg3] at hP hD
      have hP : va_P D vwCl ([] ++ pg cds ad g3) _ := hP
      have hD : va_D A ([] ++ pg cds ad g3) := hD
      have fg3 : ∀ z8, z8 ≠ xa → z8 ≠ xw → g3 z8 = g2 z8 := fun z8 z1 z2 => by rw [hg3]; exact ups_k (kp_n z1 (kp_n z2 (kp_s wi1 (kp_s wi2 kp_0))))
      have g3_0 : g3 xa = some (.inr (4, [.ref (ad xw), .int n1u4, .int b1u4])) := by rw [hg3]; exact ups_1
      have g3_1 : g3 xw = some (.inl (cT 0, 24, .inl f1u4)) := by rw [hg3]; exact ups_2 (by omega)
      refine lv_iinc (k := 3) (v := nI (i + 1)) hx hb dGr_sumUp_43 hl rfl (nI_1 i) (by decide) rfl (fun ls hl => ?_)
      have hl : lv_has ls 5 [(4, .int (nI (i + 1))), (0, .ref (ad 6)), (1, .long x), (3, .ref (ad xa))] := hl
      refine lv_goto (tgt := 8) hx hb dGr_sumUp_46 rfl ?_
      exact ih8 (i + 1, g3) (show (i + 1) ≤ n ∧ (∀ z8, z8 ≠ xa → z8 ≠ xw → g3 z8 = gg z8) ∧ WHO cT ad g3 xa xw 24 (smv zs x (i + 1)) from ⟨by omega, fun z8 n1 n2 => (fg3 z8 n1 n2).trans (iF z8 n1 n2), ⟨_, _, _, g3_0, g3_1, (by rw [smv_t gb]; exact b2)⟩⟩) (show n - (i + 1) < n - i from (by omega)) ls H locs (lv_sub hl [1, 2, 3, 0] rfl) hP hD hS
set_option maxHeartbeats 4000000 in
set_option maxRecDepth 100000 in
theorem k_orderBins (l : Launch) (D : va_G) (cT : Nat → ClassId) (cds : List Nat) (ad : Nat → Nat) (gg : Nat → Option va_E) (bb9 : Nat) (tt9 : Nat) (fo : Nat → Int32) (nb : Nat) (hcd : CD cds) (hgr : gg 6 = some (eGR ad bb9 tt9)) (hod : gg 8 = some (eA (cT 0) 12 fo)) (hnb : nb ≤ 12) (sz : Nat) : Met l yGr_orderBins WGr_orderBins ({ frames := 0, cells := 0, slots := 0, locals := 0 } : Room) (RW D vwCl [.ref (ad 6), .int (nI nb)] ([] ++ pg cds ad gg) (TY cT) sz) (va_Qi (fun (r9 : Int32) (u9 : (Nat → Option va_E) × (Nat → Int32)) => r9 = nI nb ∧ (∀ z8, z8 ≠ 8 → u9.1 z8 = gg z8) ∧ u9.1 8 = some (eA (cT 0) 12 u9.2) ∧ ∀ j8, j8 < nb → u9.2 j8 = nI j8) (BW D vwCl (va_A ([] ++ pg cds ad gg) sz) (fun u9 : (Nat → Option va_E) × (Nat → Int32) => ([] ++ pg cds ad u9.1))) (va_A ([] ++ pg cds ad gg) sz)) 0 0 (va_A ([] ++ pg cds ad gg) sz) := by
  refine Met.ofW (cc := cGr_orderBins) (maxL := 3) (ret := (some .int)) (by decide) rfl ?_
  intro p e s m args below meth c s₁ B hml hv
  obtain ⟨rfl, hsz, hZ, hP, hK, hD0⟩ := hv
  have hx := B.exec
  have hb := B.bytes
  have hr := B.returns
  have hts := atoms_spec (ws := WGr_orderBins) B.pre
  have hT : ∀ w ∈ TB, w.before _ s = true := fun w h => hts w (List.mem_cons_of_mem _ h)
  have hown : s.vm.findClass R_Gr = some m.cls := findClass_of_methodNamed B.named
  have hlocks := B.notSynchronized
  subst hsz
  have hD := hD0.self (sz := s.heap.size)
  generalize hAe : va_A ([] ++ pg cds ad gg) s.heap.size = A at hD hZ ⊢
  have hA : ∀ q : Nat, s.heap.size ≤ q → A q := fun q h => by rw [← hAe]; exact Or.inr h
  have hS : va_S A s.heap s.heap [] := va_S.rf
  have hl := lv_entry ([.ref (ad 6), .int (nI nb)]) (n := 3) (Nat.le_of_ble_eq_true rfl)
  rw [lg_entry_eq]
  generalize (lg_sl ([.ref (ad 6), .int (nI nb)]) ++ List.replicate (3 - (lg_sl ([.ref (ad 6), .int (nI nb)])).length) Slot.unset).toArray = ls at hl ⊢
  have hl : lv_has ls 3 [(0, .ref (ad 6)), (1, .int (nI nb))] := hl
  refine lv_iconst (v := 0) hx hb dGr_orderBins_0 (by decide) ?_
  refine lv_istore_n hx hb dGr_orderBins_1 rfl hl (by decide) rfl (fun ls hl => ?_)
  have hl : lv_has ls 3 [(2, .int 0), (0, .ref (ad 6)), (1, .int (nI nb))] := hl
  have hl : lv_has ls 3 [(2, .int (nI 0)), (0, .ref (ad 6)), (1, .int (nI nb))] := by
    rw [(show nI 0 = 0 from rfl)]; exact hl
  refine lp_w (α := Nat × (Nat → Int32) × (Nat → Option va_E)) (fun a9 => a9.1 ≤ nb ∧ (∀ z8, z8 ≠ 8 → a9.2.2 z8 = gg z8) ∧ a9.2.2 8 = some (eA (cT 0) 12 a9.2.1) ∧ ∀ j, j < a9.1 → a9.2.1 j = nI j) (fun a9 => nb - a9.1) (fun a9 => [(0, .ref (ad 6)), (1, .int (nI nb)), (2, .int (nI a9.1))]) (fun a9 => ([] ++ pg cds ad a9.2.2)) 2 ?_ (0, fo, gg) (show 0 ≤ nb ∧ (∀ z8, z8 ≠ 8 → gg z8 = gg z8) ∧ gg 8 = some (eA (cT 0) 12 fo) ∧ ∀ j, j < 0 → fo j = nI j from ⟨Nat.zero_le _, fun _ _ => rfl, hod, fun j hj => absurd hj (by omega)⟩) (lv_sub hl [1, 2, 0] rfl) hP hD hS
  intro a9 hI2 ih2 ls H locs hl hP hD hS
  obtain ⟨i, fo9, g2⟩ := a9
  have hI2 : i ≤ nb ∧ (∀ z8, z8 ≠ 8 → g2 z8 = gg z8) ∧ g2 8 = some (eA (cT 0) 12 fo9) ∧ ∀ j, j < i → fo9 j = nI j := hI2
  obtain ⟨ii, iF, i8, io⟩ := hI2
  have hl : lv_has ls 3 [(0, .ref (ad 6)), (1, .int (nI nb)), (2, .int (nI i))] := hl
  have hP : va_P D vwCl ([] ++ pg cds ad g2) _ := hP
  have hD : va_D A ([] ++ pg cds ad g2) := hD
  refine lv_iload_n hx hb dGr_orderBins_2 rfl (lv_at hl 2 rfl) ?_
  refine lv_iload_n hx hb dGr_orderBins_3 rfl (lv_at hl 1 rfl) ?_
  refine lv_icmp_ge (tgt := 20) hx hb dGr_orderBins_4 rfl (fun h1 => ?_) (fun h1 => ?_)
  · have gh1 : nb ≤ i := (nI_leI (a := nb) (b := i) (by omega) (by omega)).mp h1
    refine lv_iload_n hx hb dGr_orderBins_20 rfl (lv_at hl 1 rfl) ?_
    have hP9 : va_P D vwCl ([] ++ pg cds ad g2) _ := hP.part (cx := []) [] rfl
    have hD9 : va_D A ([] ++ pg cds ad g2) := hD.part (cx := []) [] (by decide) rfl
    refine W.widen (k := 0) (n := 0) (Nat.le_of_ble_eq_true rfl) (Nat.le_of_ble_eq_true rfl) ?_
    exact W.iret (v := nI nb) hx hb hr (fun t9 ht9 hW9 => ⟨⟨nI nb, (g2, fo9), rfl, (show (nI nb) = nI nb ∧ (∀ z8, z8 ≠ 8 → g2 z8 = gg z8) ∧ g2 8 = some (eA (cT 0) 12 fo9) ∧ ∀ j8, j8 < nb → fo9 j8 = nI j8 from ⟨rfl, iF, i8, fun j hj => io j (by omega)⟩), by rw [ht9]; exact hP9, hD9⟩, hS.F ht9⟩) hS.2.2 dGr_orderBins_21
  · have gh1 : i < nb := Nat.not_le.mp (fun q => h1 ((nI_leI (a := nb) (b := i) (by omega) (by omega)).mpr q))
    refine lv_aload_n hx hb dGr_orderBins_7 rfl (lv_at hl 0 rfl) ?_
    refine va_get (D := D) (ci := 7) (v := .ref (ad 8)) (C := R_Gr) (T := T_Gr) (N := 13) hx hb hT in_Gr hown hK (pg_1 (x := 6) hcd hP (by decide) ((iF 6 (by omega)).trans hgr)) 0 rfl rfl 4 (by decide) (hT _ w218) (fun _ h9 => h9) rfl dGr_orderBins_8 ?_
    refine lv_iload_n hx hb dGr_orderBins_11 rfl (lv_at hl 2 rfl) ?_
    refine lv_iload_n hx hb dGr_orderBins_12 rfl (lv_at hl 2 rfl) ?_
    have hB9 : QI g2 [(8, .inl (cT 0, 12, .inl fo9))] := (qi_c (by decide) i8 qi_0)
    have hN9 := (show NDc [8] from (nd_c na_0 nd_0))
    have hP := bo_P (wc := [(8, .inl (cT 0, 12, .inl fo9))]) (X := []) hcd hN9 hB9 hP
    have hD := bo_D (wc := [(8, .inl (cT 0, 12, .inl fo9))]) (X := []) hcd hN9 hB9 hD
    have hP : va_P D vwCl ([(ad 8, .inl (cT 0, 12, .inl fo9))] ++ pg cds ad (upo g2 [8])) _ := hP
    have hD : va_D A ([(ad 8, .inl (cT 0, 12, .inl fo9))] ++ pg cds ad (upo g2 [8])) := hD
    refine lq_iast (j := i) hx hb hK hP hD hS 0 0 rfl rfl rfl (by omega) (by omega) dGr_orderBins_13 (fun H locs hP hD hS => ?_)
    have hP : va_P D vwCl ([(ad 8, .inl (cT 0, 12, .inl (upd fo9 i (nI i))))] ++ pg cds ad (upo g2 [8])) _ := hP
    have hD : va_D A ([(ad 8, .inl (cT 0, 12, .inl (upd fo9 i (nI i))))] ++ pg cds ad (upo g2 [8])) := hD
    have hN9 := (show NDc [8] from (nd_c na_0 nd_0))
    have hP := gb_P (w9 := [(8, .inl (cT 0, 12, .inl (upd fo9 i (nI i))))]) (X := []) (g := g2) hcd hN9 (show QB [(8, .inl (cT 0, 12, .inl (upd fo9 i (nI i))))] from (qb_c (by decide) qb_0)) (hP.part (cx := [(ad 8, .inl (cT 0, 12, .inl (upd fo9 i (nI i))))]) [0] rfl)
    have hD := gb_D (w9 := [(8, .inl (cT 0, 12, .inl (upd fo9 i (nI i))))]) (X := []) (g := g2) hcd hN9 (show QB [(8, .inl (cT 0, 12, .inl (upd fo9 i (nI i))))] from (qb_c (by decide) qb_0)) (hD.part (cx := [(ad 8, .inl (cT 0, 12, .inl (upd fo9 i (nI i))))]) [0] (by decide) rfl)
    obtain ⟨g3, hg3⟩ : ∃ q9, q9 = ups g2 [(8, .inl (cT 0, 12, .inl (upd fo9 i (nI i))))] := ⟨_, rfl⟩
    rw [← hg3] at hP hD
    have hP : va_P D vwCl ([] ++ pg cds ad g3) _ := hP
    have hD : va_D A ([] ++ pg cds ad g3) := hD
    have fg3 : ∀ z8, z8 ≠ 8 → g3 z8 = g2 z8 := fun z8 z1 => by rw [hg3]; exact ups_k (kp_n z1 kp_0)
    have g3_0 : g3 8 = some (.inl (cT 0, 12, .inl (upd fo9 i (nI i)))) := by rw [hg3]; exact ups_1
    refine lv_iinc (k := 2) (v := nI (i + 1)) hx hb dGr_orderBins_14 hl rfl (nI_1 i) (by decide) rfl (fun ls hl => ?_)
    have hl : lv_has ls 3 [(2, .int (nI (i + 1))), (0, .ref (ad 6)), (1, .int (nI nb))] := hl
    refine lv_goto (tgt := 2) hx hb dGr_orderBins_17 rfl ?_
    exact ih2 (i + 1, upd fo9 i (nI i), g3) (show (i + 1) ≤ nb ∧ (∀ z8, z8 ≠ 8 → g3 z8 = gg z8) ∧ g3 8 = some (eA (cT 0) 12 (upd fo9 i (nI i))) ∧ ∀ j, j < (i + 1) → (upd fo9 i (nI i)) j = nI j from ⟨by omega, fun z8 n1 => (fg3 z8 n1).trans (iF z8 n1), g3_0, fun j hj => (by by_cases q9 : j = i; (rw [q9, pk_us]); (rw [pk_un q9]; exact io j (by omega)))⟩) (show nb - (i + 1) < nb - i from (by omega)) ls H locs (lv_sub hl [1, 2, 0] rfl) hP hD hS
set_option maxHeartbeats 4000000 in
set_option maxRecDepth 100000 in
theorem k_gatherN (l : Launch) (D : va_G) (cT : Nat → ClassId) (cds : List Nat) (ad : Nat → Nat) (gg : Nat → Option va_E) (bb9 : Nat) (tt9 : Nat) (wd9 : Int32) (rw9 : Int32) (n : Nat) (zs : Nat → Int) (XB : Nat) (vv : Nat → Int32) (vq : Nat → Int32) (eg : Nat → Int32) (ik : Nat → Int32) (ne : Nat → Nat) (c0 : Nat) (x : Int64) (hcd : CD cds) (hgr : gg 6 = some (eGR ad bb9 tt9)) (htb : gg 1 = some (eTB ad wd9 rw9)) (hrn : rw9 = nI n) (hn48 : n ≤ 48) (hRs : RSp cT ad gg n zs) (hXB : ∀ i, i < n → (zs i).natAbs ≤ XB) (hfit : 49 * XB < 1000000000 ^ 24) (hGa : GAp cT ad gg) (hGs : ∀ j, j < 15 → ∃ (r : Int64) (z : Int), GPp cT ad gg j r z) (hCf : COLF cT ad gg n vv vq eg ik ne) (hc6 : c0 < 6) (hk : ik c0 = 0) (hne : ∀ c, c < 6 → ne c ≤ 11) (hS9 : RIS eg (11 * c0) (ne c0)) (sz : Nat) : Met l yGr_gather WGr_gather ({ frames := 3, cells := 0, slots := 0, locals := 74 } : Room) (RW D vwCl [.ref (ad 6), .ref (ad (10 + c0)), .long x] ([] ++ pg cds ad gg) (TY cT) sz) (va_Qv (fun u9 : (Nat → Option va_E) => (∀ z8, (z8 < 200 ∨ 260 ≤ z8 ∨ z8 = 213 ∨ z8 = 214 ∨ z8 = 233 ∨ z8 = 234 ∨ z8 = 253 ∨ z8 = 254) → u9 z8 = gg z8) ∧ (∀ j8, j8 < 12 → GPp cT ad u9 j8 (gsG vv eg ik ne c0 x j8 n) (smv zs (gsG vv eg ik ne c0 x j8 n) n)) ∧ GPp cT ad u9 12 (gsM vv c0 x n) (smv zs (gsM vv c0 x n) n)) (BW D vwCl (va_A ([] ++ pg cds ad gg) sz) (fun u9 : (Nat → Option va_E) => ([] ++ pg cds ad u9))) (va_A ([] ++ pg cds ad gg) sz)) 0 0 (va_A ([] ++ pg cds ad gg) sz) := by
  refine Met.ofW (cc := cGr_gather) (maxL := 8) (ret := none) (by decide) rfl ?_
  intro p e s m args below meth c s₁ B hml hv
  obtain ⟨rfl, hsz, hZ, hP, hK, hD0⟩ := hv
  have hx := B.exec
  have hb := B.bytes
  have hr := B.returns
  have hts := atoms_spec (ws := WGr_gather) B.pre
  have hT : ∀ w ∈ TB, w.before _ s = true := fun w h => hts w (List.mem_cons_of_mem _ h)
  have hown : s.vm.findClass R_Gr = some m.cls := findClass_of_methodNamed B.named
  have hlocks := B.notSynchronized
  subst hsz
  have hD := hD0.self (sz := s.heap.size)
  generalize hAe : va_A ([] ++ pg cds ad gg) s.heap.size = A at hD hZ ⊢
  have hA : ∀ q : Nat, s.heap.size ≤ q → A q := fun q h => by rw [← hAe]; exact Or.inr h
  have hS : va_S A s.heap s.heap [] := va_S.rf
  have hl := lv_entry ([.ref (ad 6), .ref (ad (10 + c0)), .long x]) (n := 8) (Nat.le_of_ble_eq_true rfl)
  rw [lg_entry_eq]
  generalize (lg_sl ([.ref (ad 6), .ref (ad (10 + c0)), .long x]) ++ List.replicate (8 - (lg_sl ([.ref (ad 6), .ref (ad (10 + c0)), .long x])).length) Slot.unset).toArray = ls at hl ⊢
  have hl : lv_has ls 8 [(0, .ref (ad 6)), (1, .ref (ad (10 + c0))), (2, .long x)] := hl
  obtain ⟨qg, hga, hgb⟩ := hGa
  obtain ⟨⟨qf, hrq, hrq2⟩, hrs⟩ := hRs
  obtain ⟨fv, fe, hce, hcv, hcq, hcg⟩ := hCf c0 hc6
  obtain ⟨hc1, hc2, hc3⟩ := hce
  obtain ⟨gr12, gz12, hG12⟩ := hGs 12 (by decide)
  obtain ⟨w12g, w12w⟩ := hG12
  obtain ⟨w12n, w12b, w12f, w121, w122, w123⟩ := w12w
  refine lv_aload_n hx hb dGr_gather_0 rfl (lv_at hl 0 rfl) ?_
  refine va_get (D := D) (ci := 7) (v := .ref (ad 212)) (C := R_Gr) (T := T_Gr) (N := 13) hx hb hT in_Gr hown hK (pg_1 (x := 6) hcd hP (by decide) hgr) 0 rfl rfl 5 (by decide) (hT _ w219) (fun _ h9 => h9) rfl dGr_gather_1 ?_
  have hB9 : QI gg [(212, .inr (5, [.long gr12, .ref (ad 232)])), (232, .inr (4, [.ref (ad 252), .int w12n, .int w12b])), (252, .inl (cT 0, 24, .inl w12f))] := (qi_c (by decide) w12g (qi_c (by decide) w121 (qi_c (by decide) w122 qi_0)))
  have hN9 := (show NDc [212, 232, 252] from (nd_c (na_c (by decide) (na_c (by decide) na_0)) (nd_c (na_c (by decide) na_0) (nd_c na_0 nd_0))))
  have hP := bo_P (wc := [(212, .inr (5, [.long gr12, .ref (ad 232)])), (232, .inr (4, [.ref (ad 252), .int w12n, .int w12b])), (252, .inl (cT 0, 24, .inl w12f))]) (X := []) hcd hN9 hB9 hP
  have hD := bo_D (wc := [(212, .inr (5, [.long gr12, .ref (ad 232)])), (232, .inr (4, [.ref (ad 252), .int w12n, .int w12b])), (252, .inl (cT 0, 24, .inl w12f))]) (X := []) hcd hN9 hB9 hD
  have hP : va_P D vwCl ([(ad 212, .inr (5, [.long gr12, .ref (ad 232)])), (ad 232, .inr (4, [.ref (ad 252), .int w12n, .int w12b])), (ad 252, .inl (cT 0, 24, .inl w12f))] ++ pg cds ad (upo gg [212, 232, 252])) _ := hP
  have hD : va_D A ([(ad 212, .inr (5, [.long gr12, .ref (ad 232)])), (ad 232, .inr (4, [.ref (ad 252), .int w12n, .int w12b])), (ad 252, .inl (cT 0, 24, .inl w12f))] ++ pg cds ad (upo gg [212, 232, 252])) := hD
  refine hy_vQ (X := [(ad 212, .inr (5, [.long gr12, .ref (ad 232)])), (ad 232, .inr (4, [.ref (ad 252), .int w12n, .int w12b])), (ad 252, .inl (cT 0, 24, .inl w12f))]) (pl := pg cds ad (upo gg [212, 232, 252])) (cx := [(ad 212, .inr (5, [.long gr12, .ref (ad 232)])), (ad 232, .inr (4, [.ref (ad 252), .int w12n, .int w12b])), (ad 252, .inl (cT 0, 24, .inl w12f))]) (wr := []) hP hD hS hA [0, 1, 2] [] rfl rfl (by decide) (by decide) (va_runV (As := []) (rest := []) ⟨hx, hb, hml, hown, hT⟩ (k_gclear l D cT (ad 212) gr12 (ad 232) (ad 252) w12n w12b w12f _) ⟨callB_of 0 hT (tb_gd w908) rfl rfl rfl (hT _ w7) (hT _ w905) hG_clear ⟨Nat.le_of_ble_eq_true rfl, Nat.le_of_ble_eq_true rfl⟩, (hT _ w906), (hT _ w907)⟩ (RW.preV (ci := 5) (q0 := 0) hZ hS (hy_free (cx := [(ad 212, .inr (5, [.long gr12, .ref (ad 232)])), (ad 232, .inr (4, [.ref (ad 252), .int w12n, .int w12b])), (ad 252, .inl (cT 0, 24, .inl w12f))]) hD hS hA [0, 1, 2] rfl) (hP.sub (ws' := [(ad 212, .inr (5, [.long gr12, .ref (ad 232)])), (ad 232, .inr (4, [.ref (ad 252), .int w12n, .int w12b])), (ad 252, .inl (cT 0, 24, .inl w12f))]) [0, 1, 2] rfl) hK (hD.sub (ws' := [(ad 212, .inr (5, [.long gr12, .ref (ad 232)])), (ad 232, .inr (4, [.ref (ad 252), .int w12n, .int w12b])), (ad 252, .inl (cT 0, 24, .inl w12f))]) [0, 1, 2] (by decide) rfl) rfl rfl) rfl rfl hl.1 rfl (lv_room (Nat.le_of_ble_eq_true rfl)) dGr_gather_4 ⟨Nat.le_of_ble_eq_true rfl, Nat.le_of_ble_eq_true rfl⟩) (fun u9 H locs hpu1 hP hD hS => ?_)
  obtain ⟨gsn7u1, gsb7u1, gsf7u1⟩ := u9
  have hpu1 : WN 24 gsn7u1 gsb7u1 gsf7u1 (0) := hpu1
  have hP : va_P D vwCl ([(ad 212, .inr (5, [.long 0, .ref (ad 232)])), (ad 232, .inr (4, [.ref (ad 252), .int gsn7u1, .int gsb7u1])), (ad 252, .inl (cT 0, 24, .inl gsf7u1))] ++ pg cds ad (upo gg [212, 232, 252])) _ := hP
  have hD : va_D A ([(ad 212, .inr (5, [.long 0, .ref (ad 232)])), (ad 232, .inr (4, [.ref (ad 252), .int gsn7u1, .int gsb7u1])), (ad 252, .inl (cT 0, 24, .inl gsf7u1))] ++ pg cds ad (upo gg [212, 232, 252])) := hD
  have a1 := hpu1
  have hN9 := (show NDc [212, 232, 252] from (nd_c (na_c (by decide) (na_c (by decide) na_0)) (nd_c (na_c (by decide) na_0) (nd_c na_0 nd_0))))
  have hP := gb_P (w9 := [(212, .inr (5, [.long 0, .ref (ad 232)])), (232, .inr (4, [.ref (ad 252), .int gsn7u1, .int gsb7u1])), (252, .inl (cT 0, 24, .inl gsf7u1))]) (X := []) (g := gg) hcd hN9 (show QB [(212, .inr (5, [.long 0, .ref (ad 232)])), (232, .inr (4, [.ref (ad 252), .int gsn7u1, .int gsb7u1])), (252, .inl (cT 0, 24, .inl gsf7u1))] from (qb_c (by decide) (qb_c (by decide) (qb_c (by decide) qb_0)))) (hP.part (cx := [(ad 212, .inr (5, [.long 0, .ref (ad 232)])), (ad 232, .inr (4, [.ref (ad 252), .int gsn7u1, .int gsb7u1])), (ad 252, .inl (cT 0, 24, .inl gsf7u1))]) [0, 1, 2] rfl)
  have hD := gb_D (w9 := [(212, .inr (5, [.long 0, .ref (ad 232)])), (232, .inr (4, [.ref (ad 252), .int gsn7u1, .int gsb7u1])), (252, .inl (cT 0, 24, .inl gsf7u1))]) (X := []) (g := gg) hcd hN9 (show QB [(212, .inr (5, [.long 0, .ref (ad 232)])), (232, .inr (4, [.ref (ad 252), .int gsn7u1, .int gsb7u1])), (252, .inl (cT 0, 24, .inl gsf7u1))] from (qb_c (by decide) (qb_c (by decide) (qb_c (by decide) qb_0)))) (hD.part (cx := [(ad 212, .inr (5, [.long 0, .ref (ad 232)])), (ad 232, .inr (4, [.ref (ad 252), .int gsn7u1, .int gsb7u1])), (ad 252, .inl (cT 0, 24, .inl gsf7u1))]) [0, 1, 2] (by decide) rfl)
  obtain ⟨g1, hg1⟩ : ∃ q9, q9 = ups gg [(212, .inr (5, [.long 0, .ref (ad 232)])), (232, .inr (4, [.ref (ad 252), .int gsn7u1, .int gsb7u1])), (252, .inl (cT 0, 24, .inl gsf7u1))] := ⟨_, rfl⟩
  rw [← hg1] at hP hD
  have hP : va_P D vwCl ([] ++ pg cds ad g1) _ := hP
  have hD : va_D A ([] ++ pg cds ad g1) := hD
  have fg1 : ∀ z8, z8 ≠ 212 → z8 ≠ 232 → z8 ≠ 252 → g1 z8 = gg z8 := fun z8 z1 z2 z3 => by rw [hg1]; exact ups_k (kp_n z1 (kp_n z2 (kp_n z3 kp_0)))
  have g1_0 : g1 212 = some (.inr (5, [.long 0, .ref (ad 232)])) := by rw [hg1]; exact ups_1
  have g1_1 : g1 232 = some (.inr (4, [.ref (ad 252), .int gsn7u1, .int gsb7u1])) := by rw [hg1]; exact ups_2 (by decide)
  have g1_2 : g1 252 = some (.inl (cT 0, 24, .inl gsf7u1)) := by rw [hg1]; exact ups_3 (by decide) (by decide)
  refine lv_aload_n hx hb dGr_gather_7 rfl (lv_at hl 0 rfl) ?_
  refine va_get (D := D) (ci := 7) (v := .ref (ad 7)) (C := R_Gr) (T := T_Gr) (N := 13) hx hb hT in_Gr hown hK (pg_1 (x := 6) hcd hP (by decide) ((fg1 _ (by decide) (by decide) (by decide)).trans hgr)) 0 rfl rfl 3 (by decide) (hT _ w217) (fun _ h9 => h9) rfl dGr_gather_8 ?_
  refine lv_astore hx hb dGr_gather_11 hl (by decide) rfl (fun ls hl => ?_)
  have hl : lv_has ls 8 [(4, .ref (ad 7)), (0, .ref (ad 6)), (1, .ref (ad (10 + c0))), (2, .long x)] := hl
  refine lv_aload hx hb dGr_gather_13 (lv_at hl 0 rfl) ?_
  refine va_alen (v := 12) hx hb hK (pg_1 (x := 7) hcd hP (by decide) ((fg1 _ (by decide) (by decide) (by decide)).trans hga)) 0 6 rfl rfl rfl dGr_gather_15 ?_
  refine lv_istore hx hb dGr_gather_16 hl (by decide) rfl (fun ls hl => ?_)
  have hl : lv_has ls 8 [(5, .int 12), (4, .ref (ad 7)), (0, .ref (ad 6)), (1, .ref (ad (10 + c0))), (2, .long x)] := hl
  refine lv_iconst (v := 0) hx hb dGr_gather_18 (by decide) ?_
  refine lv_istore hx hb dGr_gather_19 hl (by decide) rfl (fun ls hl => ?_)
  have hl : lv_has ls 8 [(6, .int 0), (5, .int 12), (4, .ref (ad 7)), (0, .ref (ad 6)), (1, .ref (ad (10 + c0))), (2, .long x)] := hl
  have hl : lv_has ls 8 [(6, .int (nI 0)), (5, .int 12), (4, .ref (ad 7)), (0, .ref (ad 6)), (1, .ref (ad (10 + c0))), (2, .long x)] := by
    rw [(show nI 0 = 0 from rfl)]; exact hl
  refine lp_w (α := Nat × (Nat → Option va_E)) (fun a9 => a9.1 ≤ 12 ∧ (∀ z8, (z8 < 200 ∨ 260 ≤ z8 ∨ z8 = 212 ∨ z8 = 213 ∨ z8 = 214 ∨ z8 = 232 ∨ z8 = 233 ∨ z8 = 234 ∨ z8 = 252 ∨ z8 = 253 ∨ z8 = 254) → a9.2 z8 = g1 z8) ∧ ∀ j, j < 12 → ∃ (r : Int64) (z : Int), GPp cT ad a9.2 j r z ∧ (j < a9.1 → r = 0 ∧ z = 0)) (fun a9 => 12 - a9.1) (fun a9 => [(0, .ref (ad 6)), (1, .ref (ad (10 + c0))), (2, .long x), (4, .ref (ad 7)), (5, .int 12), (6, .int (nI a9.1))]) (fun a9 => ([] ++ pg cds ad a9.2)) 21 ?_ (0, g1) (show 0 ≤ 12 ∧ (∀ z8, (z8 < 200 ∨ 260 ≤ z8 ∨ z8 = 212 ∨ z8 = 213 ∨ z8 = 214 ∨ z8 = 232 ∨ z8 = 233 ∨ z8 = 234 ∨ z8 = 252 ∨ z8 = 253 ∨ z8 = 254) → g1 z8 = g1 z8) ∧ ∀ j, j < 12 → ∃ (r : Int64) (z : Int), GPp cT ad g1 j r z ∧ (j < 0 → r = 0 ∧ z = 0) from ⟨Nat.zero_le _, fun _ _ => rfl, fun j hj => (by obtain ⟨r, z, e1⟩ := hGs j (by omega); exact ⟨r, z, e1.cg (fg1 _ (by omega) (by omega) (by omega)) (fg1 _ (by omega) (by omega) (by omega)) (fg1 _ (by omega) (by omega) (by omega)), fun q => absurd q (by omega)⟩)⟩) (lv_sub hl [3, 4, 5, 2, 1, 0] rfl) hP hD hS
  intro a9 hI21 ih21 ls H locs hl hP hD hS
  obtain ⟨i, g2⟩ := a9
  have hI21 : i ≤ 12 ∧ (∀ z8, (z8 < 200 ∨ 260 ≤ z8 ∨ z8 = 212 ∨ z8 = 213 ∨ z8 = 214 ∨ z8 = 232 ∨ z8 = 233 ∨ z8 = 234 ∨ z8 = 252 ∨ z8 = 253 ∨ z8 = 254) → g2 z8 = g1 z8) ∧ ∀ j, j < 12 → ∃ (r : Int64) (z : Int), GPp cT ad g2 j r z ∧ (j < i → r = 0 ∧ z = 0) := hI21
  obtain ⟨ii, iF, iG⟩ := hI21
  have hl : lv_has ls 8 [(0, .ref (ad 6)), (1, .ref (ad (10 + c0))), (2, .long x), (4, .ref (ad 7)), (5, .int 12), (6, .int (nI i))] := hl
  have hP : va_P D vwCl ([] ++ pg cds ad g2) _ := hP
  have hD : va_D A ([] ++ pg cds ad g2) := hD
  refine lv_iload hx hb dGr_gather_21 (lv_at hl 5 rfl) ?_
  refine lv_iload hx hb dGr_gather_23 (lv_at hl 4 rfl) ?_
  refine lv_icmp_ge (tgt := 46) hx hb dGr_gather_25 rfl (fun h2 => ?_) (fun h2 => ?_)
  · have gh2 : 12 ≤ i := (nI_leI (a := 12) (b := i) (by omega) (by omega)).mp h2
    have i12 : i = 12 := by omega
    refine lv_iconst (v := 0) hx hb dGr_gather_46 (by decide) ?_
    refine lv_istore hx hb dGr_gather_47 hl (by decide) rfl (fun ls hl => ?_)
    have hl : lv_has ls 8 [(4, .int 0), (0, .ref (ad 6)), (1, .ref (ad (10 + c0))), (2, .long x), (5, .int 12), (6, .int (nI i))] := hl
    have hl : lv_has ls 8 [(4, .int (nI 0)), (0, .ref (ad 6)), (1, .ref (ad (10 + c0))), (2, .long x), (5, .int 12), (6, .int (nI i))] := by
      rw [(show nI 0 = 0 from rfl)]; exact hl
    refine lp_w (α := Nat × (Nat → Option va_E)) (fun a9 => a9.1 ≤ n ∧ (∀ z8, (z8 < 200 ∨ 260 ≤ z8 ∨ z8 = 213 ∨ z8 = 214 ∨ z8 = 233 ∨ z8 = 234 ∨ z8 = 253 ∨ z8 = 254) → a9.2 z8 = gg z8) ∧ (∀ j, j < 12 → GPp cT ad a9.2 j (gsG vv eg ik ne c0 x j a9.1) (smv zs (gsG vv eg ik ne c0 x j a9.1) n)) ∧ GPp cT ad a9.2 12 (gsM vv c0 x a9.1) (smv zs (gsM vv c0 x a9.1) n)) (fun a9 => n - a9.1) (fun a9 => [(0, .ref (ad 6)), (1, .ref (ad (10 + c0))), (2, .long x), (4, .int (nI a9.1))]) (fun a9 => ([] ++ pg cds ad a9.2)) 49 ?_ (0, g2) (show 0 ≤ n ∧ (∀ z8, (z8 < 200 ∨ 260 ≤ z8 ∨ z8 = 213 ∨ z8 = 214 ∨ z8 = 233 ∨ z8 = 234 ∨ z8 = 253 ∨ z8 = 254) → g2 z8 = gg z8) ∧ (∀ j, j < 12 → GPp cT ad g2 j (gsG vv eg ik ne c0 x j 0) (smv zs (gsG vv eg ik ne c0 x j 0) n)) ∧ GPp cT ad g2 12 (gsM vv c0 x 0) (smv zs (gsM vv c0 x 0) n) from ⟨Nat.zero_le _, fun z8 n1 => (iF z8 (by omega)).trans (fg1 z8 (by omega) (by omega) (by omega)), fun j hj => (by obtain ⟨r, z, e1, e2⟩ := iG j hj; obtain ⟨e3, e4⟩ := e2 (by omega); rw [e3, e4] at e1; rw [show smv zs (gsG vv eg ik ne c0 x j 0) n = 0 from smv_z n]; exact e1), (by rw [show smv zs (gsM vv c0 x 0) n = 0 from smv_z n]; exact ⟨(iF _ (by omega)).trans g1_0, ⟨_, _, _, (iF _ (by omega)).trans g1_1, (iF _ (by omega)).trans g1_2, a1⟩⟩)⟩) (lv_sub hl [1, 2, 3, 0] rfl) hP hD hS
    intro a9 hI49 ih49 ls H locs hl hP hD hS
    obtain ⟨i4, g4⟩ := a9
    have hI49 : i4 ≤ n ∧ (∀ z8, (z8 < 200 ∨ 260 ≤ z8 ∨ z8 = 213 ∨ z8 = 214 ∨ z8 = 233 ∨ z8 = 234 ∨ z8 = 253 ∨ z8 = 254) → g4 z8 = gg z8) ∧ (∀ j, j < 12 → GPp cT ad g4 j (gsG vv eg ik ne c0 x j i4) (smv zs (gsG vv eg ik ne c0 x j i4) n)) ∧ GPp cT ad g4 12 (gsM vv c0 x i4) (smv zs (gsM vv c0 x i4) n) := hI49
    obtain ⟨jj, jF, jG, jM⟩ := hI49
    have hl : lv_has ls 8 [(0, .ref (ad 6)), (1, .ref (ad (10 + c0))), (2, .long x), (4, .int (nI i4))] := hl
    have hP : va_P D vwCl ([] ++ pg cds ad g4) _ := hP
    have hD : va_D A ([] ++ pg cds ad g4) := hD
    refine lv_iload hx hb dGr_gather_49 (lv_at hl 3 rfl) ?_
    refine lv_aload_n hx hb dGr_gather_51 rfl (lv_at hl 0 rfl) ?_
    refine va_get (D := D) (ci := 7) (v := .ref (ad 1)) (C := R_Gr) (T := T_Gr) (N := 13) hx hb hT in_Gr hown hK (pg_1 (x := 6) hcd hP (by decide) ((jF 6 (by omega)).trans hgr)) 0 rfl rfl 0 (by decide) (hT _ w214) (fun _ h9 => h9) rfl dGr_gather_52 ?_
    refine va_get (D := D) (ci := 2) (v := .int rw9) (C := R_T) (T := T_T) (N := 4) hx hb hT in_T hown hK (pg_1 (x := 1) hcd hP (by decide) ((jF 1 (by omega)).trans htb)) 0 rfl rfl 3 (by decide) (hT _ w83) (fun _ h9 => h9) rfl dGr_gather_55 ?_
    refine lv_topi (fun y9 e9 => ?_)
    cases (show y9 = nI n from e9.trans hrn)
    refine lv_icmp_ge (tgt := 130) hx hb dGr_gather_58 rfl (fun h3 => ?_) (fun h3 => ?_)
    · have gh3 : n ≤ i4 := (nI_leI (a := n) (b := i4) (by omega) (by omega)).mp h3
      have hP9 : va_P D vwCl ([] ++ pg cds ad g4) _ := hP.part (cx := []) [] rfl
      have hD9 : va_D A ([] ++ pg cds ad g4) := hD.part (cx := []) [] (by decide) rfl
      refine W.widen (k := 0) (n := 0) (Nat.le_of_ble_eq_true rfl) (Nat.le_of_ble_eq_true rfl) ?_
      exact W.vret hx hb hr (fun t9 ht9 hW9 => ⟨⟨g4, rfl, (show (∀ z8, (z8 < 200 ∨ 260 ≤ z8 ∨ z8 = 213 ∨ z8 = 214 ∨ z8 = 233 ∨ z8 = 234 ∨ z8 = 253 ∨ z8 = 254) → g4 z8 = gg z8) ∧ (∀ j8, j8 < 12 → GPp cT ad g4 j8 (gsG vv eg ik ne c0 x j8 n) (smv zs (gsG vv eg ik ne c0 x j8 n) n)) ∧ GPp cT ad g4 12 (gsM vv c0 x n) (smv zs (gsM vv c0 x n) n) from (by obtain rfl : i4 = n := (by omega); exact ⟨jF, jG, jM⟩)), by rw [ht9]; exact hP9, hD9⟩, hS.F ht9⟩) hS.2.2 dGr_gather_130
    · have gh3 : i4 < n := Nat.not_le.mp (fun q => h3 ((nI_leI (a := n) (b := i4) (by omega) (by omega)).mpr q))
      refine lv_lload_n hx hb dGr_gather_61 rfl (lv_at hl 2 rfl) ?_
      refine lv_iload hx hb dGr_gather_62 (lv_at hl 3 rfl) ?_
      refine lv_lshr hx hb dGr_gather_64 rfl ?_
      refine lv_lconst (v := 1) hx hb dGr_gather_65 (by decide) ?_
      refine lv_land hx hb dGr_gather_66 ?_
      refine lv_lconst (v := 1) hx hb dGr_gather_67 (by decide) ?_
      refine W.lcmp hx hb dGr_gather_68 ?_
      refine lv_if_ne (tgt := 124) hx hb dGr_gather_69 rfl (fun h4 => ?_) (fun h4 => ?_)
      · have gb : ¬ bx x i4 = true := fun q => h4 ((bx_t x (by omega)).mpr q)
        refine lv_iinc (k := 3) (v := nI (i4 + 1)) hx hb dGr_gather_124 hl rfl (nI_1 i4) (by decide) rfl (fun ls hl => ?_)
        have hl : lv_has ls 8 [(4, .int (nI (i4 + 1))), (0, .ref (ad 6)), (1, .ref (ad (10 + c0))), (2, .long x)] := hl
        refine lv_goto (tgt := 49) hx hb dGr_gather_127 rfl ?_
        exact ih49 (i4 + 1, g4) (show (i4 + 1) ≤ n ∧ (∀ z8, (z8 < 200 ∨ 260 ≤ z8 ∨ z8 = 213 ∨ z8 = 214 ∨ z8 = 233 ∨ z8 = 234 ∨ z8 = 253 ∨ z8 = 254) → g4 z8 = gg z8) ∧ (∀ j, j < 12 → GPp cT ad g4 j (gsG vv eg ik ne c0 x j (i4 + 1)) (smv zs (gsG vv eg ik ne c0 x j (i4 + 1)) n)) ∧ GPp cT ad g4 12 (gsM vv c0 x (i4 + 1)) (smv zs (gsM vv c0 x (i4 + 1)) n) from ⟨by omega, jF, fun j hj => (by rw [gsG_n (pg_no gb)]; exact jG j hj), (by rw [gsM_n (pm_no gb)]; exact jM)⟩) (show n - (i4 + 1) < n - i4 from (by omega)) ls H locs (lv_sub hl [1, 2, 3, 0] rfl) hP hD hS
      · have gb : bx x i4 = true := (bx_t x (by omega)).mp h4
        have hin : i4 < n := by omega
        obtain ⟨zi, hWi, hzi⟩ := hrs i4 (by omega)
        have hzi := hzi hin
        subst hzi
        have hWi := hWi.cg (g2 := g4) (jF _ (by omega)) (jF _ (by omega))
        obtain ⟨wrn, wrb, wrf, wr1, wr2, wr3⟩ := hWi
        have hb1 := hXB i4 hin
        refine lv_aload_n hx hb dGr_gather_72 rfl (lv_at hl 1 rfl) ?_
        refine va_get (D := D) (ci := 1) (v := .ref (ad (20 + c0))) (C := R_C) (T := T_C) (N := 4) hx hb hT in_C hown hK (pg_1 (x := 10 + c0) hcd hP (by omega) ((jF (10 + c0) (by omega)).trans hc1)) 0 rfl rfl 0 (by decide) (hT _ w53) (fun _ h9 => h9) rfl dGr_gather_73 ?_
        refine lv_iload hx hb dGr_gather_76 (lv_at hl 3 rfl) ?_
        refine lq_iald (j := i4) hx hb hK (pg_1 (x := 20 + c0) hcd hP (by omega) ((jF (20 + c0) (by omega)).trans hc2)) 0 0 rfl rfl rfl (by omega) (by omega) dGr_gather_78 ?_
        refine lv_topi (fun y9 e9 => ?_)
        cases (show y9 = vv (6 * i4 + c0) from e9.trans (hcv i4 hin))
        refine lv_istore hx hb dGr_gather_79 hl (by decide) rfl (fun ls hl => ?_)
        have hl : lv_has ls 8 [(5, .int (vv (6 * i4 + c0))), (0, .ref (ad 6)), (1, .ref (ad (10 + c0))), (2, .long x), (4, .int (nI i4))] := hl
        refine lv_iload hx hb dGr_gather_81 (lv_at hl 0 rfl) ?_
        refine lv_ldc (v := (-2147483648)) hx hb hown (hT _ w910) dGr_gather_83 ?_
        refine lv_icmp_ne (tgt := 95) hx hb dGr_gather_85 rfl (fun h5 => ?_) (fun h5 => ?_)
        · have hnm : ¬ vv (6 * i4 + c0) = (-2147483648) := h5
          obtain ⟨bq, hbq⟩ : ∃ q9 : Nat, q9 = bnF eg ik ne c0 (vv (6 * i4 + c0)) := ⟨_, rfl⟩
          have hb12 : bq < 12 := by rw [hbq]; unfold bnF; rw [if_pos hk]; have q9 := cne_le eg (11 * c0) (vv (6 * i4 + c0)) (ne c0); have q8 := hne c0 hc6; omega
          have hbx : nI (cnE eg (11 * c0) (vv (6 * i4 + c0)) (ne c0)) = nI bq := by rw [hbq]; unfold bnF; rw [if_pos hk]
          have jG2 := jG bq hb12
          obtain ⟨wgg, wgw⟩ := jG2
          obtain ⟨wgn, wgb, wgf, wg1, wg2, wg3⟩ := wgw
          refine lv_aload_n hx hb dGr_gather_95 rfl (lv_at hl 1 rfl) ?_
          refine va_get (D := D) (ci := 7) (v := .ref (ad 7)) (C := R_Gr) (T := T_Gr) (N := 13) hx hb hT in_Gr hown hK (pg_1 (x := 6) hcd hP (by decide) ((jF 6 (by omega)).trans hgr)) 0 rfl rfl 3 (by decide) (hT _ w217) (fun _ h9 => h9) rfl dGr_gather_96 ?_
          refine lv_aload_n hx hb dGr_gather_99 rfl (lv_at hl 2 rfl) ?_
          refine lv_iload hx hb dGr_gather_100 (lv_at hl 0 rfl) ?_
          refine ro_i (va_Run.run (va_runV (As := [.int (vv (6 * i4 + c0))]) (rest := [.ref (ad 7)]) ⟨hx, hb, hml, hown, hT⟩ (k_binOfN l D cT (ad (10 + c0)) (ad (20 + c0)) (ad (30 + c0)) (nI (ne c0)) (ik c0) fe eg (11 * c0) (ne c0) (vv (6 * i4 + c0)) hk rfl (hne c0 hc6) hcg hS9) ⟨callB_of 1 hT (tb_gd w689) rfl rfl rfl (hT _ w3) (hT _ w911) hC_binOf ⟨Nat.le_of_ble_eq_true rfl, Nat.le_of_ble_eq_true rfl⟩, (hT _ w687), (hT _ w688)⟩ (RO.preV (ci := 1) (q0 := 0) hZ hS ((show va_P D vwCl [(ad (10 + c0), .inr (1, [.ref (ad (20 + c0)), .ref (ad (30 + c0)), .int (nI (ne c0)), .int (ik c0)])), (ad (30 + c0), .inl (cT 0, 11, .inl fe))] _ from (pv_c (pg_1 (x := 10 + c0) hcd hP (by omega) ((jF (10 + c0) (by omega)).trans hc1)) (pv_c (pg_1 (x := 30 + c0) hcd hP (by omega) ((jF (30 + c0) (by omega)).trans hc3)) pv_0)))) hK rfl rfl) rfl rfl hl.1 rfl (lv_room (Nat.le_of_ble_eq_true rfl)) dGr_gather_102 ⟨Nat.le_of_ble_eq_true rfl, Nat.le_of_ble_eq_true rfl⟩)) ?_
          refine lv_topi (fun y9 e9 => ?_)
          cases (show y9 = nI bq from e9.trans hbx)
          refine al_q (q := ad (200 + bq)) hx hb hK (pg_1 (x := 7) hcd hP (by decide) ((jF 7 (by omega)).trans hga)) 0 6 rfl rfl (vp_in_nI (by omega) (by decide)) (by rw [nI_clamp (by omega)]; exact hgb bq hb12) dGr_gather_105 ?_
          refine lv_astore hx hb dGr_gather_106 hl (by decide) rfl (fun ls hl => ?_)
          have hl : lv_has ls 8 [(6, .ref (ad (200 + bq))), (5, .int (vv (6 * i4 + c0))), (0, .ref (ad 6)), (1, .ref (ad (10 + c0))), (2, .long x), (4, .int (nI i4))] := hl
          refine lv_aload hx hb dGr_gather_108 (lv_at hl 0 rfl) ?_
          refine lv_lconst (v := 1) hx hb dGr_gather_110 (by decide) ?_
          refine lv_iload hx hb dGr_gather_111 (lv_at hl 5 rfl) ?_
          refine lv_lshl hx hb dGr_gather_113 rfl ?_
          refine lv_aload_n hx hb dGr_gather_114 rfl (lv_at hl 2 rfl) ?_
          refine va_get (D := D) (ci := 7) (v := .ref (ad 5)) (C := R_Gr) (T := T_Gr) (N := 13) hx hb hT in_Gr hown hK (pg_1 (x := 6) hcd hP (by decide) ((jF 6 (by omega)).trans hgr)) 0 rfl rfl 2 (by decide) (hT _ w216) (fun _ h9 => h9) rfl dGr_gather_115 ?_
          refine lv_iload hx hb dGr_gather_118 (lv_at hl 5 rfl) ?_
          refine al_q (q := ad (100 + i4)) hx hb hK (pg_1 (x := 5) hcd hP (by decide) ((jF 5 (by omega)).trans hrq)) 0 4 rfl rfl (vp_in_nI (by omega) (by decide)) (by rw [nI_clamp (by omega)]; exact hrq2 i4 (by omega)) dGr_gather_120 ?_
          have hB9 : QI g4 [(200 + bq, .inr (5, [.long (gsG vv eg ik ne c0 x bq i4), .ref (ad (220 + bq))])), (220 + bq, .inr (4, [.ref (ad (240 + bq)), .int wgn, .int wgb])), (240 + bq, .inl (cT 0, 24, .inl wgf)), (100 + i4, .inr (4, [.ref (ad (150 + i4)), .int wrn, .int wrb])), (150 + i4, .inl (cT 0, 24, .inl wrf))] := (qi_c (by omega) wgg (qi_c (by omega) wg1 (qi_c (by omega) wg2 (qi_c (by omega) wr1 (qi_c (by omega) wr2 qi_0)))))
          have hN9 := (show NDc [200 + bq, 220 + bq, 240 + bq, 100 + i4, 150 + i4] from (nd_c (na_c (by omega) (na_c (by omega) (na_c (by omega) (na_c (by omega) na_0)))) (nd_c (na_c (by omega) (na_c (by omega) (na_c (by omega) na_0))) (nd_c (na_c (by omega) (na_c (by omega) na_0)) (nd_c (na_c (by omega) na_0) (nd_c na_0 nd_0))))))
          have hP := bo_P (wc := [(200 + bq, .inr (5, [.long (gsG vv eg ik ne c0 x bq i4), .ref (ad (220 + bq))])), (220 + bq, .inr (4, [.ref (ad (240 + bq)), .int wgn, .int wgb])), (240 + bq, .inl (cT 0, 24, .inl wgf)), (100 + i4, .inr (4, [.ref (ad (150 + i4)), .int wrn, .int wrb])), (150 + i4, .inl (cT 0, 24, .inl wrf))]) (X := []) hcd hN9 hB9 hP
          have hD := bo_D (wc := [(200 + bq, .inr (5, [.long (gsG vv eg ik ne c0 x bq i4), .ref (ad (220 + bq))])), (220 + bq, .inr (4, [.ref (ad (240 + bq)), .int wgn, .int wgb])), (240 + bq, .inl (cT 0, 24, .inl wgf)), (100 + i4, .inr (4, [.ref (ad (150 + i4)), .int wrn, .int wrb])), (150 + i4, .inl (cT 0, 24, .inl wrf))]) (X := []) hcd hN9 hB9 hD
          have hP : va_P D vwCl ([(ad (200 + bq), .inr (5, [.long (gsG vv eg ik ne c0 x bq i4), .ref (ad (220 + bq))])), (ad (220 + bq), .inr (4, [.ref (ad (240 + bq)), .int wgn, .int wgb])), (ad (240 + bq), .inl (cT 0, 24, .inl wgf)), (ad (100 + i4), .inr (4, [.ref (ad (150 + i4)), .int wrn, .int wrb])), (ad (150 + i4), .inl (cT 0, 24, .inl wrf))] ++ pg cds ad (upo g4 [200 + bq, 220 + bq, 240 + bq, 100 + i4, 150 + i4])) _ := hP
          have hD : va_D A ([(ad (200 + bq), .inr (5, [.long (gsG vv eg ik ne c0 x bq i4), .ref (ad (220 + bq))])), (ad (220 + bq), .inr (4, [.ref (ad (240 + bq)), .int wgn, .int wgb])), (ad (240 + bq), .inl (cT 0, 24, .inl wgf)), (ad (100 + i4), .inr (4, [.ref (ad (150 + i4)), .int wrn, .int wrb])), (ad (150 + i4), .inl (cT 0, 24, .inl wrf))] ++ pg cds ad (upo g4 [200 + bq, 220 + bq, 240 + bq, 100 + i4, 150 + i4])) := hD
          have hb3 := smv_le (x := gsG vv eg ik ne c0 x bq i4) (zr := zs) (B := XB) (n := n) hXB n (Nat.le_refl _)
          have hb4 : n * XB ≤ 48 * XB := Nat.mul_le_mul_right _ hn48
          refine hy_vQ (X := [(ad (200 + bq), .inr (5, [.long (gsG vv eg ik ne c0 x bq i4), .ref (ad (220 + bq))])), (ad (220 + bq), .inr (4, [.ref (ad (240 + bq)), .int wgn, .int wgb])), (ad (240 + bq), .inl (cT 0, 24, .inl wgf)), (ad (100 + i4), .inr (4, [.ref (ad (150 + i4)), .int wrn, .int wrb])), (ad (150 + i4), .inl (cT 0, 24, .inl wrf))]) (pl := pg cds ad (upo g4 [200 + bq, 220 + bq, 240 + bq, 100 + i4, 150 + i4])) (cx := [(ad (200 + bq), .inr (5, [.long (gsG vv eg ik ne c0 x bq i4), .ref (ad (220 + bq))])), (ad (220 + bq), .inr (4, [.ref (ad (240 + bq)), .int wgn, .int wgb])), (ad (240 + bq), .inl (cT 0, 24, .inl wgf)), (ad (100 + i4), .inr (4, [.ref (ad (150 + i4)), .int wrn, .int wrb])), (ad (150 + i4), .inl (cT 0, 24, .inl wrf))]) (wr := []) hP hD hS hA [0, 1, 2, 3, 4] [] rfl rfl (by decide) (by decide) (va_runV (As := [.long (1 <<< ((nI i4 : Int32).toInt64 &&& 63)), .ref (ad (100 + i4))]) (rest := []) ⟨hx, hb, hml, hown, hT⟩ (k_takeIn l D cT (ad (200 + bq)) (gsG vv eg ik ne c0 x bq i4) (ad (220 + bq)) (ad (240 + bq)) wgn wgb wgf (1 <<< ((nI i4 : Int32).toInt64 &&& 63)) (ad (100 + i4)) (ad (150 + i4)) wrn wrb wrf (smv zs (gsG vv eg ik ne c0 x bq i4) n) (zs i4) wg3 wr3 (by omega) _) ⟨callB_of 2 hT (tb_gd w915) rfl rfl rfl (hT _ w7) (hT _ w912) hG_takeIn ⟨Nat.le_of_ble_eq_true rfl, Nat.le_of_ble_eq_true rfl⟩, (hT _ w913), (hT _ w914)⟩ (RW.preV (ci := 5) (q0 := 0) hZ hS (hy_free (cx := [(ad (200 + bq), .inr (5, [.long (gsG vv eg ik ne c0 x bq i4), .ref (ad (220 + bq))])), (ad (220 + bq), .inr (4, [.ref (ad (240 + bq)), .int wgn, .int wgb])), (ad (240 + bq), .inl (cT 0, 24, .inl wgf)), (ad (100 + i4), .inr (4, [.ref (ad (150 + i4)), .int wrn, .int wrb])), (ad (150 + i4), .inl (cT 0, 24, .inl wrf))]) hD hS hA [0, 1, 2, 3, 4] rfl) (hP.sub (ws' := [(ad (200 + bq), .inr (5, [.long (gsG vv eg ik ne c0 x bq i4), .ref (ad (220 + bq))])), (ad (220 + bq), .inr (4, [.ref (ad (240 + bq)), .int wgn, .int wgb])), (ad (240 + bq), .inl (cT 0, 24, .inl wgf)), (ad (100 + i4), .inr (4, [.ref (ad (150 + i4)), .int wrn, .int wrb])), (ad (150 + i4), .inl (cT 0, 24, .inl wrf))]) [0, 1, 2, 3, 4] rfl) hK (hD.sub (ws' := [(ad (200 + bq), .inr (5, [.long (gsG vv eg ik ne c0 x bq i4), .ref (ad (220 + bq))])), (ad (220 + bq), .inr (4, [.ref (ad (240 + bq)), .int wgn, .int wgb])), (ad (240 + bq), .inl (cT 0, 24, .inl wgf)), (ad (100 + i4), .inr (4, [.ref (ad (150 + i4)), .int wrn, .int wrb])), (ad (150 + i4), .inl (cT 0, 24, .inl wrf))]) [0, 1, 2, 3, 4] (by decide) rfl) rfl rfl) rfl rfl hl.1 rfl (lv_room (Nat.le_of_ble_eq_true rfl)) dGr_gather_121 ⟨Nat.le_of_ble_eq_true rfl, Nat.le_of_ble_eq_true rfl⟩) (fun u9 H locs hpu6 hP hD hS => ?_)
          obtain ⟨gsn7u6, gsb7u6, gsf7u6⟩ := u9
          have hpu6 : WN 24 gsn7u6 gsb7u6 gsf7u6 ((smv zs (gsG vv eg ik ne c0 x bq i4) n) + (zs i4)) := hpu6
          have hP : va_P D vwCl ([(ad (200 + bq), .inr (5, [.long ((gsG vv eg ik ne c0 x bq i4) ||| (1 <<< ((nI i4 : Int32).toInt64 &&& 63))), .ref (ad (220 + bq))])), (ad (220 + bq), .inr (4, [.ref (ad (240 + bq)), .int gsn7u6, .int gsb7u6])), (ad (240 + bq), .inl (cT 0, 24, .inl gsf7u6)), (ad (100 + i4), .inr (4, [.ref (ad (150 + i4)), .int wrn, .int wrb])), (ad (150 + i4), .inl (cT 0, 24, .inl wrf))] ++ pg cds ad (upo g4 [200 + bq, 220 + bq, 240 + bq, 100 + i4, 150 + i4])) _ := hP
          have hD : va_D A ([(ad (200 + bq), .inr (5, [.long ((gsG vv eg ik ne c0 x bq i4) ||| (1 <<< ((nI i4 : Int32).toInt64 &&& 63))), .ref (ad (220 + bq))])), (ad (220 + bq), .inr (4, [.ref (ad (240 + bq)), .int gsn7u6, .int gsb7u6])), (ad (240 + bq), .inl (cT 0, 24, .inl gsf7u6)), (ad (100 + i4), .inr (4, [.ref (ad (150 + i4)), .int wrn, .int wrb])), (ad (150 + i4), .inl (cT 0, 24, .inl wrf))] ++ pg cds ad (upo g4 [200 + bq, 220 + bq, 240 + bq, 100 + i4, 150 + i4])) := hD
          have a3 := hpu6
          have hN9 := (show NDc [200 + bq, 220 + bq, 240 + bq, 100 + i4, 150 + i4] from (nd_c (na_c (by omega) (na_c (by omega) (na_c (by omega) (na_c (by omega) na_0)))) (nd_c (na_c (by omega) (na_c (by omega) (na_c (by omega) na_0))) (nd_c (na_c (by omega) (na_c (by omega) na_0)) (nd_c (na_c (by omega) na_0) (nd_c na_0 nd_0))))))
          have hP := gb_P (w9 := [(200 + bq, .inr (5, [.long ((gsG vv eg ik ne c0 x bq i4) ||| (1 <<< ((nI i4 : Int32).toInt64 &&& 63))), .ref (ad (220 + bq))])), (220 + bq, .inr (4, [.ref (ad (240 + bq)), .int gsn7u6, .int gsb7u6])), (240 + bq, .inl (cT 0, 24, .inl gsf7u6)), (100 + i4, .inr (4, [.ref (ad (150 + i4)), .int wrn, .int wrb])), (150 + i4, .inl (cT 0, 24, .inl wrf))]) (X := []) (g := g4) hcd hN9 (show QB [(200 + bq, .inr (5, [.long ((gsG vv eg ik ne c0 x bq i4) ||| (1 <<< ((nI i4 : Int32).toInt64 &&& 63))), .ref (ad (220 + bq))])), (220 + bq, .inr (4, [.ref (ad (240 + bq)), .int gsn7u6, .int gsb7u6])), (240 + bq, .inl (cT 0, 24, .inl gsf7u6)), (100 + i4, .inr (4, [.ref (ad (150 + i4)), .int wrn, .int wrb])), (150 + i4, .inl (cT 0, 24, .inl wrf))] from (qb_c (by omega) (qb_c (by omega) (qb_c (by omega) (qb_c (by omega) (qb_c (by omega) qb_0)))))) (hP.part (cx := [(ad (200 + bq), .inr (5, [.long ((gsG vv eg ik ne c0 x bq i4) ||| (1 <<< ((nI i4 : Int32).toInt64 &&& 63))), .ref (ad (220 + bq))])), (ad (220 + bq), .inr (4, [.ref (ad (240 + bq)), .int gsn7u6, .int gsb7u6])), (ad (240 + bq), .inl (cT 0, 24, .inl gsf7u6)), (ad (100 + i4), .inr (4, [.ref (ad (150 + i4)), .int wrn, .int wrb])), (ad (150 + i4), .inl (cT 0, 24, .inl wrf))]) [0, 1, 2, 3, 4] rfl)
          have hD := gb_D (w9 := [(200 + bq, .inr (5, [.long ((gsG vv eg ik ne c0 x bq i4) ||| (1 <<< ((nI i4 : Int32).toInt64 &&& 63))), .ref (ad (220 + bq))])), (220 + bq, .inr (4, [.ref (ad (240 + bq)), .int gsn7u6, .int gsb7u6])), (240 + bq, .inl (cT 0, 24, .inl gsf7u6)), (100 + i4, .inr (4, [.ref (ad (150 + i4)), .int wrn, .int wrb])), (150 + i4, .inl (cT 0, 24, .inl wrf))]) (X := []) (g := g4) hcd hN9 (show QB [(200 + bq, .inr (5, [.long ((gsG vv eg ik ne c0 x bq i4) ||| (1 <<< ((nI i4 : Int32).toInt64 &&& 63))), .ref (ad (220 + bq))])), (220 + bq, .inr (4, [.ref (ad (240 + bq)), .int gsn7u6, .int gsb7u6])), (240 + bq, .inl (cT 0, 24, .inl gsf7u6)), (100 + i4, .inr (4, [.ref (ad (150 + i4)), .int wrn, .int wrb])), (150 + i4, .inl (cT 0, 24, .inl wrf))] from (qb_c (by omega) (qb_c (by omega) (qb_c (by omega) (qb_c (by omega) (qb_c (by omega) qb_0)))))) (hD.part (cx := [(ad (200 + bq), .inr (5, [.long ((gsG vv eg ik ne c0 x bq i4) ||| (1 <<< ((nI i4 : Int32).toInt64 &&& 63))), .ref (ad (220 + bq))])), (ad (220 + bq), .inr (4, [.ref (ad (240 + bq)), .int gsn7u6, .int gsb7u6])), (ad (240 + bq), .inl (cT 0, 24, .inl gsf7u6)), (ad (100 + i4), .inr (4, [.ref (ad (150 + i4)), .int wrn, .int wrb])), (ad (150 + i4), .inl (cT 0, 24, .inl wrf))]) [0, 1, 2, 3, 4] (by decide) rfl)
          obtain ⟨g5, hg5⟩ : ∃ q9, q9 = ups g4 [(200 + bq, .inr (5, [.long ((gsG vv eg ik ne c0 x bq i4) ||| (1 <<< ((nI i4 : Int32).toInt64 &&& 63))), .ref (ad (220 + bq))])), (220 + bq, .inr (4, [.ref (ad (240 + bq)), .int gsn7u6, .int gsb7u6])), (240 + bq, .inl (cT 0, 24, .inl gsf7u6)), (100 + i4, .inr (4, [.ref (ad (150 + i4)), .int wrn, .int wrb])), (150 + i4, .inl (cT 0, 24, .inl wrf))] := ⟨_, rfl⟩
          rw [← hg5] at hP hD
          have hP : va_P D vwCl ([] ++ pg cds ad g5) _ := hP
          have hD : va_D A ([] ++ pg cds ad g5) := hD
          have fg5 : ∀ z8, z8 ≠ 200 + bq → z8 ≠ 220 + bq → z8 ≠ 240 + bq → g5 z8 = g4 z8 := fun z8 z1 z2 z3 => by rw [hg5]; exact ups_k (kp_n z1 (kp_n z2 (kp_n z3 (kp_s wr1 (kp_s wr2 kp_0)))))
          have g5_0 : g5 (200 + bq) = some (.inr (5, [.long ((gsG vv eg ik ne c0 x bq i4) ||| (1 <<< ((nI i4 : Int32).toInt64 &&& 63))), .ref (ad (220 + bq))])) := by rw [hg5]; exact ups_1
          have g5_1 : g5 (220 + bq) = some (.inr (4, [.ref (ad (240 + bq)), .int gsn7u6, .int gsb7u6])) := by rw [hg5]; exact ups_2 (by omega)
          have g5_2 : g5 (240 + bq) = some (.inl (cT 0, 24, .inl gsf7u6)) := by rw [hg5]; exact ups_3 (by omega) (by omega)
          refine lv_iinc (k := 5) (v := nI (i4 + 1)) hx hb dGr_gather_124 hl rfl (nI_1 i4) (by decide) rfl (fun ls hl => ?_)
          have hl : lv_has ls 8 [(4, .int (nI (i4 + 1))), (6, .ref (ad (200 + bq))), (5, .int (vv (6 * i4 + c0))), (0, .ref (ad 6)), (1, .ref (ad (10 + c0))), (2, .long x)] := hl
          refine lv_goto (tgt := 49) hx hb dGr_gather_127 rfl ?_
          exact ih49 (i4 + 1, g5) (show (i4 + 1) ≤ n ∧ (∀ z8, (z8 < 200 ∨ 260 ≤ z8 ∨ z8 = 213 ∨ z8 = 214 ∨ z8 = 233 ∨ z8 = 234 ∨ z8 = 253 ∨ z8 = 254) → g5 z8 = gg z8) ∧ (∀ j, j < 12 → GPp cT ad g5 j (gsG vv eg ik ne c0 x j (i4 + 1)) (smv zs (gsG vv eg ik ne c0 x j (i4 + 1)) n)) ∧ GPp cT ad g5 12 (gsM vv c0 x (i4 + 1)) (smv zs (gsM vv c0 x (i4 + 1)) n) from ⟨by omega, fun z8 n1 => (fg5 z8 (by omega) (by omega) (by omega)).trans (jF z8 n1), fun j hj => (by by_cases q9 : j = bq; (subst q9; exact ⟨(by rw [gsG_y (pg_yes gb hnm hbq.symm)]; exact g5_0), (by rw [gsG_s hin (by omega) (pg_yes gb hnm hbq.symm)]; exact ⟨_, _, _, g5_1, g5_2, a3⟩)⟩); (rw [gsG_n (pg_oth (fun q => q9 (q.symm.trans hbq.symm)))]; exact (jG j hj).cg (fg5 _ (by omega) (by omega) (by omega)) (fg5 _ (by omega) (by omega) (by omega)) (fg5 _ (by omega) (by omega) (by omega)))), (by rw [gsM_n (pm_nm hnm)]; exact jM.cg (fg5 _ (by omega) (by omega) (by omega)) (fg5 _ (by omega) (by omega) (by omega)) (fg5 _ (by omega) (by omega) (by omega)))⟩) (show n - (i4 + 1) < n - i4 from (by omega)) ls H locs (lv_sub hl [3, 4, 5, 0] rfl) hP hD hS
        · have hmi : vv (6 * i4 + c0) = (-2147483648) := h5
          have jM2 := jM
          obtain ⟨wgg, wgw⟩ := jM2
          obtain ⟨wgn, wgb, wgf, wg1, wg2, wg3⟩ := wgw
          refine lv_aload_n hx hb dGr_gather_88 rfl (lv_at hl 1 rfl) ?_
          refine va_get (D := D) (ci := 7) (v := .ref (ad 212)) (C := R_Gr) (T := T_Gr) (N := 13) hx hb hT in_Gr hown hK (pg_1 (x := 6) hcd hP (by decide) ((jF 6 (by omega)).trans hgr)) 0 rfl rfl 5 (by decide) (hT _ w219) (fun _ h9 => h9) rfl dGr_gather_89 ?_
          refine lv_goto (tgt := 106) hx hb dGr_gather_92 rfl ?_
          refine lv_astore hx hb dGr_gather_106 hl (by decide) rfl (fun ls hl => ?_)
          have hl : lv_has ls 8 [(6, .ref (ad 212)), (5, .int (vv (6 * i4 + c0))), (0, .ref (ad 6)), (1, .ref (ad (10 + c0))), (2, .long x), (4, .int (nI i4))] := hl
          refine lv_aload hx hb dGr_gather_108 (lv_at hl 0 rfl) ?_
          refine lv_lconst (v := 1) hx hb dGr_gather_110 (by decide) ?_
          refine lv_iload hx hb dGr_gather_111 (lv_at hl 5 rfl) ?_
          refine lv_lshl hx hb dGr_gather_113 rfl ?_
          refine lv_aload_n hx hb dGr_gather_114 rfl (lv_at hl 2 rfl) ?_
          refine va_get (D := D) (ci := 7) (v := .ref (ad 5)) (C := R_Gr) (T := T_Gr) (N := 13) hx hb hT in_Gr hown hK (pg_1 (x := 6) hcd hP (by decide) ((jF 6 (by omega)).trans hgr)) 0 rfl rfl 2 (by decide) (hT _ w216) (fun _ h9 => h9) rfl dGr_gather_115 ?_
          refine lv_iload hx hb dGr_gather_118 (lv_at hl 5 rfl) ?_
          refine al_q (q := ad (100 + i4)) hx hb hK (pg_1 (x := 5) hcd hP (by decide) ((jF 5 (by omega)).trans hrq)) 0 4 rfl rfl (vp_in_nI (by omega) (by decide)) (by rw [nI_clamp (by omega)]; exact hrq2 i4 (by omega)) dGr_gather_120 ?_
          have hB9 : QI g4 [(212, .inr (5, [.long (gsM vv c0 x i4), .ref (ad 232)])), (232, .inr (4, [.ref (ad 252), .int wgn, .int wgb])), (252, .inl (cT 0, 24, .inl wgf)), (100 + i4, .inr (4, [.ref (ad (150 + i4)), .int wrn, .int wrb])), (150 + i4, .inl (cT 0, 24, .inl wrf))] := (qi_c (by decide) wgg (qi_c (by decide) wg1 (qi_c (by decide) wg2 (qi_c (by omega) wr1 (qi_c (by omega) wr2 qi_0)))))
          have hN9 := (show NDc [212, 232, 252, 100 + i4, 150 + i4] from (nd_c (na_c (by decide) (na_c (by decide) (na_c (by omega) (na_c (by omega) na_0)))) (nd_c (na_c (by decide) (na_c (by omega) (na_c (by omega) na_0))) (nd_c (na_c (by omega) (na_c (by omega) na_0)) (nd_c (na_c (by omega) na_0) (nd_c na_0 nd_0))))))
          have hP := bo_P (wc := [(212, .inr (5, [.long (gsM vv c0 x i4), .ref (ad 232)])), (232, .inr (4, [.ref (ad 252), .int wgn, .int wgb])), (252, .inl (cT 0, 24, .inl wgf)), (100 + i4, .inr (4, [.ref (ad (150 + i4)), .int wrn, .int wrb])), (150 + i4, .inl (cT 0, 24, .inl wrf))]) (X := []) hcd hN9 hB9 hP
          have hD := bo_D (wc := [(212, .inr (5, [.long (gsM vv c0 x i4), .ref (ad 232)])), (232, .inr (4, [.ref (ad 252), .int wgn, .int wgb])), (252, .inl (cT 0, 24, .inl wgf)), (100 + i4, .inr (4, [.ref (ad (150 + i4)), .int wrn, .int wrb])), (150 + i4, .inl (cT 0, 24, .inl wrf))]) (X := []) hcd hN9 hB9 hD
          have hP : va_P D vwCl ([(ad 212, .inr (5, [.long (gsM vv c0 x i4), .ref (ad 232)])), (ad 232, .inr (4, [.ref (ad 252), .int wgn, .int wgb])), (ad 252, .inl (cT 0, 24, .inl wgf)), (ad (100 + i4), .inr (4, [.ref (ad (150 + i4)), .int wrn, .int wrb])), (ad (150 + i4), .inl (cT 0, 24, .inl wrf))] ++ pg cds ad (upo g4 [212, 232, 252, 100 + i4, 150 + i4])) _ := hP
          have hD : va_D A ([(ad 212, .inr (5, [.long (gsM vv c0 x i4), .ref (ad 232)])), (ad 232, .inr (4, [.ref (ad 252), .int wgn, .int wgb])), (ad 252, .inl (cT 0, 24, .inl wgf)), (ad (100 + i4), .inr (4, [.ref (ad (150 + i4)), .int wrn, .int wrb])), (ad (150 + i4), .inl (cT 0, 24, .inl wrf))] ++ pg cds ad (upo g4 [212, 232, 252, 100 + i4, 150 + i4])) := hD
          have hb3 := smv_le (x := gsM vv c0 x i4) (zr := zs) (B := XB) (n := n) hXB n (Nat.le_refl _)
          have hb4 : n * XB ≤ 48 * XB := Nat.mul_le_mul_right _ hn48
          refine hy_vQ (X := [(ad 212, .inr (5, [.long (gsM vv c0 x i4), .ref (ad 232)])), (ad 232, .inr (4, [.ref (ad 252), .int wgn, .int wgb])), (ad 252, .inl (cT 0, 24, .inl wgf)), (ad (100 + i4), .inr (4, [.ref (ad (150 + i4)), .int wrn, .int wrb])), (ad (150 + i4), .inl (cT 0, 24, .inl wrf))]) (pl := pg cds ad (upo g4 [212, 232, 252, 100 + i4, 150 + i4])) (cx := [(ad 212, .inr (5, [.long (gsM vv c0 x i4), .ref (ad 232)])), (ad 232, .inr (4, [.ref (ad 252), .int wgn, .int wgb])), (ad 252, .inl (cT 0, 24, .inl wgf)), (ad (100 + i4), .inr (4, [.ref (ad (150 + i4)), .int wrn, .int wrb])), (ad (150 + i4), .inl (cT 0, 24, .inl wrf))]) (wr := []) hP hD hS hA [0, 1, 2, 3, 4] [] rfl rfl (by decide) (by decide) (va_runV (As := [.long (1 <<< ((nI i4 : Int32).toInt64 &&& 63)), .ref (ad (100 + i4))]) (rest := []) ⟨hx, hb, hml, hown, hT⟩ (k_takeIn l D cT (ad 212) (gsM vv c0 x i4) (ad 232) (ad 252) wgn wgb wgf (1 <<< ((nI i4 : Int32).toInt64 &&& 63)) (ad (100 + i4)) (ad (150 + i4)) wrn wrb wrf (smv zs (gsM vv c0 x i4) n) (zs i4) wg3 wr3 (by omega) _) ⟨callB_of 2 hT (tb_gd w915) rfl rfl rfl (hT _ w7) (hT _ w912) hG_takeIn ⟨Nat.le_of_ble_eq_true rfl, Nat.le_of_ble_eq_true rfl⟩, (hT _ w913), (hT _ w914)⟩ (RW.preV (ci := 5) (q0 := 0) hZ hS (hy_free (cx := [(ad 212, .inr (5, [.long (gsM vv c0 x i4), .ref (ad 232)])), (ad 232, .inr (4, [.ref (ad 252), .int wgn, .int wgb])), (ad 252, .inl (cT 0, 24, .inl wgf)), (ad (100 + i4), .inr (4, [.ref (ad (150 + i4)), .int wrn, .int wrb])), (ad (150 + i4), .inl (cT 0, 24, .inl wrf))]) hD hS hA [0, 1, 2, 3, 4] rfl) (hP.sub (ws' := [(ad 212, .inr (5, [.long (gsM vv c0 x i4), .ref (ad 232)])), (ad 232, .inr (4, [.ref (ad 252), .int wgn, .int wgb])), (ad 252, .inl (cT 0, 24, .inl wgf)), (ad (100 + i4), .inr (4, [.ref (ad (150 + i4)), .int wrn, .int wrb])), (ad (150 + i4), .inl (cT 0, 24, .inl wrf))]) [0, 1, 2, 3, 4] rfl) hK (hD.sub (ws' := [(ad 212, .inr (5, [.long (gsM vv c0 x i4), .ref (ad 232)])), (ad 232, .inr (4, [.ref (ad 252), .int wgn, .int wgb])), (ad 252, .inl (cT 0, 24, .inl wgf)), (ad (100 + i4), .inr (4, [.ref (ad (150 + i4)), .int wrn, .int wrb])), (ad (150 + i4), .inl (cT 0, 24, .inl wrf))]) [0, 1, 2, 3, 4] (by decide) rfl) rfl rfl) rfl rfl hl.1 rfl (lv_room (Nat.le_of_ble_eq_true rfl)) dGr_gather_121 ⟨Nat.le_of_ble_eq_true rfl, Nat.le_of_ble_eq_true rfl⟩) (fun u9 H locs hpu7 hP hD hS => ?_)
          obtain ⟨gsn7u7, gsb7u7, gsf7u7⟩ := u9
          have hpu7 : WN 24 gsn7u7 gsb7u7 gsf7u7 ((smv zs (gsM vv c0 x i4) n) + (zs i4)) := hpu7
          have hP : va_P D vwCl ([(ad 212, .inr (5, [.long ((gsM vv c0 x i4) ||| (1 <<< ((nI i4 : Int32).toInt64 &&& 63))), .ref (ad 232)])), (ad 232, .inr (4, [.ref (ad 252), .int gsn7u7, .int gsb7u7])), (ad 252, .inl (cT 0, 24, .inl gsf7u7)), (ad (100 + i4), .inr (4, [.ref (ad (150 + i4)), .int wrn, .int wrb])), (ad (150 + i4), .inl (cT 0, 24, .inl wrf))] ++ pg cds ad (upo g4 [212, 232, 252, 100 + i4, 150 + i4])) _ := hP
          have hD : va_D A ([(ad 212, .inr (5, [.long ((gsM vv c0 x i4) ||| (1 <<< ((nI i4 : Int32).toInt64 &&& 63))), .ref (ad 232)])), (ad 232, .inr (4, [.ref (ad 252), .int gsn7u7, .int gsb7u7])), (ad 252, .inl (cT 0, 24, .inl gsf7u7)), (ad (100 + i4), .inr (4, [.ref (ad (150 + i4)), .int wrn, .int wrb])), (ad (150 + i4), .inl (cT 0, 24, .inl wrf))] ++ pg cds ad (upo g4 [212, 232, 252, 100 + i4, 150 + i4])) := hD
          have a3 := hpu7
          have hN9 := (show NDc [212, 232, 252, 100 + i4, 150 + i4] from (nd_c (na_c (by decide) (na_c (by decide) (na_c (by omega) (na_c (by omega) na_0)))) (nd_c (na_c (by decide) (na_c (by omega) (na_c (by omega) na_0))) (nd_c (na_c (by omega) (na_c (by omega) na_0)) (nd_c (na_c (by omega) na_0) (nd_c na_0 nd_0))))))
          have hP := gb_P (w9 := [(212, .inr (5, [.long ((gsM vv c0 x i4) ||| (1 <<< ((nI i4 : Int32).toInt64 &&& 63))), .ref (ad 232)])), (232, .inr (4, [.ref (ad 252), .int gsn7u7, .int gsb7u7])), (252, .inl (cT 0, 24, .inl gsf7u7)), (100 + i4, .inr (4, [.ref (ad (150 + i4)), .int wrn, .int wrb])), (150 + i4, .inl (cT 0, 24, .inl wrf))]) (X := []) (g := g4) hcd hN9 (show QB [(212, .inr (5, [.long ((gsM vv c0 x i4) ||| (1 <<< ((nI i4 : Int32).toInt64 &&& 63))), .ref (ad 232)])), (232, .inr (4, [.ref (ad 252), .int gsn7u7, .int gsb7u7])), (252, .inl (cT 0, 24, .inl gsf7u7)), (100 + i4, .inr (4, [.ref (ad (150 + i4)), .int wrn, .int wrb])), (150 + i4, .inl (cT 0, 24, .inl wrf))] from (qb_c (by decide) (qb_c (by decide) (qb_c (by decide) (qb_c (by omega) (qb_c (by omega) qb_0)))))) (hP.part (cx := [(ad 212, .inr (5, [.long ((gsM vv c0 x i4) ||| (1 <<< ((nI i4 : Int32).toInt64 &&& 63))), .ref (ad 232)])), (ad 232, .inr (4, [.ref (ad 252), .int gsn7u7, .int gsb7u7])), (ad 252, .inl (cT 0, 24, .inl gsf7u7)), (ad (100 + i4), .inr (4, [.ref (ad (150 + i4)), .int wrn, .int wrb])), (ad (150 + i4), .inl (cT 0, 24, .inl wrf))]) [0, 1, 2, 3, 4] rfl)
          have hD := gb_D (w9 := [(212, .inr (5, [.long ((gsM vv c0 x i4) ||| (1 <<< ((nI i4 : Int32).toInt64 &&& 63))), .ref (ad 232)])), (232, .inr (4, [.ref (ad 252), .int gsn7u7, .int gsb7u7])), (252, .inl (cT 0, 24, .inl gsf7u7)), (100 + i4, .inr (4, [.ref (ad (150 + i4)), .int wrn, .int wrb])), (150 + i4, .inl (cT 0, 24, .inl wrf))]) (X := []) (g := g4) hcd hN9 (show QB [(212, .inr (5, [.long ((gsM vv c0 x i4) ||| (1 <<< ((nI i4 : Int32).toInt64 &&& 63))), .ref (ad 232)])), (232, .inr (4, [.ref (ad 252), .int gsn7u7, .int gsb7u7])), (252, .inl (cT 0, 24, .inl gsf7u7)), (100 + i4, .inr (4, [.ref (ad (150 + i4)), .int wrn, .int wrb])), (150 + i4, .inl (cT 0, 24, .inl wrf))] from (qb_c (by decide) (qb_c (by decide) (qb_c (by decide) (qb_c (by omega) (qb_c (by omega) qb_0)))))) (hD.part (cx := [(ad 212, .inr (5, [.long ((gsM vv c0 x i4) ||| (1 <<< ((nI i4 : Int32).toInt64 &&& 63))), .ref (ad 232)])), (ad 232, .inr (4, [.ref (ad 252), .int gsn7u7, .int gsb7u7])), (ad 252, .inl (cT 0, 24, .inl gsf7u7)), (ad (100 + i4), .inr (4, [.ref (ad (150 + i4)), .int wrn, .int wrb])), (ad (150 + i4), .inl (cT 0, 24, .inl wrf))]) [0, 1, 2, 3, 4] (by decide) rfl)
          obtain ⟨g5, hg5⟩ : ∃ q9, q9 = ups g4 [(212, .inr (5, [.long ((gsM vv c0 x i4) ||| (1 <<< ((nI i4 : Int32).toInt64 &&& 63))), .ref (ad 232)])), (232, .inr (4, [.ref (ad 252), .int gsn7u7, .int gsb7u7])), (252, .inl (cT 0, 24, .inl gsf7u7)), (100 + i4, .inr (4, [.ref (ad (150 + i4)), .int wrn, .int wrb])), (150 + i4, .inl (cT 0, 24, .inl wrf))] := ⟨_, rfl⟩
          rw [← hg5] at hP hD
          have hP : va_P D vwCl ([] ++ pg cds ad g5) _ := hP
          have hD : va_D A ([] ++ pg cds ad g5) := hD
          have fg5 : ∀ z8, z8 ≠ 212 → z8 ≠ 232 → z8 ≠ 252 → g5 z8 = g4 z8 := fun z8 z1 z2 z3 => by rw [hg5]; exact ups_k (kp_n z1 (kp_n z2 (kp_n z3 (kp_s wr1 (kp_s wr2 kp_0)))))
          have g5_0 : g5 212 = some (.inr (5, [.long ((gsM vv c0 x i4) ||| (1 <<< ((nI i4 : Int32).toInt64 &&& 63))), .ref (ad 232)])) := by rw [hg5]; exact ups_1
          have g5_1 : g5 232 = some (.inr (4, [.ref (ad 252), .int gsn7u7, .int gsb7u7])) := by rw [hg5]; exact ups_2 (by decide)
          have g5_2 : g5 252 = some (.inl (cT 0, 24, .inl gsf7u7)) := by rw [hg5]; exact ups_3 (by decide) (by decide)
          refine lv_iinc (k := 5) (v := nI (i4 + 1)) hx hb dGr_gather_124 hl rfl (nI_1 i4) (by decide) rfl (fun ls hl => ?_)
          have hl : lv_has ls 8 [(4, .int (nI (i4 + 1))), (6, .ref (ad 212)), (5, .int (vv (6 * i4 + c0))), (0, .ref (ad 6)), (1, .ref (ad (10 + c0))), (2, .long x)] := hl
          refine lv_goto (tgt := 49) hx hb dGr_gather_127 rfl ?_
          exact ih49 (i4 + 1, g5) (show (i4 + 1) ≤ n ∧ (∀ z8, (z8 < 200 ∨ 260 ≤ z8 ∨ z8 = 213 ∨ z8 = 214 ∨ z8 = 233 ∨ z8 = 234 ∨ z8 = 253 ∨ z8 = 254) → g5 z8 = gg z8) ∧ (∀ j, j < 12 → GPp cT ad g5 j (gsG vv eg ik ne c0 x j (i4 + 1)) (smv zs (gsG vv eg ik ne c0 x j (i4 + 1)) n)) ∧ GPp cT ad g5 12 (gsM vv c0 x (i4 + 1)) (smv zs (gsM vv c0 x (i4 + 1)) n) from ⟨by omega, fun z8 n1 => (fg5 z8 (by omega) (by omega) (by omega)).trans (jF z8 n1), fun j hj => (by rw [gsG_n (pg_mis hmi)]; exact (jG j hj).cg (fg5 _ (by omega) (by omega) (by omega)) (fg5 _ (by omega) (by omega) (by omega)) (fg5 _ (by omega) (by omega) (by omega))), ⟨(by rw [gsM_y (pm_yes gb hmi)]; exact g5_0), (by rw [gsM_s hin (by omega) (pm_yes gb hmi)]; exact ⟨_, _, _, g5_1, g5_2, a3⟩)⟩⟩) (show n - (i4 + 1) < n - i4 from (by omega)) ls H locs (lv_sub hl [3, 4, 5, 0] rfl) hP hD hS
  · have gh2 : i < 12 := Nat.not_le.mp (fun q => h2 ((nI_leI (a := 12) (b := i) (by omega) (by omega)).mpr q))
    have hi12 : i < 12 := by omega
    obtain ⟨gr0, gz0, hGi, _⟩ := iG i hi12
    obtain ⟨wig, wiw⟩ := hGi
    obtain ⟨win, wib, wif, wi1, wi2, wi3⟩ := wiw
    refine lv_aload hx hb dGr_gather_28 (lv_at hl 3 rfl) ?_
    refine lv_iload hx hb dGr_gather_30 (lv_at hl 5 rfl) ?_
    refine al_q (q := ad (200 + i)) hx hb hK (pg_1 (x := 7) hcd hP (by decide) (((iF 7 (by omega)).trans (fg1 7 (by omega) (by omega) (by omega))).trans hga)) 0 6 rfl rfl (vp_in_nI (by omega) (by decide)) (by rw [nI_clamp (by omega)]; exact hgb i (by omega)) dGr_gather_32 ?_
    refine lv_astore hx hb dGr_gather_33 hl (by decide) rfl (fun ls hl => ?_)
    have hl : lv_has ls 8 [(7, .ref (ad (200 + i))), (0, .ref (ad 6)), (1, .ref (ad (10 + c0))), (2, .long x), (4, .ref (ad 7)), (5, .int 12), (6, .int (nI i))] := hl
    refine lv_aload hx hb dGr_gather_35 (lv_at hl 0 rfl) ?_
    have hB9 : QI g2 [(200 + i, .inr (5, [.long gr0, .ref (ad (220 + i))])), (220 + i, .inr (4, [.ref (ad (240 + i)), .int win, .int wib])), (240 + i, .inl (cT 0, 24, .inl wif))] := (qi_c (by omega) wig (qi_c (by omega) wi1 (qi_c (by omega) wi2 qi_0)))
    have hN9 := (show NDc [200 + i, 220 + i, 240 + i] from (nd_c (na_c (by omega) (na_c (by omega) na_0)) (nd_c (na_c (by omega) na_0) (nd_c na_0 nd_0))))
    have hP := bo_P (wc := [(200 + i, .inr (5, [.long gr0, .ref (ad (220 + i))])), (220 + i, .inr (4, [.ref (ad (240 + i)), .int win, .int wib])), (240 + i, .inl (cT 0, 24, .inl wif))]) (X := []) hcd hN9 hB9 hP
    have hD := bo_D (wc := [(200 + i, .inr (5, [.long gr0, .ref (ad (220 + i))])), (220 + i, .inr (4, [.ref (ad (240 + i)), .int win, .int wib])), (240 + i, .inl (cT 0, 24, .inl wif))]) (X := []) hcd hN9 hB9 hD
    have hP : va_P D vwCl ([(ad (200 + i), .inr (5, [.long gr0, .ref (ad (220 + i))])), (ad (220 + i), .inr (4, [.ref (ad (240 + i)), .int win, .int wib])), (ad (240 + i), .inl (cT 0, 24, .inl wif))] ++ pg cds ad (upo g2 [200 + i, 220 + i, 240 + i])) _ := hP
    have hD : va_D A ([(ad (200 + i), .inr (5, [.long gr0, .ref (ad (220 + i))])), (ad (220 + i), .inr (4, [.ref (ad (240 + i)), .int win, .int wib])), (ad (240 + i), .inl (cT 0, 24, .inl wif))] ++ pg cds ad (upo g2 [200 + i, 220 + i, 240 + i])) := hD
    refine hy_vQ (X := [(ad (200 + i), .inr (5, [.long gr0, .ref (ad (220 + i))])), (ad (220 + i), .inr (4, [.ref (ad (240 + i)), .int win, .int wib])), (ad (240 + i), .inl (cT 0, 24, .inl wif))]) (pl := pg cds ad (upo g2 [200 + i, 220 + i, 240 + i])) (cx := [(ad (200 + i), .inr (5, [.long gr0, .ref (ad (220 + i))])), (ad (220 + i), .inr (4, [.ref (ad (240 + i)), .int win, .int wib])), (ad (240 + i), .inl (cT 0, 24, .inl wif))]) (wr := []) hP hD hS hA [0, 1, 2] [] rfl rfl (by decide) (by decide) (va_runV (As := []) (rest := []) ⟨hx, hb, hml, hown, hT⟩ (k_gclear l D cT (ad (200 + i)) gr0 (ad (220 + i)) (ad (240 + i)) win wib wif _) ⟨callB_of 0 hT (tb_gd w908) rfl rfl rfl (hT _ w7) (hT _ w905) hG_clear ⟨Nat.le_of_ble_eq_true rfl, Nat.le_of_ble_eq_true rfl⟩, (hT _ w906), (hT _ w907)⟩ (RW.preV (ci := 5) (q0 := 0) hZ hS (hy_free (cx := [(ad (200 + i), .inr (5, [.long gr0, .ref (ad (220 + i))])), (ad (220 + i), .inr (4, [.ref (ad (240 + i)), .int win, .int wib])), (ad (240 + i), .inl (cT 0, 24, .inl wif))]) hD hS hA [0, 1, 2] rfl) (hP.sub (ws' := [(ad (200 + i), .inr (5, [.long gr0, .ref (ad (220 + i))])), (ad (220 + i), .inr (4, [.ref (ad (240 + i)), .int win, .int wib])), (ad (240 + i), .inl (cT 0, 24, .inl wif))]) [0, 1, 2] rfl) hK (hD.sub (ws' := [(ad (200 + i), .inr (5, [.long gr0, .ref (ad (220 + i))])), (ad (220 + i), .inr (4, [.ref (ad (240 + i)), .int win, .int wib])), (ad (240 + i), .inl (cT 0, 24, .inl wif))]) [0, 1, 2] (by decide) rfl) rfl rfl) rfl rfl hl.1 rfl (lv_room (Nat.le_of_ble_eq_true rfl)) dGr_gather_37 ⟨Nat.le_of_ble_eq_true rfl, Nat.le_of_ble_eq_true rfl⟩) (fun u9 H locs hpu8 hP hD hS => ?_)
    obtain ⟨gsn7u8, gsb7u8, gsf7u8⟩ := u9
    have hpu8 : WN 24 gsn7u8 gsb7u8 gsf7u8 (0) := hpu8
    have hP : va_P D vwCl ([(ad (200 + i), .inr (5, [.long 0, .ref (ad (220 + i))])), (ad (220 + i), .inr (4, [.ref (ad (240 + i)), .int gsn7u8, .int gsb7u8])), (ad (240 + i), .inl (cT 0, 24, .inl gsf7u8))] ++ pg cds ad (upo g2 [200 + i, 220 + i, 240 + i])) _ := hP
    have hD : va_D A ([(ad (200 + i), .inr (5, [.long 0, .ref (ad (220 + i))])), (ad (220 + i), .inr (4, [.ref (ad (240 + i)), .int gsn7u8, .int gsb7u8])), (ad (240 + i), .inl (cT 0, 24, .inl gsf7u8))] ++ pg cds ad (upo g2 [200 + i, 220 + i, 240 + i])) := hD
    have a2 := hpu8
    have hN9 := (show NDc [200 + i, 220 + i, 240 + i] from (nd_c (na_c (by omega) (na_c (by omega) na_0)) (nd_c (na_c (by omega) na_0) (nd_c na_0 nd_0))))
    have hP := gb_P (w9 := [(200 + i, .inr (5, [.long 0, .ref (ad (220 + i))])), (220 + i, .inr (4, [.ref (ad (240 + i)), .int gsn7u8, .int gsb7u8])), (240 + i, .inl (cT 0, 24, .inl gsf7u8))]) (X := []) (g := g2) hcd hN9 (show QB [(200 + i, .inr (5, [.long 0, .ref (ad (220 + i))])), (220 + i, .inr (4, [.ref (ad (240 + i)), .int gsn7u8, .int gsb7u8])), (240 + i, .inl (cT 0, 24, .inl gsf7u8))] from (qb_c (by omega) (qb_c (by omega) (qb_c (by omega) qb_0)))) (hP.part (cx := [(ad (200 + i), .inr (5, [.long 0, .ref (ad (220 + i))])), (ad (220 + i), .inr (4, [.ref (ad (240 + i)), .int gsn7u8, .int gsb7u8])), (ad (240 + i), .inl (cT 0, 24, .inl gsf7u8))]) [0, 1, 2] rfl)
    have hD := gb_D (w9 := [(200 + i, .inr (5, [.long 0, .ref (ad (220 + i))])), (220 + i, .inr (4, [.ref (ad (240 + i)), .int gsn7u8, .int gsb7u8])), (240 + i, .inl (cT 0, 24, .inl gsf7u8))]) (X := []) (g := g2) hcd hN9 (show QB [(200 + i, .inr (5, [.long 0, .ref (ad (220 + i))])), (220 + i, .inr (4, [.ref (ad (240 + i)), .int gsn7u8, .int gsb7u8])), (240 + i, .inl (cT 0, 24, .inl gsf7u8))] from (qb_c (by omega) (qb_c (by omega) (qb_c (by omega) qb_0)))) (hD.part (cx := [(ad (200 + i), .inr (5, [.long 0, .ref (ad (220 + i))])), (ad (220 + i), .inr (4, [.ref (ad (240 + i)), .int gsn7u8, .int gsb7u8])), (ad (240 + i), .inl (cT 0, 24, .inl gsf7u8))]) [0, 1, 2] (by decide) rfl)
    obtain ⟨g3, hg3⟩ : ∃ q9, q9 = ups g2 [(200 + i, .inr (5, [.long 0, .ref (ad (220 + i))])), (220 + i, .inr (4, [.ref (ad (240 + i)), .int gsn7u8, .int gsb7u8])), (240 + i, .inl (cT 0, 24, .inl gsf7u8))] := ⟨_, rfl⟩
    rw [← hg3] at hP hD
    have hP : va_P D vwCl ([] ++ pg cds ad g3) _ := hP
    have hD : va_D A ([] ++ pg cds ad g3) := hD
    have fg3 : ∀ z8, z8 ≠ 200 + i → z8 ≠ 220 + i → z8 ≠ 240 + i → g3 z8 = g2 z8 := fun z8 z1 z2 z3 => by rw [hg3]; exact ups_k (kp_n z1 (kp_n z2 (kp_n z3 kp_0)))
    have g3_0 : g3 (200 + i) = some (.inr (5, [.long 0, .ref (ad (220 + i))])) := by rw [hg3]; exact ups_1
    have g3_1 : g3 (220 + i) = some (.inr (4, [.ref (ad (240 + i)), .int gsn7u8, .int gsb7u8])) := by rw [hg3]; exact ups_2 (by omega)
    have g3_2 : g3 (240 + i) = some (.inl (cT 0, 24, .inl gsf7u8)) := by rw [hg3]; exact ups_3 (by omega) (by omega)
    refine lv_iinc (k := 6) (v := nI (i + 1)) hx hb dGr_gather_40 hl rfl (nI_1 i) (by decide) rfl (fun ls hl => ?_)
    have hl : lv_has ls 8 [(6, .int (nI (i + 1))), (7, .ref (ad (200 + i))), (0, .ref (ad 6)), (1, .ref (ad (10 + c0))), (2, .long x), (4, .ref (ad 7)), (5, .int 12)] := hl
    refine lv_goto (tgt := 21) hx hb dGr_gather_43 rfl ?_
    exact ih21 (i + 1, g3) (show (i + 1) ≤ 12 ∧ (∀ z8, (z8 < 200 ∨ 260 ≤ z8 ∨ z8 = 212 ∨ z8 = 213 ∨ z8 = 214 ∨ z8 = 232 ∨ z8 = 233 ∨ z8 = 234 ∨ z8 = 252 ∨ z8 = 253 ∨ z8 = 254) → g3 z8 = g1 z8) ∧ ∀ j, j < 12 → ∃ (r : Int64) (z : Int), GPp cT ad g3 j r z ∧ (j < (i + 1) → r = 0 ∧ z = 0) from ⟨by omega, fun z8 n1 => (fg3 z8 (by omega) (by omega) (by omega)).trans (iF z8 n1), fun j hj => (by by_cases q9 : j = i; (subst q9; exact ⟨0, 0, ⟨g3_0, ⟨_, _, _, g3_1, g3_2, a2⟩⟩, fun _ => ⟨rfl, rfl⟩⟩); (obtain ⟨r, z, e1, e2⟩ := iG j hj; exact ⟨r, z, e1.cg (fg3 _ (by omega) (by omega) (by omega)) (fg3 _ (by omega) (by omega) (by omega)) (fg3 _ (by omega) (by omega) (by omega)), fun q => e2 (by omega)⟩))⟩) (show 12 - (i + 1) < 12 - i from (by omega)) ls H locs (lv_sub hl [2, 3, 4, 5, 6, 0] rfl) hP hD hS
set_option maxHeartbeats 4000000 in
set_option maxRecDepth 100000 in
theorem k_gatherK (l : Launch) (D : va_G) (cT : Nat → ClassId) (cds : List Nat) (ad : Nat → Nat) (gg : Nat → Option va_E) (bb9 : Nat) (tt9 : Nat) (wd9 : Int32) (rw9 : Int32) (n : Nat) (zs : Nat → Int) (XB : Nat) (vv : Nat → Int32) (vq : Nat → Int32) (eg : Nat → Int32) (ik : Nat → Int32) (ne : Nat → Nat) (c0 : Nat) (x : Int64) (hcd : CD cds) (hgr : gg 6 = some (eGR ad bb9 tt9)) (htb : gg 1 = some (eTB ad wd9 rw9)) (hrn : rw9 = nI n) (hn48 : n ≤ 48) (hRs : RSp cT ad gg n zs) (hXB : ∀ i, i < n → (zs i).natAbs ≤ XB) (hfit : 49 * XB < 1000000000 ^ 24) (hGa : GAp cT ad gg) (hGs : ∀ j, j < 15 → ∃ (r : Int64) (z : Int), GPp cT ad gg j r z) (hCf : COLF cT ad gg n vv vq eg ik ne) (hc6 : c0 < 6) (hk : ¬ ik c0 = 0) (hVk : ∀ r, r < n → ¬ vv (6 * r + c0) = (-2147483648) → 0 ≤ vv (6 * r + c0) ∧ vv (6 * r + c0) < 12) (sz : Nat) : Met l yGr_gather WGr_gather ({ frames := 3, cells := 0, slots := 0, locals := 74 } : Room) (RW D vwCl [.ref (ad 6), .ref (ad (10 + c0)), .long x] ([] ++ pg cds ad gg) (TY cT) sz) (va_Qv (fun u9 : (Nat → Option va_E) => (∀ z8, (z8 < 200 ∨ 260 ≤ z8 ∨ z8 = 213 ∨ z8 = 214 ∨ z8 = 233 ∨ z8 = 234 ∨ z8 = 253 ∨ z8 = 254) → u9 z8 = gg z8) ∧ (∀ j8, j8 < 12 → GPp cT ad u9 j8 (gsG vv eg ik ne c0 x j8 n) (smv zs (gsG vv eg ik ne c0 x j8 n) n)) ∧ GPp cT ad u9 12 (gsM vv c0 x n) (smv zs (gsM vv c0 x n) n)) (BW D vwCl (va_A ([] ++ pg cds ad gg) sz) (fun u9 : (Nat → Option va_E) => ([] ++ pg cds ad u9))) (va_A ([] ++ pg cds ad gg) sz)) 0 0 (va_A ([] ++ pg cds ad gg) sz) := by
  refine Met.ofW (cc := cGr_gather) (maxL := 8) (ret := none) (by decide) rfl ?_
  intro p e s m args below meth c s₁ B hml hv
  obtain ⟨rfl, hsz, hZ, hP, hK, hD0⟩ := hv
  have hx := B.exec
  have hb := B.bytes
  have hr := B.returns
  have hts := atoms_spec (ws := WGr_gather) B.pre
  have hT : ∀ w ∈ TB, w.before _ s = true := fun w h => hts w (List.mem_cons_of_mem _ h)
  have hown : s.vm.findClass R_Gr = some m.cls := findClass_of_methodNamed B.named
  have hlocks := B.notSynchronized
  subst hsz
  have hD := hD0.self (sz := s.heap.size)
  generalize hAe : va_A ([] ++ pg cds ad gg) s.heap.size = A at hD hZ ⊢
  have hA : ∀ q : Nat, s.heap.size ≤ q → A q := fun q h => by rw [← hAe]; exact Or.inr h
  have hS : va_S A s.heap s.heap [] := va_S.rf
  have hl := lv_entry ([.ref (ad 6), .ref (ad (10 + c0)), .long x]) (n := 8) (Nat.le_of_ble_eq_true rfl)
  rw [lg_entry_eq]
  generalize (lg_sl ([.ref (ad 6), .ref (ad (10 + c0)), .long x]) ++ List.replicate (8 - (lg_sl ([.ref (ad 6), .ref (ad (10 + c0)), .long x])).length) Slot.unset).toArray = ls at hl ⊢
  have hl : lv_has ls 8 [(0, .ref (ad 6)), (1, .ref (ad (10 + c0))), (2, .long x)] := hl
  obtain ⟨qg, hga, hgb⟩ := hGa
  obtain ⟨⟨qf, hrq, hrq2⟩, hrs⟩ := hRs
  obtain ⟨fv, fe, hce, hcv, hcq, hcg⟩ := hCf c0 hc6
  obtain ⟨hc1, hc2, hc3⟩ := hce
  obtain ⟨gr12, gz12, hG12⟩ := hGs 12 (by decide)
  obtain ⟨w12g, w12w⟩ := hG12
  obtain ⟨w12n, w12b, w12f, w121, w122, w123⟩ := w12w
  refine lv_aload_n hx hb dGr_gather_0 rfl (lv_at hl 0 rfl) ?_
  refine va_get (D := D) (ci := 7) (v := .ref (ad 212)) (C := R_Gr) (T := T_Gr) (N := 13) hx hb hT in_Gr hown hK (pg_1 (x := 6) hcd hP (by decide) hgr) 0 rfl rfl 5 (by decide) (hT _ w219) (fun _ h9 => h9) rfl dGr_gather_1 ?_
  have hB9 : QI gg [(212, .inr (5, [.long gr12, .ref (ad 232)])), (232, .inr (4, [.ref (ad 252), .int w12n, .int w12b])), (252, .inl (cT 0, 24, .inl w12f))] := (qi_c (by decide) w12g (qi_c (by decide) w121 (qi_c (by decide) w122 qi_0)))
  have hN9 := (show NDc [212, 232, 252] from (nd_c (na_c (by decide) (na_c (by decide) na_0)) (nd_c (na_c (by decide) na_0) (nd_c na_0 nd_0))))
  have hP := bo_P (wc := [(212, .inr (5, [.long gr12, .ref (ad 232)])), (232, .inr (4, [.ref (ad 252), .int w12n, .int w12b])), (252, .inl (cT 0, 24, .inl w12f))]) (X := []) hcd hN9 hB9 hP
  have hD := bo_D (wc := [(212, .inr (5, [.long gr12, .ref (ad 232)])), (232, .inr (4, [.ref (ad 252), .int w12n, .int w12b])), (252, .inl (cT 0, 24, .inl w12f))]) (X := []) hcd hN9 hB9 hD
  have hP : va_P D vwCl ([(ad 212, .inr (5, [.long gr12, .ref (ad 232)])), (ad 232, .inr (4, [.ref (ad 252), .int w12n, .int w12b])), (ad 252, .inl (cT 0, 24, .inl w12f))] ++ pg cds ad (upo gg [212, 232, 252])) _ := hP
  have hD : va_D A ([(ad 212, .inr (5, [.long gr12, .ref (ad 232)])), (ad 232, .inr (4, [.ref (ad 252), .int w12n, .int w12b])), (ad 252, .inl (cT 0, 24, .inl w12f))] ++ pg cds ad (upo gg [212, 232, 252])) := hD
  refine hy_vQ (X := [(ad 212, .inr (5, [.long gr12, .ref (ad 232)])), (ad 232, .inr (4, [.ref (ad 252), .int w12n, .int w12b])), (ad 252, .inl (cT 0, 24, .inl w12f))]) (pl := pg cds ad (upo gg [212, 232, 252])) (cx := [(ad 212, .inr (5, [.long gr12, .ref (ad 232)])), (ad 232, .inr (4, [.ref (ad 252), .int w12n, .int w12b])), (ad 252, .inl (cT 0, 24, .inl w12f))]) (wr := []) hP hD hS hA [0, 1, 2] [] rfl rfl (by decide) (by decide) (va_runV (As := []) (rest := []) ⟨hx, hb, hml, hown, hT⟩ (k_gclear l D cT (ad 212) gr12 (ad 232) (ad 252) w12n w12b w12f _) ⟨callB_of 0 hT (tb_gd w908) rfl rfl rfl (hT _ w7) (hT _ w905) hG_clear ⟨Nat.le_of_ble_eq_true rfl, Nat.le_of_ble_eq_true rfl⟩, (hT _ w906), (hT _ w907)⟩ (RW.preV (ci := 5) (q0 := 0) hZ hS (hy_free (cx := [(ad 212, .inr (5, [.long gr12, .ref (ad 232)])), (ad 232, .inr (4, [.ref (ad 252), .int w12n, .int w12b])), (ad 252, .inl (cT 0, 24, .inl w12f))]) hD hS hA [0, 1, 2] rfl) (hP.sub (ws' := [(ad 212, .inr (5, [.long gr12, .ref (ad 232)])), (ad 232, .inr (4, [.ref (ad 252), .int w12n, .int w12b])), (ad 252, .inl (cT 0, 24, .inl w12f))]) [0, 1, 2] rfl) hK (hD.sub (ws' := [(ad 212, .inr (5, [.long gr12, .ref (ad 232)])), (ad 232, .inr (4, [.ref (ad 252), .int w12n, .int w12b])), (ad 252, .inl (cT 0, 24, .inl w12f))]) [0, 1, 2] (by decide) rfl) rfl rfl) rfl rfl hl.1 rfl (lv_room (Nat.le_of_ble_eq_true rfl)) dGr_gather_4 ⟨Nat.le_of_ble_eq_true rfl, Nat.le_of_ble_eq_true rfl⟩) (fun u9 H locs hpu1 hP hD hS => ?_)
  obtain ⟨gsn7u1, gsb7u1, gsf7u1⟩ := u9
  have hpu1 : WN 24 gsn7u1 gsb7u1 gsf7u1 (0) := hpu1
  have hP : va_P D vwCl ([(ad 212, .inr (5, [.long 0, .ref (ad 232)])), (ad 232, .inr (4, [.ref (ad 252), .int gsn7u1, .int gsb7u1])), (ad 252, .inl (cT 0, 24, .inl gsf7u1))] ++ pg cds ad (upo gg [212, 232, 252])) _ := hP
  have hD : va_D A ([(ad 212, .inr (5, [.long 0, .ref (ad 232)])), (ad 232, .inr (4, [.ref (ad 252), .int gsn7u1, .int gsb7u1])), (ad 252, .inl (cT 0, 24, .inl gsf7u1))] ++ pg cds ad (upo gg [212, 232, 252])) := hD
  have a1 := hpu1
  have hN9 := (show NDc [212, 232, 252] from (nd_c (na_c (by decide) (na_c (by decide) na_0)) (nd_c (na_c (by decide) na_0) (nd_c na_0 nd_0))))
  have hP := gb_P (w9 := [(212, .inr (5, [.long 0, .ref (ad 232)])), (232, .inr (4, [.ref (ad 252), .int gsn7u1, .int gsb7u1])), (252, .inl (cT 0, 24, .inl gsf7u1))]) (X := []) (g := gg) hcd hN9 (show QB [(212, .inr (5, [.long 0, .ref (ad 232)])), (232, .inr (4, [.ref (ad 252), .int gsn7u1, .int gsb7u1])), (252, .inl (cT 0, 24, .inl gsf7u1))] from (qb_c (by decide) (qb_c (by decide) (qb_c (by decide) qb_0)))) (hP.part (cx := [(ad 212, .inr (5, [.long 0, .ref (ad 232)])), (ad 232, .inr (4, [.ref (ad 252), .int gsn7u1, .int gsb7u1])), (ad 252, .inl (cT 0, 24, .inl gsf7u1))]) [0, 1, 2] rfl)
  have hD := gb_D (w9 := [(212, .inr (5, [.long 0, .ref (ad 232)])), (232, .inr (4, [.ref (ad 252), .int gsn7u1, .int gsb7u1])), (252, .inl (cT 0, 24, .inl gsf7u1))]) (X := []) (g := gg) hcd hN9 (show QB [(212, .inr (5, [.long 0, .ref (ad 232)])), (232, .inr (4, [.ref (ad 252), .int gsn7u1, .int gsb7u1])), (252, .inl (cT 0, 24, .inl gsf7u1))] from (qb_c (by decide) (qb_c (by decide) (qb_c (by decide) qb_0)))) (hD.part (cx := [(ad 212, .inr (5, [.long 0, .ref (ad 232)])), (ad 232, .inr (4, [.ref (ad 252), .int gsn7u1, .int gsb7u1])), (ad 252, .inl (cT 0, 24, .inl gsf7u1))]) [0, 1, 2] (by decide) rfl)
  obtain ⟨g1, hg1⟩ : ∃ q9, q9 = ups gg [(212, .inr (5, [.long 0, .ref (ad 232)])), (232, .inr (4, [.ref (ad 252), .int gsn7u1, .int gsb7u1])), (252, .inl (cT 0, 24, .inl gsf7u1))] := ⟨_, rfl⟩
  rw [← hg1] at hP hD
  have hP : va_P D vwCl ([] ++ pg cds ad g1) _ := hP
  have hD : va_D A ([] ++ pg cds ad g1) := hD
  have fg1 : ∀ z8, z8 ≠ 212 → z8 ≠ 232 → z8 ≠ 252 → g1 z8 = gg z8 := fun z8 z1 z2 z3 => by rw [hg1]; exact ups_k (kp_n z1 (kp_n z2 (kp_n z3 kp_0)))
  have g1_0 : g1 212 = some (.inr (5, [.long 0, .ref (ad 232)])) := by rw [hg1]; exact ups_1
  have g1_1 : g1 232 = some (.inr (4, [.ref (ad 252), .int gsn7u1, .int gsb7u1])) := by rw [hg1]; exact ups_2 (by decide)
  have g1_2 : g1 252 = some (.inl (cT 0, 24, .inl gsf7u1)) := by rw [hg1]; exact ups_3 (by decide) (by decide)
  refine lv_aload_n hx hb dGr_gather_7 rfl (lv_at hl 0 rfl) ?_
  refine va_get (D := D) (ci := 7) (v := .ref (ad 7)) (C := R_Gr) (T := T_Gr) (N := 13) hx hb hT in_Gr hown hK (pg_1 (x := 6) hcd hP (by decide) ((fg1 _ (by decide) (by decide) (by decide)).trans hgr)) 0 rfl rfl 3 (by decide) (hT _ w217) (fun _ h9 => h9) rfl dGr_gather_8 ?_
  refine lv_astore hx hb dGr_gather_11 hl (by decide) rfl (fun ls hl => ?_)
  have hl : lv_has ls 8 [(4, .ref (ad 7)), (0, .ref (ad 6)), (1, .ref (ad (10 + c0))), (2, .long x)] := hl
  refine lv_aload hx hb dGr_gather_13 (lv_at hl 0 rfl) ?_
  refine va_alen (v := 12) hx hb hK (pg_1 (x := 7) hcd hP (by decide) ((fg1 _ (by decide) (by decide) (by decide)).trans hga)) 0 6 rfl rfl rfl dGr_gather_15 ?_
  refine lv_istore hx hb dGr_gather_16 hl (by decide) rfl (fun ls hl => ?_)
  have hl : lv_has ls 8 [(5, .int 12), (4, .ref (ad 7)), (0, .ref (ad 6)), (1, .ref (ad (10 + c0))), (2, .long x)] := hl
  refine lv_iconst (v := 0) hx hb dGr_gather_18 (by decide) ?_
  refine lv_istore hx hb dGr_gather_19 hl (by decide) rfl (fun ls hl => ?_)
  have hl : lv_has ls 8 [(6, .int 0), (5, .int 12), (4, .ref (ad 7)), (0, .ref (ad 6)), (1, .ref (ad (10 + c0))), (2, .long x)] := hl
  have hl : lv_has ls 8 [(6, .int (nI 0)), (5, .int 12), (4, .ref (ad 7)), (0, .ref (ad 6)), (1, .ref (ad (10 + c0))), (2, .long x)] := by
    rw [(show nI 0 = 0 from rfl)]; exact hl
  refine lp_w (α := Nat × (Nat → Option va_E)) (fun a9 => a9.1 ≤ 12 ∧ (∀ z8, (z8 < 200 ∨ 260 ≤ z8 ∨ z8 = 212 ∨ z8 = 213 ∨ z8 = 214 ∨ z8 = 232 ∨ z8 = 233 ∨ z8 = 234 ∨ z8 = 252 ∨ z8 = 253 ∨ z8 = 254) → a9.2 z8 = g1 z8) ∧ ∀ j, j < 12 → ∃ (r : Int64) (z : Int), GPp cT ad a9.2 j r z ∧ (j < a9.1 → r = 0 ∧ z = 0)) (fun a9 => 12 - a9.1) (fun a9 => [(0, .ref (ad 6)), (1, .ref (ad (10 + c0))), (2, .long x), (4, .ref (ad 7)), (5, .int 12), (6, .int (nI a9.1))]) (fun a9 => ([] ++ pg cds ad a9.2)) 21 ?_ (0, g1) (show 0 ≤ 12 ∧ (∀ z8, (z8 < 200 ∨ 260 ≤ z8 ∨ z8 = 212 ∨ z8 = 213 ∨ z8 = 214 ∨ z8 = 232 ∨ z8 = 233 ∨ z8 = 234 ∨ z8 = 252 ∨ z8 = 253 ∨ z8 = 254) → g1 z8 = g1 z8) ∧ ∀ j, j < 12 → ∃ (r : Int64) (z : Int), GPp cT ad g1 j r z ∧ (j < 0 → r = 0 ∧ z = 0) from ⟨Nat.zero_le _, fun _ _ => rfl, fun j hj => (by obtain ⟨r, z, e1⟩ := hGs j (by omega); exact ⟨r, z, e1.cg (fg1 _ (by omega) (by omega) (by omega)) (fg1 _ (by omega) (by omega) (by omega)) (fg1 _ (by omega) (by omega) (by omega)), fun q => absurd q (by omega)⟩)⟩) (lv_sub hl [3, 4, 5, 2, 1, 0] rfl) hP hD hS
  intro a9 hI21 ih21 ls H locs hl hP hD hS
  obtain ⟨i, g2⟩ := a9
  have hI21 : i ≤ 12 ∧ (∀ z8, (z8 < 200 ∨ 260 ≤ z8 ∨ z8 = 212 ∨ z8 = 213 ∨ z8 = 214 ∨ z8 = 232 ∨ z8 = 233 ∨ z8 = 234 ∨ z8 = 252 ∨ z8 = 253 ∨ z8 = 254) → g2 z8 = g1 z8) ∧ ∀ j, j < 12 → ∃ (r : Int64) (z : Int), GPp cT ad g2 j r z ∧ (j < i → r = 0 ∧ z = 0) := hI21
  obtain ⟨ii, iF, iG⟩ := hI21
  have hl : lv_has ls 8 [(0, .ref (ad 6)), (1, .ref (ad (10 + c0))), (2, .long x), (4, .ref (ad 7)), (5, .int 12), (6, .int (nI i))] := hl
  have hP : va_P D vwCl ([] ++ pg cds ad g2) _ := hP
  have hD : va_D A ([] ++ pg cds ad g2) := hD
  refine lv_iload hx hb dGr_gather_21 (lv_at hl 5 rfl) ?_
  refine lv_iload hx hb dGr_gather_23 (lv_at hl 4 rfl) ?_
  refine lv_icmp_ge (tgt := 46) hx hb dGr_gather_25 rfl (fun h2 => ?_) (fun h2 => ?_)
  · have gh2 : 12 ≤ i := (nI_leI (a := 12) (b := i) (by omega) (by omega)).mp h2
    have i12 : i = 12 := by omega
    refine lv_iconst (v := 0) hx hb dGr_gather_46 (by decide) ?_
    refine lv_istore hx hb dGr_gather_47 hl (by decide) rfl (fun ls hl => ?_)
    have hl : lv_has ls 8 [(4, .int 0), (0, .ref (ad 6)), (1, .ref (ad (10 + c0))), (2, .long x), (5, .int 12), (6, .int (nI i))] := hl
    have hl : lv_has ls 8 [(4, .int (nI 0)), (0, .ref (ad 6)), (1, .ref (ad (10 + c0))), (2, .long x), (5, .int 12), (6, .int (nI i))] := by
      rw [(show nI 0 = 0 from rfl)]; exact hl
    refine lp_w (α := Nat × (Nat → Option va_E)) (fun a9 => a9.1 ≤ n ∧ (∀ z8, (z8 < 200 ∨ 260 ≤ z8 ∨ z8 = 213 ∨ z8 = 214 ∨ z8 = 233 ∨ z8 = 234 ∨ z8 = 253 ∨ z8 = 254) → a9.2 z8 = gg z8) ∧ (∀ j, j < 12 → GPp cT ad a9.2 j (gsG vv eg ik ne c0 x j a9.1) (smv zs (gsG vv eg ik ne c0 x j a9.1) n)) ∧ GPp cT ad a9.2 12 (gsM vv c0 x a9.1) (smv zs (gsM vv c0 x a9.1) n)) (fun a9 => n - a9.1) (fun a9 => [(0, .ref (ad 6)), (1, .ref (ad (10 + c0))), (2, .long x), (4, .int (nI a9.1))]) (fun a9 => ([] ++ pg cds ad a9.2)) 49 ?_ (0, g2) (show 0 ≤ n ∧ (∀ z8, (z8 < 200 ∨ 260 ≤ z8 ∨ z8 = 213 ∨ z8 = 214 ∨ z8 = 233 ∨ z8 = 234 ∨ z8 = 253 ∨ z8 = 254) → g2 z8 = gg z8) ∧ (∀ j, j < 12 → GPp cT ad g2 j (gsG vv eg ik ne c0 x j 0) (smv zs (gsG vv eg ik ne c0 x j 0) n)) ∧ GPp cT ad g2 12 (gsM vv c0 x 0) (smv zs (gsM vv c0 x 0) n) from ⟨Nat.zero_le _, fun z8 n1 => (iF z8 (by omega)).trans (fg1 z8 (by omega) (by omega) (by omega)), fun j hj => (by obtain ⟨r, z, e1, e2⟩ := iG j hj; obtain ⟨e3, e4⟩ := e2 (by omega); rw [e3, e4] at e1; rw [show smv zs (gsG vv eg ik ne c0 x j 0) n = 0 from smv_z n]; exact e1), (by rw [show smv zs (gsM vv c0 x 0) n = 0 from smv_z n]; exact ⟨(iF _ (by omega)).trans g1_0, ⟨_, _, _, (iF _ (by omega)).trans g1_1, (iF _ (by omega)).trans g1_2, a1⟩⟩)⟩) (lv_sub hl [1, 2, 3, 0] rfl) hP hD hS
    intro a9 hI49 ih49 ls H locs hl hP hD hS
    obtain ⟨i4, g4⟩ := a9
    have hI49 : i4 ≤ n ∧ (∀ z8, (z8 < 200 ∨ 260 ≤ z8 ∨ z8 = 213 ∨ z8 = 214 ∨ z8 = 233 ∨ z8 = 234 ∨ z8 = 253 ∨ z8 = 254) → g4 z8 = gg z8) ∧ (∀ j, j < 12 → GPp cT ad g4 j (gsG vv eg ik ne c0 x j i4) (smv zs (gsG vv eg ik ne c0 x j i4) n)) ∧ GPp cT ad g4 12 (gsM vv c0 x i4) (smv zs (gsM vv c0 x i4) n) := hI49
    obtain ⟨jj, jF, jG, jM⟩ := hI49
    have hl : lv_has ls 8 [(0, .ref (ad 6)), (1, .ref (ad (10 + c0))), (2, .long x), (4, .int (nI i4))] := hl
    have hP : va_P D vwCl ([] ++ pg cds ad g4) _ := hP
    have hD : va_D A ([] ++ pg cds ad g4) := hD
    refine lv_iload hx hb dGr_gather_49 (lv_at hl 3 rfl) ?_
    refine lv_aload_n hx hb dGr_gather_51 rfl (lv_at hl 0 rfl) ?_
    refine va_get (D := D) (ci := 7) (v := .ref (ad 1)) (C := R_Gr) (T := T_Gr) (N := 13) hx hb hT in_Gr hown hK (pg_1 (x := 6) hcd hP (by decide) ((jF 6 (by omega)).trans hgr)) 0 rfl rfl 0 (by decide) (hT _ w214) (fun _ h9 => h9) rfl dGr_gather_52 ?_
    refine va_get (D := D) (ci := 2) (v := .int rw9) (C := R_T) (T := T_T) (N := 4) hx hb hT in_T hown hK (pg_1 (x := 1) hcd hP (by decide) ((jF 1 (by omega)).trans htb)) 0 rfl rfl 3 (by decide) (hT _ w83) (fun _ h9 => h9) rfl dGr_gather_55 ?_
    refine lv_topi (fun y9 e9 => ?_)
    cases (show y9 = nI n from e9.trans hrn)
    refine lv_icmp_ge (tgt := 130) hx hb dGr_gather_58 rfl (fun h3 => ?_) (fun h3 => ?_)
    · have gh3 : n ≤ i4 := (nI_leI (a := n) (b := i4) (by omega) (by omega)).mp h3
      have hP9 : va_P D vwCl ([] ++ pg cds ad g4) _ := hP.part (cx := []) [] rfl
      have hD9 : va_D A ([] ++ pg cds ad g4) := hD.part (cx := []) [] (by decide) rfl
      refine W.widen (k := 0) (n := 0) (Nat.le_of_ble_eq_true rfl) (Nat.le_of_ble_eq_true rfl) ?_
      exact W.vret hx hb hr (fun t9 ht9 hW9 => ⟨⟨g4, rfl, (show (∀ z8, (z8 < 200 ∨ 260 ≤ z8 ∨ z8 = 213 ∨ z8 = 214 ∨ z8 = 233 ∨ z8 = 234 ∨ z8 = 253 ∨ z8 = 254) → g4 z8 = gg z8) ∧ (∀ j8, j8 < 12 → GPp cT ad g4 j8 (gsG vv eg ik ne c0 x j8 n) (smv zs (gsG vv eg ik ne c0 x j8 n) n)) ∧ GPp cT ad g4 12 (gsM vv c0 x n) (smv zs (gsM vv c0 x n) n) from (by obtain rfl : i4 = n := (by omega); exact ⟨jF, jG, jM⟩)), by rw [ht9]; exact hP9, hD9⟩, hS.F ht9⟩) hS.2.2 dGr_gather_130
    · have gh3 : i4 < n := Nat.not_le.mp (fun q => h3 ((nI_leI (a := n) (b := i4) (by omega) (by omega)).mpr q))
      refine lv_lload_n hx hb dGr_gather_61 rfl (lv_at hl 2 rfl) ?_
      refine lv_iload hx hb dGr_gather_62 (lv_at hl 3 rfl) ?_
      refine lv_lshr hx hb dGr_gather_64 rfl ?_
      refine lv_lconst (v := 1) hx hb dGr_gather_65 (by decide) ?_
      refine lv_land hx hb dGr_gather_66 ?_
      refine lv_lconst (v := 1) hx hb dGr_gather_67 (by decide) ?_
      refine W.lcmp hx hb dGr_gather_68 ?_
      refine lv_if_ne (tgt := 124) hx hb dGr_gather_69 rfl (fun h4 => ?_) (fun h4 => ?_)
      · have gb : ¬ bx x i4 = true := fun q => h4 ((bx_t x (by omega)).mpr q)
        refine lv_iinc (k := 3) (v := nI (i4 + 1)) hx hb dGr_gather_124 hl rfl (nI_1 i4) (by decide) rfl (fun ls hl => ?_)
        have hl : lv_has ls 8 [(4, .int (nI (i4 + 1))), (0, .ref (ad 6)), (1, .ref (ad (10 + c0))), (2, .long x)] := hl
        refine lv_goto (tgt := 49) hx hb dGr_gather_127 rfl ?_
        exact ih49 (i4 + 1, g4) (show (i4 + 1) ≤ n ∧ (∀ z8, (z8 < 200 ∨ 260 ≤ z8 ∨ z8 = 213 ∨ z8 = 214 ∨ z8 = 233 ∨ z8 = 234 ∨ z8 = 253 ∨ z8 = 254) → g4 z8 = gg z8) ∧ (∀ j, j < 12 → GPp cT ad g4 j (gsG vv eg ik ne c0 x j (i4 + 1)) (smv zs (gsG vv eg ik ne c0 x j (i4 + 1)) n)) ∧ GPp cT ad g4 12 (gsM vv c0 x (i4 + 1)) (smv zs (gsM vv c0 x (i4 + 1)) n) from ⟨by omega, jF, fun j hj => (by rw [gsG_n (pg_no gb)]; exact jG j hj), (by rw [gsM_n (pm_no gb)]; exact jM)⟩) (show n - (i4 + 1) < n - i4 from (by omega)) ls H locs (lv_sub hl [1, 2, 3, 0] rfl) hP hD hS
      · have gb : bx x i4 = true := (bx_t x (by omega)).mp h4
        have hin : i4 < n := by omega
        obtain ⟨zi, hWi, hzi⟩ := hrs i4 (by omega)
        have hzi := hzi hin
        subst hzi
        have hWi := hWi.cg (g2 := g4) (jF _ (by omega)) (jF _ (by omega))
        obtain ⟨wrn, wrb, wrf, wr1, wr2, wr3⟩ := hWi
        have hb1 := hXB i4 hin
        refine lv_aload_n hx hb dGr_gather_72 rfl (lv_at hl 1 rfl) ?_
        refine va_get (D := D) (ci := 1) (v := .ref (ad (20 + c0))) (C := R_C) (T := T_C) (N := 4) hx hb hT in_C hown hK (pg_1 (x := 10 + c0) hcd hP (by omega) ((jF (10 + c0) (by omega)).trans hc1)) 0 rfl rfl 0 (by decide) (hT _ w53) (fun _ h9 => h9) rfl dGr_gather_73 ?_
        refine lv_iload hx hb dGr_gather_76 (lv_at hl 3 rfl) ?_
        refine lq_iald (j := i4) hx hb hK (pg_1 (x := 20 + c0) hcd hP (by omega) ((jF (20 + c0) (by omega)).trans hc2)) 0 0 rfl rfl rfl (by omega) (by omega) dGr_gather_78 ?_
        refine lv_topi (fun y9 e9 => ?_)
        cases (show y9 = vv (6 * i4 + c0) from e9.trans (hcv i4 hin))
        refine lv_istore hx hb dGr_gather_79 hl (by decide) rfl (fun ls hl => ?_)
        have hl : lv_has ls 8 [(5, .int (vv (6 * i4 + c0))), (0, .ref (ad 6)), (1, .ref (ad (10 + c0))), (2, .long x), (4, .int (nI i4))] := hl
        refine lv_iload hx hb dGr_gather_81 (lv_at hl 0 rfl) ?_
        refine lv_ldc (v := (-2147483648)) hx hb hown (hT _ w910) dGr_gather_83 ?_
        refine lv_icmp_ne (tgt := 95) hx hb dGr_gather_85 rfl (fun h5 => ?_) (fun h5 => ?_)
        · have hnm : ¬ vv (6 * i4 + c0) = (-2147483648) := h5
          obtain ⟨bq, hbq⟩ : ∃ q9 : Nat, q9 = bnF eg ik ne c0 (vv (6 * i4 + c0)) := ⟨_, rfl⟩
          have hbv := hVk i4 hin hnm
          have hb12 : bq < 12 := by rw [hbq]; unfold bnF; rw [if_neg hk]; exact k12 hbv
          have hbx : vv (6 * i4 + c0) = nI bq := by rw [hbq]; unfold bnF; rw [if_neg hk]; exact kx12 hbv
          have jG2 := jG bq hb12
          obtain ⟨wgg, wgw⟩ := jG2
          obtain ⟨wgn, wgb, wgf, wg1, wg2, wg3⟩ := wgw
          refine lv_aload_n hx hb dGr_gather_95 rfl (lv_at hl 1 rfl) ?_
          refine va_get (D := D) (ci := 7) (v := .ref (ad 7)) (C := R_Gr) (T := T_Gr) (N := 13) hx hb hT in_Gr hown hK (pg_1 (x := 6) hcd hP (by decide) ((jF 6 (by omega)).trans hgr)) 0 rfl rfl 3 (by decide) (hT _ w217) (fun _ h9 => h9) rfl dGr_gather_96 ?_
          refine lv_aload_n hx hb dGr_gather_99 rfl (lv_at hl 2 rfl) ?_
          refine lv_iload hx hb dGr_gather_100 (lv_at hl 0 rfl) ?_
          refine ro_i (va_Run.run (va_runV (As := [.int (vv (6 * i4 + c0))]) (rest := [.ref (ad 7)]) ⟨hx, hb, hml, hown, hT⟩ (k_binOfK l D cT (ad (10 + c0)) (ad (20 + c0)) (ad (30 + c0)) (nI (ne c0)) (ik c0) (vv (6 * i4 + c0)) hk) ⟨callB_of 1 hT (tb_gd w689) rfl rfl rfl (hT _ w3) (hT _ w911) hC_binOf ⟨Nat.le_of_ble_eq_true rfl, Nat.le_of_ble_eq_true rfl⟩, (hT _ w687), (hT _ w688)⟩ (RO.preV (ci := 1) (q0 := 0) hZ hS ((show va_P D vwCl [(ad (10 + c0), .inr (1, [.ref (ad (20 + c0)), .ref (ad (30 + c0)), .int (nI (ne c0)), .int (ik c0)]))] _ from (pv_c (pg_1 (x := 10 + c0) hcd hP (by omega) ((jF (10 + c0) (by omega)).trans hc1)) pv_0))) hK rfl rfl) rfl rfl hl.1 rfl (lv_room (Nat.le_of_ble_eq_true rfl)) dGr_gather_102 ⟨Nat.le_of_ble_eq_true rfl, Nat.le_of_ble_eq_true rfl⟩)) ?_
          refine lv_topi (fun y9 e9 => ?_)
          cases (show y9 = nI bq from e9.trans hbx)
          refine al_q (q := ad (200 + bq)) hx hb hK (pg_1 (x := 7) hcd hP (by decide) ((jF 7 (by omega)).trans hga)) 0 6 rfl rfl (vp_in_nI (by omega) (by decide)) (by rw [nI_clamp (by omega)]; exact hgb bq hb12) dGr_gather_105 ?_
          refine lv_astore hx hb dGr_gather_106 hl (by decide) rfl (fun ls hl => ?_)
          have hl : lv_has ls 8 [(6, .ref (ad (200 + bq))), (5, .int (vv (6 * i4 + c0))), (0, .ref (ad 6)), (1, .ref (ad (10 + c0))), (2, .long x), (4, .int (nI i4))] := hl
          refine lv_aload hx hb dGr_gather_108 (lv_at hl 0 rfl) ?_
          refine lv_lconst (v := 1) hx hb dGr_gather_110 (by decide) ?_
          refine lv_iload hx hb dGr_gather_111 (lv_at hl 5 rfl) ?_
          refine lv_lshl hx hb dGr_gather_113 rfl ?_
          refine lv_aload_n hx hb dGr_gather_114 rfl (lv_at hl 2 rfl) ?_
          refine va_get (D := D) (ci := 7) (v := .ref (ad 5)) (C := R_Gr) (T := T_Gr) (N := 13) hx hb hT in_Gr hown hK (pg_1 (x := 6) hcd hP (by decide) ((jF 6 (by omega)).trans hgr)) 0 rfl rfl 2 (by decide) (hT _ w216) (fun _ h9 => h9) rfl dGr_gather_115 ?_
          refine lv_iload hx hb dGr_gather_118 (lv_at hl 5 rfl) ?_
          refine al_q (q := ad (100 + i4)) hx hb hK (pg_1 (x := 5) hcd hP (by decide) ((jF 5 (by omega)).trans hrq)) 0 4 rfl rfl (vp_in_nI (by omega) (by decide)) (by rw [nI_clamp (by omega)]; exact hrq2 i4 (by omega)) dGr_gather_120 ?_
          have hB9 : QI g4 [(200 + bq, .inr (5, [.long (gsG vv eg ik ne c0 x bq i4), .ref (ad (220 + bq))])), (220 + bq, .inr (4, [.ref (ad (240 + bq)), .int wgn, .int wgb])), (240 + bq, .inl (cT 0, 24, .inl wgf)), (100 + i4, .inr (4, [.ref (ad (150 + i4)), .int wrn, .int wrb])), (150 + i4, .inl (cT 0, 24, .inl wrf))] := (qi_c (by omega) wgg (qi_c (by omega) wg1 (qi_c (by omega) wg2 (qi_c (by omega) wr1 (qi_c (by omega) wr2 qi_0)))))
          have hN9 := (show NDc [200 + bq, 220 + bq, 240 + bq, 100 + i4, 150 + i4] from (nd_c (na_c (by omega) (na_c (by omega) (na_c (by omega) (na_c (by omega) na_0)))) (nd_c (na_c (by omega) (na_c (by omega) (na_c (by omega) na_0))) (nd_c (na_c (by omega) (na_c (by omega) na_0)) (nd_c (na_c (by omega) na_0) (nd_c na_0 nd_0))))))
          have hP := bo_P (wc := [(200 + bq, .inr (5, [.long (gsG vv eg ik ne c0 x bq i4), .ref (ad (220 + bq))])), (220 + bq, .inr (4, [.ref (ad (240 + bq)), .int wgn, .int wgb])), (240 + bq, .inl (cT 0, 24, .inl wgf)), (100 + i4, .inr (4, [.ref (ad (150 + i4)), .int wrn, .int wrb])), (150 + i4, .inl (cT 0, 24, .inl wrf))]) (X := []) hcd hN9 hB9 hP
          have hD := bo_D (wc := [(200 + bq, .inr (5, [.long (gsG vv eg ik ne c0 x bq i4), .ref (ad (220 + bq))])), (220 + bq, .inr (4, [.ref (ad (240 + bq)), .int wgn, .int wgb])), (240 + bq, .inl (cT 0, 24, .inl wgf)), (100 + i4, .inr (4, [.ref (ad (150 + i4)), .int wrn, .int wrb])), (150 + i4, .inl (cT 0, 24, .inl wrf))]) (X := []) hcd hN9 hB9 hD
          have hP : va_P D vwCl ([(ad (200 + bq), .inr (5, [.long (gsG vv eg ik ne c0 x bq i4), .ref (ad (220 + bq))])), (ad (220 + bq), .inr (4, [.ref (ad (240 + bq)), .int wgn, .int wgb])), (ad (240 + bq), .inl (cT 0, 24, .inl wgf)), (ad (100 + i4), .inr (4, [.ref (ad (150 + i4)), .int wrn, .int wrb])), (ad (150 + i4), .inl (cT 0, 24, .inl wrf))] ++ pg cds ad (upo g4 [200 + bq, 220 + bq, 240 + bq, 100 + i4, 150 + i4])) _ := hP
          have hD : va_D A ([(ad (200 + bq), .inr (5, [.long (gsG vv eg ik ne c0 x bq i4), .ref (ad (220 + bq))])), (ad (220 + bq), .inr (4, [.ref (ad (240 + bq)), .int wgn, .int wgb])), (ad (240 + bq), .inl (cT 0, 24, .inl wgf)), (ad (100 + i4), .inr (4, [.ref (ad (150 + i4)), .int wrn, .int wrb])), (ad (150 + i4), .inl (cT 0, 24, .inl wrf))] ++ pg cds ad (upo g4 [200 + bq, 220 + bq, 240 + bq, 100 + i4, 150 + i4])) := hD
          have hb3 := smv_le (x := gsG vv eg ik ne c0 x bq i4) (zr := zs) (B := XB) (n := n) hXB n (Nat.le_refl _)
          have hb4 : n * XB ≤ 48 * XB := Nat.mul_le_mul_right _ hn48
          refine hy_vQ (X := [(ad (200 + bq), .inr (5, [.long (gsG vv eg ik ne c0 x bq i4), .ref (ad (220 + bq))])), (ad (220 + bq), .inr (4, [.ref (ad (240 + bq)), .int wgn, .int wgb])), (ad (240 + bq), .inl (cT 0, 24, .inl wgf)), (ad (100 + i4), .inr (4, [.ref (ad (150 + i4)), .int wrn, .int wrb])), (ad (150 + i4), .inl (cT 0, 24, .inl wrf))]) (pl := pg cds ad (upo g4 [200 + bq, 220 + bq, 240 + bq, 100 + i4, 150 + i4])) (cx := [(ad (200 + bq), .inr (5, [.long (gsG vv eg ik ne c0 x bq i4), .ref (ad (220 + bq))])), (ad (220 + bq), .inr (4, [.ref (ad (240 + bq)), .int wgn, .int wgb])), (ad (240 + bq), .inl (cT 0, 24, .inl wgf)), (ad (100 + i4), .inr (4, [.ref (ad (150 + i4)), .int wrn, .int wrb])), (ad (150 + i4), .inl (cT 0, 24, .inl wrf))]) (wr := []) hP hD hS hA [0, 1, 2, 3, 4] [] rfl rfl (by decide) (by decide) (va_runV (As := [.long (1 <<< ((nI i4 : Int32).toInt64 &&& 63)), .ref (ad (100 + i4))]) (rest := []) ⟨hx, hb, hml, hown, hT⟩ (k_takeIn l D cT (ad (200 + bq)) (gsG vv eg ik ne c0 x bq i4) (ad (220 + bq)) (ad (240 + bq)) wgn wgb wgf (1 <<< ((nI i4 : Int32).toInt64 &&& 63)) (ad (100 + i4)) (ad (150 + i4)) wrn wrb wrf (smv zs (gsG vv eg ik ne c0 x bq i4) n) (zs i4) wg3 wr3 (by omega) _) ⟨callB_of 2 hT (tb_gd w915) rfl rfl rfl (hT _ w7) (hT _ w912) hG_takeIn ⟨Nat.le_of_ble_eq_true rfl, Nat.le_of_ble_eq_true rfl⟩, (hT _ w913), (hT _ w914)⟩ (RW.preV (ci := 5) (q0 := 0) hZ hS (hy_free (cx := [(ad (200 + bq), .inr (5, [.long (gsG vv eg ik ne c0 x bq i4), .ref (ad (220 + bq))])), (ad (220 + bq), .inr (4, [.ref (ad (240 + bq)), .int wgn, .int wgb])), (ad (240 + bq), .inl (cT 0, 24, .inl wgf)), (ad (100 + i4), .inr (4, [.ref (ad (150 + i4)), .int wrn, .int wrb])), (ad (150 + i4), .inl (cT 0, 24, .inl wrf))]) hD hS hA [0, 1, 2, 3, 4] rfl) (hP.sub (ws' := [(ad (200 + bq), .inr (5, [.long (gsG vv eg ik ne c0 x bq i4), .ref (ad (220 + bq))])), (ad (220 + bq), .inr (4, [.ref (ad (240 + bq)), .int wgn, .int wgb])), (ad (240 + bq), .inl (cT 0, 24, .inl wgf)), (ad (100 + i4), .inr (4, [.ref (ad (150 + i4)), .int wrn, .int wrb])), (ad (150 + i4), .inl (cT 0, 24, .inl wrf))]) [0, 1, 2, 3, 4] rfl) hK (hD.sub (ws' := [(ad (200 + bq), .inr (5, [.long (gsG vv eg ik ne c0 x bq i4), .ref (ad (220 + bq))])), (ad (220 + bq), .inr (4, [.ref (ad (240 + bq)), .int wgn, .int wgb])), (ad (240 + bq), .inl (cT 0, 24, .inl wgf)), (ad (100 + i4), .inr (4, [.ref (ad (150 + i4)), .int wrn, .int wrb])), (ad (150 + i4), .inl (cT 0, 24, .inl wrf))]) [0, 1, 2, 3, 4] (by decide) rfl) rfl rfl) rfl rfl hl.1 rfl (lv_room (Nat.le_of_ble_eq_true rfl)) dGr_gather_121 ⟨Nat.le_of_ble_eq_true rfl, Nat.le_of_ble_eq_true rfl⟩) (fun u9 H locs hpu6 hP hD hS => ?_)
          obtain ⟨gsn7u6, gsb7u6, gsf7u6⟩ := u9
          have hpu6 : WN 24 gsn7u6 gsb7u6 gsf7u6 ((smv zs (gsG vv eg ik ne c0 x bq i4) n) + (zs i4)) := hpu6
          have hP : va_P D vwCl ([(ad (200 + bq), .inr (5, [.long ((gsG vv eg ik ne c0 x bq i4) ||| (1 <<< ((nI i4 : Int32).toInt64 &&& 63))), .ref (ad (220 + bq))])), (ad (220 + bq), .inr (4, [.ref (ad (240 + bq)), .int gsn7u6, .int gsb7u6])), (ad (240 + bq), .inl (cT 0, 24, .inl gsf7u6)), (ad (100 + i4), .inr (4, [.ref (ad (150 + i4)), .int wrn, .int wrb])), (ad (150 + i4), .inl (cT 0, 24, .inl wrf))] ++ pg cds ad (upo g4 [200 + bq, 220 + bq, 240 + bq, 100 + i4, 150 + i4])) _ := hP
          have hD : va_D A ([(ad (200 + bq), .inr (5, [.long ((gsG vv eg ik ne c0 x bq i4) ||| (1 <<< ((nI i4 : Int32).toInt64 &&& 63))), .ref (ad (220 + bq))])), (ad (220 + bq), .inr (4, [.ref (ad (240 + bq)), .int gsn7u6, .int gsb7u6])), (ad (240 + bq), .inl (cT 0, 24, .inl gsf7u6)), (ad (100 + i4), .inr (4, [.ref (ad (150 + i4)), .int wrn, .int wrb])), (ad (150 + i4), .inl (cT 0, 24, .inl wrf))] ++ pg cds ad (upo g4 [200 + bq, 220 + bq, 240 + bq, 100 + i4, 150 + i4])) := hD
          have a3 := hpu6
          have hN9 := (show NDc [200 + bq, 220 + bq, 240 + bq, 100 + i4, 150 + i4] from (nd_c (na_c (by omega) (na_c (by omega) (na_c (by omega) (na_c (by omega) na_0)))) (nd_c (na_c (by omega) (na_c (by omega) (na_c (by omega) na_0))) (nd_c (na_c (by omega) (na_c (by omega) na_0)) (nd_c (na_c (by omega) na_0) (nd_c na_0 nd_0))))))
          have hP := gb_P (w9 := [(200 + bq, .inr (5, [.long ((gsG vv eg ik ne c0 x bq i4) ||| (1 <<< ((nI i4 : Int32).toInt64 &&& 63))), .ref (ad (220 + bq))])), (220 + bq, .inr (4, [.ref (ad (240 + bq)), .int gsn7u6, .int gsb7u6])), (240 + bq, .inl (cT 0, 24, .inl gsf7u6)), (100 + i4, .inr (4, [.ref (ad (150 + i4)), .int wrn, .int wrb])), (150 + i4, .inl (cT 0, 24, .inl wrf))]) (X := []) (g := g4) hcd hN9 (show QB [(200 + bq, .inr (5, [.long ((gsG vv eg ik ne c0 x bq i4) ||| (1 <<< ((nI i4 : Int32).toInt64 &&& 63))), .ref (ad (220 + bq))])), (220 + bq, .inr (4, [.ref (ad (240 + bq)), .int gsn7u6, .int gsb7u6])), (240 + bq, .inl (cT 0, 24, .inl gsf7u6)), (100 + i4, .inr (4, [.ref (ad (150 + i4)), .int wrn, .int wrb])), (150 + i4, .inl (cT 0, 24, .inl wrf))] from (qb_c (by omega) (qb_c (by omega) (qb_c (by omega) (qb_c (by omega) (qb_c (by omega) qb_0)))))) (hP.part (cx := [(ad (200 + bq), .inr (5, [.long ((gsG vv eg ik ne c0 x bq i4) ||| (1 <<< ((nI i4 : Int32).toInt64 &&& 63))), .ref (ad (220 + bq))])), (ad (220 + bq), .inr (4, [.ref (ad (240 + bq)), .int gsn7u6, .int gsb7u6])), (ad (240 + bq), .inl (cT 0, 24, .inl gsf7u6)), (ad (100 + i4), .inr (4, [.ref (ad (150 + i4)), .int wrn, .int wrb])), (ad (150 + i4), .inl (cT 0, 24, .inl wrf))]) [0, 1, 2, 3, 4] rfl)
          have hD := gb_D (w9 := [(200 + bq, .inr (5, [.long ((gsG vv eg ik ne c0 x bq i4) ||| (1 <<< ((nI i4 : Int32).toInt64 &&& 63))), .ref (ad (220 + bq))])), (220 + bq, .inr (4, [.ref (ad (240 + bq)), .int gsn7u6, .int gsb7u6])), (240 + bq, .inl (cT 0, 24, .inl gsf7u6)), (100 + i4, .inr (4, [.ref (ad (150 + i4)), .int wrn, .int wrb])), (150 + i4, .inl (cT 0, 24, .inl wrf))]) (X := []) (g := g4) hcd hN9 (show QB [(200 + bq, .inr (5, [.long ((gsG vv eg ik ne c0 x bq i4) ||| (1 <<< ((nI i4 : Int32).toInt64 &&& 63))), .ref (ad (220 + bq))])), (220 + bq, .inr (4, [.ref (ad (240 + bq)), .int gsn7u6, .int gsb7u6])), (240 + bq, .inl (cT 0, 24, .inl gsf7u6)), (100 + i4, .inr (4, [.ref (ad (150 + i4)), .int wrn, .int wrb])), (150 + i4, .inl (cT 0, 24, .inl wrf))] from (qb_c (by omega) (qb_c (by omega) (qb_c (by omega) (qb_c (by omega) (qb_c (by omega) qb_0)))))) (hD.part (cx := [(ad (200 + bq), .inr (5, [.long ((gsG vv eg ik ne c0 x bq i4) ||| (1 <<< ((nI i4 : Int32).toInt64 &&& 63))), .ref (ad (220 + bq))])), (ad (220 + bq), .inr (4, [.ref (ad (240 + bq)), .int gsn7u6, .int gsb7u6])), (ad (240 + bq), .inl (cT 0, 24, .inl gsf7u6)), (ad (100 + i4), .inr (4, [.ref (ad (150 + i4)), .int wrn, .int wrb])), (ad (150 + i4), .inl (cT 0, 24, .inl wrf))]) [0, 1, 2, 3, 4] (by decide) rfl)
          obtain ⟨g5, hg5⟩ : ∃ q9, q9 = ups g4 [(200 + bq, .inr (5, [.long ((gsG vv eg ik ne c0 x bq i4) ||| (1 <<< ((nI i4 : Int32).toInt64 &&& 63))), .ref (ad (220 + bq))])), (220 + bq, .inr (4, [.ref (ad (240 + bq)), .int gsn7u6, .int gsb7u6])), (240 + bq, .inl (cT 0, 24, .inl gsf7u6)), (100 + i4, .inr (4, [.ref (ad (150 + i4)), .int wrn, .int wrb])), (150 + i4, .inl (cT 0, 24, .inl wrf))] := ⟨_, rfl⟩
          rw [← hg5] at hP hD
          have hP : va_P D vwCl ([] ++ pg cds ad g5) _ := hP
          have hD : va_D A ([] ++ pg cds ad g5) := hD
          have fg5 : ∀ z8, z8 ≠ 200 + bq → z8 ≠ 220 + bq → z8 ≠ 240 + bq → g5 z8 = g4 z8 := fun z8 z1 z2 z3 => by rw [hg5]; exact ups_k (kp_n z1 (kp_n z2 (kp_n z3 (kp_s wr1 (kp_s wr2 kp_0)))))
          have g5_0 : g5 (200 + bq) = some (.inr (5, [.long ((gsG vv eg ik ne c0 x bq i4) ||| (1 <<< ((nI i4 : Int32).toInt64 &&& 63))), .ref (ad (220 + bq))])) := by rw [hg5]; exact ups_1
          have g5_1 : g5 (220 + bq) = some (.inr (4, [.ref (ad (240 + bq)), .int gsn7u6, .int gsb7u6])) := by rw [hg5]; exact ups_2 (by omega)
          have g5_2 : g5 (240 + bq) = some (.inl (cT 0, 24, .inl gsf7u6)) := by rw [hg5]; exact ups_3 (by omega) (by omega)
          refine lv_iinc (k := 5) (v := nI (i4 + 1)) hx hb dGr_gather_124 hl rfl (nI_1 i4) (by decide) rfl (fun ls hl => ?_)
          have hl : lv_has ls 8 [(4, .int (nI (i4 + 1))), (6, .ref (ad (200 + bq))), (5, .int (vv (6 * i4 + c0))), (0, .ref (ad 6)), (1, .ref (ad (10 + c0))), (2, .long x)] := hl
          refine lv_goto (tgt := 49) hx hb dGr_gather_127 rfl ?_
          exact ih49 (i4 + 1, g5) (show (i4 + 1) ≤ n ∧ (∀ z8, (z8 < 200 ∨ 260 ≤ z8 ∨ z8 = 213 ∨ z8 = 214 ∨ z8 = 233 ∨ z8 = 234 ∨ z8 = 253 ∨ z8 = 254) → g5 z8 = gg z8) ∧ (∀ j, j < 12 → GPp cT ad g5 j (gsG vv eg ik ne c0 x j (i4 + 1)) (smv zs (gsG vv eg ik ne c0 x j (i4 + 1)) n)) ∧ GPp cT ad g5 12 (gsM vv c0 x (i4 + 1)) (smv zs (gsM vv c0 x (i4 + 1)) n) from ⟨by omega, fun z8 n1 => (fg5 z8 (by omega) (by omega) (by omega)).trans (jF z8 n1), fun j hj => (by by_cases q9 : j = bq; (subst q9; exact ⟨(by rw [gsG_y (pg_yes gb hnm hbq.symm)]; exact g5_0), (by rw [gsG_s hin (by omega) (pg_yes gb hnm hbq.symm)]; exact ⟨_, _, _, g5_1, g5_2, a3⟩)⟩); (rw [gsG_n (pg_oth (fun q => q9 (q.symm.trans hbq.symm)))]; exact (jG j hj).cg (fg5 _ (by omega) (by omega) (by omega)) (fg5 _ (by omega) (by omega) (by omega)) (fg5 _ (by omega) (by omega) (by omega)))), (by rw [gsM_n (pm_nm hnm)]; exact jM.cg (fg5 _ (by omega) (by omega) (by omega)) (fg5 _ (by omega) (by omega) (by omega)) (fg5 _ (by omega) (by omega) (by omega)))⟩) (show n - (i4 + 1) < n - i4 from (by omega)) ls H locs (lv_sub hl [3, 4, 5, 0] rfl) hP hD hS
        · have hmi : vv (6 * i4 + c0) = (-2147483648) := h5
          have jM2 := jM
          obtain ⟨wgg, wgw⟩ := jM2
          obtain ⟨wgn, wgb, wgf, wg1, wg2, wg3⟩ := wgw
          refine lv_aload_n hx hb dGr_gather_88 rfl (lv_at hl 1 rfl) ?_
          refine va_get (D := D) (ci := 7) (v := .ref (ad 212)) (C := R_Gr) (T := T_Gr) (N := 13) hx hb hT in_Gr hown hK (pg_1 (x := 6) hcd hP (by decide) ((jF 6 (by omega)).trans hgr)) 0 rfl rfl 5 (by decide) (hT _ w219) (fun _ h9 => h9) rfl dGr_gather_89 ?_
          refine lv_goto (tgt := 106) hx hb dGr_gather_92 rfl ?_
          refine lv_astore hx hb dGr_gather_106 hl (by decide) rfl (fun ls hl => ?_)
          have hl : lv_has ls 8 [(6, .ref (ad 212)), (5, .int (vv (6 * i4 + c0))), (0, .ref (ad 6)), (1, .ref (ad (10 + c0))), (2, .long x), (4, .int (nI i4))] := hl
          refine lv_aload hx hb dGr_gather_108 (lv_at hl 0 rfl) ?_
          refine lv_lconst (v := 1) hx hb dGr_gather_110 (by decide) ?_
          refine lv_iload hx hb dGr_gather_111 (lv_at hl 5 rfl) ?_
          refine lv_lshl hx hb dGr_gather_113 rfl ?_
          refine lv_aload_n hx hb dGr_gather_114 rfl (lv_at hl 2 rfl) ?_
          refine va_get (D := D) (ci := 7) (v := .ref (ad 5)) (C := R_Gr) (T := T_Gr) (N := 13) hx hb hT in_Gr hown hK (pg_1 (x := 6) hcd hP (by decide) ((jF 6 (by omega)).trans hgr)) 0 rfl rfl 2 (by decide) (hT _ w216) (fun _ h9 => h9) rfl dGr_gather_115 ?_
          refine lv_iload hx hb dGr_gather_118 (lv_at hl 5 rfl) ?_
          refine al_q (q := ad (100 + i4)) hx hb hK (pg_1 (x := 5) hcd hP (by decide) ((jF 5 (by omega)).trans hrq)) 0 4 rfl rfl (vp_in_nI (by omega) (by decide)) (by rw [nI_clamp (by omega)]; exact hrq2 i4 (by omega)) dGr_gather_120 ?_
          have hB9 : QI g4 [(212, .inr (5, [.long (gsM vv c0 x i4), .ref (ad 232)])), (232, .inr (4, [.ref (ad 252), .int wgn, .int wgb])), (252, .inl (cT 0, 24, .inl wgf)), (100 + i4, .inr (4, [.ref (ad (150 + i4)), .int wrn, .int wrb])), (150 + i4, .inl (cT 0, 24, .inl wrf))] := (qi_c (by decide) wgg (qi_c (by decide) wg1 (qi_c (by decide) wg2 (qi_c (by omega) wr1 (qi_c (by omega) wr2 qi_0)))))
          have hN9 := (show NDc [212, 232, 252, 100 + i4, 150 + i4] from (nd_c (na_c (by decide) (na_c (by decide) (na_c (by omega) (na_c (by omega) na_0)))) (nd_c (na_c (by decide) (na_c (by omega) (na_c (by omega) na_0))) (nd_c (na_c (by omega) (na_c (by omega) na_0)) (nd_c (na_c (by omega) na_0) (nd_c na_0 nd_0))))))
          have hP := bo_P (wc := [(212, .inr (5, [.long (gsM vv c0 x i4), .ref (ad 232)])), (232, .inr (4, [.ref (ad 252), .int wgn, .int wgb])), (252, .inl (cT 0, 24, .inl wgf)), (100 + i4, .inr (4, [.ref (ad (150 + i4)), .int wrn, .int wrb])), (150 + i4, .inl (cT 0, 24, .inl wrf))]) (X := []) hcd hN9 hB9 hP
          have hD := bo_D (wc := [(212, .inr (5, [.long (gsM vv c0 x i4), .ref (ad 232)])), (232, .inr (4, [.ref (ad 252), .int wgn, .int wgb])), (252, .inl (cT 0, 24, .inl wgf)), (100 + i4, .inr (4, [.ref (ad (150 + i4)), .int wrn, .int wrb])), (150 + i4, .inl (cT 0, 24, .inl wrf))]) (X := []) hcd hN9 hB9 hD
          have hP : va_P D vwCl ([(ad 212, .inr (5, [.long (gsM vv c0 x i4), .ref (ad 232)])), (ad 232, .inr (4, [.ref (ad 252), .int wgn, .int wgb])), (ad 252, .inl (cT 0, 24, .inl wgf)), (ad (100 + i4), .inr (4, [.ref (ad (150 + i4)), .int wrn, .int wrb])), (ad (150 + i4), .inl (cT 0, 24, .inl wrf))] ++ pg cds ad (upo g4 [212, 232, 252, 100 + i4, 150 + i4])) _ := hP
          have hD : va_D A ([(ad 212, .inr (5, [.long (gsM vv c0 x i4), .ref (ad 232)])), (ad 232, .inr (4, [.ref (ad 252), .int wgn, .int wgb])), (ad 252, .inl (cT 0, 24, .inl wgf)), (ad (100 + i4), .inr (4, [.ref (ad (150 + i4)), .int wrn, .int wrb])), (ad (150 + i4), .inl (cT 0, 24, .inl wrf))] ++ pg cds ad (upo g4 [212, 232, 252, 100 + i4, 150 + i4])) := hD
          have hb3 := smv_le (x := gsM vv c0 x i4) (zr := zs) (B := XB) (n := n) hXB n (Nat.le_refl _)
          have hb4 : n * XB ≤ 48 * XB := Nat.mul_le_mul_right _ hn48
          refine hy_vQ (X := [(ad 212, .inr (5, [.long (gsM vv c0 x i4), .ref (ad 232)])), (ad 232, .inr (4, [.ref (ad 252), .int wgn, .int wgb])), (ad 252, .inl (cT 0, 24, .inl wgf)), (ad (100 + i4), .inr (4, [.ref (ad (150 + i4)), .int wrn, .int wrb])), (ad (150 + i4), .inl (cT 0, 24, .inl wrf))]) (pl := pg cds ad (upo g4 [212, 232, 252, 100 + i4, 150 + i4])) (cx := [(ad 212, .inr (5, [.long (gsM vv c0 x i4), .ref (ad 232)])), (ad 232, .inr (4, [.ref (ad 252), .int wgn, .int wgb])), (ad 252, .inl (cT 0, 24, .inl wgf)), (ad (100 + i4), .inr (4, [.ref (ad (150 + i4)), .int wrn, .int wrb])), (ad (150 + i4), .inl (cT 0, 24, .inl wrf))]) (wr := []) hP hD hS hA [0, 1, 2, 3, 4] [] rfl rfl (by decide) (by decide) (va_runV (As := [.long (1 <<< ((nI i4 : Int32).toInt64 &&& 63)), .ref (ad (100 + i4))]) (rest := []) ⟨hx, hb, hml, hown, hT⟩ (k_takeIn l D cT (ad 212) (gsM vv c0 x i4) (ad 232) (ad 252) wgn wgb wgf (1 <<< ((nI i4 : Int32).toInt64 &&& 63)) (ad (100 + i4)) (ad (150 + i4)) wrn wrb wrf (smv zs (gsM vv c0 x i4) n) (zs i4) wg3 wr3 (by omega) _) ⟨callB_of 2 hT (tb_gd w915) rfl rfl rfl (hT _ w7) (hT _ w912) hG_takeIn ⟨Nat.le_of_ble_eq_true rfl, Nat.le_of_ble_eq_true rfl⟩, (hT _ w913), (hT _ w914)⟩ (RW.preV (ci := 5) (q0 := 0) hZ hS (hy_free (cx := [(ad 212, .inr (5, [.long (gsM vv c0 x i4), .ref (ad 232)])), (ad 232, .inr (4, [.ref (ad 252), .int wgn, .int wgb])), (ad 252, .inl (cT 0, 24, .inl wgf)), (ad (100 + i4), .inr (4, [.ref (ad (150 + i4)), .int wrn, .int wrb])), (ad (150 + i4), .inl (cT 0, 24, .inl wrf))]) hD hS hA [0, 1, 2, 3, 4] rfl) (hP.sub (ws' := [(ad 212, .inr (5, [.long (gsM vv c0 x i4), .ref (ad 232)])), (ad 232, .inr (4, [.ref (ad 252), .int wgn, .int wgb])), (ad 252, .inl (cT 0, 24, .inl wgf)), (ad (100 + i4), .inr (4, [.ref (ad (150 + i4)), .int wrn, .int wrb])), (ad (150 + i4), .inl (cT 0, 24, .inl wrf))]) [0, 1, 2, 3, 4] rfl) hK (hD.sub (ws' := [(ad 212, .inr (5, [.long (gsM vv c0 x i4), .ref (ad 232)])), (ad 232, .inr (4, [.ref (ad 252), .int wgn, .int wgb])), (ad 252, .inl (cT 0, 24, .inl wgf)), (ad (100 + i4), .inr (4, [.ref (ad (150 + i4)), .int wrn, .int wrb])), (ad (150 + i4), .inl (cT 0, 24, .inl wrf))]) [0, 1, 2, 3, 4] (by decide) rfl) rfl rfl) rfl rfl hl.1 rfl (lv_room (Nat.le_of_ble_eq_true rfl)) dGr_gather_121 ⟨Nat.le_of_ble_eq_true rfl, Nat.le_of_ble_eq_true rfl⟩) (fun u9 H locs hpu7 hP hD hS => ?_)
          obtain ⟨gsn7u7, gsb7u7, gsf7u7⟩ := u9
          have hpu7 : WN 24 gsn7u7 gsb7u7 gsf7u7 ((smv zs (gsM vv c0 x i4) n) + (zs i4)) := hpu7
          have hP : va_P D vwCl ([(ad 212, .inr (5, [.long ((gsM vv c0 x i4) ||| (1 <<< ((nI i4 : Int32).toInt64 &&& 63))), .ref (ad 232)])), (ad 232, .inr (4, [.ref (ad 252), .int gsn7u7, .int gsb7u7])), (ad 252, .inl (cT 0, 24, .inl gsf7u7)), (ad (100 + i4), .inr (4, [.ref (ad (150 + i4)), .int wrn, .int wrb])), (ad (150 + i4), .inl (cT 0, 24, .inl wrf))] ++ pg cds ad (upo g4 [212, 232, 252, 100 + i4, 150 + i4])) _ := hP
          have hD : va_D A ([(ad 212, .inr (5, [.long ((gsM vv c0 x i4) ||| (1 <<< ((nI i4 : Int32).toInt64 &&& 63))), .ref (ad 232)])), (ad 232, .inr (4, [.ref (ad 252), .int gsn7u7, .int gsb7u7])), (ad 252, .inl (cT 0, 24, .inl gsf7u7)), (ad (100 + i4), .inr (4, [.ref (ad (150 + i4)), .int wrn, .int wrb])), (ad (150 + i4), .inl (cT 0, 24, .inl wrf))] ++ pg cds ad (upo g4 [212, 232, 252, 100 + i4, 150 + i4])) := hD
          have a3 := hpu7
          have hN9 := (show NDc [212, 232, 252, 100 + i4, 150 + i4] from (nd_c (na_c (by decide) (na_c (by decide) (na_c (by omega) (na_c (by omega) na_0)))) (nd_c (na_c (by decide) (na_c (by omega) (na_c (by omega) na_0))) (nd_c (na_c (by omega) (na_c (by omega) na_0)) (nd_c (na_c (by omega) na_0) (nd_c na_0 nd_0))))))
          have hP := gb_P (w9 := [(212, .inr (5, [.long ((gsM vv c0 x i4) ||| (1 <<< ((nI i4 : Int32).toInt64 &&& 63))), .ref (ad 232)])), (232, .inr (4, [.ref (ad 252), .int gsn7u7, .int gsb7u7])), (252, .inl (cT 0, 24, .inl gsf7u7)), (100 + i4, .inr (4, [.ref (ad (150 + i4)), .int wrn, .int wrb])), (150 + i4, .inl (cT 0, 24, .inl wrf))]) (X := []) (g := g4) hcd hN9 (show QB [(212, .inr (5, [.long ((gsM vv c0 x i4) ||| (1 <<< ((nI i4 : Int32).toInt64 &&& 63))), .ref (ad 232)])), (232, .inr (4, [.ref (ad 252), .int gsn7u7, .int gsb7u7])), (252, .inl (cT 0, 24, .inl gsf7u7)), (100 + i4, .inr (4, [.ref (ad (150 + i4)), .int wrn, .int wrb])), (150 + i4, .inl (cT 0, 24, .inl wrf))] from (qb_c (by decide) (qb_c (by decide) (qb_c (by decide) (qb_c (by omega) (qb_c (by omega) qb_0)))))) (hP.part (cx := [(ad 212, .inr (5, [.long ((gsM vv c0 x i4) ||| (1 <<< ((nI i4 : Int32).toInt64 &&& 63))), .ref (ad 232)])), (ad 232, .inr (4, [.ref (ad 252), .int gsn7u7, .int gsb7u7])), (ad 252, .inl (cT 0, 24, .inl gsf7u7)), (ad (100 + i4), .inr (4, [.ref (ad (150 + i4)), .int wrn, .int wrb])), (ad (150 + i4), .inl (cT 0, 24, .inl wrf))]) [0, 1, 2, 3, 4] rfl)
          have hD := gb_D (w9 := [(212, .inr (5, [.long ((gsM vv c0 x i4) ||| (1 <<< ((nI i4 : Int32).toInt64 &&& 63))), .ref (ad 232)])), (232, .inr (4, [.ref (ad 252), .int gsn7u7, .int gsb7u7])), (252, .inl (cT 0, 24, .inl gsf7u7)), (100 + i4, .inr (4, [.ref (ad (150 + i4)), .int wrn, .int wrb])), (150 + i4, .inl (cT 0, 24, .inl wrf))]) (X := []) (g := g4) hcd hN9 (show QB [(212, .inr (5, [.long ((gsM vv c0 x i4) ||| (1 <<< ((nI i4 : Int32).toInt64 &&& 63))), .ref (ad 232)])), (232, .inr (4, [.ref (ad 252), .int gsn7u7, .int gsb7u7])), (252, .inl (cT 0, 24, .inl gsf7u7)), (100 + i4, .inr (4, [.ref (ad (150 + i4)), .int wrn, .int wrb])), (150 + i4, .inl (cT 0, 24, .inl wrf))] from (qb_c (by decide) (qb_c (by decide) (qb_c (by decide) (qb_c (by omega) (qb_c (by omega) qb_0)))))) (hD.part (cx := [(ad 212, .inr (5, [.long ((gsM vv c0 x i4) ||| (1 <<< ((nI i4 : Int32).toInt64 &&& 63))), .ref (ad 232)])), (ad 232, .inr (4, [.ref (ad 252), .int gsn7u7, .int gsb7u7])), (ad 252, .inl (cT 0, 24, .inl gsf7u7)), (ad (100 + i4), .inr (4, [.ref (ad (150 + i4)), .int wrn, .int wrb])), (ad (150 + i4), .inl (cT 0, 24, .inl wrf))]) [0, 1, 2, 3, 4] (by decide) rfl)
          obtain ⟨g5, hg5⟩ : ∃ q9, q9 = ups g4 [(212, .inr (5, [.long ((gsM vv c0 x i4) ||| (1 <<< ((nI i4 : Int32).toInt64 &&& 63))), .ref (ad 232)])), (232, .inr (4, [.ref (ad 252), .int gsn7u7, .int gsb7u7])), (252, .inl (cT 0, 24, .inl gsf7u7)), (100 + i4, .inr (4, [.ref (ad (150 + i4)), .int wrn, .int wrb])), (150 + i4, .inl (cT 0, 24, .inl wrf))] := ⟨_, rfl⟩
          rw [← hg5] at hP hD
          have hP : va_P D vwCl ([] ++ pg cds ad g5) _ := hP
          have hD : va_D A ([] ++ pg cds ad g5) := hD
          have fg5 : ∀ z8, z8 ≠ 212 → z8 ≠ 232 → z8 ≠ 252 → g5 z8 = g4 z8 := fun z8 z1 z2 z3 => by rw [hg5]; exact ups_k (kp_n z1 (kp_n z2 (kp_n z3 (kp_s wr1 (kp_s wr2 kp_0)))))
          have g5_0 : g5 212 = some (.inr (5, [.long ((gsM vv c0 x i4) ||| (1 <<< ((nI i4 : Int32).toInt64 &&& 63))), .ref (ad 232)])) := by rw [hg5]; exact ups_1
          have g5_1 : g5 232 = some (.inr (4, [.ref (ad 252), .int gsn7u7, .int gsb7u7])) := by rw [hg5]; exact ups_2 (by decide)
          have g5_2 : g5 252 = some (.inl (cT 0, 24, .inl gsf7u7)) := by rw [hg5]; exact ups_3 (by decide) (by decide)
          refine lv_iinc (k := 5) (v := nI (i4 + 1)) hx hb dGr_gather_124 hl rfl (nI_1 i4) (by decide) rfl (fun ls hl => ?_)
          have hl : lv_has ls 8 [(4, .int (nI (i4 + 1))), (6, .ref (ad 212)), (5, .int (vv (6 * i4 + c0))), (0, .ref (ad 6)), (1, .ref (ad (10 + c0))), (2, .long x)] := hl
          refine lv_goto (tgt := 49) hx hb dGr_gather_127 rfl ?_
          exact ih49 (i4 + 1, g5) (show (i4 + 1) ≤ n ∧ (∀ z8, (z8 < 200 ∨ 260 ≤ z8 ∨ z8 = 213 ∨ z8 = 214 ∨ z8 = 233 ∨ z8 = 234 ∨ z8 = 253 ∨ z8 = 254) → g5 z8 = gg z8) ∧ (∀ j, j < 12 → GPp cT ad g5 j (gsG vv eg ik ne c0 x j (i4 + 1)) (smv zs (gsG vv eg ik ne c0 x j (i4 + 1)) n)) ∧ GPp cT ad g5 12 (gsM vv c0 x (i4 + 1)) (smv zs (gsM vv c0 x (i4 + 1)) n) from ⟨by omega, fun z8 n1 => (fg5 z8 (by omega) (by omega) (by omega)).trans (jF z8 n1), fun j hj => (by rw [gsG_n (pg_mis hmi)]; exact (jG j hj).cg (fg5 _ (by omega) (by omega) (by omega)) (fg5 _ (by omega) (by omega) (by omega)) (fg5 _ (by omega) (by omega) (by omega))), ⟨(by rw [gsM_y (pm_yes gb hmi)]; exact g5_0), (by rw [gsM_s hin (by omega) (pm_yes gb hmi)]; exact ⟨_, _, _, g5_1, g5_2, a3⟩)⟩⟩) (show n - (i4 + 1) < n - i4 from (by omega)) ls H locs (lv_sub hl [3, 4, 5, 0] rfl) hP hD hS
  · have gh2 : i < 12 := Nat.not_le.mp (fun q => h2 ((nI_leI (a := 12) (b := i) (by omega) (by omega)).mpr q))
    have hi12 : i < 12 := by omega
    obtain ⟨gr0, gz0, hGi, _⟩ := iG i hi12
    obtain ⟨wig, wiw⟩ := hGi
    obtain ⟨win, wib, wif, wi1, wi2, wi3⟩ := wiw
    refine lv_aload hx hb dGr_gather_28 (lv_at hl 3 rfl) ?_
    refine lv_iload hx hb dGr_gather_30 (lv_at hl 5 rfl) ?_
    refine al_q (q := ad (200 + i)) hx hb hK (pg_1 (x := 7) hcd hP (by decide) (((iF 7 (by omega)).trans (fg1 7 (by omega) (by omega) (by omega))).trans hga)) 0 6 rfl rfl (vp_in_nI (by omega) (by decide)) (by rw [nI_clamp (by omega)]; exact hgb i (by omega)) dGr_gather_32 ?_
    refine lv_astore hx hb dGr_gather_33 hl (by decide) rfl (fun ls hl => ?_)
    have hl : lv_has ls 8 [(7, .ref (ad (200 + i))), (0, .ref (ad 6)), (1, .ref (ad (10 + c0))), (2, .long x), (4, .ref (ad 7)), (5, .int 12), (6, .int (nI i))] := hl
    refine lv_aload hx hb dGr_gather_35 (lv_at hl 0 rfl) ?_
    have hB9 : QI g2 [(200 + i, .inr (5, [.long gr0, .ref (ad (220 + i))])), (220 + i, .inr (4, [.ref (ad (240 + i)), .int win, .int wib])), (240 + i, .inl (cT 0, 24, .inl wif))] := (qi_c (by omega) wig (qi_c (by omega) wi1 (qi_c (by omega) wi2 qi_0)))
    have hN9 := (show NDc [200 + i, 220 + i, 240 + i] from (nd_c (na_c (by omega) (na_c (by omega) na_0)) (nd_c (na_c (by omega) na_0) (nd_c na_0 nd_0))))
    have hP := bo_P (wc := [(200 + i, .inr (5, [.long gr0, .ref (ad (220 + i))])), (220 + i, .inr (4, [.ref (ad (240 + i)), .int win, .int wib])), (240 + i, .inl (cT 0, 24, .inl wif))]) (X := []) hcd hN9 hB9 hP
    have hD := bo_D (wc := [(200 + i, .inr (5, [.long gr0, .ref (ad (220 + i))])), (220 + i, .inr (4, [.ref (ad (240 + i)), .int win, .int wib])), (240 + i, .inl (cT 0, 24, .inl wif))]) (X := []) hcd hN9 hB9 hD
    have hP : va_P D vwCl ([(ad (200 + i), .inr (5, [.long gr0, .ref (ad (220 + i))])), (ad (220 + i), .inr (4, [.ref (ad (240 + i)), .int win, .int wib])), (ad (240 + i), .inl (cT 0, 24, .inl wif))] ++ pg cds ad (upo g2 [200 + i, 220 + i, 240 + i])) _ := hP
    have hD : va_D A ([(ad (200 + i), .inr (5, [.long gr0, .ref (ad (220 + i))])), (ad (220 + i), .inr (4, [.ref (ad (240 + i)), .int win, .int wib])), (ad (240 + i), .inl (cT 0, 24, .inl wif))] ++ pg cds ad (upo g2 [200 + i, 220 + i, 240 + i])) := hD
    refine hy_vQ (X := [(ad (200 + i), .inr (5, [.long gr0, .ref (ad (220 + i))])), (ad (220 + i), .inr (4, [.ref (ad (240 + i)), .int win, .int wib])), (ad (240 + i), .inl (cT 0, 24, .inl wif))]) (pl := pg cds ad (upo g2 [200 + i, 220 + i, 240 + i])) (cx := [(ad (200 + i), .inr (5, [.long gr0, .ref (ad (220 + i))])), (ad (220 + i), .inr (4, [.ref (ad (240 + i)), .int win, .int wib])), (ad (240 + i), .inl (cT 0, 24, .inl wif))]) (wr := []) hP hD hS hA [0, 1, 2] [] rfl rfl (by decide) (by decide) (va_runV (As := []) (rest := []) ⟨hx, hb, hml, hown, hT⟩ (k_gclear l D cT (ad (200 + i)) gr0 (ad (220 + i)) (ad (240 + i)) win wib wif _) ⟨callB_of 0 hT (tb_gd w908) rfl rfl rfl (hT _ w7) (hT _ w905) hG_clear ⟨Nat.le_of_ble_eq_true rfl, Nat.le_of_ble_eq_true rfl⟩, (hT _ w906), (hT _ w907)⟩ (RW.preV (ci := 5) (q0 := 0) hZ hS (hy_free (cx := [(ad (200 + i), .inr (5, [.long gr0, .ref (ad (220 + i))])), (ad (220 + i), .inr (4, [.ref (ad (240 + i)), .int win, .int wib])), (ad (240 + i), .inl (cT 0, 24, .inl wif))]) hD hS hA [0, 1, 2] rfl) (hP.sub (ws' := [(ad (200 + i), .inr (5, [.long gr0, .ref (ad (220 + i))])), (ad (220 + i), .inr (4, [.ref (ad (240 + i)), .int win, .int wib])), (ad (240 + i), .inl (cT 0, 24, .inl wif))]) [0, 1, 2] rfl) hK (hD.sub (ws' := [(ad (200 + i), .inr (5, [.long gr0, .ref (ad (220 + i))])), (ad (220 + i), .inr (4, [.ref (ad (240 + i)), .int win, .int wib])), (ad (240 + i), .inl (cT 0, 24, .inl wif))]) [0, 1, 2] (by decide) rfl) rfl rfl) rfl rfl hl.1 rfl (lv_room (Nat.le_of_ble_eq_true rfl)) dGr_gather_37 ⟨Nat.le_of_ble_eq_true rfl, Nat.le_of_ble_eq_true rfl⟩) (fun u9 H locs hpu8 hP hD hS => ?_)
    obtain ⟨gsn7u8, gsb7u8, gsf7u8⟩ := u9
    have hpu8 : WN 24 gsn7u8 gsb7u8 gsf7u8 (0) := hpu8
    have hP : va_P D vwCl ([(ad (200 + i), .inr (5, [.long 0, .ref (ad (220 + i))])), (ad (220 + i), .inr (4, [.ref (ad (240 + i)), .int gsn7u8, .int gsb7u8])), (ad (240 + i), .inl (cT 0, 24, .inl gsf7u8))] ++ pg cds ad (upo g2 [200 + i, 220 + i, 240 + i])) _ := hP
    have hD : va_D A ([(ad (200 + i), .inr (5, [.long 0, .ref (ad (220 + i))])), (ad (220 + i), .inr (4, [.ref (ad (240 + i)), .int gsn7u8, .int gsb7u8])), (ad (240 + i), .inl (cT 0, 24, .inl gsf7u8))] ++ pg cds ad (upo g2 [200 + i, 220 + i, 240 + i])) := hD
    have a2 := hpu8
    have hN9 := (show NDc [200 + i, 220 + i, 240 + i] from (nd_c (na_c (by omega) (na_c (by omega) na_0)) (nd_c (na_c (by omega) na_0) (nd_c na_0 nd_0))))
    have hP := gb_P (w9 := [(200 + i, .inr (5, [.long 0, .ref (ad (220 + i))])), (220 + i, .inr (4, [.ref (ad (240 + i)), .int gsn7u8, .int gsb7u8])), (240 + i, .inl (cT 0, 24, .inl gsf7u8))]) (X := []) (g := g2) hcd hN9 (show QB [(200 + i, .inr (5, [.long 0, .ref (ad (220 + i))])), (220 + i, .inr (4, [.ref (ad (240 + i)), .int gsn7u8, .int gsb7u8])), (240 + i, .inl (cT 0, 24, .inl gsf7u8))] from (qb_c (by omega) (qb_c (by omega) (qb_c (by omega) qb_0)))) (hP.part (cx := [(ad (200 + i), .inr (5, [.long 0, .ref (ad (220 + i))])), (ad (220 + i), .inr (4, [.ref (ad (240 + i)), .int gsn7u8, .int gsb7u8])), (ad (240 + i), .inl (cT 0, 24, .inl gsf7u8))]) [0, 1, 2] rfl)
    have hD := gb_D (w9 := [(200 + i, .inr (5, [.long 0, .ref (ad (220 + i))])), (220 + i, .inr (4, [.ref (ad (240 + i)), .int gsn7u8, .int gsb7u8])), (240 + i, .inl (cT 0, 24, .inl gsf7u8))]) (X := []) (g := g2) hcd hN9 (show QB [(200 + i, .inr (5, [.long 0, .ref (ad (220 + i))])), (220 + i, .inr (4, [.ref (ad (240 + i)), .int gsn7u8, .int gsb7u8])), (240 + i, .inl (cT 0, 24, .inl gsf7u8))] from (qb_c (by omega) (qb_c (by omega) (qb_c (by omega) qb_0)))) (hD.part (cx := [(ad (200 + i), .inr (5, [.long 0, .ref (ad (220 + i))])), (ad (220 + i), .inr (4, [.ref (ad (240 + i)), .int gsn7u8, .int gsb7u8])), (ad (240 + i), .inl (cT 0, 24, .inl gsf7u8))]) [0, 1, 2] (by decide) rfl)
    obtain ⟨g3, hg3⟩ : ∃ q9, q9 = ups g2 [(200 + i, .inr (5, [.long 0, .ref (ad (220 + i))])), (220 + i, .inr (4, [.ref (ad (240 + i)), .int gsn7u8, .int gsb7u8])), (240 + i, .inl (cT 0, 24, .inl gsf7u8))] := ⟨_, rfl⟩
    rw [← hg3] at hP hD
    have hP : va_P D vwCl ([] ++ pg cds ad g3) _ := hP
    have hD : va_D A ([] ++ pg cds ad g3) := hD
    have fg3 : ∀ z8, z8 ≠ 200 + i → z8 ≠ 220 + i → z8 ≠ 240 + i → g3 z8 = g2 z8 := fun z8 z1 z2 z3 => by rw [hg3]; exact ups_k (kp_n z1 (kp_n z2 (kp_n z3 kp_0)))
    have g3_0 : g3 (200 + i) = some (.inr (5, [.long 0, .ref (ad (220 + i))])) := by rw [hg3]; exact ups_1
    have g3_1 : g3 (220 + i) = some (.inr (4, [.ref (ad (240 + i)), .int gsn7u8, .int gsb7u8])) := by rw [hg3]; exact ups_2 (by omega)
    have g3_2 : g3 (240 + i) = some (.inl (cT 0, 24, .inl gsf7u8)) := by rw [hg3]; exact ups_3 (by omega) (by omega)
    refine lv_iinc (k := 6) (v := nI (i + 1)) hx hb dGr_gather_40 hl rfl (nI_1 i) (by decide) rfl (fun ls hl => ?_)
    have hl : lv_has ls 8 [(6, .int (nI (i + 1))), (7, .ref (ad (200 + i))), (0, .ref (ad 6)), (1, .ref (ad (10 + c0))), (2, .long x), (4, .ref (ad 7)), (5, .int 12)] := hl
    refine lv_goto (tgt := 21) hx hb dGr_gather_43 rfl ?_
    exact ih21 (i + 1, g3) (show (i + 1) ≤ 12 ∧ (∀ z8, (z8 < 200 ∨ 260 ≤ z8 ∨ z8 = 212 ∨ z8 = 213 ∨ z8 = 214 ∨ z8 = 232 ∨ z8 = 233 ∨ z8 = 234 ∨ z8 = 252 ∨ z8 = 253 ∨ z8 = 254) → g3 z8 = g1 z8) ∧ ∀ j, j < 12 → ∃ (r : Int64) (z : Int), GPp cT ad g3 j r z ∧ (j < (i + 1) → r = 0 ∧ z = 0) from ⟨by omega, fun z8 n1 => (fg3 z8 (by omega) (by omega) (by omega)).trans (iF z8 n1), fun j hj => (by by_cases q9 : j = i; (subst q9; exact ⟨0, 0, ⟨g3_0, ⟨_, _, _, g3_1, g3_2, a2⟩⟩, fun _ => ⟨rfl, rfl⟩⟩); (obtain ⟨r, z, e1, e2⟩ := iG j hj; exact ⟨r, z, e1.cg (fg3 _ (by omega) (by omega) (by omega)) (fg3 _ (by omega) (by omega) (by omega)) (fg3 _ (by omega) (by omega) (by omega)), fun q => e2 (by omega)⟩))⟩) (show 12 - (i + 1) < 12 - i from (by omega)) ls H locs (lv_sub hl [2, 3, 4, 5, 6, 0] rfl) hP hD hS
