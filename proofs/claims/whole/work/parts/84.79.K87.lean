set_option maxHeartbeats 8000000 in
set_option maxRecDepth 100000 in
theorem lo_15 {p : Program} {l : Launch} {e : Env} {s : State} {m : MethodId} {args : Array Value} {below : List Frame} {meth : Method} {c : Code} {Q : State → Prop} {A : Nat → Prop} {H : Heap} {locs : List Loc} {ls : Array Slot} {b L : Nat} {xs : Nat → Int32} (D : va_G) (cT : Nat → ClassId) (cds : List Nat) (tE mE y : Nat) (yr : Nat → Nat) (zo j : Nat) (ad : Nat → Nat) (gg : Nat → Option va_E) (T : Nat) (fm : Nat) (mk : Nat → Nat) (F : TFR) (n : Nat) (wd : Nat) (dpt : Nat) (lst : Nat) (w : Nat) (ru : Nat) (rl : Nat) (ne : Nat → Nat) (Lo : Nat) (yi : Nat → Int32) (ysb : Int64) (ybs : Int64) (yA : Nat → Nat → Int32) (yW : Nat → Int64) (zf : Nat → Int64) (hlt : l.stackTraces = false) (hx : p.tables.exec = Jvm.exec) (hb : c.code = code) (hml : c.maxLocals = 7) (hown : s.vm.findClass "ResidualTreesLaw" = some m.cls) (hT : ∀ w ∈ TB, w.before args s = true) (hZ : ZZ A s s.heap) (hE0 : ZE tE mE A s s.heap) (hK : va_K D vwCl (TY cT) s) (hA : ∀ q : Nat, s.heap.size ≤ q → A q) (hX : va_X b L xs s s.heap) (hbl : b < s.heap.size) (hbA : ¬ A b) (hcd : CD cds) (hj : 4 * j + 4 ≤ L) (hL : L ≤ 2048) (hI : LWI cT ad gg tE T fm mk F n wd dpt lst w ru rl ne Lo yi ysb yA) (hYC : YCL cT ad gg y yr yi ysb ybs yA yW F) (hP : va_P D vwCl ([(zo, .inl (cT 1, 1, .inr (.inl zf)))] ++ pg cds ad gg) H) (hD : va_D A ([(zo, .inl (cT 1, 1, .inr (.inl zf)))] ++ pg cds ad gg)) (hS : va_S A s.heap H locs) (hl : lv_has ls 7 [(0, .ref b), (1, .ref (ad 0)), (2, .ref y), (3, .ref zo), (4, .int (nI (4 * j)))]) (hend : LEN2 p l e s m args below meth c Q A D cT cds tE y yr zo b j) : W p l e room_1 s m args below meth c H locs (2000 + j + 3 * fm + 4 * SM mk 16) (400000 + 6 * j + 42 * fm + 69 * SM mk 16) Q (F0 m 1136 ls []) := by
  obtain ⟨a1, ha1⟩ : ∃ q9 : Int32, q9 = xs (4 * j + 1) := ⟨_, rfl⟩
  obtain ⟨a2, ha2⟩ : ∃ q9 : Int32, q9 = xs (4 * j + 2) := ⟨_, rfl⟩
  obtain ⟨a3, ha3⟩ : ∃ q9 : Int32, q9 = xs (4 * j + 3) := ⟨_, rfl⟩
  obtain ⟨hfm16, hSM⟩ := lwi_b hI
  obtain ⟨hYad, hYr0, hYy, hYA⟩ := hYC
  have hyr := hYr0
  obtain ⟨fo, hCL, hRF, hPU⟩ := id hI
  obtain ⟨hTV, hOut, ⟨sa9, hso⟩, ⟨zq9, hS1⟩, ⟨zr9, hS2⟩, ⟨z58, hS3⟩⟩ := id hCL
  obtain ⟨hob, hTg, hFT, hTs, ⟨zs0, hGB⟩, ⟨zf0, hLf⟩, ⟨zc0, hCm⟩⟩ := id hTV
  obtain ⟨chtb, chRs, chCa, chCf, chpl, chGa, chSc, chGs, ⟨cfo, chod⟩, cbb9, ctt9, cb90, cik0, chgr, chbt, chSP⟩ := id hGB
  obtain ⟨y2, y3, y10, y11, y12, y13, y14, y17, y47, y55, y8e, y18e, hRFN, hPR, hfoy⟩ := id hRF
  obtain ⟨hTf, hT16, hn48, hwd6, hdp4, hls2, hw20, hr9, hLo, hne, hik, hTOK, hS9, hVk, hVb, htg, hSEP, hSV7⟩ := id hPU
  have hl : lv_has ls 7 [(0, .ref b), (1, .ref (ad 0)), (2, .ref (ad 5060)), (3, .ref zo), (4, .int (nI (4 * j)))] := by rw [hYad]; exact hl
  by_cases hq : 0 ≤ a1 ∧ a1 ≤ nI T - 1
  · obtain ⟨t, ht, rfl⟩ := i_nat (n := T) (by omega) hq
    refine lv_aload_n hx hb dL_law_1136 rfl (lv_at hl 1 rfl) ?_
    refine lv_aload_n hx hb dL_law_1137 rfl (lv_at hl 0 rfl) ?_
    refine lv_iload hx hb dL_law_1138 (lv_at hl 4 rfl) ?_
    refine lv_iconst (v := 1) hx hb dL_law_1140 (by decide) ?_
    refine lv_iadd hx hb dL_law_1141 ?_
    refine lv_topi (fun y9 e9 => ?_)
    cases (show y9 = nI ((4 * j) + 1) from e9.trans (nI_add (4 * j) 1))
    refine va_sld hx hb hX hbl hbA hS (vp_in_nI (n := 4 * j + 1) (N := L) (by omega) (by omega)) dL_law_1142 ?_
    refine lv_topi (fun y9 e9 => ?_)
    cases (show y9 = nI t from e9.trans (by rw [nI_clamp (by omega)]; exact ha1.symm))
    refine lv_aload_n hx hb dL_law_1143 rfl (lv_at hl 3 rfl) ?_
    refine hy_iP (X := [(zo, .inl (cT 1, 1, .inr (.inl zf)))]) (pl := pg cds ad gg) (cx := [(zo, .inl (cT 1, 1, .inr (.inl zf)))]) (wr := []) hP hD hS hA [0] [] rfl rfl (by decide) (by decide) (tx_runSH (As := [.ref (ad 0), .int (nI t), .ref zo]) (rest := []) ⟨hx, hb, hml, hown, hT⟩ (l_nodes l D cT cds ad gg T fm F t zo zf hcd hob hFT.1.frp hTf hTs hT16 ht hq _) hT (tc_gd w1013 w1014 w0 (tb_gd w1015)) rfl rfl rfl hL_nodes ⟨Nat.le_of_ble_eq_true rfl, Nat.le_of_ble_eq_true rfl⟩ (RW.preS hZ hS (va_freeP (cx := [(zo, .inl (cT 1, 1, .inr (.inl zf)))]) hD hS hA [0] rfl) (hP.part (cx := [(zo, .inl (cT 1, 1, .inr (.inl zf)))]) [0] rfl) hK (hD.part (cx := [(zo, .inl (cT 1, 1, .inr (.inl zf)))]) [0] (by decide) rfl)) rfl hl.1 rfl (Nat.le_of_ble_eq_true rfl) dL_law_1144 ⟨(by show (2000 + j + 3 * fm + 4 * SM mk 16) + 0 ≤ 601024; omega), (by show (400000 + 6 * j + 42 * fm + 69 * SM mk 16) + 0 ≤ 7293034; omega)⟩) (fun ru1 u9 H locs hpu1 hP hD hS => ?_)
    have hpu1 : ru1 = 0 := hpu1
    have hP : va_P D vwCl ([(zo, .inl (cT 1, 1, .inr (.inl (vp_updL zf 0 (Int32.toInt64 (nI (tM F t)))))))] ++ pg cds ad gg) _ := hP
    have hD : va_D A ([(zo, .inl (cT 1, 1, .inr (.inl (vp_updL zf 0 (Int32.toInt64 (nI (tM F t)))))))] ++ pg cds ad gg) := hD
    refine lv_topi (fun y9 e9 => ?_)
    cases (show y9 = 0 from e9.trans hpu1)
    refine lv_istore hx hb dL_law_1147 hl (by decide) rfl (fun ls hl => ?_)
    have hl : lv_has ls 7 [(5, .int 0), (0, .ref b), (1, .ref (ad 0)), (2, .ref (ad 5060)), (3, .ref zo), (4, .int (nI (4 * j)))] := hl
    refine lv_aload_n hx hb dL_law_1149 rfl (lv_at hl 3 rfl) ?_
    refine lv_aload_n hx hb dL_law_1150 rfl (lv_at hl 1 rfl) ?_
    refine lv_iload hx hb dL_law_1151 (lv_at hl 5 rfl) ?_
    refine lv_iconst (v := 1) hx hb dL_law_1153 (by decide) ?_
    refine lv_iadd hx hb dL_law_1154 ?_
    refine lv_topi (fun y9 e9 => ?_)
    cases (show y9 = nI ((4 * j) + 1) from e9.trans (nI_add (4 * j) 1))
    refine va_sld hx hb hX hbl hbA hS (vp_in_nI (n := 4 * j + 1) (N := L) (by omega) (by omega)) dL_law_1155 ?_
    refine lv_topi (fun y9 e9 => ?_)
    cases (show y9 = nI t from e9.trans (by rw [nI_clamp (by omega)]; exact ha1.symm))
    have hB9 : QI gg [(5060, .inr (11, MO yr yi ysb ybs)), (5018, .inl (cT 0, 16, .inl (yA 18)))] := (qi_c (by decide) hYy (qi_c (by decide) (hYA 18 (by unfold YKy; omega)) qi_0))
    have hN9 := (show NDc [5060, 5018] from (nd_c (na_c (by decide) na_0) (nd_c na_0 nd_0)))
    have hP := bo_P (wc := [(5060, .inr (11, MO yr yi ysb ybs)), (5018, .inl (cT 0, 16, .inl (yA 18)))]) (X := [(zo, .inl (cT 1, 1, .inr (.inl (vp_updL zf 0 (Int32.toInt64 (nI (tM F t)))))))]) hcd hN9 hB9 hP
    have hD := bo_D (wc := [(5060, .inr (11, MO yr yi ysb ybs)), (5018, .inl (cT 0, 16, .inl (yA 18)))]) (X := [(zo, .inl (cT 1, 1, .inr (.inl (vp_updL zf 0 (Int32.toInt64 (nI (tM F t)))))))]) hcd hN9 hB9 hD
    have hP : va_P D vwCl ([(zo, .inl (cT 1, 1, .inr (.inl (vp_updL zf 0 (Int32.toInt64 (nI (tM F t))))))), (ad 5060, .inr (11, MO yr yi ysb ybs)), (ad 5018, .inl (cT 0, 16, .inl (yA 18)))] ++ pg cds ad (upo gg [5060, 5018])) _ := hP
    have hD : va_D A ([(zo, .inl (cT 1, 1, .inr (.inl (vp_updL zf 0 (Int32.toInt64 (nI (tM F t))))))), (ad 5060, .inr (11, MO yr yi ysb ybs)), (ad 5018, .inl (cT 0, 16, .inl (yA 18)))] ++ pg cds ad (upo gg [5060, 5018])) := hD
    have hw9 : ([(zo, .inl (cT 1, 1, .inr (.inl (vp_updL zf 0 (Int32.toInt64 (nI (tM F t))))))), (ad 5060, .inr (11, MO yr yi ysb ybs)), (yr 18, .inl (cT 0, 16, .inl (yA 18)))] ++ pg cds ad (upo gg [5060, 5018])) = ([(zo, .inl (cT 1, 1, .inr (.inl (vp_updL zf 0 (Int32.toInt64 (nI (tM F t))))))), (ad 5060, .inr (11, MO yr yi ysb ybs)), (ad 5018, .inl (cT 0, 16, .inl (yA 18)))] ++ pg cds ad (upo gg [5060, 5018])) := by rw [show yr 18 = ad 5018 from (hyr 18 (by unfold YKy; omega)).symm]
    have hP := vP_eq hw9 hP
    have hD := vD_eq hw9 hD
    have hP : va_P D vwCl ([(zo, .inl (cT 1, 1, .inr (.inl (vp_updL zf 0 (Int32.toInt64 (nI (tM F t))))))), (ad 5060, .inr (11, MO yr yi ysb ybs)), (yr 18, .inl (cT 0, 16, .inl (yA 18)))] ++ pg cds ad (upo gg [5060, 5018])) _ := hP
    have hD : va_D A ([(zo, .inl (cT 1, 1, .inr (.inl (vp_updL zf 0 (Int32.toInt64 (nI (tM F t))))))), (ad 5060, .inr (11, MO yr yi ysb ybs)), (yr 18, .inl (cT 0, 16, .inl (yA 18)))] ++ pg cds ad (upo gg [5060, 5018])) := hD
    refine hy_iQ (X := [(zo, .inl (cT 1, 1, .inr (.inl (vp_updL zf 0 (Int32.toInt64 (nI (tM F t))))))), (ad 5060, .inr (11, MO yr yi ysb ybs)), (yr 18, .inl (cT 0, 16, .inl (yA 18)))]) (pl := pg cds ad (upo gg [5060, 5018])) (cx := [(ad 5060, .inr (11, MO yr yi ysb ybs)), (yr 18, .inl (cT 0, 16, .inl (yA 18)))]) (wr := [(zo, .inl (cT 1, 1, .inr (.inl (vp_updL zf 0 (Int32.toInt64 (nI (tM F t)))))))]) hP hD hS hA [1, 2] [0] rfl rfl (by decide) (by decide) (va_runV (As := [.int (nI t)]) (rest := []) ⟨hx, hb, hml, hown, hT⟩ (y_nodes_ok l D cT (ad 5060) yr yi ysb ybs (yA 18) t (by rw [y17]; exact hq) (by omega) _) ⟨callB_of 1 hT (tb_gd w1547) rfl rfl rfl (hT _ w13) (hT _ w1544) hM_nodes ⟨Nat.le_of_ble_eq_true rfl, Nat.le_of_ble_eq_true rfl⟩, (hT _ w1545), (hT _ w1546)⟩ (RW.preV (ci := 11) (q0 := 0) hZ hS (hy_free (cx := [(ad 5060, .inr (11, MO yr yi ysb ybs)), (yr 18, .inl (cT 0, 16, .inl (yA 18)))]) hD hS hA [1, 2] rfl) (hP.sub (ws' := [(ad 5060, .inr (11, MO yr yi ysb ybs)), (yr 18, .inl (cT 0, 16, .inl (yA 18)))]) [1, 2] rfl) hK (hD.sub (ws' := [(ad 5060, .inr (11, MO yr yi ysb ybs)), (yr 18, .inl (cT 0, 16, .inl (yA 18)))]) [1, 2] (by decide) rfl) rfl rfl) rfl rfl hl.1 rfl (lv_room (Nat.le_of_ble_eq_true rfl)) dL_law_1156 ⟨(by show ((2000 + j + 3 * fm + 4 * SM mk 16) + 0) + 0 ≤ 601024; omega), (by show ((400000 + 6 * j + 42 * fm + 69 * SM mk 16) + 0) + 0 ≤ 7293034; omega)⟩) (fun ru2 u9 H locs hpu2 hP hD hS => ?_)
    have hpu2 : ru2 = (yA 18) t := hpu2
    have hP : va_P D vwCl ([(zo, .inl (cT 1, 1, .inr (.inl (vp_updL zf 0 (Int32.toInt64 (nI (tM F t))))))), (ad 5060, .inr (11, MO yr (va_up yi 1 0) ysb ybs)), (yr 18, .inl (cT 0, 16, .inl (yA 18)))] ++ pg cds ad (upo gg [5060, 5018])) _ := hP
    have hD : va_D A ([(zo, .inl (cT 1, 1, .inr (.inl (vp_updL zf 0 (Int32.toInt64 (nI (tM F t))))))), (ad 5060, .inr (11, MO yr (va_up yi 1 0) ysb ybs)), (yr 18, .inl (cT 0, 16, .inl (yA 18)))] ++ pg cds ad (upo gg [5060, 5018])) := hD
    have hw9 : ([(zo, .inl (cT 1, 1, .inr (.inl (vp_updL zf 0 (Int32.toInt64 (nI (tM F t))))))), (ad 5060, .inr (11, MO yr (va_up yi 1 0) ysb ybs)), (ad 5018, .inl (cT 0, 16, .inl (yA 18)))] ++ pg cds ad (upo gg [5060, 5018])) = ([(zo, .inl (cT 1, 1, .inr (.inl (vp_updL zf 0 (Int32.toInt64 (nI (tM F t))))))), (ad 5060, .inr (11, MO yr (va_up yi 1 0) ysb ybs)), (yr 18, .inl (cT 0, 16, .inl (yA 18)))] ++ pg cds ad (upo gg [5060, 5018])) := by rw [show ad 5018 = yr 18 from hyr 18 (by unfold YKy; omega)]
    have hP := vP_eq hw9 hP
    have hD := vD_eq hw9 hD
    have hP : va_P D vwCl ([(zo, .inl (cT 1, 1, .inr (.inl (vp_updL zf 0 (Int32.toInt64 (nI (tM F t))))))), (ad 5060, .inr (11, MO yr (va_up yi 1 0) ysb ybs)), (ad 5018, .inl (cT 0, 16, .inl (yA 18)))] ++ pg cds ad (upo gg [5060, 5018])) _ := hP
    have hD : va_D A ([(zo, .inl (cT 1, 1, .inr (.inl (vp_updL zf 0 (Int32.toInt64 (nI (tM F t))))))), (ad 5060, .inr (11, MO yr (va_up yi 1 0) ysb ybs)), (ad 5018, .inl (cT 0, 16, .inl (yA 18)))] ++ pg cds ad (upo gg [5060, 5018])) := hD
    have hN9 := (show NDc [5060, 5018] from (nd_c (na_c (by decide) na_0) (nd_c na_0 nd_0)))
    have hP := gb_P (w9 := [(5060, .inr (11, MO yr (va_up yi 1 0) ysb ybs)), (5018, .inl (cT 0, 16, .inl (yA 18)))]) (X := [(zo, .inl (cT 1, 1, .inr (.inl (vp_updL zf 0 (Int32.toInt64 (nI (tM F t)))))))]) (g := gg) hcd hN9 (show QB [(5060, .inr (11, MO yr (va_up yi 1 0) ysb ybs)), (5018, .inl (cT 0, 16, .inl (yA 18)))] from (qb_c (by decide) (qb_c (by decide) qb_0))) (hP.part (cx := [(zo, .inl (cT 1, 1, .inr (.inl (vp_updL zf 0 (Int32.toInt64 (nI (tM F t))))))), (ad 5060, .inr (11, MO yr (va_up yi 1 0) ysb ybs)), (ad 5018, .inl (cT 0, 16, .inl (yA 18)))]) [0, 1, 2] rfl)
    have hD := gb_D (w9 := [(5060, .inr (11, MO yr (va_up yi 1 0) ysb ybs)), (5018, .inl (cT 0, 16, .inl (yA 18)))]) (X := [(zo, .inl (cT 1, 1, .inr (.inl (vp_updL zf 0 (Int32.toInt64 (nI (tM F t)))))))]) (g := gg) hcd hN9 (show QB [(5060, .inr (11, MO yr (va_up yi 1 0) ysb ybs)), (5018, .inl (cT 0, 16, .inl (yA 18)))] from (qb_c (by decide) (qb_c (by decide) qb_0))) (hD.part (cx := [(zo, .inl (cT 1, 1, .inr (.inl (vp_updL zf 0 (Int32.toInt64 (nI (tM F t))))))), (ad 5060, .inr (11, MO yr (va_up yi 1 0) ysb ybs)), (ad 5018, .inl (cT 0, 16, .inl (yA 18)))]) [0, 1, 2] (by decide) rfl)
    obtain ⟨gy, hgy⟩ : ∃ q9, q9 = ups gg [(5060, .inr (11, MO yr (va_up yi 1 0) ysb ybs)), (5018, .inl (cT 0, 16, .inl (yA 18)))] := ⟨_, rfl⟩
    rw [← hgy] at hP hD
    have hP : va_P D vwCl ([(zo, .inl (cT 1, 1, .inr (.inl (vp_updL zf 0 (Int32.toInt64 (nI (tM F t)))))))] ++ pg cds ad gy) _ := hP
    have hD : va_D A ([(zo, .inl (cT 1, 1, .inr (.inl (vp_updL zf 0 (Int32.toInt64 (nI (tM F t)))))))] ++ pg cds ad gy) := hD
    have fgy : ∀ z8, z8 ≠ 5060 → gy z8 = gg z8 := fun z8 z1 => by rw [hgy]; exact ups_k (kp_n z1 (kp_s (hYA 18 (by unfold YKy; omega)) kp_0))
    have gy_0 : gy 5060 = some (.inr (11, MO yr (va_up yi 1 0) ysb ybs)) := by rw [hgy]; exact ups_1
    refine lv_istore hx hb dL_law_1159 hl (by decide) rfl (fun ls hl => ?_)
    have hl : lv_has ls 7 [(6, .int ru2), (5, .int 0), (0, .ref b), (1, .ref (ad 0)), (2, .ref (ad 5060)), (3, .ref zo), (4, .int (nI (4 * j)))] := hl
    refine lv_aload_n hx hb dL_law_1161 rfl (lv_at hl 4 rfl) ?_
    refine ro_i (va_Run.run (va_runV (As := []) (rest := []) ⟨hx, hb, hml, hown, hT⟩ (m_thrown l D cT (ad 5060) yr (va_up yi 1 0) ysb ybs) ⟨callB_of 0 hT (tb_gd w1290) rfl rfl rfl (hT _ w13) (hT _ w1287) hM_thrown ⟨Nat.le_of_ble_eq_true rfl, Nat.le_of_ble_eq_true rfl⟩, (hT _ w1288), (hT _ w1289)⟩ (RO.preV (ci := 11) (q0 := 0) hZ hS ((show va_P D vwCl [(ad 5060, .inr (11, MO yr (va_up yi 1 0) ysb ybs))] _ from (pv_c (pg_1 (x := 5060) hcd hP (by decide) gy_0) pv_0))) hK rfl rfl) rfl rfl hl.1 rfl (lv_room (Nat.le_of_ble_eq_true rfl)) dL_law_1162 ⟨(by show (((2000 + j + 3 * fm + 4 * SM mk 16) + 0) + 0) + 0 ≤ 601024; omega), (by show (((400000 + 6 * j + 42 * fm + 69 * SM mk 16) + 0) + 0) + 0 ≤ 7293034; omega)⟩)) ?_
    refine lv_topi (fun y9 e9 => ?_)
    cases (show y9 = 0 from e9.trans rfl)
    refine lv_iload hx hb dL_law_1165 (lv_at hl 1 rfl) ?_
    refine lv_icmp_eq (tgt := 1172) hx hb dL_law_1167 rfl (fun _ => ?_) (fun h3 => absurd (by decide) h3)
    refine lv_iload hx hb dL_law_1172 (lv_at hl 1 rfl) ?_
    refine lv_if_ne (tgt := 1189) hx hb dL_law_1174 rfl (fun h4 => absurd (by decide) h4) (fun _ => ?_)
    refine lv_aload_n hx hb dL_law_1177 rfl (lv_at hl 5 rfl) ?_
    refine lv_iconst (v := 0) hx hb dL_law_1178 (by decide) ?_
    refine va_lald hx hb hK hP 0 1 rfl rfl (by unfold vp_in; decide) dL_law_1179 ?_
    refine lv_iload hx hb dL_law_1180 (lv_at hl 0 rfl) ?_
    refine lv_i2l hx hb dL_law_1182 rfl ?_
    refine W.lcmp hx hb dL_law_1183 ?_
    refine lv_if_eq (tgt := 1189) hx hb dL_law_1184 rfl (fun _ => ?_) (fun h5 => absurd ((lg_cmp_eq _ _).mpr (pk_uLs.trans (congrArg Int32.toInt64 ((y18e t ht).symm.trans hpu2.symm)))) h5)
    refine lv_goto (tgt := 1690) hx hb dL_law_1189 rfl ?_
    obtain ⟨yiz, hyiz⟩ : ∃ f9 : Nat → Int32, f9 = va_up yi 1 0 := ⟨_, rfl⟩
    have hIz : LWI cT ad gg tE T fm mk F n wd dpt lst w ru rl ne Lo yiz ysb yA := hI.sc (fun k hk => by rw [hyiz]; exact va_up_ne _ _ hk) (fun _ _ => rfl)
    have hIz := hIz.yg (g2 := gy) (fun z8 hz => fgy z8 (by omega))
    have hYz : YCL cT ad gy y yr yiz ysb ybs yA yW F := by
      refine ⟨hYad, hyr, (by rw [hyiz]; exact gy_0), fun k hk => ?_⟩
      have hk2 : k = 0 ∨ (4 ≤ k ∧ k ≤ 9) ∨ (18 ≤ k ∧ k ≤ 46) ∨ k = 48 ∨ k = 49 ∨ (56 ≤ k ∧ k ≤ 59) := hk
      exact (fgy (5000 + k) (by omega)).trans ((hYA k hk).trans (congrArg some (ycl_o rfl).symm))
    rw [hyiz] at hIz hYz
    refine W.widen (k := 2000 + (j + 1) + 3 * fm + 4 * SM mk 16) (n := 400000 + 6 * (j + 1) + 42 * fm + 69 * SM mk 16) (by show ((2000 + j + 3 * fm + 4 * SM mk 16) + 0) + 0 ≤ 2000 + (j + 1) + 3 * fm + 4 * SM mk 16; omega) (by show ((400000 + 6 * j + 42 * fm + 69 * SM mk 16) + 0) + 0 ≤ 400000 + 6 * (j + 1) + 42 * fm + 69 * SM mk 16; omega) ?_
    have hl := lv_sub hl [2, 3, 4, 5, 6] rfl
    have hl : lv_has ls 7 [(0, .ref b), (1, .ref (ad 0)), (2, .ref y), (3, .ref zo), (4, .int (nI (4 * j)))] := by rw [← hYz.1]; exact hl
    exact hend ad gy T fm mk F n wd dpt lst w ru rl ne Lo (va_up yi 1 0) ysb ybs yA yW (vp_updL zf 0 (Int32.toInt64 (nI (tM F t)))) _ _ ls hIz hYz hP hD hS hl
  · refine lv_aload_n hx hb dL_law_1136 rfl (lv_at hl 1 rfl) ?_
    refine lv_aload_n hx hb dL_law_1137 rfl (lv_at hl 0 rfl) ?_
    refine lv_iload hx hb dL_law_1138 (lv_at hl 4 rfl) ?_
    refine lv_iconst (v := 1) hx hb dL_law_1140 (by decide) ?_
    refine lv_iadd hx hb dL_law_1141 ?_
    refine lv_topi (fun y9 e9 => ?_)
    cases (show y9 = nI ((4 * j) + 1) from e9.trans (nI_add (4 * j) 1))
    refine va_sld hx hb hX hbl hbA hS (vp_in_nI (n := 4 * j + 1) (N := L) (by omega) (by omega)) dL_law_1142 ?_
    refine lv_topi (fun y9 e9 => ?_)
    cases (show y9 = a1 from e9.trans (by rw [nI_clamp (by omega)]; exact ha1.symm))
    refine lv_aload_n hx hb dL_law_1143 rfl (lv_at hl 3 rfl) ?_
    refine hy_iP (X := [(zo, .inl (cT 1, 1, .inr (.inl zf)))]) (pl := pg cds ad gg) (cx := [(zo, .inl (cT 1, 1, .inr (.inl zf)))]) (wr := []) hP hD hS hA [0] [] rfl rfl (by decide) (by decide) (tx_runSH (As := [.ref (ad 0), .int a1, .ref zo]) (rest := []) ⟨hx, hb, hml, hown, hT⟩ (l_nodes_no l D cT cds ad gg T a1 zo zf hlt hcd hob hq _) hT (tc_gd w1013 w1014 w0 (tb_gd w1015)) rfl rfl rfl hL_nodes ⟨Nat.le_of_ble_eq_true rfl, Nat.le_of_ble_eq_true rfl⟩ (RW.preS hZ hS (va_freeP (cx := [(zo, .inl (cT 1, 1, .inr (.inl zf)))]) hD hS hA [0] rfl) (hP.part (cx := [(zo, .inl (cT 1, 1, .inr (.inl zf)))]) [0] rfl) hK (hD.part (cx := [(zo, .inl (cT 1, 1, .inr (.inl zf)))]) [0] (by decide) rfl)) rfl hl.1 rfl (Nat.le_of_ble_eq_true rfl) dL_law_1144 ⟨(by show (2000 + j + 3 * fm + 4 * SM mk 16) + 1 ≤ 601024; omega), (by show (400000 + 6 * j + 42 * fm + 69 * SM mk 16) + 6 ≤ 7293034; omega)⟩) (fun ru6 u9 H locs hpu6 hP hD hS => ?_)
    have hpu6 : ru6 = 1 := hpu6
    have hP : va_P D vwCl ([(zo, .inl (cT 1, 1, .inr (.inl zf)))] ++ pg cds ad gg) _ := hP
    have hD : va_D A ([(zo, .inl (cT 1, 1, .inr (.inl zf)))] ++ pg cds ad gg) := hD
    refine lv_topi (fun y9 e9 => ?_)
    cases (show y9 = 1 from e9.trans hpu6)
    refine lv_istore hx hb dL_law_1147 hl (by decide) rfl (fun ls hl => ?_)
    have hl : lv_has ls 7 [(5, .int 1), (0, .ref b), (1, .ref (ad 0)), (2, .ref (ad 5060)), (3, .ref zo), (4, .int (nI (4 * j)))] := hl
    refine lv_aload_n hx hb dL_law_1149 rfl (lv_at hl 3 rfl) ?_
    refine lv_aload_n hx hb dL_law_1150 rfl (lv_at hl 1 rfl) ?_
    refine lv_iload hx hb dL_law_1151 (lv_at hl 5 rfl) ?_
    refine lv_iconst (v := 1) hx hb dL_law_1153 (by decide) ?_
    refine lv_iadd hx hb dL_law_1154 ?_
    refine lv_topi (fun y9 e9 => ?_)
    cases (show y9 = nI ((4 * j) + 1) from e9.trans (nI_add (4 * j) 1))
    refine va_sld hx hb hX hbl hbA hS (vp_in_nI (n := 4 * j + 1) (N := L) (by omega) (by omega)) dL_law_1155 ?_
    refine lv_topi (fun y9 e9 => ?_)
    cases (show y9 = a1 from e9.trans (by rw [nI_clamp (by omega)]; exact ha1.symm))
    have hB9 : QI gg [(5060, .inr (11, MO yr yi ysb ybs))] := (qi_c (by decide) hYy qi_0)
    have hN9 := (show NDc [5060] from (nd_c na_0 nd_0))
    have hP := bo_P (wc := [(5060, .inr (11, MO yr yi ysb ybs))]) (X := [(zo, .inl (cT 1, 1, .inr (.inl zf)))]) hcd hN9 hB9 hP
    have hD := bo_D (wc := [(5060, .inr (11, MO yr yi ysb ybs))]) (X := [(zo, .inl (cT 1, 1, .inr (.inl zf)))]) hcd hN9 hB9 hD
    have hP : va_P D vwCl ([(zo, .inl (cT 1, 1, .inr (.inl zf))), (ad 5060, .inr (11, MO yr yi ysb ybs))] ++ pg cds ad (upo gg [5060])) _ := hP
    have hD : va_D A ([(zo, .inl (cT 1, 1, .inr (.inl zf))), (ad 5060, .inr (11, MO yr yi ysb ybs))] ++ pg cds ad (upo gg [5060])) := hD
    refine hy_iQ (X := [(zo, .inl (cT 1, 1, .inr (.inl zf))), (ad 5060, .inr (11, MO yr yi ysb ybs))]) (pl := pg cds ad (upo gg [5060])) (cx := [(ad 5060, .inr (11, MO yr yi ysb ybs))]) (wr := [(zo, .inl (cT 1, 1, .inr (.inl zf)))]) hP hD hS hA [1] [0] rfl rfl (by decide) (by decide) (va_runV (As := [.int a1]) (rest := []) ⟨hx, hb, hml, hown, hT⟩ (y_nodes_no l D cT (ad 5060) yr yi ysb ybs a1 (by rw [y17]; exact hq) _) ⟨callB_of 1 hT (tb_gd w1547) rfl rfl rfl (hT _ w13) (hT _ w1544) hM_nodes ⟨Nat.le_of_ble_eq_true rfl, Nat.le_of_ble_eq_true rfl⟩, (hT _ w1545), (hT _ w1546)⟩ (RW.preV (ci := 11) (q0 := 0) hZ hS (hy_free (cx := [(ad 5060, .inr (11, MO yr yi ysb ybs))]) hD hS hA [1] rfl) (hP.sub (ws' := [(ad 5060, .inr (11, MO yr yi ysb ybs))]) [1] rfl) hK (hD.sub (ws' := [(ad 5060, .inr (11, MO yr yi ysb ybs))]) [1] (by decide) rfl) rfl rfl) rfl rfl hl.1 rfl (lv_room (Nat.le_of_ble_eq_true rfl)) dL_law_1156 ⟨(by show ((2000 + j + 3 * fm + 4 * SM mk 16) + 1) + 0 ≤ 601024; omega), (by show ((400000 + 6 * j + 42 * fm + 69 * SM mk 16) + 6) + 0 ≤ 7293034; omega)⟩) (fun ru7 u9 H locs hpu7 hP hD hS => ?_)
    have hpu7 : ru7 = 0 := hpu7
    have hP : va_P D vwCl ([(zo, .inl (cT 1, 1, .inr (.inl zf))), (ad 5060, .inr (11, MO yr (va_up yi 1 1) ysb ybs))] ++ pg cds ad (upo gg [5060])) _ := hP
    have hD : va_D A ([(zo, .inl (cT 1, 1, .inr (.inl zf))), (ad 5060, .inr (11, MO yr (va_up yi 1 1) ysb ybs))] ++ pg cds ad (upo gg [5060])) := hD
    refine lv_topi (fun y9 e9 => ?_)
    cases (show y9 = 0 from e9.trans hpu7)
    have hN9 := (show NDc [5060] from (nd_c na_0 nd_0))
    have hP := gb_P (w9 := [(5060, .inr (11, MO yr (va_up yi 1 1) ysb ybs))]) (X := [(zo, .inl (cT 1, 1, .inr (.inl zf)))]) (g := gg) hcd hN9 (show QB [(5060, .inr (11, MO yr (va_up yi 1 1) ysb ybs))] from (qb_c (by decide) qb_0)) (hP.part (cx := [(zo, .inl (cT 1, 1, .inr (.inl zf))), (ad 5060, .inr (11, MO yr (va_up yi 1 1) ysb ybs))]) [0, 1] rfl)
    have hD := gb_D (w9 := [(5060, .inr (11, MO yr (va_up yi 1 1) ysb ybs))]) (X := [(zo, .inl (cT 1, 1, .inr (.inl zf)))]) (g := gg) hcd hN9 (show QB [(5060, .inr (11, MO yr (va_up yi 1 1) ysb ybs))] from (qb_c (by decide) qb_0)) (hD.part (cx := [(zo, .inl (cT 1, 1, .inr (.inl zf))), (ad 5060, .inr (11, MO yr (va_up yi 1 1) ysb ybs))]) [0, 1] (by decide) rfl)
    obtain ⟨gy, hgy⟩ : ∃ q9, q9 = ups gg [(5060, .inr (11, MO yr (va_up yi 1 1) ysb ybs))] := ⟨_, rfl⟩
    rw [← hgy] at hP hD
    have hP : va_P D vwCl ([(zo, .inl (cT 1, 1, .inr (.inl zf)))] ++ pg cds ad gy) _ := hP
    have hD : va_D A ([(zo, .inl (cT 1, 1, .inr (.inl zf)))] ++ pg cds ad gy) := hD
    have fgy : ∀ z8, z8 ≠ 5060 → gy z8 = gg z8 := fun z8 z1 => by rw [hgy]; exact ups_k (kp_n z1 kp_0)
    have gy_0 : gy 5060 = some (.inr (11, MO yr (va_up yi 1 1) ysb ybs)) := by rw [hgy]; exact ups_1
    refine lv_istore hx hb dL_law_1159 hl (by decide) rfl (fun ls hl => ?_)
    have hl : lv_has ls 7 [(6, .int 0), (5, .int 1), (0, .ref b), (1, .ref (ad 0)), (2, .ref (ad 5060)), (3, .ref zo), (4, .int (nI (4 * j)))] := hl
    refine lv_aload_n hx hb dL_law_1161 rfl (lv_at hl 4 rfl) ?_
    refine ro_i (va_Run.run (va_runV (As := []) (rest := []) ⟨hx, hb, hml, hown, hT⟩ (m_thrown l D cT (ad 5060) yr (va_up yi 1 1) ysb ybs) ⟨callB_of 0 hT (tb_gd w1290) rfl rfl rfl (hT _ w13) (hT _ w1287) hM_thrown ⟨Nat.le_of_ble_eq_true rfl, Nat.le_of_ble_eq_true rfl⟩, (hT _ w1288), (hT _ w1289)⟩ (RO.preV (ci := 11) (q0 := 0) hZ hS ((show va_P D vwCl [(ad 5060, .inr (11, MO yr (va_up yi 1 1) ysb ybs))] _ from (pv_c (pg_1 (x := 5060) hcd hP (by decide) gy_0) pv_0))) hK rfl rfl) rfl rfl hl.1 rfl (lv_room (Nat.le_of_ble_eq_true rfl)) dL_law_1162 ⟨(by show (((2000 + j + 3 * fm + 4 * SM mk 16) + 1) + 0) + 0 ≤ 601024; omega), (by show (((400000 + 6 * j + 42 * fm + 69 * SM mk 16) + 6) + 0) + 0 ≤ 7293034; omega)⟩)) ?_
    refine lv_topi (fun y9 e9 => ?_)
    cases (show y9 = 1 from e9.trans rfl)
    refine lv_iload hx hb dL_law_1165 (lv_at hl 1 rfl) ?_
    refine lv_icmp_eq (tgt := 1172) hx hb dL_law_1167 rfl (fun _ => ?_) (fun h8 => absurd (by decide) h8)
    refine lv_iload hx hb dL_law_1172 (lv_at hl 1 rfl) ?_
    refine lv_if_ne (tgt := 1189) hx hb dL_law_1174 rfl (fun _ => ?_) (fun h9 => absurd h9 (by decide))
    refine lv_goto (tgt := 1690) hx hb dL_law_1189 rfl ?_
    obtain ⟨yiz, hyiz⟩ : ∃ f9 : Nat → Int32, f9 = va_up yi 1 1 := ⟨_, rfl⟩
    have hIz : LWI cT ad gg tE T fm mk F n wd dpt lst w ru rl ne Lo yiz ysb yA := hI.sc (fun k hk => by rw [hyiz]; exact va_up_ne _ _ hk) (fun _ _ => rfl)
    have hIz := hIz.yg (g2 := gy) (fun z8 hz => fgy z8 (by omega))
    have hYz : YCL cT ad gy y yr yiz ysb ybs yA yW F := by
      refine ⟨hYad, hyr, (by rw [hyiz]; exact gy_0), fun k hk => ?_⟩
      have hk2 : k = 0 ∨ (4 ≤ k ∧ k ≤ 9) ∨ (18 ≤ k ∧ k ≤ 46) ∨ k = 48 ∨ k = 49 ∨ (56 ≤ k ∧ k ≤ 59) := hk
      exact (fgy (5000 + k) (by omega)).trans ((hYA k hk).trans (congrArg some (ycl_o rfl).symm))
    rw [hyiz] at hIz hYz
    refine W.widen (k := 2000 + (j + 1) + 3 * fm + 4 * SM mk 16) (n := 400000 + 6 * (j + 1) + 42 * fm + 69 * SM mk 16) (by show ((2000 + j + 3 * fm + 4 * SM mk 16) + 1) + 0 ≤ 2000 + (j + 1) + 3 * fm + 4 * SM mk 16; omega) (by show ((400000 + 6 * j + 42 * fm + 69 * SM mk 16) + 6) + 0 ≤ 400000 + 6 * (j + 1) + 42 * fm + 69 * SM mk 16; omega) ?_
    have hl := lv_sub hl [2, 3, 4, 5, 6] rfl
    have hl : lv_has ls 7 [(0, .ref b), (1, .ref (ad 0)), (2, .ref y), (3, .ref zo), (4, .int (nI (4 * j)))] := by rw [← hYz.1]; exact hl
    exact hend ad gy T fm mk F n wd dpt lst w ru rl ne Lo (va_up yi 1 1) ysb ybs yA yW zf _ _ ls hIz hYz hP hD hS hl
set_option maxHeartbeats 8000000 in
set_option maxRecDepth 100000 in
theorem lo_16 {p : Program} {l : Launch} {e : Env} {s : State} {m : MethodId} {args : Array Value} {below : List Frame} {meth : Method} {c : Code} {Q : State → Prop} {A : Nat → Prop} {H : Heap} {locs : List Loc} {ls : Array Slot} {b L : Nat} {xs : Nat → Int32} (D : va_G) (cT : Nat → ClassId) (cds : List Nat) (tE mE y : Nat) (yr : Nat → Nat) (zo j : Nat) (ad : Nat → Nat) (gg : Nat → Option va_E) (T : Nat) (fm : Nat) (mk : Nat → Nat) (F : TFR) (n : Nat) (wd : Nat) (dpt : Nat) (lst : Nat) (w : Nat) (ru : Nat) (rl : Nat) (ne : Nat → Nat) (Lo : Nat) (yi : Nat → Int32) (ysb : Int64) (ybs : Int64) (yA : Nat → Nat → Int32) (yW : Nat → Int64) (zf : Nat → Int64) (hlt : l.stackTraces = false) (hx : p.tables.exec = Jvm.exec) (hb : c.code = code) (hml : c.maxLocals = 7) (hown : s.vm.findClass "ResidualTreesLaw" = some m.cls) (hT : ∀ w ∈ TB, w.before args s = true) (hZ : ZZ A s s.heap) (hE0 : ZE tE mE A s s.heap) (hK : va_K D vwCl (TY cT) s) (hA : ∀ q : Nat, s.heap.size ≤ q → A q) (hX : va_X b L xs s s.heap) (hbl : b < s.heap.size) (hbA : ¬ A b) (hcd : CD cds) (hj : 4 * j + 4 ≤ L) (hL : L ≤ 2048) (hI : LWI cT ad gg tE T fm mk F n wd dpt lst w ru rl ne Lo yi ysb yA) (hYC : YCL cT ad gg y yr yi ysb ybs yA yW F) (hP : va_P D vwCl ([(zo, .inl (cT 1, 1, .inr (.inl zf)))] ++ pg cds ad gg) H) (hD : va_D A ([(zo, .inl (cT 1, 1, .inr (.inl zf)))] ++ pg cds ad gg)) (hS : va_S A s.heap H locs) (hl : lv_has ls 7 [(0, .ref b), (1, .ref (ad 0)), (2, .ref y), (3, .ref zo), (4, .int (nI (4 * j)))]) (hend : LEN2 p l e s m args below meth c Q A D cT cds tE y yr zo b j) : W p l e room_1 s m args below meth c H locs (2000 + j + 3 * fm + 4 * SM mk 16) (400000 + 6 * j + 42 * fm + 69 * SM mk 16) Q (F0 m 1192 ls []) := by
  obtain ⟨a1, ha1⟩ : ∃ q9 : Int32, q9 = xs (4 * j + 1) := ⟨_, rfl⟩
  obtain ⟨a2, ha2⟩ : ∃ q9 : Int32, q9 = xs (4 * j + 2) := ⟨_, rfl⟩
  obtain ⟨a3, ha3⟩ : ∃ q9 : Int32, q9 = xs (4 * j + 3) := ⟨_, rfl⟩
  obtain ⟨hfm16, hSM⟩ := lwi_b hI
  obtain ⟨hYad, hYr0, hYy, hYA⟩ := hYC
  have hyr := hYr0
  obtain ⟨fo, hCL, hRF, hPU⟩ := id hI
  obtain ⟨hTV, hOut, ⟨sa9, hso⟩, ⟨zq9, hS1⟩, ⟨zr9, hS2⟩, ⟨z58, hS3⟩⟩ := id hCL
  obtain ⟨hob, hTg, hFT, hTs, ⟨zs0, hGB⟩, ⟨zf0, hLf⟩, ⟨zc0, hCm⟩⟩ := id hTV
  obtain ⟨chtb, chRs, chCa, chCf, chpl, chGa, chSc, chGs, ⟨cfo, chod⟩, cbb9, ctt9, cb90, cik0, chgr, chbt, chSP⟩ := id hGB
  obtain ⟨y2, y3, y10, y11, y12, y13, y14, y17, y47, y55, y8e, y18e, hRFN, hPR, hfoy⟩ := id hRF
  obtain ⟨hTf, hT16, hn48, hwd6, hdp4, hls2, hw20, hr9, hLo, hne, hik, hTOK, hS9, hVk, hVb, htg, hSEP, hSV7⟩ := id hPU
  have hl : lv_has ls 7 [(0, .ref b), (1, .ref (ad 0)), (2, .ref (ad 5060)), (3, .ref zo), (4, .int (nI (4 * j)))] := by rw [hYad]; exact hl
  by_cases hq : 0 ≤ a1 ∧ a1 ≤ nI wd - 1
  · refine lv_aload_n hx hb dL_law_1192 rfl (lv_at hl 1 rfl) ?_
    refine lv_aload_n hx hb dL_law_1193 rfl (lv_at hl 0 rfl) ?_
    refine lv_iload hx hb dL_law_1194 (lv_at hl 4 rfl) ?_
    refine lv_iconst (v := 1) hx hb dL_law_1196 (by decide) ?_
    refine lv_iadd hx hb dL_law_1197 ?_
    refine lv_topi (fun y9 e9 => ?_)
    cases (show y9 = nI ((4 * j) + 1) from e9.trans (nI_add (4 * j) 1))
    refine va_sld hx hb hX hbl hbA hS (vp_in_nI (n := 4 * j + 1) (N := L) (by omega) (by omega)) dL_law_1198 ?_
    refine lv_topi (fun y9 e9 => ?_)
    cases (show y9 = a1 from e9.trans (by rw [nI_clamp (by omega)]; exact ha1.symm))
    refine lv_aload_n hx hb dL_law_1199 rfl (lv_at hl 3 rfl) ?_
    refine hy_iP (X := [(zo, .inl (cT 1, 1, .inr (.inl zf)))]) (pl := pg cds ad gg) (cx := [(zo, .inl (cT 1, 1, .inr (.inl zf)))]) (wr := []) hP hD hS hA [0] [] rfl rfl (by decide) (by decide) (tx_runSH (As := [.ref (ad 0), .int a1, .ref zo]) (rest := []) ⟨hx, hb, hml, hown, hT⟩ (l_uses l D cT cds ad gg T fm F (nI wd) (nI n) a1 zo zf hcd hob hFT.1.frp hTf hTs hT16 chtb hTOK hq _) hT (tc_gd w1020 w1021 w0 (tb_gd w1022)) rfl rfl rfl hL_uses ⟨Nat.le_of_ble_eq_true rfl, Nat.le_of_ble_eq_true rfl⟩ (RW.preS hZ hS (va_freeP (cx := [(zo, .inl (cT 1, 1, .inr (.inl zf)))]) hD hS hA [0] rfl) (hP.part (cx := [(zo, .inl (cT 1, 1, .inr (.inl zf)))]) [0] rfl) hK (hD.part (cx := [(zo, .inl (cT 1, 1, .inr (.inl zf)))]) [0] (by decide) rfl)) rfl hl.1 rfl (Nat.le_of_ble_eq_true rfl) dL_law_1200 ⟨(by show (2000 + j + 3 * fm + 4 * SM mk 16) + 0 ≤ 601024; omega), (by show (400000 + 6 * j + 42 * fm + 69 * SM mk 16) + 0 ≤ 7293034; omega)⟩) (fun ru1 u9 H locs hpu1 hP hD hS => ?_)
    have hpu1 : ru1 = 0 := hpu1
    have hP : va_P D vwCl ([(zo, .inl (cT 1, 1, .inr (.inl (vp_updL zf 0 (Int32.toInt64 (nI (usf F a1 T)))))))] ++ pg cds ad gg) _ := hP
    have hD : va_D A ([(zo, .inl (cT 1, 1, .inr (.inl (vp_updL zf 0 (Int32.toInt64 (nI (usf F a1 T)))))))] ++ pg cds ad gg) := hD
    refine lv_topi (fun y9 e9 => ?_)
    cases (show y9 = 0 from e9.trans hpu1)
    refine lv_istore hx hb dL_law_1203 hl (by decide) rfl (fun ls hl => ?_)
    have hl : lv_has ls 7 [(5, .int 0), (0, .ref b), (1, .ref (ad 0)), (2, .ref (ad 5060)), (3, .ref zo), (4, .int (nI (4 * j)))] := hl
    refine lv_aload_n hx hb dL_law_1205 rfl (lv_at hl 3 rfl) ?_
    refine lv_aload_n hx hb dL_law_1206 rfl (lv_at hl 1 rfl) ?_
    refine lv_iload hx hb dL_law_1207 (lv_at hl 5 rfl) ?_
    refine lv_iconst (v := 1) hx hb dL_law_1209 (by decide) ?_
    refine lv_iadd hx hb dL_law_1210 ?_
    refine lv_topi (fun y9 e9 => ?_)
    cases (show y9 = nI ((4 * j) + 1) from e9.trans (nI_add (4 * j) 1))
    refine va_sld hx hb hX hbl hbA hS (vp_in_nI (n := 4 * j + 1) (N := L) (by omega) (by omega)) dL_law_1211 ?_
    refine lv_topi (fun y9 e9 => ?_)
    cases (show y9 = a1 from e9.trans (by rw [nI_clamp (by omega)]; exact ha1.symm))
    have hB9 : QI gg [(5060, .inr (11, MO yr yi ysb ybs)), (5018, .inl (cT 0, 16, .inl (yA 18))), (5019, .inl (cT 0, 496, .inl (tA F 0)))] := (qi_c (by decide) hYy (qi_c (by decide) (hYA 18 (by unfold YKy; omega)) (qi_c (by decide) (hYA 19 (by unfold YKy; omega)) qi_0)))
    have hN9 := (show NDc [5060, 5018, 5019] from (nd_c (na_c (by decide) (na_c (by decide) na_0)) (nd_c (na_c (by decide) na_0) (nd_c na_0 nd_0))))
    have hP := bo_P (wc := [(5060, .inr (11, MO yr yi ysb ybs)), (5018, .inl (cT 0, 16, .inl (yA 18))), (5019, .inl (cT 0, 496, .inl (tA F 0)))]) (X := [(zo, .inl (cT 1, 1, .inr (.inl (vp_updL zf 0 (Int32.toInt64 (nI (usf F a1 T)))))))]) hcd hN9 hB9 hP
    have hD := bo_D (wc := [(5060, .inr (11, MO yr yi ysb ybs)), (5018, .inl (cT 0, 16, .inl (yA 18))), (5019, .inl (cT 0, 496, .inl (tA F 0)))]) (X := [(zo, .inl (cT 1, 1, .inr (.inl (vp_updL zf 0 (Int32.toInt64 (nI (usf F a1 T)))))))]) hcd hN9 hB9 hD
    have hP : va_P D vwCl ([(zo, .inl (cT 1, 1, .inr (.inl (vp_updL zf 0 (Int32.toInt64 (nI (usf F a1 T))))))), (ad 5060, .inr (11, MO yr yi ysb ybs)), (ad 5018, .inl (cT 0, 16, .inl (yA 18))), (ad 5019, .inl (cT 0, 496, .inl (tA F 0)))] ++ pg cds ad (upo gg [5060, 5018, 5019])) _ := hP
    have hD : va_D A ([(zo, .inl (cT 1, 1, .inr (.inl (vp_updL zf 0 (Int32.toInt64 (nI (usf F a1 T))))))), (ad 5060, .inr (11, MO yr yi ysb ybs)), (ad 5018, .inl (cT 0, 16, .inl (yA 18))), (ad 5019, .inl (cT 0, 496, .inl (tA F 0)))] ++ pg cds ad (upo gg [5060, 5018, 5019])) := hD
    have hw9 : ([(zo, .inl (cT 1, 1, .inr (.inl (vp_updL zf 0 (Int32.toInt64 (nI (usf F a1 T))))))), (ad 5060, .inr (11, MO yr yi ysb ybs)), (yr 18, .inl (cT 0, 16, .inl (yA 18))), (yr 19, .inl (cT 0, 496, .inl (tA F 0)))] ++ pg cds ad (upo gg [5060, 5018, 5019])) = ([(zo, .inl (cT 1, 1, .inr (.inl (vp_updL zf 0 (Int32.toInt64 (nI (usf F a1 T))))))), (ad 5060, .inr (11, MO yr yi ysb ybs)), (ad 5018, .inl (cT 0, 16, .inl (yA 18))), (ad 5019, .inl (cT 0, 496, .inl (tA F 0)))] ++ pg cds ad (upo gg [5060, 5018, 5019])) := by rw [show yr 18 = ad 5018 from (hyr 18 (by unfold YKy; omega)).symm, show yr 19 = ad 5019 from (hyr 19 (by unfold YKy; omega)).symm]
    have hP := vP_eq hw9 hP
    have hD := vD_eq hw9 hD
    have hP : va_P D vwCl ([(zo, .inl (cT 1, 1, .inr (.inl (vp_updL zf 0 (Int32.toInt64 (nI (usf F a1 T))))))), (ad 5060, .inr (11, MO yr yi ysb ybs)), (yr 18, .inl (cT 0, 16, .inl (yA 18))), (yr 19, .inl (cT 0, 496, .inl (tA F 0)))] ++ pg cds ad (upo gg [5060, 5018, 5019])) _ := hP
    have hD : va_D A ([(zo, .inl (cT 1, 1, .inr (.inl (vp_updL zf 0 (Int32.toInt64 (nI (usf F a1 T))))))), (ad 5060, .inr (11, MO yr yi ysb ybs)), (yr 18, .inl (cT 0, 16, .inl (yA 18))), (yr 19, .inl (cT 0, 496, .inl (tA F 0)))] ++ pg cds ad (upo gg [5060, 5018, 5019])) := hD
    refine hy_iQ (X := [(zo, .inl (cT 1, 1, .inr (.inl (vp_updL zf 0 (Int32.toInt64 (nI (usf F a1 T))))))), (ad 5060, .inr (11, MO yr yi ysb ybs)), (yr 18, .inl (cT 0, 16, .inl (yA 18))), (yr 19, .inl (cT 0, 496, .inl (tA F 0)))]) (pl := pg cds ad (upo gg [5060, 5018, 5019])) (cx := [(ad 5060, .inr (11, MO yr yi ysb ybs)), (yr 18, .inl (cT 0, 16, .inl (yA 18))), (yr 19, .inl (cT 0, 496, .inl (tA F 0)))]) (wr := [(zo, .inl (cT 1, 1, .inr (.inl (vp_updL zf 0 (Int32.toInt64 (nI (usf F a1 T)))))))]) hP hD hS hA [1, 2, 3] [0] rfl rfl (by decide) (by decide) (va_runV (As := [.int a1]) (rest := []) ⟨hx, hb, hml, hown, hT⟩ (y_uses_ok l D cT (ad 5060) yr yi ysb ybs (yA 18) (tA F 0) T (tM F) a1 (by rw [y2]; exact hq) y17 hT16 (fun t ht => ⟨y18e t ht, (hTOK.2 t ht).1.2.1⟩) _) ⟨callB_of 1 hT (tb_gd w1551) rfl rfl rfl (hT _ w13) (hT _ w1548) hM_uses ⟨Nat.le_of_ble_eq_true rfl, Nat.le_of_ble_eq_true rfl⟩, (hT _ w1549), (hT _ w1550)⟩ (RW.preV (ci := 11) (q0 := 0) hZ hS (hy_free (cx := [(ad 5060, .inr (11, MO yr yi ysb ybs)), (yr 18, .inl (cT 0, 16, .inl (yA 18))), (yr 19, .inl (cT 0, 496, .inl (tA F 0)))]) hD hS hA [1, 2, 3] rfl) (hP.sub (ws' := [(ad 5060, .inr (11, MO yr yi ysb ybs)), (yr 18, .inl (cT 0, 16, .inl (yA 18))), (yr 19, .inl (cT 0, 496, .inl (tA F 0)))]) [1, 2, 3] rfl) hK (hD.sub (ws' := [(ad 5060, .inr (11, MO yr yi ysb ybs)), (yr 18, .inl (cT 0, 16, .inl (yA 18))), (yr 19, .inl (cT 0, 496, .inl (tA F 0)))]) [1, 2, 3] (by decide) rfl) rfl rfl) rfl rfl hl.1 rfl (lv_room (Nat.le_of_ble_eq_true rfl)) dL_law_1212 ⟨(by show ((2000 + j + 3 * fm + 4 * SM mk 16) + 0) + 0 ≤ 601024; omega), (by show ((400000 + 6 * j + 42 * fm + 69 * SM mk 16) + 0) + 0 ≤ 7293034; omega)⟩) (fun ru2 u9 H locs hpu2 hP hD hS => ?_)
    have hpu2 : ru2 = nI (usT (tA F 0) (tM F) a1 T) := hpu2
    have hP : va_P D vwCl ([(zo, .inl (cT 1, 1, .inr (.inl (vp_updL zf 0 (Int32.toInt64 (nI (usf F a1 T))))))), (ad 5060, .inr (11, MO yr (va_up yi 1 0) ysb ybs)), (yr 18, .inl (cT 0, 16, .inl (yA 18))), (yr 19, .inl (cT 0, 496, .inl (tA F 0)))] ++ pg cds ad (upo gg [5060, 5018, 5019])) _ := hP
    have hD : va_D A ([(zo, .inl (cT 1, 1, .inr (.inl (vp_updL zf 0 (Int32.toInt64 (nI (usf F a1 T))))))), (ad 5060, .inr (11, MO yr (va_up yi 1 0) ysb ybs)), (yr 18, .inl (cT 0, 16, .inl (yA 18))), (yr 19, .inl (cT 0, 496, .inl (tA F 0)))] ++ pg cds ad (upo gg [5060, 5018, 5019])) := hD
    have hw9 : ([(zo, .inl (cT 1, 1, .inr (.inl (vp_updL zf 0 (Int32.toInt64 (nI (usf F a1 T))))))), (ad 5060, .inr (11, MO yr (va_up yi 1 0) ysb ybs)), (ad 5018, .inl (cT 0, 16, .inl (yA 18))), (ad 5019, .inl (cT 0, 496, .inl (tA F 0)))] ++ pg cds ad (upo gg [5060, 5018, 5019])) = ([(zo, .inl (cT 1, 1, .inr (.inl (vp_updL zf 0 (Int32.toInt64 (nI (usf F a1 T))))))), (ad 5060, .inr (11, MO yr (va_up yi 1 0) ysb ybs)), (yr 18, .inl (cT 0, 16, .inl (yA 18))), (yr 19, .inl (cT 0, 496, .inl (tA F 0)))] ++ pg cds ad (upo gg [5060, 5018, 5019])) := by rw [show ad 5018 = yr 18 from hyr 18 (by unfold YKy; omega), show ad 5019 = yr 19 from hyr 19 (by unfold YKy; omega)]
    have hP := vP_eq hw9 hP
    have hD := vD_eq hw9 hD
    have hP : va_P D vwCl ([(zo, .inl (cT 1, 1, .inr (.inl (vp_updL zf 0 (Int32.toInt64 (nI (usf F a1 T))))))), (ad 5060, .inr (11, MO yr (va_up yi 1 0) ysb ybs)), (ad 5018, .inl (cT 0, 16, .inl (yA 18))), (ad 5019, .inl (cT 0, 496, .inl (tA F 0)))] ++ pg cds ad (upo gg [5060, 5018, 5019])) _ := hP
    have hD : va_D A ([(zo, .inl (cT 1, 1, .inr (.inl (vp_updL zf 0 (Int32.toInt64 (nI (usf F a1 T))))))), (ad 5060, .inr (11, MO yr (va_up yi 1 0) ysb ybs)), (ad 5018, .inl (cT 0, 16, .inl (yA 18))), (ad 5019, .inl (cT 0, 496, .inl (tA F 0)))] ++ pg cds ad (upo gg [5060, 5018, 5019])) := hD
    have hN9 := (show NDc [5060, 5018, 5019] from (nd_c (na_c (by decide) (na_c (by decide) na_0)) (nd_c (na_c (by decide) na_0) (nd_c na_0 nd_0))))
    have hP := gb_P (w9 := [(5060, .inr (11, MO yr (va_up yi 1 0) ysb ybs)), (5018, .inl (cT 0, 16, .inl (yA 18))), (5019, .inl (cT 0, 496, .inl (tA F 0)))]) (X := [(zo, .inl (cT 1, 1, .inr (.inl (vp_updL zf 0 (Int32.toInt64 (nI (usf F a1 T)))))))]) (g := gg) hcd hN9 (show QB [(5060, .inr (11, MO yr (va_up yi 1 0) ysb ybs)), (5018, .inl (cT 0, 16, .inl (yA 18))), (5019, .inl (cT 0, 496, .inl (tA F 0)))] from (qb_c (by decide) (qb_c (by decide) (qb_c (by decide) qb_0)))) (hP.part (cx := [(zo, .inl (cT 1, 1, .inr (.inl (vp_updL zf 0 (Int32.toInt64 (nI (usf F a1 T))))))), (ad 5060, .inr (11, MO yr (va_up yi 1 0) ysb ybs)), (ad 5018, .inl (cT 0, 16, .inl (yA 18))), (ad 5019, .inl (cT 0, 496, .inl (tA F 0)))]) [0, 1, 2, 3] rfl)
    have hD := gb_D (w9 := [(5060, .inr (11, MO yr (va_up yi 1 0) ysb ybs)), (5018, .inl (cT 0, 16, .inl (yA 18))), (5019, .inl (cT 0, 496, .inl (tA F 0)))]) (X := [(zo, .inl (cT 1, 1, .inr (.inl (vp_updL zf 0 (Int32.toInt64 (nI (usf F a1 T)))))))]) (g := gg) hcd hN9 (show QB [(5060, .inr (11, MO yr (va_up yi 1 0) ysb ybs)), (5018, .inl (cT 0, 16, .inl (yA 18))), (5019, .inl (cT 0, 496, .inl (tA F 0)))] from (qb_c (by decide) (qb_c (by decide) (qb_c (by decide) qb_0)))) (hD.part (cx := [(zo, .inl (cT 1, 1, .inr (.inl (vp_updL zf 0 (Int32.toInt64 (nI (usf F a1 T))))))), (ad 5060, .inr (11, MO yr (va_up yi 1 0) ysb ybs)), (ad 5018, .inl (cT 0, 16, .inl (yA 18))), (ad 5019, .inl (cT 0, 496, .inl (tA F 0)))]) [0, 1, 2, 3] (by decide) rfl)
    obtain ⟨gy, hgy⟩ : ∃ q9, q9 = ups gg [(5060, .inr (11, MO yr (va_up yi 1 0) ysb ybs)), (5018, .inl (cT 0, 16, .inl (yA 18))), (5019, .inl (cT 0, 496, .inl (tA F 0)))] := ⟨_, rfl⟩
    rw [← hgy] at hP hD
    have hP : va_P D vwCl ([(zo, .inl (cT 1, 1, .inr (.inl (vp_updL zf 0 (Int32.toInt64 (nI (usf F a1 T)))))))] ++ pg cds ad gy) _ := hP
    have hD : va_D A ([(zo, .inl (cT 1, 1, .inr (.inl (vp_updL zf 0 (Int32.toInt64 (nI (usf F a1 T)))))))] ++ pg cds ad gy) := hD
    have fgy : ∀ z8, z8 ≠ 5060 → gy z8 = gg z8 := fun z8 z1 => by rw [hgy]; exact ups_k (kp_n z1 (kp_s (hYA 18 (by unfold YKy; omega)) (kp_s (hYA 19 (by unfold YKy; omega)) kp_0)))
    have gy_0 : gy 5060 = some (.inr (11, MO yr (va_up yi 1 0) ysb ybs)) := by rw [hgy]; exact ups_1
    refine lv_istore hx hb dL_law_1215 hl (by decide) rfl (fun ls hl => ?_)
    have hl : lv_has ls 7 [(6, .int ru2), (5, .int 0), (0, .ref b), (1, .ref (ad 0)), (2, .ref (ad 5060)), (3, .ref zo), (4, .int (nI (4 * j)))] := hl
    refine lv_aload_n hx hb dL_law_1217 rfl (lv_at hl 4 rfl) ?_
    refine ro_i (va_Run.run (va_runV (As := []) (rest := []) ⟨hx, hb, hml, hown, hT⟩ (m_thrown l D cT (ad 5060) yr (va_up yi 1 0) ysb ybs) ⟨callB_of 0 hT (tb_gd w1290) rfl rfl rfl (hT _ w13) (hT _ w1287) hM_thrown ⟨Nat.le_of_ble_eq_true rfl, Nat.le_of_ble_eq_true rfl⟩, (hT _ w1288), (hT _ w1289)⟩ (RO.preV (ci := 11) (q0 := 0) hZ hS ((show va_P D vwCl [(ad 5060, .inr (11, MO yr (va_up yi 1 0) ysb ybs))] _ from (pv_c (pg_1 (x := 5060) hcd hP (by decide) gy_0) pv_0))) hK rfl rfl) rfl rfl hl.1 rfl (lv_room (Nat.le_of_ble_eq_true rfl)) dL_law_1218 ⟨(by show (((2000 + j + 3 * fm + 4 * SM mk 16) + 0) + 0) + 0 ≤ 601024; omega), (by show (((400000 + 6 * j + 42 * fm + 69 * SM mk 16) + 0) + 0) + 0 ≤ 7293034; omega)⟩)) ?_
    refine lv_topi (fun y9 e9 => ?_)
    cases (show y9 = 0 from e9.trans rfl)
    refine lv_iload hx hb dL_law_1221 (lv_at hl 1 rfl) ?_
    refine lv_icmp_eq (tgt := 1228) hx hb dL_law_1223 rfl (fun _ => ?_) (fun h3 => absurd (by decide) h3)
    refine lv_iload hx hb dL_law_1228 (lv_at hl 1 rfl) ?_
    refine lv_if_ne (tgt := 1245) hx hb dL_law_1230 rfl (fun h4 => absurd (by decide) h4) (fun _ => ?_)
    refine lv_aload_n hx hb dL_law_1233 rfl (lv_at hl 5 rfl) ?_
    refine lv_iconst (v := 0) hx hb dL_law_1234 (by decide) ?_
    refine va_lald hx hb hK hP 0 1 rfl rfl (by unfold vp_in; decide) dL_law_1235 ?_
    refine lv_iload hx hb dL_law_1236 (lv_at hl 0 rfl) ?_
    refine lv_i2l hx hb dL_law_1238 rfl ?_
    refine W.lcmp hx hb dL_law_1239 ?_
    refine lv_if_eq (tgt := 1245) hx hb dL_law_1240 rfl (fun _ => ?_) (fun h5 => absurd ((lg_cmp_eq _ _).mpr (pk_uLs.trans (congrArg Int32.toInt64 ((congrArg nI (usf_T T)).trans hpu2.symm)))) h5)
    refine lv_goto (tgt := 1690) hx hb dL_law_1245 rfl ?_
    obtain ⟨yiz, hyiz⟩ : ∃ f9 : Nat → Int32, f9 = va_up yi 1 0 := ⟨_, rfl⟩
    have hIz : LWI cT ad gg tE T fm mk F n wd dpt lst w ru rl ne Lo yiz ysb yA := hI.sc (fun k hk => by rw [hyiz]; exact va_up_ne _ _ hk) (fun _ _ => rfl)
    have hIz := hIz.yg (g2 := gy) (fun z8 hz => fgy z8 (by omega))
    have hYz : YCL cT ad gy y yr yiz ysb ybs yA yW F := by
      refine ⟨hYad, hyr, (by rw [hyiz]; exact gy_0), fun k hk => ?_⟩
      have hk2 : k = 0 ∨ (4 ≤ k ∧ k ≤ 9) ∨ (18 ≤ k ∧ k ≤ 46) ∨ k = 48 ∨ k = 49 ∨ (56 ≤ k ∧ k ≤ 59) := hk
      exact (fgy (5000 + k) (by omega)).trans ((hYA k hk).trans (congrArg some (ycl_o rfl).symm))
    rw [hyiz] at hIz hYz
    refine W.widen (k := 2000 + (j + 1) + 3 * fm + 4 * SM mk 16) (n := 400000 + 6 * (j + 1) + 42 * fm + 69 * SM mk 16) (by show ((2000 + j + 3 * fm + 4 * SM mk 16) + 0) + 0 ≤ 2000 + (j + 1) + 3 * fm + 4 * SM mk 16; omega) (by show ((400000 + 6 * j + 42 * fm + 69 * SM mk 16) + 0) + 0 ≤ 400000 + 6 * (j + 1) + 42 * fm + 69 * SM mk 16; omega) ?_
    have hl := lv_sub hl [2, 3, 4, 5, 6] rfl
    have hl : lv_has ls 7 [(0, .ref b), (1, .ref (ad 0)), (2, .ref y), (3, .ref zo), (4, .int (nI (4 * j)))] := by rw [← hYz.1]; exact hl
    exact hend ad gy T fm mk F n wd dpt lst w ru rl ne Lo (va_up yi 1 0) ysb ybs yA yW (vp_updL zf 0 (Int32.toInt64 (nI (usf F a1 T)))) _ _ ls hIz hYz hP hD hS hl
  · refine lv_aload_n hx hb dL_law_1192 rfl (lv_at hl 1 rfl) ?_
    refine lv_aload_n hx hb dL_law_1193 rfl (lv_at hl 0 rfl) ?_
    refine lv_iload hx hb dL_law_1194 (lv_at hl 4 rfl) ?_
    refine lv_iconst (v := 1) hx hb dL_law_1196 (by decide) ?_
    refine lv_iadd hx hb dL_law_1197 ?_
    refine lv_topi (fun y9 e9 => ?_)
    cases (show y9 = nI ((4 * j) + 1) from e9.trans (nI_add (4 * j) 1))
    refine va_sld hx hb hX hbl hbA hS (vp_in_nI (n := 4 * j + 1) (N := L) (by omega) (by omega)) dL_law_1198 ?_
    refine lv_topi (fun y9 e9 => ?_)
    cases (show y9 = a1 from e9.trans (by rw [nI_clamp (by omega)]; exact ha1.symm))
    refine lv_aload_n hx hb dL_law_1199 rfl (lv_at hl 3 rfl) ?_
    refine hy_iP (X := [(zo, .inl (cT 1, 1, .inr (.inl zf)))]) (pl := pg cds ad gg) (cx := [(zo, .inl (cT 1, 1, .inr (.inl zf)))]) (wr := []) hP hD hS hA [0] [] rfl rfl (by decide) (by decide) (tx_runSH (As := [.ref (ad 0), .int a1, .ref zo]) (rest := []) ⟨hx, hb, hml, hown, hT⟩ (l_uses_no l D cT cds ad gg T (nI wd) (nI n) a1 zo zf hlt hcd hob chtb hq _) hT (tc_gd w1020 w1021 w0 (tb_gd w1022)) rfl rfl rfl hL_uses ⟨Nat.le_of_ble_eq_true rfl, Nat.le_of_ble_eq_true rfl⟩ (RW.preS hZ hS (va_freeP (cx := [(zo, .inl (cT 1, 1, .inr (.inl zf)))]) hD hS hA [0] rfl) (hP.part (cx := [(zo, .inl (cT 1, 1, .inr (.inl zf)))]) [0] rfl) hK (hD.part (cx := [(zo, .inl (cT 1, 1, .inr (.inl zf)))]) [0] (by decide) rfl)) rfl hl.1 rfl (Nat.le_of_ble_eq_true rfl) dL_law_1200 ⟨(by show (2000 + j + 3 * fm + 4 * SM mk 16) + 1 ≤ 601024; omega), (by show (400000 + 6 * j + 42 * fm + 69 * SM mk 16) + 6 ≤ 7293034; omega)⟩) (fun ru6 u9 H locs hpu6 hP hD hS => ?_)
    have hpu6 : ru6 = 1 := hpu6
    have hP : va_P D vwCl ([(zo, .inl (cT 1, 1, .inr (.inl zf)))] ++ pg cds ad gg) _ := hP
    have hD : va_D A ([(zo, .inl (cT 1, 1, .inr (.inl zf)))] ++ pg cds ad gg) := hD
    refine lv_topi (fun y9 e9 => ?_)
    cases (show y9 = 1 from e9.trans hpu6)
    refine lv_istore hx hb dL_law_1203 hl (by decide) rfl (fun ls hl => ?_)
    have hl : lv_has ls 7 [(5, .int 1), (0, .ref b), (1, .ref (ad 0)), (2, .ref (ad 5060)), (3, .ref zo), (4, .int (nI (4 * j)))] := hl
    refine lv_aload_n hx hb dL_law_1205 rfl (lv_at hl 3 rfl) ?_
    refine lv_aload_n hx hb dL_law_1206 rfl (lv_at hl 1 rfl) ?_
    refine lv_iload hx hb dL_law_1207 (lv_at hl 5 rfl) ?_
    refine lv_iconst (v := 1) hx hb dL_law_1209 (by decide) ?_
    refine lv_iadd hx hb dL_law_1210 ?_
    refine lv_topi (fun y9 e9 => ?_)
    cases (show y9 = nI ((4 * j) + 1) from e9.trans (nI_add (4 * j) 1))
    refine va_sld hx hb hX hbl hbA hS (vp_in_nI (n := 4 * j + 1) (N := L) (by omega) (by omega)) dL_law_1211 ?_
    refine lv_topi (fun y9 e9 => ?_)
    cases (show y9 = a1 from e9.trans (by rw [nI_clamp (by omega)]; exact ha1.symm))
    have hB9 : QI gg [(5060, .inr (11, MO yr yi ysb ybs))] := (qi_c (by decide) hYy qi_0)
    have hN9 := (show NDc [5060] from (nd_c na_0 nd_0))
    have hP := bo_P (wc := [(5060, .inr (11, MO yr yi ysb ybs))]) (X := [(zo, .inl (cT 1, 1, .inr (.inl zf)))]) hcd hN9 hB9 hP
    have hD := bo_D (wc := [(5060, .inr (11, MO yr yi ysb ybs))]) (X := [(zo, .inl (cT 1, 1, .inr (.inl zf)))]) hcd hN9 hB9 hD
    have hP : va_P D vwCl ([(zo, .inl (cT 1, 1, .inr (.inl zf))), (ad 5060, .inr (11, MO yr yi ysb ybs))] ++ pg cds ad (upo gg [5060])) _ := hP
    have hD : va_D A ([(zo, .inl (cT 1, 1, .inr (.inl zf))), (ad 5060, .inr (11, MO yr yi ysb ybs))] ++ pg cds ad (upo gg [5060])) := hD
    refine hy_iQ (X := [(zo, .inl (cT 1, 1, .inr (.inl zf))), (ad 5060, .inr (11, MO yr yi ysb ybs))]) (pl := pg cds ad (upo gg [5060])) (cx := [(ad 5060, .inr (11, MO yr yi ysb ybs))]) (wr := [(zo, .inl (cT 1, 1, .inr (.inl zf)))]) hP hD hS hA [1] [0] rfl rfl (by decide) (by decide) (va_runV (As := [.int a1]) (rest := []) ⟨hx, hb, hml, hown, hT⟩ (y_uses_no l D cT (ad 5060) yr yi ysb ybs a1 (by rw [y2]; exact hq) _) ⟨callB_of 1 hT (tb_gd w1551) rfl rfl rfl (hT _ w13) (hT _ w1548) hM_uses ⟨Nat.le_of_ble_eq_true rfl, Nat.le_of_ble_eq_true rfl⟩, (hT _ w1549), (hT _ w1550)⟩ (RW.preV (ci := 11) (q0 := 0) hZ hS (hy_free (cx := [(ad 5060, .inr (11, MO yr yi ysb ybs))]) hD hS hA [1] rfl) (hP.sub (ws' := [(ad 5060, .inr (11, MO yr yi ysb ybs))]) [1] rfl) hK (hD.sub (ws' := [(ad 5060, .inr (11, MO yr yi ysb ybs))]) [1] (by decide) rfl) rfl rfl) rfl rfl hl.1 rfl (lv_room (Nat.le_of_ble_eq_true rfl)) dL_law_1212 ⟨(by show ((2000 + j + 3 * fm + 4 * SM mk 16) + 1) + 0 ≤ 601024; omega), (by show ((400000 + 6 * j + 42 * fm + 69 * SM mk 16) + 6) + 0 ≤ 7293034; omega)⟩) (fun ru7 u9 H locs hpu7 hP hD hS => ?_)
    have hpu7 : ru7 = 0 := hpu7
    have hP : va_P D vwCl ([(zo, .inl (cT 1, 1, .inr (.inl zf))), (ad 5060, .inr (11, MO yr (va_up yi 1 1) ysb ybs))] ++ pg cds ad (upo gg [5060])) _ := hP
    have hD : va_D A ([(zo, .inl (cT 1, 1, .inr (.inl zf))), (ad 5060, .inr (11, MO yr (va_up yi 1 1) ysb ybs))] ++ pg cds ad (upo gg [5060])) := hD
    refine lv_topi (fun y9 e9 => ?_)
    cases (show y9 = 0 from e9.trans hpu7)
    have hN9 := (show NDc [5060] from (nd_c na_0 nd_0))
    have hP := gb_P (w9 := [(5060, .inr (11, MO yr (va_up yi 1 1) ysb ybs))]) (X := [(zo, .inl (cT 1, 1, .inr (.inl zf)))]) (g := gg) hcd hN9 (show QB [(5060, .inr (11, MO yr (va_up yi 1 1) ysb ybs))] from (qb_c (by decide) qb_0)) (hP.part (cx := [(zo, .inl (cT 1, 1, .inr (.inl zf))), (ad 5060, .inr (11, MO yr (va_up yi 1 1) ysb ybs))]) [0, 1] rfl)
    have hD := gb_D (w9 := [(5060, .inr (11, MO yr (va_up yi 1 1) ysb ybs))]) (X := [(zo, .inl (cT 1, 1, .inr (.inl zf)))]) (g := gg) hcd hN9 (show QB [(5060, .inr (11, MO yr (va_up yi 1 1) ysb ybs))] from (qb_c (by decide) qb_0)) (hD.part (cx := [(zo, .inl (cT 1, 1, .inr (.inl zf))), (ad 5060, .inr (11, MO yr (va_up yi 1 1) ysb ybs))]) [0, 1] (by decide) rfl)
    obtain ⟨gy, hgy⟩ : ∃ q9, q9 = ups gg [(5060, .inr (11, MO yr (va_up yi 1 1) ysb ybs))] := ⟨_, rfl⟩
    rw [← hgy] at hP hD
    have hP : va_P D vwCl ([(zo, .inl (cT 1, 1, .inr (.inl zf)))] ++ pg cds ad gy) _ := hP
    have hD : va_D A ([(zo, .inl (cT 1, 1, .inr (.inl zf)))] ++ pg cds ad gy) := hD
    have fgy : ∀ z8, z8 ≠ 5060 → gy z8 = gg z8 := fun z8 z1 => by rw [hgy]; exact ups_k (kp_n z1 kp_0)
    have gy_0 : gy 5060 = some (.inr (11, MO yr (va_up yi 1 1) ysb ybs)) := by rw [hgy]; exact ups_1
    refine lv_istore hx hb dL_law_1215 hl (by decide) rfl (fun ls hl => ?_)
    have hl : lv_has ls 7 [(6, .int 0), (5, .int 1), (0, .ref b), (1, .ref (ad 0)), (2, .ref (ad 5060)), (3, .ref zo), (4, .int (nI (4 * j)))] := hl
    refine lv_aload_n hx hb dL_law_1217 rfl (lv_at hl 4 rfl) ?_
    refine ro_i (va_Run.run (va_runV (As := []) (rest := []) ⟨hx, hb, hml, hown, hT⟩ (m_thrown l D cT (ad 5060) yr (va_up yi 1 1) ysb ybs) ⟨callB_of 0 hT (tb_gd w1290) rfl rfl rfl (hT _ w13) (hT _ w1287) hM_thrown ⟨Nat.le_of_ble_eq_true rfl, Nat.le_of_ble_eq_true rfl⟩, (hT _ w1288), (hT _ w1289)⟩ (RO.preV (ci := 11) (q0 := 0) hZ hS ((show va_P D vwCl [(ad 5060, .inr (11, MO yr (va_up yi 1 1) ysb ybs))] _ from (pv_c (pg_1 (x := 5060) hcd hP (by decide) gy_0) pv_0))) hK rfl rfl) rfl rfl hl.1 rfl (lv_room (Nat.le_of_ble_eq_true rfl)) dL_law_1218 ⟨(by show (((2000 + j + 3 * fm + 4 * SM mk 16) + 1) + 0) + 0 ≤ 601024; omega), (by show (((400000 + 6 * j + 42 * fm + 69 * SM mk 16) + 6) + 0) + 0 ≤ 7293034; omega)⟩)) ?_
    refine lv_topi (fun y9 e9 => ?_)
    cases (show y9 = 1 from e9.trans rfl)
    refine lv_iload hx hb dL_law_1221 (lv_at hl 1 rfl) ?_
    refine lv_icmp_eq (tgt := 1228) hx hb dL_law_1223 rfl (fun _ => ?_) (fun h8 => absurd (by decide) h8)
    refine lv_iload hx hb dL_law_1228 (lv_at hl 1 rfl) ?_
    refine lv_if_ne (tgt := 1245) hx hb dL_law_1230 rfl (fun _ => ?_) (fun h9 => absurd h9 (by decide))
    refine lv_goto (tgt := 1690) hx hb dL_law_1245 rfl ?_
    obtain ⟨yiz, hyiz⟩ : ∃ f9 : Nat → Int32, f9 = va_up yi 1 1 := ⟨_, rfl⟩
    have hIz : LWI cT ad gg tE T fm mk F n wd dpt lst w ru rl ne Lo yiz ysb yA := hI.sc (fun k hk => by rw [hyiz]; exact va_up_ne _ _ hk) (fun _ _ => rfl)
    have hIz := hIz.yg (g2 := gy) (fun z8 hz => fgy z8 (by omega))
    have hYz : YCL cT ad gy y yr yiz ysb ybs yA yW F := by
      refine ⟨hYad, hyr, (by rw [hyiz]; exact gy_0), fun k hk => ?_⟩
      have hk2 : k = 0 ∨ (4 ≤ k ∧ k ≤ 9) ∨ (18 ≤ k ∧ k ≤ 46) ∨ k = 48 ∨ k = 49 ∨ (56 ≤ k ∧ k ≤ 59) := hk
      exact (fgy (5000 + k) (by omega)).trans ((hYA k hk).trans (congrArg some (ycl_o rfl).symm))
    rw [hyiz] at hIz hYz
    refine W.widen (k := 2000 + (j + 1) + 3 * fm + 4 * SM mk 16) (n := 400000 + 6 * (j + 1) + 42 * fm + 69 * SM mk 16) (by show ((2000 + j + 3 * fm + 4 * SM mk 16) + 1) + 0 ≤ 2000 + (j + 1) + 3 * fm + 4 * SM mk 16; omega) (by show ((400000 + 6 * j + 42 * fm + 69 * SM mk 16) + 6) + 0 ≤ 400000 + 6 * (j + 1) + 42 * fm + 69 * SM mk 16; omega) ?_
    have hl := lv_sub hl [2, 3, 4, 5, 6] rfl
    have hl : lv_has ls 7 [(0, .ref b), (1, .ref (ad 0)), (2, .ref y), (3, .ref zo), (4, .int (nI (4 * j)))] := by rw [← hYz.1]; exact hl
    exact hend ad gy T fm mk F n wd dpt lst w ru rl ne Lo (va_up yi 1 1) ysb ybs yA yW zf _ _ ls hIz hYz hP hD hS hl
set_option maxHeartbeats 8000000 in
set_option maxRecDepth 100000 in
theorem lo_6 {p : Program} {l : Launch} {e : Env} {s : State} {m : MethodId} {args : Array Value} {below : List Frame} {meth : Method} {c : Code} {Q : State → Prop} {A : Nat → Prop} {H : Heap} {locs : List Loc} {ls : Array Slot} {b L : Nat} {xs : Nat → Int32} (D : va_G) (cT : Nat → ClassId) (cds : List Nat) (tE mE y : Nat) (yr : Nat → Nat) (zo j : Nat) (ad : Nat → Nat) (gg : Nat → Option va_E) (T : Nat) (fm : Nat) (mk : Nat → Nat) (F : TFR) (n : Nat) (wd : Nat) (dpt : Nat) (lst : Nat) (w : Nat) (ru : Nat) (rl : Nat) (ne : Nat → Nat) (Lo : Nat) (yi : Nat → Int32) (ysb : Int64) (ybs : Int64) (yA : Nat → Nat → Int32) (yW : Nat → Int64) (zf : Nat → Int64) (hlt : l.stackTraces = false) (hx : p.tables.exec = Jvm.exec) (hb : c.code = code) (hml : c.maxLocals = 7) (hown : s.vm.findClass "ResidualTreesLaw" = some m.cls) (hT : ∀ w ∈ TB, w.before args s = true) (hZ : ZZ A s s.heap) (hE0 : ZE tE mE A s s.heap) (hK : va_K D vwCl (TY cT) s) (hA : ∀ q : Nat, s.heap.size ≤ q → A q) (hX : va_X b L xs s s.heap) (hbl : b < s.heap.size) (hbA : ¬ A b) (hcd : CD cds) (hj : 4 * j + 4 ≤ L) (hL : L ≤ 2048) (hI : LWI cT ad gg tE T fm mk F n wd dpt lst w ru rl ne Lo yi ysb yA) (hYC : YCL cT ad gg y yr yi ysb ybs yA yW F) (hP : va_P D vwCl ([(zo, .inl (cT 1, 1, .inr (.inl zf)))] ++ pg cds ad gg) H) (hD : va_D A ([(zo, .inl (cT 1, 1, .inr (.inl zf)))] ++ pg cds ad gg)) (hS : va_S A s.heap H locs) (hl : lv_has ls 7 [(0, .ref b), (1, .ref (ad 0)), (2, .ref y), (3, .ref zo), (4, .int (nI (4 * j)))]) (hend : LEN2 p l e s m args below meth c Q A D cT cds tE y yr zo b j) : W p l e room_1 s m args below meth c H locs (2000 + j + 3 * fm + 4 * SM mk 16) (400000 + 6 * j + 42 * fm + 69 * SM mk 16) Q (F0 m 575 ls []) := by
  obtain ⟨a1, ha1⟩ : ∃ q9 : Int32, q9 = xs (4 * j + 1) := ⟨_, rfl⟩
  obtain ⟨a2, ha2⟩ : ∃ q9 : Int32, q9 = xs (4 * j + 2) := ⟨_, rfl⟩
  obtain ⟨a3, ha3⟩ : ∃ q9 : Int32, q9 = xs (4 * j + 3) := ⟨_, rfl⟩
  obtain ⟨hfm16, hSM⟩ := lwi_b hI
  obtain ⟨hYad, hYr0, hYy, hYA⟩ := hYC
  have hyr := hYr0
  obtain ⟨fo, hCL, hRF, hPU⟩ := id hI
  obtain ⟨hTV, hOut, ⟨sa9, hso⟩, ⟨zq9, hS1⟩, ⟨zr9, hS2⟩, ⟨z58, hS3⟩⟩ := id hCL
  obtain ⟨hob, hTg, hFT, hTs, ⟨zs0, hGB⟩, ⟨zf0, hLf⟩, ⟨zc0, hCm⟩⟩ := id hTV
  obtain ⟨chtb, chRs, chCa, chCf, chpl, chGa, chSc, chGs, ⟨cfo, chod⟩, cbb9, ctt9, cb90, cik0, chgr, chbt, chSP⟩ := id hGB
  obtain ⟨y2, y3, y10, y11, y12, y13, y14, y17, y47, y55, y8e, y18e, hRFN, hPR, hfoy⟩ := id hRF
  obtain ⟨hTf, hT16, hn48, hwd6, hdp4, hls2, hw20, hr9, hLo, hne, hik, hTOK, hS9, hVk, hVb, htg, hSEP, hSV7⟩ := id hPU
  have hl : lv_has ls 7 [(0, .ref b), (1, .ref (ad 0)), (2, .ref (ad 5060)), (3, .ref zo), (4, .int (nI (4 * j)))] := by rw [hYad]; exact hl
  by_cases hq : 0 ≤ a1 ∧ a1 ≤ nI wd - 1
  · obtain ⟨c0, hc, rfl⟩ := i_nat (n := wd) (by omega) hq
    have hne9 := hne c0 (by omega)
    by_cases hr : 0 ≤ a2 ∧ a2 ≤ nI (ne c0) - 1
    · obtain ⟨i9, hi, rfl⟩ := i_nat (n := ne c0) (by omega) hr
      refine lv_aload_n hx hb dL_law_575 rfl (lv_at hl 1 rfl) ?_
      refine lv_aload_n hx hb dL_law_576 rfl (lv_at hl 0 rfl) ?_
      refine lv_iload hx hb dL_law_577 (lv_at hl 4 rfl) ?_
      refine lv_iconst (v := 1) hx hb dL_law_579 (by decide) ?_
      refine lv_iadd hx hb dL_law_580 ?_
      refine lv_topi (fun y9 e9 => ?_)
      cases (show y9 = nI ((4 * j) + 1) from e9.trans (nI_add (4 * j) 1))
      refine va_sld hx hb hX hbl hbA hS (vp_in_nI (n := 4 * j + 1) (N := L) (by omega) (by omega)) dL_law_581 ?_
      refine lv_topi (fun y9 e9 => ?_)
      cases (show y9 = nI c0 from e9.trans (by rw [nI_clamp (by omega)]; exact ha1.symm))
      refine lv_aload_n hx hb dL_law_582 rfl (lv_at hl 0 rfl) ?_
      refine lv_iload hx hb dL_law_583 (lv_at hl 4 rfl) ?_
      refine lv_iconst (v := 2) hx hb dL_law_585 (by decide) ?_
      refine lv_iadd hx hb dL_law_586 ?_
      refine lv_topi (fun y9 e9 => ?_)
      cases (show y9 = nI ((4 * j) + 2) from e9.trans (nI_add (4 * j) 2))
      refine va_sld hx hb hX hbl hbA hS (vp_in_nI (n := 4 * j + 2) (N := L) (by omega) (by omega)) dL_law_587 ?_
      refine lv_topi (fun y9 e9 => ?_)
      cases (show y9 = nI i9 from e9.trans (by rw [nI_clamp (by omega)]; exact ha2.symm))
      refine lv_aload_n hx hb dL_law_588 rfl (lv_at hl 3 rfl) ?_
      refine hy_iP (X := [(zo, .inl (cT 1, 1, .inr (.inl zf)))]) (pl := pg cds ad gg) (cx := [(zo, .inl (cT 1, 1, .inr (.inl zf)))]) (wr := []) hP hD hS hA [0] [] rfl rfl (by decide) (by decide) (tx_runSH (As := [.ref (ad 0), .int (nI c0), .int (nI i9), .ref zo]) (rest := []) ⟨hx, hb, hml, hown, hT⟩ (l_edge l D cT cds ad gg (nI T) (nI wd) (nI n) n (yA 5) (yA 9) (yA 7) (yA 6) ne c0 i9 zo zf hcd hob chtb chCa chCf hne hq (by omega) hr hi _) hT (tc_gd w671 w672 w0 (tb_gd w673)) rfl rfl rfl hL_edge ⟨Nat.le_of_ble_eq_true rfl, Nat.le_of_ble_eq_true rfl⟩ (RW.preS hZ hS (va_freeP (cx := [(zo, .inl (cT 1, 1, .inr (.inl zf)))]) hD hS hA [0] rfl) (hP.part (cx := [(zo, .inl (cT 1, 1, .inr (.inl zf)))]) [0] rfl) hK (hD.part (cx := [(zo, .inl (cT 1, 1, .inr (.inl zf)))]) [0] (by decide) rfl)) rfl hl.1 rfl (Nat.le_of_ble_eq_true rfl) dL_law_589 ⟨(by show (2000 + j + 3 * fm + 4 * SM mk 16) + 0 ≤ 601024; omega), (by show (400000 + 6 * j + 42 * fm + 69 * SM mk 16) + 0 ≤ 7293034; omega)⟩) (fun ru1 u9 H locs hpu1 hP hD hS => ?_)
      have hpu1 : ru1 = 0 := hpu1
      have hP : va_P D vwCl ([(zo, .inl (cT 1, 1, .inr (.inl (vp_updL zf 0 (Int32.toInt64 ((yA 7) (11 * c0 + i9)))))))] ++ pg cds ad gg) _ := hP
      have hD : va_D A ([(zo, .inl (cT 1, 1, .inr (.inl (vp_updL zf 0 (Int32.toInt64 ((yA 7) (11 * c0 + i9)))))))] ++ pg cds ad gg) := hD
      refine lv_topi (fun y9 e9 => ?_)
      cases (show y9 = 0 from e9.trans hpu1)
      refine lv_istore hx hb dL_law_592 hl (by decide) rfl (fun ls hl => ?_)
      have hl : lv_has ls 7 [(5, .int 0), (0, .ref b), (1, .ref (ad 0)), (2, .ref (ad 5060)), (3, .ref zo), (4, .int (nI (4 * j)))] := hl
      refine lv_aload_n hx hb dL_law_594 rfl (lv_at hl 3 rfl) ?_
      refine lv_aload_n hx hb dL_law_595 rfl (lv_at hl 1 rfl) ?_
      refine lv_iload hx hb dL_law_596 (lv_at hl 5 rfl) ?_
      refine lv_iconst (v := 1) hx hb dL_law_598 (by decide) ?_
      refine lv_iadd hx hb dL_law_599 ?_
      refine lv_topi (fun y9 e9 => ?_)
      cases (show y9 = nI ((4 * j) + 1) from e9.trans (nI_add (4 * j) 1))
      refine va_sld hx hb hX hbl hbA hS (vp_in_nI (n := 4 * j + 1) (N := L) (by omega) (by omega)) dL_law_600 ?_
      refine lv_topi (fun y9 e9 => ?_)
      cases (show y9 = nI c0 from e9.trans (by rw [nI_clamp (by omega)]; exact ha1.symm))
      refine lv_aload_n hx hb dL_law_601 rfl (lv_at hl 1 rfl) ?_
      refine lv_iload hx hb dL_law_602 (lv_at hl 5 rfl) ?_
      refine lv_iconst (v := 2) hx hb dL_law_604 (by decide) ?_
      refine lv_iadd hx hb dL_law_605 ?_
      refine lv_topi (fun y9 e9 => ?_)
      cases (show y9 = nI ((4 * j) + 2) from e9.trans (nI_add (4 * j) 2))
      refine va_sld hx hb hX hbl hbA hS (vp_in_nI (n := 4 * j + 2) (N := L) (by omega) (by omega)) dL_law_606 ?_
      refine lv_topi (fun y9 e9 => ?_)
      cases (show y9 = nI i9 from e9.trans (by rw [nI_clamp (by omega)]; exact ha2.symm))
      have hB9 : QI gg [(5060, .inr (11, MO yr yi ysb ybs)), (5007, .inl (cT 0, 66, .inl (yA 7))), (5008, .inl (cT 0, 6, .inl (yA 8)))] := (qi_c (by decide) hYy (qi_c (by decide) (hYA 7 (by unfold YKy; omega)) (qi_c (by decide) (hYA 8 (by unfold YKy; omega)) qi_0)))
      have hN9 := (show NDc [5060, 5007, 5008] from (nd_c (na_c (by decide) (na_c (by decide) na_0)) (nd_c (na_c (by decide) na_0) (nd_c na_0 nd_0))))
      have hP := bo_P (wc := [(5060, .inr (11, MO yr yi ysb ybs)), (5007, .inl (cT 0, 66, .inl (yA 7))), (5008, .inl (cT 0, 6, .inl (yA 8)))]) (X := [(zo, .inl (cT 1, 1, .inr (.inl (vp_updL zf 0 (Int32.toInt64 ((yA 7) (11 * c0 + i9)))))))]) hcd hN9 hB9 hP
      have hD := bo_D (wc := [(5060, .inr (11, MO yr yi ysb ybs)), (5007, .inl (cT 0, 66, .inl (yA 7))), (5008, .inl (cT 0, 6, .inl (yA 8)))]) (X := [(zo, .inl (cT 1, 1, .inr (.inl (vp_updL zf 0 (Int32.toInt64 ((yA 7) (11 * c0 + i9)))))))]) hcd hN9 hB9 hD
      have hP : va_P D vwCl ([(zo, .inl (cT 1, 1, .inr (.inl (vp_updL zf 0 (Int32.toInt64 ((yA 7) (11 * c0 + i9))))))), (ad 5060, .inr (11, MO yr yi ysb ybs)), (ad 5007, .inl (cT 0, 66, .inl (yA 7))), (ad 5008, .inl (cT 0, 6, .inl (yA 8)))] ++ pg cds ad (upo gg [5060, 5007, 5008])) _ := hP
      have hD : va_D A ([(zo, .inl (cT 1, 1, .inr (.inl (vp_updL zf 0 (Int32.toInt64 ((yA 7) (11 * c0 + i9))))))), (ad 5060, .inr (11, MO yr yi ysb ybs)), (ad 5007, .inl (cT 0, 66, .inl (yA 7))), (ad 5008, .inl (cT 0, 6, .inl (yA 8)))] ++ pg cds ad (upo gg [5060, 5007, 5008])) := hD
      have hw9 : ([(zo, .inl (cT 1, 1, .inr (.inl (vp_updL zf 0 (Int32.toInt64 ((yA 7) (11 * c0 + i9))))))), (ad 5060, .inr (11, MO yr yi ysb ybs)), (yr 7, .inl (cT 0, 66, .inl (yA 7))), (yr 8, .inl (cT 0, 6, .inl (yA 8)))] ++ pg cds ad (upo gg [5060, 5007, 5008])) = ([(zo, .inl (cT 1, 1, .inr (.inl (vp_updL zf 0 (Int32.toInt64 ((yA 7) (11 * c0 + i9))))))), (ad 5060, .inr (11, MO yr yi ysb ybs)), (ad 5007, .inl (cT 0, 66, .inl (yA 7))), (ad 5008, .inl (cT 0, 6, .inl (yA 8)))] ++ pg cds ad (upo gg [5060, 5007, 5008])) := by rw [show yr 7 = ad 5007 from (hyr 7 (by unfold YKy; omega)).symm, show yr 8 = ad 5008 from (hyr 8 (by unfold YKy; omega)).symm]
      have hP := vP_eq hw9 hP
      have hD := vD_eq hw9 hD
      have hP : va_P D vwCl ([(zo, .inl (cT 1, 1, .inr (.inl (vp_updL zf 0 (Int32.toInt64 ((yA 7) (11 * c0 + i9))))))), (ad 5060, .inr (11, MO yr yi ysb ybs)), (yr 7, .inl (cT 0, 66, .inl (yA 7))), (yr 8, .inl (cT 0, 6, .inl (yA 8)))] ++ pg cds ad (upo gg [5060, 5007, 5008])) _ := hP
      have hD : va_D A ([(zo, .inl (cT 1, 1, .inr (.inl (vp_updL zf 0 (Int32.toInt64 ((yA 7) (11 * c0 + i9))))))), (ad 5060, .inr (11, MO yr yi ysb ybs)), (yr 7, .inl (cT 0, 66, .inl (yA 7))), (yr 8, .inl (cT 0, 6, .inl (yA 8)))] ++ pg cds ad (upo gg [5060, 5007, 5008])) := hD
      refine hy_iQ (X := [(zo, .inl (cT 1, 1, .inr (.inl (vp_updL zf 0 (Int32.toInt64 ((yA 7) (11 * c0 + i9))))))), (ad 5060, .inr (11, MO yr yi ysb ybs)), (yr 7, .inl (cT 0, 66, .inl (yA 7))), (yr 8, .inl (cT 0, 6, .inl (yA 8)))]) (pl := pg cds ad (upo gg [5060, 5007, 5008])) (cx := [(ad 5060, .inr (11, MO yr yi ysb ybs)), (yr 7, .inl (cT 0, 66, .inl (yA 7))), (yr 8, .inl (cT 0, 6, .inl (yA 8)))]) (wr := [(zo, .inl (cT 1, 1, .inr (.inl (vp_updL zf 0 (Int32.toInt64 ((yA 7) (11 * c0 + i9)))))))]) hP hD hS hA [1, 2, 3] [0] rfl rfl (by decide) (by decide) (va_runV (As := [.int (nI c0), .int (nI i9)]) (rest := []) ⟨hx, hb, hml, hown, hT⟩ (y_edge_ok l D cT (ad 5060) yr yi ysb ybs (yA 7) (yA 8) c0 i9 (ne c0) (by rw [y2]; exact hq) (by omega) (y8e c0 (by omega)) (hne c0 (by omega)) hi _) ⟨callB_of 2 hT (tb_gd w1346) rfl rfl rfl (hT _ w13) (hT _ w1343) hM_edge ⟨Nat.le_of_ble_eq_true rfl, Nat.le_of_ble_eq_true rfl⟩, (hT _ w1344), (hT _ w1345)⟩ (RW.preV (ci := 11) (q0 := 0) hZ hS (hy_free (cx := [(ad 5060, .inr (11, MO yr yi ysb ybs)), (yr 7, .inl (cT 0, 66, .inl (yA 7))), (yr 8, .inl (cT 0, 6, .inl (yA 8)))]) hD hS hA [1, 2, 3] rfl) (hP.sub (ws' := [(ad 5060, .inr (11, MO yr yi ysb ybs)), (yr 7, .inl (cT 0, 66, .inl (yA 7))), (yr 8, .inl (cT 0, 6, .inl (yA 8)))]) [1, 2, 3] rfl) hK (hD.sub (ws' := [(ad 5060, .inr (11, MO yr yi ysb ybs)), (yr 7, .inl (cT 0, 66, .inl (yA 7))), (yr 8, .inl (cT 0, 6, .inl (yA 8)))]) [1, 2, 3] (by decide) rfl) rfl rfl) rfl rfl hl.1 rfl (lv_room (Nat.le_of_ble_eq_true rfl)) dL_law_607 ⟨(by show ((2000 + j + 3 * fm + 4 * SM mk 16) + 0) + 0 ≤ 601024; omega), (by show ((400000 + 6 * j + 42 * fm + 69 * SM mk 16) + 0) + 0 ≤ 7293034; omega)⟩) (fun ru2 u9 H locs hpu2 hP hD hS => ?_)
      have hpu2 : ru2 = (yA 7) (11 * c0 + i9) := hpu2
      have hP : va_P D vwCl ([(zo, .inl (cT 1, 1, .inr (.inl (vp_updL zf 0 (Int32.toInt64 ((yA 7) (11 * c0 + i9))))))), (ad 5060, .inr (11, MO yr (va_up yi 1 0) ysb ybs)), (yr 7, .inl (cT 0, 66, .inl (yA 7))), (yr 8, .inl (cT 0, 6, .inl (yA 8)))] ++ pg cds ad (upo gg [5060, 5007, 5008])) _ := hP
      have hD : va_D A ([(zo, .inl (cT 1, 1, .inr (.inl (vp_updL zf 0 (Int32.toInt64 ((yA 7) (11 * c0 + i9))))))), (ad 5060, .inr (11, MO yr (va_up yi 1 0) ysb ybs)), (yr 7, .inl (cT 0, 66, .inl (yA 7))), (yr 8, .inl (cT 0, 6, .inl (yA 8)))] ++ pg cds ad (upo gg [5060, 5007, 5008])) := hD
      have hw9 : ([(zo, .inl (cT 1, 1, .inr (.inl (vp_updL zf 0 (Int32.toInt64 ((yA 7) (11 * c0 + i9))))))), (ad 5060, .inr (11, MO yr (va_up yi 1 0) ysb ybs)), (ad 5007, .inl (cT 0, 66, .inl (yA 7))), (ad 5008, .inl (cT 0, 6, .inl (yA 8)))] ++ pg cds ad (upo gg [5060, 5007, 5008])) = ([(zo, .inl (cT 1, 1, .inr (.inl (vp_updL zf 0 (Int32.toInt64 ((yA 7) (11 * c0 + i9))))))), (ad 5060, .inr (11, MO yr (va_up yi 1 0) ysb ybs)), (yr 7, .inl (cT 0, 66, .inl (yA 7))), (yr 8, .inl (cT 0, 6, .inl (yA 8)))] ++ pg cds ad (upo gg [5060, 5007, 5008])) := by rw [show ad 5007 = yr 7 from hyr 7 (by unfold YKy; omega), show ad 5008 = yr 8 from hyr 8 (by unfold YKy; omega)]
      have hP := vP_eq hw9 hP
      have hD := vD_eq hw9 hD
      have hP : va_P D vwCl ([(zo, .inl (cT 1, 1, .inr (.inl (vp_updL zf 0 (Int32.toInt64 ((yA 7) (11 * c0 + i9))))))), (ad 5060, .inr (11, MO yr (va_up yi 1 0) ysb ybs)), (ad 5007, .inl (cT 0, 66, .inl (yA 7))), (ad 5008, .inl (cT 0, 6, .inl (yA 8)))] ++ pg cds ad (upo gg [5060, 5007, 5008])) _ := hP
      have hD : va_D A ([(zo, .inl (cT 1, 1, .inr (.inl (vp_updL zf 0 (Int32.toInt64 ((yA 7) (11 * c0 + i9))))))), (ad 5060, .inr (11, MO yr (va_up yi 1 0) ysb ybs)), (ad 5007, .inl (cT 0, 66, .inl (yA 7))), (ad 5008, .inl (cT 0, 6, .inl (yA 8)))] ++ pg cds ad (upo gg [5060, 5007, 5008])) := hD
      have hN9 := (show NDc [5060, 5007, 5008] from (nd_c (na_c (by decide) (na_c (by decide) na_0)) (nd_c (na_c (by decide) na_0) (nd_c na_0 nd_0))))
      have hP := gb_P (w9 := [(5060, .inr (11, MO yr (va_up yi 1 0) ysb ybs)), (5007, .inl (cT 0, 66, .inl (yA 7))), (5008, .inl (cT 0, 6, .inl (yA 8)))]) (X := [(zo, .inl (cT 1, 1, .inr (.inl (vp_updL zf 0 (Int32.toInt64 ((yA 7) (11 * c0 + i9)))))))]) (g := gg) hcd hN9 (show QB [(5060, .inr (11, MO yr (va_up yi 1 0) ysb ybs)), (5007, .inl (cT 0, 66, .inl (yA 7))), (5008, .inl (cT 0, 6, .inl (yA 8)))] from (qb_c (by decide) (qb_c (by decide) (qb_c (by decide) qb_0)))) (hP.part (cx := [(zo, .inl (cT 1, 1, .inr (.inl (vp_updL zf 0 (Int32.toInt64 ((yA 7) (11 * c0 + i9))))))), (ad 5060, .inr (11, MO yr (va_up yi 1 0) ysb ybs)), (ad 5007, .inl (cT 0, 66, .inl (yA 7))), (ad 5008, .inl (cT 0, 6, .inl (yA 8)))]) [0, 1, 2, 3] rfl)
      have hD := gb_D (w9 := [(5060, .inr (11, MO yr (va_up yi 1 0) ysb ybs)), (5007, .inl (cT 0, 66, .inl (yA 7))), (5008, .inl (cT 0, 6, .inl (yA 8)))]) (X := [(zo, .inl (cT 1, 1, .inr (.inl (vp_updL zf 0 (Int32.toInt64 ((yA 7) (11 * c0 + i9)))))))]) (g := gg) hcd hN9 (show QB [(5060, .inr (11, MO yr (va_up yi 1 0) ysb ybs)), (5007, .inl (cT 0, 66, .inl (yA 7))), (5008, .inl (cT 0, 6, .inl (yA 8)))] from (qb_c (by decide) (qb_c (by decide) (qb_c (by decide) qb_0)))) (hD.part (cx := [(zo, .inl (cT 1, 1, .inr (.inl (vp_updL zf 0 (Int32.toInt64 ((yA 7) (11 * c0 + i9))))))), (ad 5060, .inr (11, MO yr (va_up yi 1 0) ysb ybs)), (ad 5007, .inl (cT 0, 66, .inl (yA 7))), (ad 5008, .inl (cT 0, 6, .inl (yA 8)))]) [0, 1, 2, 3] (by decide) rfl)
      obtain ⟨gy, hgy⟩ : ∃ q9, q9 = ups gg [(5060, .inr (11, MO yr (va_up yi 1 0) ysb ybs)), (5007, .inl (cT 0, 66, .inl (yA 7))), (5008, .inl (cT 0, 6, .inl (yA 8)))] := ⟨_, rfl⟩
      rw [← hgy] at hP hD
      have hP : va_P D vwCl ([(zo, .inl (cT 1, 1, .inr (.inl (vp_updL zf 0 (Int32.toInt64 ((yA 7) (11 * c0 + i9)))))))] ++ pg cds ad gy) _ := hP
      have hD : va_D A ([(zo, .inl (cT 1, 1, .inr (.inl (vp_updL zf 0 (Int32.toInt64 ((yA 7) (11 * c0 + i9)))))))] ++ pg cds ad gy) := hD
      have fgy : ∀ z8, z8 ≠ 5060 → gy z8 = gg z8 := fun z8 z1 => by rw [hgy]; exact ups_k (kp_n z1 (kp_s (hYA 7 (by unfold YKy; omega)) (kp_s (hYA 8 (by unfold YKy; omega)) kp_0)))
      have gy_0 : gy 5060 = some (.inr (11, MO yr (va_up yi 1 0) ysb ybs)) := by rw [hgy]; exact ups_1
      refine lv_istore hx hb dL_law_610 hl (by decide) rfl (fun ls hl => ?_)
      have hl : lv_has ls 7 [(6, .int ru2), (5, .int 0), (0, .ref b), (1, .ref (ad 0)), (2, .ref (ad 5060)), (3, .ref zo), (4, .int (nI (4 * j)))] := hl
      refine lv_aload_n hx hb dL_law_612 rfl (lv_at hl 4 rfl) ?_
      refine ro_i (va_Run.run (va_runV (As := []) (rest := []) ⟨hx, hb, hml, hown, hT⟩ (m_thrown l D cT (ad 5060) yr (va_up yi 1 0) ysb ybs) ⟨callB_of 0 hT (tb_gd w1290) rfl rfl rfl (hT _ w13) (hT _ w1287) hM_thrown ⟨Nat.le_of_ble_eq_true rfl, Nat.le_of_ble_eq_true rfl⟩, (hT _ w1288), (hT _ w1289)⟩ (RO.preV (ci := 11) (q0 := 0) hZ hS ((show va_P D vwCl [(ad 5060, .inr (11, MO yr (va_up yi 1 0) ysb ybs))] _ from (pv_c (pg_1 (x := 5060) hcd hP (by decide) gy_0) pv_0))) hK rfl rfl) rfl rfl hl.1 rfl (lv_room (Nat.le_of_ble_eq_true rfl)) dL_law_613 ⟨(by show (((2000 + j + 3 * fm + 4 * SM mk 16) + 0) + 0) + 0 ≤ 601024; omega), (by show (((400000 + 6 * j + 42 * fm + 69 * SM mk 16) + 0) + 0) + 0 ≤ 7293034; omega)⟩)) ?_
      refine lv_topi (fun y9 e9 => ?_)
      cases (show y9 = 0 from e9.trans rfl)
      refine lv_iload hx hb dL_law_616 (lv_at hl 1 rfl) ?_
      refine lv_icmp_eq (tgt := 623) hx hb dL_law_618 rfl (fun _ => ?_) (fun h3 => absurd (by decide) h3)
      refine lv_iload hx hb dL_law_623 (lv_at hl 1 rfl) ?_
      refine lv_if_ne (tgt := 640) hx hb dL_law_625 rfl (fun h4 => absurd (by decide) h4) (fun _ => ?_)
      refine lv_aload_n hx hb dL_law_628 rfl (lv_at hl 5 rfl) ?_
      refine lv_iconst (v := 0) hx hb dL_law_629 (by decide) ?_
      refine va_lald hx hb hK hP 0 1 rfl rfl (by unfold vp_in; decide) dL_law_630 ?_
      refine lv_iload hx hb dL_law_631 (lv_at hl 0 rfl) ?_
      refine lv_i2l hx hb dL_law_633 rfl ?_
      refine W.lcmp hx hb dL_law_634 ?_
      refine lv_if_eq (tgt := 640) hx hb dL_law_635 rfl (fun _ => ?_) (fun h5 => absurd ((lg_cmp_eq _ _).mpr (pk_uLs.trans (congrArg Int32.toInt64 hpu2.symm))) h5)
      refine lv_goto (tgt := 1690) hx hb dL_law_640 rfl ?_
      obtain ⟨yiz, hyiz⟩ : ∃ f9 : Nat → Int32, f9 = va_up yi 1 0 := ⟨_, rfl⟩
      have hIz : LWI cT ad gg tE T fm mk F n wd dpt lst w ru rl ne Lo yiz ysb yA := hI.sc (fun k hk => by rw [hyiz]; exact va_up_ne _ _ hk) (fun _ _ => rfl)
      have hIz := hIz.yg (g2 := gy) (fun z8 hz => fgy z8 (by omega))
      have hYz : YCL cT ad gy y yr yiz ysb ybs yA yW F := by
        refine ⟨hYad, hyr, (by rw [hyiz]; exact gy_0), fun k hk => ?_⟩
        have hk2 : k = 0 ∨ (4 ≤ k ∧ k ≤ 9) ∨ (18 ≤ k ∧ k ≤ 46) ∨ k = 48 ∨ k = 49 ∨ (56 ≤ k ∧ k ≤ 59) := hk
        exact (fgy (5000 + k) (by omega)).trans ((hYA k hk).trans (congrArg some (ycl_o rfl).symm))
      rw [hyiz] at hIz hYz
      refine W.widen (k := 2000 + (j + 1) + 3 * fm + 4 * SM mk 16) (n := 400000 + 6 * (j + 1) + 42 * fm + 69 * SM mk 16) (by show ((2000 + j + 3 * fm + 4 * SM mk 16) + 0) + 0 ≤ 2000 + (j + 1) + 3 * fm + 4 * SM mk 16; omega) (by show ((400000 + 6 * j + 42 * fm + 69 * SM mk 16) + 0) + 0 ≤ 400000 + 6 * (j + 1) + 42 * fm + 69 * SM mk 16; omega) ?_
      have hl := lv_sub hl [2, 3, 4, 5, 6] rfl
      have hl : lv_has ls 7 [(0, .ref b), (1, .ref (ad 0)), (2, .ref y), (3, .ref zo), (4, .int (nI (4 * j)))] := by rw [← hYz.1]; exact hl
      exact hend ad gy T fm mk F n wd dpt lst w ru rl ne Lo (va_up yi 1 0) ysb ybs yA yW (vp_updL zf 0 (Int32.toInt64 ((yA 7) (11 * c0 + i9)))) _ _ ls hIz hYz hP hD hS hl
    · refine lv_aload_n hx hb dL_law_575 rfl (lv_at hl 1 rfl) ?_
      refine lv_aload_n hx hb dL_law_576 rfl (lv_at hl 0 rfl) ?_
      refine lv_iload hx hb dL_law_577 (lv_at hl 4 rfl) ?_
      refine lv_iconst (v := 1) hx hb dL_law_579 (by decide) ?_
      refine lv_iadd hx hb dL_law_580 ?_
      refine lv_topi (fun y9 e9 => ?_)
      cases (show y9 = nI ((4 * j) + 1) from e9.trans (nI_add (4 * j) 1))
      refine va_sld hx hb hX hbl hbA hS (vp_in_nI (n := 4 * j + 1) (N := L) (by omega) (by omega)) dL_law_581 ?_
      refine lv_topi (fun y9 e9 => ?_)
      cases (show y9 = nI c0 from e9.trans (by rw [nI_clamp (by omega)]; exact ha1.symm))
      refine lv_aload_n hx hb dL_law_582 rfl (lv_at hl 0 rfl) ?_
      refine lv_iload hx hb dL_law_583 (lv_at hl 4 rfl) ?_
      refine lv_iconst (v := 2) hx hb dL_law_585 (by decide) ?_
      refine lv_iadd hx hb dL_law_586 ?_
      refine lv_topi (fun y9 e9 => ?_)
      cases (show y9 = nI ((4 * j) + 2) from e9.trans (nI_add (4 * j) 2))
      refine va_sld hx hb hX hbl hbA hS (vp_in_nI (n := 4 * j + 2) (N := L) (by omega) (by omega)) dL_law_587 ?_
      refine lv_topi (fun y9 e9 => ?_)
      cases (show y9 = a2 from e9.trans (by rw [nI_clamp (by omega)]; exact ha2.symm))
      refine lv_aload_n hx hb dL_law_588 rfl (lv_at hl 3 rfl) ?_
      refine hy_iP (X := [(zo, .inl (cT 1, 1, .inr (.inl zf)))]) (pl := pg cds ad gg) (cx := [(zo, .inl (cT 1, 1, .inr (.inl zf)))]) (wr := []) hP hD hS hA [0] [] rfl rfl (by decide) (by decide) (tx_runSH (As := [.ref (ad 0), .int (nI c0), .int a2, .ref zo]) (rest := []) ⟨hx, hb, hml, hown, hT⟩ (l_edge_noi l D cT cds ad gg (nI T) (nI wd) (nI n) n (yA 5) (yA 9) (yA 7) (yA 6) ne c0 a2 zo zf hlt hcd hob chtb chCa chCf hq (by omega) hr _) hT (tc_gd w671 w672 w0 (tb_gd w673)) rfl rfl rfl hL_edge ⟨Nat.le_of_ble_eq_true rfl, Nat.le_of_ble_eq_true rfl⟩ (RW.preS hZ hS (va_freeP (cx := [(zo, .inl (cT 1, 1, .inr (.inl zf)))]) hD hS hA [0] rfl) (hP.part (cx := [(zo, .inl (cT 1, 1, .inr (.inl zf)))]) [0] rfl) hK (hD.part (cx := [(zo, .inl (cT 1, 1, .inr (.inl zf)))]) [0] (by decide) rfl)) rfl hl.1 rfl (Nat.le_of_ble_eq_true rfl) dL_law_589 ⟨(by show (2000 + j + 3 * fm + 4 * SM mk 16) + 1 ≤ 601024; omega), (by show (400000 + 6 * j + 42 * fm + 69 * SM mk 16) + 6 ≤ 7293034; omega)⟩) (fun ru6 u9 H locs hpu6 hP hD hS => ?_)
      have hpu6 : ru6 = 1 := hpu6
      have hP : va_P D vwCl ([(zo, .inl (cT 1, 1, .inr (.inl zf)))] ++ pg cds ad gg) _ := hP
      have hD : va_D A ([(zo, .inl (cT 1, 1, .inr (.inl zf)))] ++ pg cds ad gg) := hD
      refine lv_topi (fun y9 e9 => ?_)
      cases (show y9 = 1 from e9.trans hpu6)
      refine lv_istore hx hb dL_law_592 hl (by decide) rfl (fun ls hl => ?_)
      have hl : lv_has ls 7 [(5, .int 1), (0, .ref b), (1, .ref (ad 0)), (2, .ref (ad 5060)), (3, .ref zo), (4, .int (nI (4 * j)))] := hl
      refine lv_aload_n hx hb dL_law_594 rfl (lv_at hl 3 rfl) ?_
      refine lv_aload_n hx hb dL_law_595 rfl (lv_at hl 1 rfl) ?_
      refine lv_iload hx hb dL_law_596 (lv_at hl 5 rfl) ?_
      refine lv_iconst (v := 1) hx hb dL_law_598 (by decide) ?_
      refine lv_iadd hx hb dL_law_599 ?_
      refine lv_topi (fun y9 e9 => ?_)
      cases (show y9 = nI ((4 * j) + 1) from e9.trans (nI_add (4 * j) 1))
      refine va_sld hx hb hX hbl hbA hS (vp_in_nI (n := 4 * j + 1) (N := L) (by omega) (by omega)) dL_law_600 ?_
      refine lv_topi (fun y9 e9 => ?_)
      cases (show y9 = nI c0 from e9.trans (by rw [nI_clamp (by omega)]; exact ha1.symm))
      refine lv_aload_n hx hb dL_law_601 rfl (lv_at hl 1 rfl) ?_
      refine lv_iload hx hb dL_law_602 (lv_at hl 5 rfl) ?_
      refine lv_iconst (v := 2) hx hb dL_law_604 (by decide) ?_
      refine lv_iadd hx hb dL_law_605 ?_
      refine lv_topi (fun y9 e9 => ?_)
      cases (show y9 = nI ((4 * j) + 2) from e9.trans (nI_add (4 * j) 2))
      refine va_sld hx hb hX hbl hbA hS (vp_in_nI (n := 4 * j + 2) (N := L) (by omega) (by omega)) dL_law_606 ?_
      refine lv_topi (fun y9 e9 => ?_)
      cases (show y9 = a2 from e9.trans (by rw [nI_clamp (by omega)]; exact ha2.symm))
      have hB9 : QI gg [(5060, .inr (11, MO yr yi ysb ybs)), (5008, .inl (cT 0, 6, .inl (yA 8)))] := (qi_c (by decide) hYy (qi_c (by decide) (hYA 8 (by unfold YKy; omega)) qi_0))
      have hN9 := (show NDc [5060, 5008] from (nd_c (na_c (by decide) na_0) (nd_c na_0 nd_0)))
      have hP := bo_P (wc := [(5060, .inr (11, MO yr yi ysb ybs)), (5008, .inl (cT 0, 6, .inl (yA 8)))]) (X := [(zo, .inl (cT 1, 1, .inr (.inl zf)))]) hcd hN9 hB9 hP
      have hD := bo_D (wc := [(5060, .inr (11, MO yr yi ysb ybs)), (5008, .inl (cT 0, 6, .inl (yA 8)))]) (X := [(zo, .inl (cT 1, 1, .inr (.inl zf)))]) hcd hN9 hB9 hD
      have hP : va_P D vwCl ([(zo, .inl (cT 1, 1, .inr (.inl zf))), (ad 5060, .inr (11, MO yr yi ysb ybs)), (ad 5008, .inl (cT 0, 6, .inl (yA 8)))] ++ pg cds ad (upo gg [5060, 5008])) _ := hP
      have hD : va_D A ([(zo, .inl (cT 1, 1, .inr (.inl zf))), (ad 5060, .inr (11, MO yr yi ysb ybs)), (ad 5008, .inl (cT 0, 6, .inl (yA 8)))] ++ pg cds ad (upo gg [5060, 5008])) := hD
      have hw9 : ([(zo, .inl (cT 1, 1, .inr (.inl zf))), (ad 5060, .inr (11, MO yr yi ysb ybs)), (yr 8, .inl (cT 0, 6, .inl (yA 8)))] ++ pg cds ad (upo gg [5060, 5008])) = ([(zo, .inl (cT 1, 1, .inr (.inl zf))), (ad 5060, .inr (11, MO yr yi ysb ybs)), (ad 5008, .inl (cT 0, 6, .inl (yA 8)))] ++ pg cds ad (upo gg [5060, 5008])) := by rw [show yr 8 = ad 5008 from (hyr 8 (by unfold YKy; omega)).symm]
      have hP := vP_eq hw9 hP
      have hD := vD_eq hw9 hD
      have hP : va_P D vwCl ([(zo, .inl (cT 1, 1, .inr (.inl zf))), (ad 5060, .inr (11, MO yr yi ysb ybs)), (yr 8, .inl (cT 0, 6, .inl (yA 8)))] ++ pg cds ad (upo gg [5060, 5008])) _ := hP
      have hD : va_D A ([(zo, .inl (cT 1, 1, .inr (.inl zf))), (ad 5060, .inr (11, MO yr yi ysb ybs)), (yr 8, .inl (cT 0, 6, .inl (yA 8)))] ++ pg cds ad (upo gg [5060, 5008])) := hD
      refine hy_iQ (X := [(zo, .inl (cT 1, 1, .inr (.inl zf))), (ad 5060, .inr (11, MO yr yi ysb ybs)), (yr 8, .inl (cT 0, 6, .inl (yA 8)))]) (pl := pg cds ad (upo gg [5060, 5008])) (cx := [(ad 5060, .inr (11, MO yr yi ysb ybs)), (yr 8, .inl (cT 0, 6, .inl (yA 8)))]) (wr := [(zo, .inl (cT 1, 1, .inr (.inl zf)))]) hP hD hS hA [1, 2] [0] rfl rfl (by decide) (by decide) (va_runV (As := [.int (nI c0), .int a2]) (rest := []) ⟨hx, hb, hml, hown, hT⟩ (y_edge_noi l D cT (ad 5060) yr yi ysb ybs (yA 8) c0 a2 (by rw [y2]; exact hq) (by omega) (by rw [y8e c0 (by omega)]; exact hr) _) ⟨callB_of 2 hT (tb_gd w1346) rfl rfl rfl (hT _ w13) (hT _ w1343) hM_edge ⟨Nat.le_of_ble_eq_true rfl, Nat.le_of_ble_eq_true rfl⟩, (hT _ w1344), (hT _ w1345)⟩ (RW.preV (ci := 11) (q0 := 0) hZ hS (hy_free (cx := [(ad 5060, .inr (11, MO yr yi ysb ybs)), (yr 8, .inl (cT 0, 6, .inl (yA 8)))]) hD hS hA [1, 2] rfl) (hP.sub (ws' := [(ad 5060, .inr (11, MO yr yi ysb ybs)), (yr 8, .inl (cT 0, 6, .inl (yA 8)))]) [1, 2] rfl) hK (hD.sub (ws' := [(ad 5060, .inr (11, MO yr yi ysb ybs)), (yr 8, .inl (cT 0, 6, .inl (yA 8)))]) [1, 2] (by decide) rfl) rfl rfl) rfl rfl hl.1 rfl (lv_room (Nat.le_of_ble_eq_true rfl)) dL_law_607 ⟨(by show ((2000 + j + 3 * fm + 4 * SM mk 16) + 1) + 0 ≤ 601024; omega), (by show ((400000 + 6 * j + 42 * fm + 69 * SM mk 16) + 6) + 0 ≤ 7293034; omega)⟩) (fun ru7 u9 H locs hpu7 hP hD hS => ?_)
      have hpu7 : ru7 = 0 := hpu7
      have hP : va_P D vwCl ([(zo, .inl (cT 1, 1, .inr (.inl zf))), (ad 5060, .inr (11, MO yr (va_up yi 1 1) ysb ybs)), (yr 8, .inl (cT 0, 6, .inl (yA 8)))] ++ pg cds ad (upo gg [5060, 5008])) _ := hP
      have hD : va_D A ([(zo, .inl (cT 1, 1, .inr (.inl zf))), (ad 5060, .inr (11, MO yr (va_up yi 1 1) ysb ybs)), (yr 8, .inl (cT 0, 6, .inl (yA 8)))] ++ pg cds ad (upo gg [5060, 5008])) := hD
      refine lv_topi (fun y9 e9 => ?_)
      cases (show y9 = 0 from e9.trans hpu7)
      have hw9 : ([(zo, .inl (cT 1, 1, .inr (.inl zf))), (ad 5060, .inr (11, MO yr (va_up yi 1 1) ysb ybs)), (ad 5008, .inl (cT 0, 6, .inl (yA 8)))] ++ pg cds ad (upo gg [5060, 5008])) = ([(zo, .inl (cT 1, 1, .inr (.inl zf))), (ad 5060, .inr (11, MO yr (va_up yi 1 1) ysb ybs)), (yr 8, .inl (cT 0, 6, .inl (yA 8)))] ++ pg cds ad (upo gg [5060, 5008])) := by rw [show ad 5008 = yr 8 from hyr 8 (by unfold YKy; omega)]
      have hP := vP_eq hw9 hP
      have hD := vD_eq hw9 hD
      have hP : va_P D vwCl ([(zo, .inl (cT 1, 1, .inr (.inl zf))), (ad 5060, .inr (11, MO yr (va_up yi 1 1) ysb ybs)), (ad 5008, .inl (cT 0, 6, .inl (yA 8)))] ++ pg cds ad (upo gg [5060, 5008])) _ := hP
      have hD : va_D A ([(zo, .inl (cT 1, 1, .inr (.inl zf))), (ad 5060, .inr (11, MO yr (va_up yi 1 1) ysb ybs)), (ad 5008, .inl (cT 0, 6, .inl (yA 8)))] ++ pg cds ad (upo gg [5060, 5008])) := hD
      have hN9 := (show NDc [5060, 5008] from (nd_c (na_c (by decide) na_0) (nd_c na_0 nd_0)))
      have hP := gb_P (w9 := [(5060, .inr (11, MO yr (va_up yi 1 1) ysb ybs)), (5008, .inl (cT 0, 6, .inl (yA 8)))]) (X := [(zo, .inl (cT 1, 1, .inr (.inl zf)))]) (g := gg) hcd hN9 (show QB [(5060, .inr (11, MO yr (va_up yi 1 1) ysb ybs)), (5008, .inl (cT 0, 6, .inl (yA 8)))] from (qb_c (by decide) (qb_c (by decide) qb_0))) (hP.part (cx := [(zo, .inl (cT 1, 1, .inr (.inl zf))), (ad 5060, .inr (11, MO yr (va_up yi 1 1) ysb ybs)), (ad 5008, .inl (cT 0, 6, .inl (yA 8)))]) [0, 1, 2] rfl)
      have hD := gb_D (w9 := [(5060, .inr (11, MO yr (va_up yi 1 1) ysb ybs)), (5008, .inl (cT 0, 6, .inl (yA 8)))]) (X := [(zo, .inl (cT 1, 1, .inr (.inl zf)))]) (g := gg) hcd hN9 (show QB [(5060, .inr (11, MO yr (va_up yi 1 1) ysb ybs)), (5008, .inl (cT 0, 6, .inl (yA 8)))] from (qb_c (by decide) (qb_c (by decide) qb_0))) (hD.part (cx := [(zo, .inl (cT 1, 1, .inr (.inl zf))), (ad 5060, .inr (11, MO yr (va_up yi 1 1) ysb ybs)), (ad 5008, .inl (cT 0, 6, .inl (yA 8)))]) [0, 1, 2] (by decide) rfl)
      obtain ⟨gy, hgy⟩ : ∃ q9, q9 = ups gg [(5060, .inr (11, MO yr (va_up yi 1 1) ysb ybs)), (5008, .inl (cT 0, 6, .inl (yA 8)))] := ⟨_, rfl⟩
      rw [← hgy] at hP hD
      have hP : va_P D vwCl ([(zo, .inl (cT 1, 1, .inr (.inl zf)))] ++ pg cds ad gy) _ := hP
      have hD : va_D A ([(zo, .inl (cT 1, 1, .inr (.inl zf)))] ++ pg cds ad gy) := hD
      have fgy : ∀ z8, z8 ≠ 5060 → gy z8 = gg z8 := fun z8 z1 => by rw [hgy]; exact ups_k (kp_n z1 (kp_s (hYA 8 (by unfold YKy; omega)) kp_0))
      have gy_0 : gy 5060 = some (.inr (11, MO yr (va_up yi 1 1) ysb ybs)) := by rw [hgy]; exact ups_1
      refine lv_istore hx hb dL_law_610 hl (by decide) rfl (fun ls hl => ?_)
      have hl : lv_has ls 7 [(6, .int 0), (5, .int 1), (0, .ref b), (1, .ref (ad 0)), (2, .ref (ad 5060)), (3, .ref zo), (4, .int (nI (4 * j)))] := hl
      refine lv_aload_n hx hb dL_law_612 rfl (lv_at hl 4 rfl) ?_
      refine ro_i (va_Run.run (va_runV (As := []) (rest := []) ⟨hx, hb, hml, hown, hT⟩ (m_thrown l D cT (ad 5060) yr (va_up yi 1 1) ysb ybs) ⟨callB_of 0 hT (tb_gd w1290) rfl rfl rfl (hT _ w13) (hT _ w1287) hM_thrown ⟨Nat.le_of_ble_eq_true rfl, Nat.le_of_ble_eq_true rfl⟩, (hT _ w1288), (hT _ w1289)⟩ (RO.preV (ci := 11) (q0 := 0) hZ hS ((show va_P D vwCl [(ad 5060, .inr (11, MO yr (va_up yi 1 1) ysb ybs))] _ from (pv_c (pg_1 (x := 5060) hcd hP (by decide) gy_0) pv_0))) hK rfl rfl) rfl rfl hl.1 rfl (lv_room (Nat.le_of_ble_eq_true rfl)) dL_law_613 ⟨(by show (((2000 + j + 3 * fm + 4 * SM mk 16) + 1) + 0) + 0 ≤ 601024; omega), (by show (((400000 + 6 * j + 42 * fm + 69 * SM mk 16) + 6) + 0) + 0 ≤ 7293034; omega)⟩)) ?_
      refine lv_topi (fun y9 e9 => ?_)
      cases (show y9 = 1 from e9.trans rfl)
      refine lv_iload hx hb dL_law_616 (lv_at hl 1 rfl) ?_
      refine lv_icmp_eq (tgt := 623) hx hb dL_law_618 rfl (fun _ => ?_) (fun h8 => absurd (by decide) h8)
      refine lv_iload hx hb dL_law_623 (lv_at hl 1 rfl) ?_
      refine lv_if_ne (tgt := 640) hx hb dL_law_625 rfl (fun _ => ?_) (fun h9 => absurd h9 (by decide))
      refine lv_goto (tgt := 1690) hx hb dL_law_640 rfl ?_
      obtain ⟨yiz, hyiz⟩ : ∃ f9 : Nat → Int32, f9 = va_up yi 1 1 := ⟨_, rfl⟩
      have hIz : LWI cT ad gg tE T fm mk F n wd dpt lst w ru rl ne Lo yiz ysb yA := hI.sc (fun k hk => by rw [hyiz]; exact va_up_ne _ _ hk) (fun _ _ => rfl)
      have hIz := hIz.yg (g2 := gy) (fun z8 hz => fgy z8 (by omega))
      have hYz : YCL cT ad gy y yr yiz ysb ybs yA yW F := by
        refine ⟨hYad, hyr, (by rw [hyiz]; exact gy_0), fun k hk => ?_⟩
        have hk2 : k = 0 ∨ (4 ≤ k ∧ k ≤ 9) ∨ (18 ≤ k ∧ k ≤ 46) ∨ k = 48 ∨ k = 49 ∨ (56 ≤ k ∧ k ≤ 59) := hk
        exact (fgy (5000 + k) (by omega)).trans ((hYA k hk).trans (congrArg some (ycl_o rfl).symm))
      rw [hyiz] at hIz hYz
      refine W.widen (k := 2000 + (j + 1) + 3 * fm + 4 * SM mk 16) (n := 400000 + 6 * (j + 1) + 42 * fm + 69 * SM mk 16) (by show ((2000 + j + 3 * fm + 4 * SM mk 16) + 1) + 0 ≤ 2000 + (j + 1) + 3 * fm + 4 * SM mk 16; omega) (by show ((400000 + 6 * j + 42 * fm + 69 * SM mk 16) + 6) + 0 ≤ 400000 + 6 * (j + 1) + 42 * fm + 69 * SM mk 16; omega) ?_
      have hl := lv_sub hl [2, 3, 4, 5, 6] rfl
      have hl : lv_has ls 7 [(0, .ref b), (1, .ref (ad 0)), (2, .ref y), (3, .ref zo), (4, .int (nI (4 * j)))] := by rw [← hYz.1]; exact hl
      exact hend ad gy T fm mk F n wd dpt lst w ru rl ne Lo (va_up yi 1 1) ysb ybs yA yW zf _ _ ls hIz hYz hP hD hS hl
  · refine lv_aload_n hx hb dL_law_575 rfl (lv_at hl 1 rfl) ?_
    refine lv_aload_n hx hb dL_law_576 rfl (lv_at hl 0 rfl) ?_
    refine lv_iload hx hb dL_law_577 (lv_at hl 4 rfl) ?_
    refine lv_iconst (v := 1) hx hb dL_law_579 (by decide) ?_
    refine lv_iadd hx hb dL_law_580 ?_
    refine lv_topi (fun y9 e9 => ?_)
    cases (show y9 = nI ((4 * j) + 1) from e9.trans (nI_add (4 * j) 1))
    refine va_sld hx hb hX hbl hbA hS (vp_in_nI (n := 4 * j + 1) (N := L) (by omega) (by omega)) dL_law_581 ?_
    refine lv_topi (fun y9 e9 => ?_)
    cases (show y9 = a1 from e9.trans (by rw [nI_clamp (by omega)]; exact ha1.symm))
    refine lv_aload_n hx hb dL_law_582 rfl (lv_at hl 0 rfl) ?_
    refine lv_iload hx hb dL_law_583 (lv_at hl 4 rfl) ?_
    refine lv_iconst (v := 2) hx hb dL_law_585 (by decide) ?_
    refine lv_iadd hx hb dL_law_586 ?_
    refine lv_topi (fun y9 e9 => ?_)
    cases (show y9 = nI ((4 * j) + 2) from e9.trans (nI_add (4 * j) 2))
    refine va_sld hx hb hX hbl hbA hS (vp_in_nI (n := 4 * j + 2) (N := L) (by omega) (by omega)) dL_law_587 ?_
    refine lv_topi (fun y9 e9 => ?_)
    cases (show y9 = a2 from e9.trans (by rw [nI_clamp (by omega)]; exact ha2.symm))
    refine lv_aload_n hx hb dL_law_588 rfl (lv_at hl 3 rfl) ?_
    refine hy_iP (X := [(zo, .inl (cT 1, 1, .inr (.inl zf)))]) (pl := pg cds ad gg) (cx := [(zo, .inl (cT 1, 1, .inr (.inl zf)))]) (wr := []) hP hD hS hA [0] [] rfl rfl (by decide) (by decide) (tx_runSH (As := [.ref (ad 0), .int a1, .int a2, .ref zo]) (rest := []) ⟨hx, hb, hml, hown, hT⟩ (l_edge_no l D cT cds ad gg (nI T) (nI wd) (nI n) a1 a2 zo zf hlt hcd hob chtb hq _) hT (tc_gd w671 w672 w0 (tb_gd w673)) rfl rfl rfl hL_edge ⟨Nat.le_of_ble_eq_true rfl, Nat.le_of_ble_eq_true rfl⟩ (RW.preS hZ hS (va_freeP (cx := [(zo, .inl (cT 1, 1, .inr (.inl zf)))]) hD hS hA [0] rfl) (hP.part (cx := [(zo, .inl (cT 1, 1, .inr (.inl zf)))]) [0] rfl) hK (hD.part (cx := [(zo, .inl (cT 1, 1, .inr (.inl zf)))]) [0] (by decide) rfl)) rfl hl.1 rfl (Nat.le_of_ble_eq_true rfl) dL_law_589 ⟨(by show (2000 + j + 3 * fm + 4 * SM mk 16) + 1 ≤ 601024; omega), (by show (400000 + 6 * j + 42 * fm + 69 * SM mk 16) + 6 ≤ 7293034; omega)⟩) (fun ru10 u9 H locs hpu10 hP hD hS => ?_)
    have hpu10 : ru10 = 1 := hpu10
    have hP : va_P D vwCl ([(zo, .inl (cT 1, 1, .inr (.inl zf)))] ++ pg cds ad gg) _ := hP
    have hD : va_D A ([(zo, .inl (cT 1, 1, .inr (.inl zf)))] ++ pg cds ad gg) := hD
    refine lv_topi (fun y9 e9 => ?_)
    cases (show y9 = 1 from e9.trans hpu10)
    refine lv_istore hx hb dL_law_592 hl (by decide) rfl (fun ls hl => ?_)
    have hl : lv_has ls 7 [(5, .int 1), (0, .ref b), (1, .ref (ad 0)), (2, .ref (ad 5060)), (3, .ref zo), (4, .int (nI (4 * j)))] := hl
    refine lv_aload_n hx hb dL_law_594 rfl (lv_at hl 3 rfl) ?_
    refine lv_aload_n hx hb dL_law_595 rfl (lv_at hl 1 rfl) ?_
    refine lv_iload hx hb dL_law_596 (lv_at hl 5 rfl) ?_
    refine lv_iconst (v := 1) hx hb dL_law_598 (by decide) ?_
    refine lv_iadd hx hb dL_law_599 ?_
    refine lv_topi (fun y9 e9 => ?_)
    cases (show y9 = nI ((4 * j) + 1) from e9.trans (nI_add (4 * j) 1))
    refine va_sld hx hb hX hbl hbA hS (vp_in_nI (n := 4 * j + 1) (N := L) (by omega) (by omega)) dL_law_600 ?_
    refine lv_topi (fun y9 e9 => ?_)
    cases (show y9 = a1 from e9.trans (by rw [nI_clamp (by omega)]; exact ha1.symm))
    refine lv_aload_n hx hb dL_law_601 rfl (lv_at hl 1 rfl) ?_
    refine lv_iload hx hb dL_law_602 (lv_at hl 5 rfl) ?_
    refine lv_iconst (v := 2) hx hb dL_law_604 (by decide) ?_
    refine lv_iadd hx hb dL_law_605 ?_
    refine lv_topi (fun y9 e9 => ?_)
    cases (show y9 = nI ((4 * j) + 2) from e9.trans (nI_add (4 * j) 2))
    refine va_sld hx hb hX hbl hbA hS (vp_in_nI (n := 4 * j + 2) (N := L) (by omega) (by omega)) dL_law_606 ?_
    refine lv_topi (fun y9 e9 => ?_)
    cases (show y9 = a2 from e9.trans (by rw [nI_clamp (by omega)]; exact ha2.symm))
    have hB9 : QI gg [(5060, .inr (11, MO yr yi ysb ybs))] := (qi_c (by decide) hYy qi_0)
    have hN9 := (show NDc [5060] from (nd_c na_0 nd_0))
    have hP := bo_P (wc := [(5060, .inr (11, MO yr yi ysb ybs))]) (X := [(zo, .inl (cT 1, 1, .inr (.inl zf)))]) hcd hN9 hB9 hP
    have hD := bo_D (wc := [(5060, .inr (11, MO yr yi ysb ybs))]) (X := [(zo, .inl (cT 1, 1, .inr (.inl zf)))]) hcd hN9 hB9 hD
    have hP : va_P D vwCl ([(zo, .inl (cT 1, 1, .inr (.inl zf))), (ad 5060, .inr (11, MO yr yi ysb ybs))] ++ pg cds ad (upo gg [5060])) _ := hP
    have hD : va_D A ([(zo, .inl (cT 1, 1, .inr (.inl zf))), (ad 5060, .inr (11, MO yr yi ysb ybs))] ++ pg cds ad (upo gg [5060])) := hD
    refine hy_iQ (X := [(zo, .inl (cT 1, 1, .inr (.inl zf))), (ad 5060, .inr (11, MO yr yi ysb ybs))]) (pl := pg cds ad (upo gg [5060])) (cx := [(ad 5060, .inr (11, MO yr yi ysb ybs))]) (wr := [(zo, .inl (cT 1, 1, .inr (.inl zf)))]) hP hD hS hA [1] [0] rfl rfl (by decide) (by decide) (va_runV (As := [.int a1, .int a2]) (rest := []) ⟨hx, hb, hml, hown, hT⟩ (y_edge_no l D cT (ad 5060) yr yi ysb ybs a1 a2 (by rw [y2]; exact hq) _) ⟨callB_of 2 hT (tb_gd w1346) rfl rfl rfl (hT _ w13) (hT _ w1343) hM_edge ⟨Nat.le_of_ble_eq_true rfl, Nat.le_of_ble_eq_true rfl⟩, (hT _ w1344), (hT _ w1345)⟩ (RW.preV (ci := 11) (q0 := 0) hZ hS (hy_free (cx := [(ad 5060, .inr (11, MO yr yi ysb ybs))]) hD hS hA [1] rfl) (hP.sub (ws' := [(ad 5060, .inr (11, MO yr yi ysb ybs))]) [1] rfl) hK (hD.sub (ws' := [(ad 5060, .inr (11, MO yr yi ysb ybs))]) [1] (by decide) rfl) rfl rfl) rfl rfl hl.1 rfl (lv_room (Nat.le_of_ble_eq_true rfl)) dL_law_607 ⟨(by show ((2000 + j + 3 * fm + 4 * SM mk 16) + 1) + 0 ≤ 601024; omega), (by show ((400000 + 6 * j + 42 * fm + 69 * SM mk 16) + 6) + 0 ≤ 7293034; omega)⟩) (fun ru11 u9 H locs hpu11 hP hD hS => ?_)
    have hpu11 : ru11 = 0 := hpu11
    have hP : va_P D vwCl ([(zo, .inl (cT 1, 1, .inr (.inl zf))), (ad 5060, .inr (11, MO yr (va_up yi 1 1) ysb ybs))] ++ pg cds ad (upo gg [5060])) _ := hP
    have hD : va_D A ([(zo, .inl (cT 1, 1, .inr (.inl zf))), (ad 5060, .inr (11, MO yr (va_up yi 1 1) ysb ybs))] ++ pg cds ad (upo gg [5060])) := hD
    refine lv_topi (fun y9 e9 => ?_)
    cases (show y9 = 0 from e9.trans hpu11)
    have hN9 := (show NDc [5060] from (nd_c na_0 nd_0))
    have hP := gb_P (w9 := [(5060, .inr (11, MO yr (va_up yi 1 1) ysb ybs))]) (X := [(zo, .inl (cT 1, 1, .inr (.inl zf)))]) (g := gg) hcd hN9 (show QB [(5060, .inr (11, MO yr (va_up yi 1 1) ysb ybs))] from (qb_c (by decide) qb_0)) (hP.part (cx := [(zo, .inl (cT 1, 1, .inr (.inl zf))), (ad 5060, .inr (11, MO yr (va_up yi 1 1) ysb ybs))]) [0, 1] rfl)
    have hD := gb_D (w9 := [(5060, .inr (11, MO yr (va_up yi 1 1) ysb ybs))]) (X := [(zo, .inl (cT 1, 1, .inr (.inl zf)))]) (g := gg) hcd hN9 (show QB [(5060, .inr (11, MO yr (va_up yi 1 1) ysb ybs))] from (qb_c (by decide) qb_0)) (hD.part (cx := [(zo, .inl (cT 1, 1, .inr (.inl zf))), (ad 5060, .inr (11, MO yr (va_up yi 1 1) ysb ybs))]) [0, 1] (by decide) rfl)
    obtain ⟨gy, hgy⟩ : ∃ q9, q9 = ups gg [(5060, .inr (11, MO yr (va_up yi 1 1) ysb ybs))] := ⟨_, rfl⟩
    rw [← hgy] at hP hD
    have hP : va_P D vwCl ([(zo, .inl (cT 1, 1, .inr (.inl zf)))] ++ pg cds ad gy) _ := hP
    have hD : va_D A ([(zo, .inl (cT 1, 1, .inr (.inl zf)))] ++ pg cds ad gy) := hD
    have fgy : ∀ z8, z8 ≠ 5060 → gy z8 = gg z8 := fun z8 z1 => by rw [hgy]; exact ups_k (kp_n z1 kp_0)
    have gy_0 : gy 5060 = some (.inr (11, MO yr (va_up yi 1 1) ysb ybs)) := by rw [hgy]; exact ups_1
    refine lv_istore hx hb dL_law_610 hl (by decide) rfl (fun ls hl => ?_)
    have hl : lv_has ls 7 [(6, .int 0), (5, .int 1), (0, .ref b), (1, .ref (ad 0)), (2, .ref (ad 5060)), (3, .ref zo), (4, .int (nI (4 * j)))] := hl
    refine lv_aload_n hx hb dL_law_612 rfl (lv_at hl 4 rfl) ?_
    refine ro_i (va_Run.run (va_runV (As := []) (rest := []) ⟨hx, hb, hml, hown, hT⟩ (m_thrown l D cT (ad 5060) yr (va_up yi 1 1) ysb ybs) ⟨callB_of 0 hT (tb_gd w1290) rfl rfl rfl (hT _ w13) (hT _ w1287) hM_thrown ⟨Nat.le_of_ble_eq_true rfl, Nat.le_of_ble_eq_true rfl⟩, (hT _ w1288), (hT _ w1289)⟩ (RO.preV (ci := 11) (q0 := 0) hZ hS ((show va_P D vwCl [(ad 5060, .inr (11, MO yr (va_up yi 1 1) ysb ybs))] _ from (pv_c (pg_1 (x := 5060) hcd hP (by decide) gy_0) pv_0))) hK rfl rfl) rfl rfl hl.1 rfl (lv_room (Nat.le_of_ble_eq_true rfl)) dL_law_613 ⟨(by show (((2000 + j + 3 * fm + 4 * SM mk 16) + 1) + 0) + 0 ≤ 601024; omega), (by show (((400000 + 6 * j + 42 * fm + 69 * SM mk 16) + 6) + 0) + 0 ≤ 7293034; omega)⟩)) ?_
    refine lv_topi (fun y9 e9 => ?_)
    cases (show y9 = 1 from e9.trans rfl)
    refine lv_iload hx hb dL_law_616 (lv_at hl 1 rfl) ?_
    refine lv_icmp_eq (tgt := 623) hx hb dL_law_618 rfl (fun _ => ?_) (fun h12 => absurd (by decide) h12)
    refine lv_iload hx hb dL_law_623 (lv_at hl 1 rfl) ?_
    refine lv_if_ne (tgt := 640) hx hb dL_law_625 rfl (fun _ => ?_) (fun h13 => absurd h13 (by decide))
    refine lv_goto (tgt := 1690) hx hb dL_law_640 rfl ?_
    obtain ⟨yiz, hyiz⟩ : ∃ f9 : Nat → Int32, f9 = va_up yi 1 1 := ⟨_, rfl⟩
    have hIz : LWI cT ad gg tE T fm mk F n wd dpt lst w ru rl ne Lo yiz ysb yA := hI.sc (fun k hk => by rw [hyiz]; exact va_up_ne _ _ hk) (fun _ _ => rfl)
    have hIz := hIz.yg (g2 := gy) (fun z8 hz => fgy z8 (by omega))
    have hYz : YCL cT ad gy y yr yiz ysb ybs yA yW F := by
      refine ⟨hYad, hyr, (by rw [hyiz]; exact gy_0), fun k hk => ?_⟩
      have hk2 : k = 0 ∨ (4 ≤ k ∧ k ≤ 9) ∨ (18 ≤ k ∧ k ≤ 46) ∨ k = 48 ∨ k = 49 ∨ (56 ≤ k ∧ k ≤ 59) := hk
      exact (fgy (5000 + k) (by omega)).trans ((hYA k hk).trans (congrArg some (ycl_o rfl).symm))
    rw [hyiz] at hIz hYz
    refine W.widen (k := 2000 + (j + 1) + 3 * fm + 4 * SM mk 16) (n := 400000 + 6 * (j + 1) + 42 * fm + 69 * SM mk 16) (by show ((2000 + j + 3 * fm + 4 * SM mk 16) + 1) + 0 ≤ 2000 + (j + 1) + 3 * fm + 4 * SM mk 16; omega) (by show ((400000 + 6 * j + 42 * fm + 69 * SM mk 16) + 6) + 0 ≤ 400000 + 6 * (j + 1) + 42 * fm + 69 * SM mk 16; omega) ?_
    have hl := lv_sub hl [2, 3, 4, 5, 6] rfl
    have hl : lv_has ls 7 [(0, .ref b), (1, .ref (ad 0)), (2, .ref y), (3, .ref zo), (4, .int (nI (4 * j)))] := by rw [← hYz.1]; exact hl
    exact hend ad gy T fm mk F n wd dpt lst w ru rl ne Lo (va_up yi 1 1) ysb ybs yA yW zf _ _ ls hIz hYz hP hD hS hl
set_option maxHeartbeats 8000000 in
set_option maxRecDepth 100000 in
theorem lo_7 {p : Program} {l : Launch} {e : Env} {s : State} {m : MethodId} {args : Array Value} {below : List Frame} {meth : Method} {c : Code} {Q : State → Prop} {A : Nat → Prop} {H : Heap} {locs : List Loc} {ls : Array Slot} {b L : Nat} {xs : Nat → Int32} (D : va_G) (cT : Nat → ClassId) (cds : List Nat) (tE mE y : Nat) (yr : Nat → Nat) (zo j : Nat) (ad : Nat → Nat) (gg : Nat → Option va_E) (T : Nat) (fm : Nat) (mk : Nat → Nat) (F : TFR) (n : Nat) (wd : Nat) (dpt : Nat) (lst : Nat) (w : Nat) (ru : Nat) (rl : Nat) (ne : Nat → Nat) (Lo : Nat) (yi : Nat → Int32) (ysb : Int64) (ybs : Int64) (yA : Nat → Nat → Int32) (yW : Nat → Int64) (zf : Nat → Int64) (hlt : l.stackTraces = false) (hx : p.tables.exec = Jvm.exec) (hb : c.code = code) (hml : c.maxLocals = 7) (hown : s.vm.findClass "ResidualTreesLaw" = some m.cls) (hT : ∀ w ∈ TB, w.before args s = true) (hZ : ZZ A s s.heap) (hE0 : ZE tE mE A s s.heap) (hK : va_K D vwCl (TY cT) s) (hA : ∀ q : Nat, s.heap.size ≤ q → A q) (hX : va_X b L xs s s.heap) (hbl : b < s.heap.size) (hbA : ¬ A b) (hcd : CD cds) (hj : 4 * j + 4 ≤ L) (hL : L ≤ 2048) (hI : LWI cT ad gg tE T fm mk F n wd dpt lst w ru rl ne Lo yi ysb yA) (hYC : YCL cT ad gg y yr yi ysb ybs yA yW F) (hP : va_P D vwCl ([(zo, .inl (cT 1, 1, .inr (.inl zf)))] ++ pg cds ad gg) H) (hD : va_D A ([(zo, .inl (cT 1, 1, .inr (.inl zf)))] ++ pg cds ad gg)) (hS : va_S A s.heap H locs) (hl : lv_has ls 7 [(0, .ref b), (1, .ref (ad 0)), (2, .ref y), (3, .ref zo), (4, .int (nI (4 * j)))]) (hend : LEN2 p l e s m args below meth c Q A D cT cds tE y yr zo b j) : W p l e room_1 s m args below meth c H locs (2000 + j + 3 * fm + 4 * SM mk 16) (400000 + 6 * j + 42 * fm + 69 * SM mk 16) Q (F0 m 643 ls []) := by
  obtain ⟨a1, ha1⟩ : ∃ q9 : Int32, q9 = xs (4 * j + 1) := ⟨_, rfl⟩
  obtain ⟨a2, ha2⟩ : ∃ q9 : Int32, q9 = xs (4 * j + 2) := ⟨_, rfl⟩
  obtain ⟨a3, ha3⟩ : ∃ q9 : Int32, q9 = xs (4 * j + 3) := ⟨_, rfl⟩
  obtain ⟨hfm16, hSM⟩ := lwi_b hI
  obtain ⟨hYad, hYr0, hYy, hYA⟩ := hYC
  have hyr := hYr0
  obtain ⟨fo, hCL, hRF, hPU⟩ := id hI
  obtain ⟨hTV, hOut, ⟨sa9, hso⟩, ⟨zq9, hS1⟩, ⟨zr9, hS2⟩, ⟨z58, hS3⟩⟩ := id hCL
  obtain ⟨hob, hTg, hFT, hTs, ⟨zs0, hGB⟩, ⟨zf0, hLf⟩, ⟨zc0, hCm⟩⟩ := id hTV
  obtain ⟨chtb, chRs, chCa, chCf, chpl, chGa, chSc, chGs, ⟨cfo, chod⟩, cbb9, ctt9, cb90, cik0, chgr, chbt, chSP⟩ := id hGB
  obtain ⟨y2, y3, y10, y11, y12, y13, y14, y17, y47, y55, y8e, y18e, hRFN, hPR, hfoy⟩ := id hRF
  obtain ⟨hTf, hT16, hn48, hwd6, hdp4, hls2, hw20, hr9, hLo, hne, hik, hTOK, hS9, hVk, hVb, htg, hSEP, hSV7⟩ := id hPU
  have hl : lv_has ls 7 [(0, .ref b), (1, .ref (ad 0)), (2, .ref (ad 5060)), (3, .ref zo), (4, .int (nI (4 * j)))] := by rw [hYad]; exact hl
  by_cases hq : 0 ≤ a1 ∧ a1 ≤ nI wd - 1
  · obtain ⟨c0, hc, rfl⟩ := i_nat (n := wd) (by omega) hq
    by_cases hm : a2 = (-2147483648)
    · refine lv_aload_n hx hb dL_law_643 rfl (lv_at hl 1 rfl) ?_
      refine lv_aload_n hx hb dL_law_644 rfl (lv_at hl 0 rfl) ?_
      refine lv_iload hx hb dL_law_645 (lv_at hl 4 rfl) ?_
      refine lv_iconst (v := 1) hx hb dL_law_647 (by decide) ?_
      refine lv_iadd hx hb dL_law_648 ?_
      refine lv_topi (fun y9 e9 => ?_)
      cases (show y9 = nI ((4 * j) + 1) from e9.trans (nI_add (4 * j) 1))
      refine va_sld hx hb hX hbl hbA hS (vp_in_nI (n := 4 * j + 1) (N := L) (by omega) (by omega)) dL_law_649 ?_
      refine lv_topi (fun y9 e9 => ?_)
      cases (show y9 = nI c0 from e9.trans (by rw [nI_clamp (by omega)]; exact ha1.symm))
      refine lv_aload_n hx hb dL_law_650 rfl (lv_at hl 0 rfl) ?_
      refine lv_iload hx hb dL_law_651 (lv_at hl 4 rfl) ?_
      refine lv_iconst (v := 2) hx hb dL_law_653 (by decide) ?_
      refine lv_iadd hx hb dL_law_654 ?_
      refine lv_topi (fun y9 e9 => ?_)
      cases (show y9 = nI ((4 * j) + 2) from e9.trans (nI_add (4 * j) 2))
      refine va_sld hx hb hX hbl hbA hS (vp_in_nI (n := 4 * j + 2) (N := L) (by omega) (by omega)) dL_law_655 ?_
      refine lv_topi (fun y9 e9 => ?_)
      cases (show y9 = a2 from e9.trans (by rw [nI_clamp (by omega)]; exact ha2.symm))
      refine lv_aload_n hx hb dL_law_656 rfl (lv_at hl 3 rfl) ?_
      refine hy_iP (X := [(zo, .inl (cT 1, 1, .inr (.inl zf)))]) (pl := pg cds ad gg) (cx := [(zo, .inl (cT 1, 1, .inr (.inl zf)))]) (wr := []) hP hD hS hA [0] [] rfl rfl (by decide) (by decide) (tx_runSH (As := [.ref (ad 0), .int (nI c0), .int a2, .ref zo]) (rest := []) ⟨hx, hb, hml, hown, hT⟩ (l_bin_no l D cT cds ad gg (nI T) (nI wd) (nI n) (nI c0) a2 zo zf hlt hcd hob chtb (fun q => q.2 hm) _) hT (tc_gd w678 w679 w0 (tb_gd w680)) rfl rfl rfl hL_bin ⟨Nat.le_of_ble_eq_true rfl, Nat.le_of_ble_eq_true rfl⟩ (RW.preS hZ hS (va_freeP (cx := [(zo, .inl (cT 1, 1, .inr (.inl zf)))]) hD hS hA [0] rfl) (hP.part (cx := [(zo, .inl (cT 1, 1, .inr (.inl zf)))]) [0] rfl) hK (hD.part (cx := [(zo, .inl (cT 1, 1, .inr (.inl zf)))]) [0] (by decide) rfl)) rfl hl.1 rfl (Nat.le_of_ble_eq_true rfl) dL_law_657 ⟨(by show (2000 + j + 3 * fm + 4 * SM mk 16) + 1 ≤ 601024; omega), (by show (400000 + 6 * j + 42 * fm + 69 * SM mk 16) + 6 ≤ 7293034; omega)⟩) (fun ru1 u9 H locs hpu1 hP hD hS => ?_)
      have hpu1 : ru1 = 1 := hpu1
      have hP : va_P D vwCl ([(zo, .inl (cT 1, 1, .inr (.inl zf)))] ++ pg cds ad gg) _ := hP
      have hD : va_D A ([(zo, .inl (cT 1, 1, .inr (.inl zf)))] ++ pg cds ad gg) := hD
      refine lv_topi (fun y9 e9 => ?_)
      cases (show y9 = 1 from e9.trans hpu1)
      refine lv_istore hx hb dL_law_660 hl (by decide) rfl (fun ls hl => ?_)
      have hl : lv_has ls 7 [(5, .int 1), (0, .ref b), (1, .ref (ad 0)), (2, .ref (ad 5060)), (3, .ref zo), (4, .int (nI (4 * j)))] := hl
      refine lv_aload_n hx hb dL_law_662 rfl (lv_at hl 3 rfl) ?_
      refine lv_aload_n hx hb dL_law_663 rfl (lv_at hl 1 rfl) ?_
      refine lv_iload hx hb dL_law_664 (lv_at hl 5 rfl) ?_
      refine lv_iconst (v := 1) hx hb dL_law_666 (by decide) ?_
      refine lv_iadd hx hb dL_law_667 ?_
      refine lv_topi (fun y9 e9 => ?_)
      cases (show y9 = nI ((4 * j) + 1) from e9.trans (nI_add (4 * j) 1))
      refine va_sld hx hb hX hbl hbA hS (vp_in_nI (n := 4 * j + 1) (N := L) (by omega) (by omega)) dL_law_668 ?_
      refine lv_topi (fun y9 e9 => ?_)
      cases (show y9 = nI c0 from e9.trans (by rw [nI_clamp (by omega)]; exact ha1.symm))
      refine lv_aload_n hx hb dL_law_669 rfl (lv_at hl 1 rfl) ?_
      refine lv_iload hx hb dL_law_670 (lv_at hl 5 rfl) ?_
      refine lv_iconst (v := 2) hx hb dL_law_672 (by decide) ?_
      refine lv_iadd hx hb dL_law_673 ?_
      refine lv_topi (fun y9 e9 => ?_)
      cases (show y9 = nI ((4 * j) + 2) from e9.trans (nI_add (4 * j) 2))
      refine va_sld hx hb hX hbl hbA hS (vp_in_nI (n := 4 * j + 2) (N := L) (by omega) (by omega)) dL_law_674 ?_
      refine lv_topi (fun y9 e9 => ?_)
      cases (show y9 = a2 from e9.trans (by rw [nI_clamp (by omega)]; exact ha2.symm))
      have hB9 : QI gg [(5060, .inr (11, MO yr yi ysb ybs)), (5006, .inl (cT 3, 6, .inl (yA 6)))] := (qi_c (by decide) hYy (qi_c (by decide) (hYA 6 (by unfold YKy; omega)) qi_0))
      have hN9 := (show NDc [5060, 5006] from (nd_c (na_c (by decide) na_0) (nd_c na_0 nd_0)))
      have hP := bo_P (wc := [(5060, .inr (11, MO yr yi ysb ybs)), (5006, .inl (cT 3, 6, .inl (yA 6)))]) (X := [(zo, .inl (cT 1, 1, .inr (.inl zf)))]) hcd hN9 hB9 hP
      have hD := bo_D (wc := [(5060, .inr (11, MO yr yi ysb ybs)), (5006, .inl (cT 3, 6, .inl (yA 6)))]) (X := [(zo, .inl (cT 1, 1, .inr (.inl zf)))]) hcd hN9 hB9 hD
      have hP : va_P D vwCl ([(zo, .inl (cT 1, 1, .inr (.inl zf))), (ad 5060, .inr (11, MO yr yi ysb ybs)), (ad 5006, .inl (cT 3, 6, .inl (yA 6)))] ++ pg cds ad (upo gg [5060, 5006])) _ := hP
      have hD : va_D A ([(zo, .inl (cT 1, 1, .inr (.inl zf))), (ad 5060, .inr (11, MO yr yi ysb ybs)), (ad 5006, .inl (cT 3, 6, .inl (yA 6)))] ++ pg cds ad (upo gg [5060, 5006])) := hD
      have hw9 : ([(zo, .inl (cT 1, 1, .inr (.inl zf))), (ad 5060, .inr (11, MO yr yi ysb ybs)), (yr 6, .inl (cT 3, 6, .inl (yA 6)))] ++ pg cds ad (upo gg [5060, 5006])) = ([(zo, .inl (cT 1, 1, .inr (.inl zf))), (ad 5060, .inr (11, MO yr yi ysb ybs)), (ad 5006, .inl (cT 3, 6, .inl (yA 6)))] ++ pg cds ad (upo gg [5060, 5006])) := by rw [show yr 6 = ad 5006 from (hyr 6 (by unfold YKy; omega)).symm]
      have hP := vP_eq hw9 hP
      have hD := vD_eq hw9 hD
      have hP : va_P D vwCl ([(zo, .inl (cT 1, 1, .inr (.inl zf))), (ad 5060, .inr (11, MO yr yi ysb ybs)), (yr 6, .inl (cT 3, 6, .inl (yA 6)))] ++ pg cds ad (upo gg [5060, 5006])) _ := hP
      have hD : va_D A ([(zo, .inl (cT 1, 1, .inr (.inl zf))), (ad 5060, .inr (11, MO yr yi ysb ybs)), (yr 6, .inl (cT 3, 6, .inl (yA 6)))] ++ pg cds ad (upo gg [5060, 5006])) := hD
      refine hy_iQ (X := [(zo, .inl (cT 1, 1, .inr (.inl zf))), (ad 5060, .inr (11, MO yr yi ysb ybs)), (yr 6, .inl (cT 3, 6, .inl (yA 6)))]) (pl := pg cds ad (upo gg [5060, 5006])) (cx := [(ad 5060, .inr (11, MO yr yi ysb ybs)), (yr 6, .inl (cT 3, 6, .inl (yA 6)))]) (wr := [(zo, .inl (cT 1, 1, .inr (.inl zf)))]) hP hD hS hA [1, 2] [0] rfl rfl (by decide) (by decide) (va_runV (As := [.int (nI c0), .int a2]) (rest := []) ⟨hx, hb, hml, hown, hT⟩ (y_bin_nov l D cT (ad 5060) yr yi ysb ybs (yA 6) c0 a2 (by rw [y2]; exact hq) (by omega) (vok_m hm) _) ⟨callB_of 2 hT (tb_gd w1350) rfl rfl rfl (hT _ w13) (hT _ w1347) hM_bin ⟨Nat.le_of_ble_eq_true rfl, Nat.le_of_ble_eq_true rfl⟩, (hT _ w1348), (hT _ w1349)⟩ (RW.preV (ci := 11) (q0 := 0) hZ hS (hy_free (cx := [(ad 5060, .inr (11, MO yr yi ysb ybs)), (yr 6, .inl (cT 3, 6, .inl (yA 6)))]) hD hS hA [1, 2] rfl) (hP.sub (ws' := [(ad 5060, .inr (11, MO yr yi ysb ybs)), (yr 6, .inl (cT 3, 6, .inl (yA 6)))]) [1, 2] rfl) hK (hD.sub (ws' := [(ad 5060, .inr (11, MO yr yi ysb ybs)), (yr 6, .inl (cT 3, 6, .inl (yA 6)))]) [1, 2] (by decide) rfl) rfl rfl) rfl rfl hl.1 rfl (lv_room (Nat.le_of_ble_eq_true rfl)) dL_law_675 ⟨(by show ((2000 + j + 3 * fm + 4 * SM mk 16) + 1) + 0 ≤ 601024; omega), (by show ((400000 + 6 * j + 42 * fm + 69 * SM mk 16) + 6) + 0 ≤ 7293034; omega)⟩) (fun ru2 u9 H locs hpu2 hP hD hS => ?_)
      have hpu2 : ru2 = 0 := hpu2
      have hP : va_P D vwCl ([(zo, .inl (cT 1, 1, .inr (.inl zf))), (ad 5060, .inr (11, MO yr (va_up yi 1 1) ysb ybs)), (yr 6, .inl (cT 3, 6, .inl (yA 6)))] ++ pg cds ad (upo gg [5060, 5006])) _ := hP
      have hD : va_D A ([(zo, .inl (cT 1, 1, .inr (.inl zf))), (ad 5060, .inr (11, MO yr (va_up yi 1 1) ysb ybs)), (yr 6, .inl (cT 3, 6, .inl (yA 6)))] ++ pg cds ad (upo gg [5060, 5006])) := hD
      refine lv_topi (fun y9 e9 => ?_)
      cases (show y9 = 0 from e9.trans hpu2)
      have hw9 : ([(zo, .inl (cT 1, 1, .inr (.inl zf))), (ad 5060, .inr (11, MO yr (va_up yi 1 1) ysb ybs)), (ad 5006, .inl (cT 3, 6, .inl (yA 6)))] ++ pg cds ad (upo gg [5060, 5006])) = ([(zo, .inl (cT 1, 1, .inr (.inl zf))), (ad 5060, .inr (11, MO yr (va_up yi 1 1) ysb ybs)), (yr 6, .inl (cT 3, 6, .inl (yA 6)))] ++ pg cds ad (upo gg [5060, 5006])) := by rw [show ad 5006 = yr 6 from hyr 6 (by unfold YKy; omega)]
      have hP := vP_eq hw9 hP
      have hD := vD_eq hw9 hD
      have hP : va_P D vwCl ([(zo, .inl (cT 1, 1, .inr (.inl zf))), (ad 5060, .inr (11, MO yr (va_up yi 1 1) ysb ybs)), (ad 5006, .inl (cT 3, 6, .inl (yA 6)))] ++ pg cds ad (upo gg [5060, 5006])) _ := hP
      have hD : va_D A ([(zo, .inl (cT 1, 1, .inr (.inl zf))), (ad 5060, .inr (11, MO yr (va_up yi 1 1) ysb ybs)), (ad 5006, .inl (cT 3, 6, .inl (yA 6)))] ++ pg cds ad (upo gg [5060, 5006])) := hD
      have hN9 := (show NDc [5060, 5006] from (nd_c (na_c (by decide) na_0) (nd_c na_0 nd_0)))
      have hP := gb_P (w9 := [(5060, .inr (11, MO yr (va_up yi 1 1) ysb ybs)), (5006, .inl (cT 3, 6, .inl (yA 6)))]) (X := [(zo, .inl (cT 1, 1, .inr (.inl zf)))]) (g := gg) hcd hN9 (show QB [(5060, .inr (11, MO yr (va_up yi 1 1) ysb ybs)), (5006, .inl (cT 3, 6, .inl (yA 6)))] from (qb_c (by decide) (qb_c (by decide) qb_0))) (hP.part (cx := [(zo, .inl (cT 1, 1, .inr (.inl zf))), (ad 5060, .inr (11, MO yr (va_up yi 1 1) ysb ybs)), (ad 5006, .inl (cT 3, 6, .inl (yA 6)))]) [0, 1, 2] rfl)
      have hD := gb_D (w9 := [(5060, .inr (11, MO yr (va_up yi 1 1) ysb ybs)), (5006, .inl (cT 3, 6, .inl (yA 6)))]) (X := [(zo, .inl (cT 1, 1, .inr (.inl zf)))]) (g := gg) hcd hN9 (show QB [(5060, .inr (11, MO yr (va_up yi 1 1) ysb ybs)), (5006, .inl (cT 3, 6, .inl (yA 6)))] from (qb_c (by decide) (qb_c (by decide) qb_0))) (hD.part (cx := [(zo, .inl (cT 1, 1, .inr (.inl zf))), (ad 5060, .inr (11, MO yr (va_up yi 1 1) ysb ybs)), (ad 5006, .inl (cT 3, 6, .inl (yA 6)))]) [0, 1, 2] (by decide) rfl)
      obtain ⟨gy, hgy⟩ : ∃ q9, q9 = ups gg [(5060, .inr (11, MO yr (va_up yi 1 1) ysb ybs)), (5006, .inl (cT 3, 6, .inl (yA 6)))] := ⟨_, rfl⟩
      rw [← hgy] at hP hD
      have hP : va_P D vwCl ([(zo, .inl (cT 1, 1, .inr (.inl zf)))] ++ pg cds ad gy) _ := hP
      have hD : va_D A ([(zo, .inl (cT 1, 1, .inr (.inl zf)))] ++ pg cds ad gy) := hD
      have fgy : ∀ z8, z8 ≠ 5060 → gy z8 = gg z8 := fun z8 z1 => by rw [hgy]; exact ups_k (kp_n z1 (kp_s (hYA 6 (by unfold YKy; omega)) kp_0))
      have gy_0 : gy 5060 = some (.inr (11, MO yr (va_up yi 1 1) ysb ybs)) := by rw [hgy]; exact ups_1
      refine lv_istore hx hb dL_law_678 hl (by decide) rfl (fun ls hl => ?_)
      have hl : lv_has ls 7 [(6, .int 0), (5, .int 1), (0, .ref b), (1, .ref (ad 0)), (2, .ref (ad 5060)), (3, .ref zo), (4, .int (nI (4 * j)))] := hl
      refine lv_aload_n hx hb dL_law_680 rfl (lv_at hl 4 rfl) ?_
      refine ro_i (va_Run.run (va_runV (As := []) (rest := []) ⟨hx, hb, hml, hown, hT⟩ (m_thrown l D cT (ad 5060) yr (va_up yi 1 1) ysb ybs) ⟨callB_of 0 hT (tb_gd w1290) rfl rfl rfl (hT _ w13) (hT _ w1287) hM_thrown ⟨Nat.le_of_ble_eq_true rfl, Nat.le_of_ble_eq_true rfl⟩, (hT _ w1288), (hT _ w1289)⟩ (RO.preV (ci := 11) (q0 := 0) hZ hS ((show va_P D vwCl [(ad 5060, .inr (11, MO yr (va_up yi 1 1) ysb ybs))] _ from (pv_c (pg_1 (x := 5060) hcd hP (by decide) gy_0) pv_0))) hK rfl rfl) rfl rfl hl.1 rfl (lv_room (Nat.le_of_ble_eq_true rfl)) dL_law_681 ⟨(by show (((2000 + j + 3 * fm + 4 * SM mk 16) + 1) + 0) + 0 ≤ 601024; omega), (by show (((400000 + 6 * j + 42 * fm + 69 * SM mk 16) + 6) + 0) + 0 ≤ 7293034; omega)⟩)) ?_
      refine lv_topi (fun y9 e9 => ?_)
      cases (show y9 = 1 from e9.trans rfl)
      refine lv_iload hx hb dL_law_684 (lv_at hl 1 rfl) ?_
      refine lv_icmp_eq (tgt := 691) hx hb dL_law_686 rfl (fun _ => ?_) (fun h3 => absurd (by decide) h3)
      refine lv_iload hx hb dL_law_691 (lv_at hl 1 rfl) ?_
      refine lv_if_ne (tgt := 708) hx hb dL_law_693 rfl (fun _ => ?_) (fun h4 => absurd h4 (by decide))
      refine lv_goto (tgt := 1690) hx hb dL_law_708 rfl ?_
      obtain ⟨yiz, hyiz⟩ : ∃ f9 : Nat → Int32, f9 = va_up yi 1 1 := ⟨_, rfl⟩
      have hIz : LWI cT ad gg tE T fm mk F n wd dpt lst w ru rl ne Lo yiz ysb yA := hI.sc (fun k hk => by rw [hyiz]; exact va_up_ne _ _ hk) (fun _ _ => rfl)
      have hIz := hIz.yg (g2 := gy) (fun z8 hz => fgy z8 (by omega))
      have hYz : YCL cT ad gy y yr yiz ysb ybs yA yW F := by
        refine ⟨hYad, hyr, (by rw [hyiz]; exact gy_0), fun k hk => ?_⟩
        have hk2 : k = 0 ∨ (4 ≤ k ∧ k ≤ 9) ∨ (18 ≤ k ∧ k ≤ 46) ∨ k = 48 ∨ k = 49 ∨ (56 ≤ k ∧ k ≤ 59) := hk
        exact (fgy (5000 + k) (by omega)).trans ((hYA k hk).trans (congrArg some (ycl_o rfl).symm))
      rw [hyiz] at hIz hYz
      refine W.widen (k := 2000 + (j + 1) + 3 * fm + 4 * SM mk 16) (n := 400000 + 6 * (j + 1) + 42 * fm + 69 * SM mk 16) (by show ((2000 + j + 3 * fm + 4 * SM mk 16) + 1) + 0 ≤ 2000 + (j + 1) + 3 * fm + 4 * SM mk 16; omega) (by show ((400000 + 6 * j + 42 * fm + 69 * SM mk 16) + 6) + 0 ≤ 400000 + 6 * (j + 1) + 42 * fm + 69 * SM mk 16; omega) ?_
      have hl := lv_sub hl [2, 3, 4, 5, 6] rfl
      have hl : lv_has ls 7 [(0, .ref b), (1, .ref (ad 0)), (2, .ref y), (3, .ref zo), (4, .int (nI (4 * j)))] := by rw [← hYz.1]; exact hl
      exact hend ad gy T fm mk F n wd dpt lst w ru rl ne Lo (va_up yi 1 1) ysb ybs yA yW zf _ _ ls hIz hYz hP hD hS hl
    · by_cases hv : vokB (yA 6 c0) a2 = true
      · by_cases hk : yA 6 c0 = 0
        · refine lv_aload_n hx hb dL_law_643 rfl (lv_at hl 1 rfl) ?_
          refine lv_aload_n hx hb dL_law_644 rfl (lv_at hl 0 rfl) ?_
          refine lv_iload hx hb dL_law_645 (lv_at hl 4 rfl) ?_
          refine lv_iconst (v := 1) hx hb dL_law_647 (by decide) ?_
          refine lv_iadd hx hb dL_law_648 ?_
          refine lv_topi (fun y9 e9 => ?_)
          cases (show y9 = nI ((4 * j) + 1) from e9.trans (nI_add (4 * j) 1))
          refine va_sld hx hb hX hbl hbA hS (vp_in_nI (n := 4 * j + 1) (N := L) (by omega) (by omega)) dL_law_649 ?_
          refine lv_topi (fun y9 e9 => ?_)
          cases (show y9 = nI c0 from e9.trans (by rw [nI_clamp (by omega)]; exact ha1.symm))
          refine lv_aload_n hx hb dL_law_650 rfl (lv_at hl 0 rfl) ?_
          refine lv_iload hx hb dL_law_651 (lv_at hl 4 rfl) ?_
          refine lv_iconst (v := 2) hx hb dL_law_653 (by decide) ?_
          refine lv_iadd hx hb dL_law_654 ?_
          refine lv_topi (fun y9 e9 => ?_)
          cases (show y9 = nI ((4 * j) + 2) from e9.trans (nI_add (4 * j) 2))
          refine va_sld hx hb hX hbl hbA hS (vp_in_nI (n := 4 * j + 2) (N := L) (by omega) (by omega)) dL_law_655 ?_
          refine lv_topi (fun y9 e9 => ?_)
          cases (show y9 = a2 from e9.trans (by rw [nI_clamp (by omega)]; exact ha2.symm))
          refine lv_aload_n hx hb dL_law_656 rfl (lv_at hl 3 rfl) ?_
          refine hy_iP (X := [(zo, .inl (cT 1, 1, .inr (.inl zf)))]) (pl := pg cds ad gg) (cx := [(zo, .inl (cT 1, 1, .inr (.inl zf)))]) (wr := []) hP hD hS hA [0] [] rfl rfl (by decide) (by decide) (tx_runSH (As := [.ref (ad 0), .int (nI c0), .int a2, .ref zo]) (rest := []) ⟨hx, hb, hml, hown, hT⟩ (l_bin_n l D cT cds ad gg (nI T) (nI wd) (nI n) n (yA 5) (yA 9) (yA 7) (yA 6) ne c0 a2 zo zf hcd hob chtb chCa chCf hq (by omega) hm hne ((tak_v hm).trans hv) hk (hS9 c0 (by omega) hk) _) hT (tc_gd w678 w679 w0 (tb_gd w680)) rfl rfl rfl hL_bin ⟨Nat.le_of_ble_eq_true rfl, Nat.le_of_ble_eq_true rfl⟩ (RW.preS hZ hS (va_freeP (cx := [(zo, .inl (cT 1, 1, .inr (.inl zf)))]) hD hS hA [0] rfl) (hP.part (cx := [(zo, .inl (cT 1, 1, .inr (.inl zf)))]) [0] rfl) hK (hD.part (cx := [(zo, .inl (cT 1, 1, .inr (.inl zf)))]) [0] (by decide) rfl)) rfl hl.1 rfl (Nat.le_of_ble_eq_true rfl) dL_law_657 ⟨(by show (2000 + j + 3 * fm + 4 * SM mk 16) + 0 ≤ 601024; omega), (by show (400000 + 6 * j + 42 * fm + 69 * SM mk 16) + 0 ≤ 7293034; omega)⟩) (fun ru5 u9 H locs hpu5 hP hD hS => ?_)
          have hpu5 : ru5 = 0 := hpu5
          have hP : va_P D vwCl ([(zo, .inl (cT 1, 1, .inr (.inl (vp_updL zf 0 (Int32.toInt64 (nI (cnE (yA 7) (11 * c0) a2 (ne c0))))))))] ++ pg cds ad gg) _ := hP
          have hD : va_D A ([(zo, .inl (cT 1, 1, .inr (.inl (vp_updL zf 0 (Int32.toInt64 (nI (cnE (yA 7) (11 * c0) a2 (ne c0))))))))] ++ pg cds ad gg) := hD
          refine lv_topi (fun y9 e9 => ?_)
          cases (show y9 = 0 from e9.trans hpu5)
          refine lv_istore hx hb dL_law_660 hl (by decide) rfl (fun ls hl => ?_)
          have hl : lv_has ls 7 [(5, .int 0), (0, .ref b), (1, .ref (ad 0)), (2, .ref (ad 5060)), (3, .ref zo), (4, .int (nI (4 * j)))] := hl
          refine lv_aload_n hx hb dL_law_662 rfl (lv_at hl 3 rfl) ?_
          refine lv_aload_n hx hb dL_law_663 rfl (lv_at hl 1 rfl) ?_
          refine lv_iload hx hb dL_law_664 (lv_at hl 5 rfl) ?_
          refine lv_iconst (v := 1) hx hb dL_law_666 (by decide) ?_
          refine lv_iadd hx hb dL_law_667 ?_
          refine lv_topi (fun y9 e9 => ?_)
          cases (show y9 = nI ((4 * j) + 1) from e9.trans (nI_add (4 * j) 1))
          refine va_sld hx hb hX hbl hbA hS (vp_in_nI (n := 4 * j + 1) (N := L) (by omega) (by omega)) dL_law_668 ?_
          refine lv_topi (fun y9 e9 => ?_)
          cases (show y9 = nI c0 from e9.trans (by rw [nI_clamp (by omega)]; exact ha1.symm))
          refine lv_aload_n hx hb dL_law_669 rfl (lv_at hl 1 rfl) ?_
          refine lv_iload hx hb dL_law_670 (lv_at hl 5 rfl) ?_
          refine lv_iconst (v := 2) hx hb dL_law_672 (by decide) ?_
          refine lv_iadd hx hb dL_law_673 ?_
          refine lv_topi (fun y9 e9 => ?_)
          cases (show y9 = nI ((4 * j) + 2) from e9.trans (nI_add (4 * j) 2))
          refine va_sld hx hb hX hbl hbA hS (vp_in_nI (n := 4 * j + 2) (N := L) (by omega) (by omega)) dL_law_674 ?_
          refine lv_topi (fun y9 e9 => ?_)
          cases (show y9 = a2 from e9.trans (by rw [nI_clamp (by omega)]; exact ha2.symm))
          have hB9 : QI gg [(5060, .inr (11, MO yr yi ysb ybs)), (5006, .inl (cT 3, 6, .inl (yA 6))), (5007, .inl (cT 0, 66, .inl (yA 7))), (5008, .inl (cT 0, 6, .inl (yA 8)))] := (qi_c (by decide) hYy (qi_c (by decide) (hYA 6 (by unfold YKy; omega)) (qi_c (by decide) (hYA 7 (by unfold YKy; omega)) (qi_c (by decide) (hYA 8 (by unfold YKy; omega)) qi_0))))
          have hN9 := (show NDc [5060, 5006, 5007, 5008] from (nd_c (na_c (by decide) (na_c (by decide) (na_c (by decide) na_0))) (nd_c (na_c (by decide) (na_c (by decide) na_0)) (nd_c (na_c (by decide) na_0) (nd_c na_0 nd_0)))))
          have hP := bo_P (wc := [(5060, .inr (11, MO yr yi ysb ybs)), (5006, .inl (cT 3, 6, .inl (yA 6))), (5007, .inl (cT 0, 66, .inl (yA 7))), (5008, .inl (cT 0, 6, .inl (yA 8)))]) (X := [(zo, .inl (cT 1, 1, .inr (.inl (vp_updL zf 0 (Int32.toInt64 (nI (cnE (yA 7) (11 * c0) a2 (ne c0))))))))]) hcd hN9 hB9 hP
          have hD := bo_D (wc := [(5060, .inr (11, MO yr yi ysb ybs)), (5006, .inl (cT 3, 6, .inl (yA 6))), (5007, .inl (cT 0, 66, .inl (yA 7))), (5008, .inl (cT 0, 6, .inl (yA 8)))]) (X := [(zo, .inl (cT 1, 1, .inr (.inl (vp_updL zf 0 (Int32.toInt64 (nI (cnE (yA 7) (11 * c0) a2 (ne c0))))))))]) hcd hN9 hB9 hD
          have hP : va_P D vwCl ([(zo, .inl (cT 1, 1, .inr (.inl (vp_updL zf 0 (Int32.toInt64 (nI (cnE (yA 7) (11 * c0) a2 (ne c0)))))))), (ad 5060, .inr (11, MO yr yi ysb ybs)), (ad 5006, .inl (cT 3, 6, .inl (yA 6))), (ad 5007, .inl (cT 0, 66, .inl (yA 7))), (ad 5008, .inl (cT 0, 6, .inl (yA 8)))] ++ pg cds ad (upo gg [5060, 5006, 5007, 5008])) _ := hP
          have hD : va_D A ([(zo, .inl (cT 1, 1, .inr (.inl (vp_updL zf 0 (Int32.toInt64 (nI (cnE (yA 7) (11 * c0) a2 (ne c0)))))))), (ad 5060, .inr (11, MO yr yi ysb ybs)), (ad 5006, .inl (cT 3, 6, .inl (yA 6))), (ad 5007, .inl (cT 0, 66, .inl (yA 7))), (ad 5008, .inl (cT 0, 6, .inl (yA 8)))] ++ pg cds ad (upo gg [5060, 5006, 5007, 5008])) := hD
          have hw9 : ([(zo, .inl (cT 1, 1, .inr (.inl (vp_updL zf 0 (Int32.toInt64 (nI (cnE (yA 7) (11 * c0) a2 (ne c0)))))))), (ad 5060, .inr (11, MO yr yi ysb ybs)), (yr 6, .inl (cT 3, 6, .inl (yA 6))), (yr 7, .inl (cT 0, 66, .inl (yA 7))), (yr 8, .inl (cT 0, 6, .inl (yA 8)))] ++ pg cds ad (upo gg [5060, 5006, 5007, 5008])) = ([(zo, .inl (cT 1, 1, .inr (.inl (vp_updL zf 0 (Int32.toInt64 (nI (cnE (yA 7) (11 * c0) a2 (ne c0)))))))), (ad 5060, .inr (11, MO yr yi ysb ybs)), (ad 5006, .inl (cT 3, 6, .inl (yA 6))), (ad 5007, .inl (cT 0, 66, .inl (yA 7))), (ad 5008, .inl (cT 0, 6, .inl (yA 8)))] ++ pg cds ad (upo gg [5060, 5006, 5007, 5008])) := by rw [show yr 6 = ad 5006 from (hyr 6 (by unfold YKy; omega)).symm, show yr 7 = ad 5007 from (hyr 7 (by unfold YKy; omega)).symm, show yr 8 = ad 5008 from (hyr 8 (by unfold YKy; omega)).symm]
          have hP := vP_eq hw9 hP
          have hD := vD_eq hw9 hD
          have hP : va_P D vwCl ([(zo, .inl (cT 1, 1, .inr (.inl (vp_updL zf 0 (Int32.toInt64 (nI (cnE (yA 7) (11 * c0) a2 (ne c0)))))))), (ad 5060, .inr (11, MO yr yi ysb ybs)), (yr 6, .inl (cT 3, 6, .inl (yA 6))), (yr 7, .inl (cT 0, 66, .inl (yA 7))), (yr 8, .inl (cT 0, 6, .inl (yA 8)))] ++ pg cds ad (upo gg [5060, 5006, 5007, 5008])) _ := hP
          have hD : va_D A ([(zo, .inl (cT 1, 1, .inr (.inl (vp_updL zf 0 (Int32.toInt64 (nI (cnE (yA 7) (11 * c0) a2 (ne c0)))))))), (ad 5060, .inr (11, MO yr yi ysb ybs)), (yr 6, .inl (cT 3, 6, .inl (yA 6))), (yr 7, .inl (cT 0, 66, .inl (yA 7))), (yr 8, .inl (cT 0, 6, .inl (yA 8)))] ++ pg cds ad (upo gg [5060, 5006, 5007, 5008])) := hD
          refine hy_iQ (X := [(zo, .inl (cT 1, 1, .inr (.inl (vp_updL zf 0 (Int32.toInt64 (nI (cnE (yA 7) (11 * c0) a2 (ne c0)))))))), (ad 5060, .inr (11, MO yr yi ysb ybs)), (yr 6, .inl (cT 3, 6, .inl (yA 6))), (yr 7, .inl (cT 0, 66, .inl (yA 7))), (yr 8, .inl (cT 0, 6, .inl (yA 8)))]) (pl := pg cds ad (upo gg [5060, 5006, 5007, 5008])) (cx := [(ad 5060, .inr (11, MO yr yi ysb ybs)), (yr 6, .inl (cT 3, 6, .inl (yA 6))), (yr 7, .inl (cT 0, 66, .inl (yA 7))), (yr 8, .inl (cT 0, 6, .inl (yA 8)))]) (wr := [(zo, .inl (cT 1, 1, .inr (.inl (vp_updL zf 0 (Int32.toInt64 (nI (cnE (yA 7) (11 * c0) a2 (ne c0))))))))]) hP hD hS hA [1, 2, 3, 4] [0] rfl rfl (by decide) (by decide) (va_runV (As := [.int (nI c0), .int a2]) (rest := []) ⟨hx, hb, hml, hown, hT⟩ (y_bin_n l D cT (ad 5060) yr yi ysb ybs (yA 6) (yA 7) (yA 8) c0 (ne c0) a2 (by rw [y2]; exact hq) (by omega) hv hk (y8e c0 (by omega)) (hne c0 (by omega)) _) ⟨callB_of 2 hT (tb_gd w1350) rfl rfl rfl (hT _ w13) (hT _ w1347) hM_bin ⟨Nat.le_of_ble_eq_true rfl, Nat.le_of_ble_eq_true rfl⟩, (hT _ w1348), (hT _ w1349)⟩ (RW.preV (ci := 11) (q0 := 0) hZ hS (hy_free (cx := [(ad 5060, .inr (11, MO yr yi ysb ybs)), (yr 6, .inl (cT 3, 6, .inl (yA 6))), (yr 7, .inl (cT 0, 66, .inl (yA 7))), (yr 8, .inl (cT 0, 6, .inl (yA 8)))]) hD hS hA [1, 2, 3, 4] rfl) (hP.sub (ws' := [(ad 5060, .inr (11, MO yr yi ysb ybs)), (yr 6, .inl (cT 3, 6, .inl (yA 6))), (yr 7, .inl (cT 0, 66, .inl (yA 7))), (yr 8, .inl (cT 0, 6, .inl (yA 8)))]) [1, 2, 3, 4] rfl) hK (hD.sub (ws' := [(ad 5060, .inr (11, MO yr yi ysb ybs)), (yr 6, .inl (cT 3, 6, .inl (yA 6))), (yr 7, .inl (cT 0, 66, .inl (yA 7))), (yr 8, .inl (cT 0, 6, .inl (yA 8)))]) [1, 2, 3, 4] (by decide) rfl) rfl rfl) rfl rfl hl.1 rfl (lv_room (Nat.le_of_ble_eq_true rfl)) dL_law_675 ⟨(by show ((2000 + j + 3 * fm + 4 * SM mk 16) + 0) + 0 ≤ 601024; omega), (by show ((400000 + 6 * j + 42 * fm + 69 * SM mk 16) + 0) + 0 ≤ 7293034; omega)⟩) (fun ru6 u9 H locs hpu6 hP hD hS => ?_)
          have hpu6 : ru6 = nI (cnE (yA 7) (11 * c0) a2 (ne c0)) := hpu6
          have hP : va_P D vwCl ([(zo, .inl (cT 1, 1, .inr (.inl (vp_updL zf 0 (Int32.toInt64 (nI (cnE (yA 7) (11 * c0) a2 (ne c0)))))))), (ad 5060, .inr (11, MO yr (va_up yi 1 0) ysb ybs)), (yr 6, .inl (cT 3, 6, .inl (yA 6))), (yr 7, .inl (cT 0, 66, .inl (yA 7))), (yr 8, .inl (cT 0, 6, .inl (yA 8)))] ++ pg cds ad (upo gg [5060, 5006, 5007, 5008])) _ := hP
          have hD : va_D A ([(zo, .inl (cT 1, 1, .inr (.inl (vp_updL zf 0 (Int32.toInt64 (nI (cnE (yA 7) (11 * c0) a2 (ne c0)))))))), (ad 5060, .inr (11, MO yr (va_up yi 1 0) ysb ybs)), (yr 6, .inl (cT 3, 6, .inl (yA 6))), (yr 7, .inl (cT 0, 66, .inl (yA 7))), (yr 8, .inl (cT 0, 6, .inl (yA 8)))] ++ pg cds ad (upo gg [5060, 5006, 5007, 5008])) := hD
          have hw9 : ([(zo, .inl (cT 1, 1, .inr (.inl (vp_updL zf 0 (Int32.toInt64 (nI (cnE (yA 7) (11 * c0) a2 (ne c0)))))))), (ad 5060, .inr (11, MO yr (va_up yi 1 0) ysb ybs)), (ad 5006, .inl (cT 3, 6, .inl (yA 6))), (ad 5007, .inl (cT 0, 66, .inl (yA 7))), (ad 5008, .inl (cT 0, 6, .inl (yA 8)))] ++ pg cds ad (upo gg [5060, 5006, 5007, 5008])) = ([(zo, .inl (cT 1, 1, .inr (.inl (vp_updL zf 0 (Int32.toInt64 (nI (cnE (yA 7) (11 * c0) a2 (ne c0)))))))), (ad 5060, .inr (11, MO yr (va_up yi 1 0) ysb ybs)), (yr 6, .inl (cT 3, 6, .inl (yA 6))), (yr 7, .inl (cT 0, 66, .inl (yA 7))), (yr 8, .inl (cT 0, 6, .inl (yA 8)))] ++ pg cds ad (upo gg [5060, 5006, 5007, 5008])) := by rw [show ad 5006 = yr 6 from hyr 6 (by unfold YKy; omega), show ad 5007 = yr 7 from hyr 7 (by unfold YKy; omega), show ad 5008 = yr 8 from hyr 8 (by unfold YKy; omega)]
          have hP := vP_eq hw9 hP
          have hD := vD_eq hw9 hD
          have hP : va_P D vwCl ([(zo, .inl (cT 1, 1, .inr (.inl (vp_updL zf 0 (Int32.toInt64 (nI (cnE (yA 7) (11 * c0) a2 (ne c0)))))))), (ad 5060, .inr (11, MO yr (va_up yi 1 0) ysb ybs)), (ad 5006, .inl (cT 3, 6, .inl (yA 6))), (ad 5007, .inl (cT 0, 66, .inl (yA 7))), (ad 5008, .inl (cT 0, 6, .inl (yA 8)))] ++ pg cds ad (upo gg [5060, 5006, 5007, 5008])) _ := hP
          have hD : va_D A ([(zo, .inl (cT 1, 1, .inr (.inl (vp_updL zf 0 (Int32.toInt64 (nI (cnE (yA 7) (11 * c0) a2 (ne c0)))))))), (ad 5060, .inr (11, MO yr (va_up yi 1 0) ysb ybs)), (ad 5006, .inl (cT 3, 6, .inl (yA 6))), (ad 5007, .inl (cT 0, 66, .inl (yA 7))), (ad 5008, .inl (cT 0, 6, .inl (yA 8)))] ++ pg cds ad (upo gg [5060, 5006, 5007, 5008])) := hD
          have hN9 := (show NDc [5060, 5006, 5007, 5008] from (nd_c (na_c (by decide) (na_c (by decide) (na_c (by decide) na_0))) (nd_c (na_c (by decide) (na_c (by decide) na_0)) (nd_c (na_c (by decide) na_0) (nd_c na_0 nd_0)))))
          have hP := gb_P (w9 := [(5060, .inr (11, MO yr (va_up yi 1 0) ysb ybs)), (5006, .inl (cT 3, 6, .inl (yA 6))), (5007, .inl (cT 0, 66, .inl (yA 7))), (5008, .inl (cT 0, 6, .inl (yA 8)))]) (X := [(zo, .inl (cT 1, 1, .inr (.inl (vp_updL zf 0 (Int32.toInt64 (nI (cnE (yA 7) (11 * c0) a2 (ne c0))))))))]) (g := gg) hcd hN9 (show QB [(5060, .inr (11, MO yr (va_up yi 1 0) ysb ybs)), (5006, .inl (cT 3, 6, .inl (yA 6))), (5007, .inl (cT 0, 66, .inl (yA 7))), (5008, .inl (cT 0, 6, .inl (yA 8)))] from (qb_c (by decide) (qb_c (by decide) (qb_c (by decide) (qb_c (by decide) qb_0))))) (hP.part (cx := [(zo, .inl (cT 1, 1, .inr (.inl (vp_updL zf 0 (Int32.toInt64 (nI (cnE (yA 7) (11 * c0) a2 (ne c0)))))))), (ad 5060, .inr (11, MO yr (va_up yi 1 0) ysb ybs)), (ad 5006, .inl (cT 3, 6, .inl (yA 6))), (ad 5007, .inl (cT 0, 66, .inl (yA 7))), (ad 5008, .inl (cT 0, 6, .inl (yA 8)))]) [0, 1, 2, 3, 4] rfl)
          have hD := gb_D (w9 := [(5060, .inr (11, MO yr (va_up yi 1 0) ysb ybs)), (5006, .inl (cT 3, 6, .inl (yA 6))), (5007, .inl (cT 0, 66, .inl (yA 7))), (5008, .inl (cT 0, 6, .inl (yA 8)))]) (X := [(zo, .inl (cT 1, 1, .inr (.inl (vp_updL zf 0 (Int32.toInt64 (nI (cnE (yA 7) (11 * c0) a2 (ne c0))))))))]) (g := gg) hcd hN9 (show QB [(5060, .inr (11, MO yr (va_up yi 1 0) ysb ybs)), (5006, .inl (cT 3, 6, .inl (yA 6))), (5007, .inl (cT 0, 66, .inl (yA 7))), (5008, .inl (cT 0, 6, .inl (yA 8)))] from (qb_c (by decide) (qb_c (by decide) (qb_c (by decide) (qb_c (by decide) qb_0))))) (hD.part (cx := [(zo, .inl (cT 1, 1, .inr (.inl (vp_updL zf 0 (Int32.toInt64 (nI (cnE (yA 7) (11 * c0) a2 (ne c0)))))))), (ad 5060, .inr (11, MO yr (va_up yi 1 0) ysb ybs)), (ad 5006, .inl (cT 3, 6, .inl (yA 6))), (ad 5007, .inl (cT 0, 66, .inl (yA 7))), (ad 5008, .inl (cT 0, 6, .inl (yA 8)))]) [0, 1, 2, 3, 4] (by decide) rfl)
          obtain ⟨gy, hgy⟩ : ∃ q9, q9 = ups gg [(5060, .inr (11, MO yr (va_up yi 1 0) ysb ybs)), (5006, .inl (cT 3, 6, .inl (yA 6))), (5007, .inl (cT 0, 66, .inl (yA 7))), (5008, .inl (cT 0, 6, .inl (yA 8)))] := ⟨_, rfl⟩
          rw [← hgy] at hP hD
          have hP : va_P D vwCl ([(zo, .inl (cT 1, 1, .inr (.inl (vp_updL zf 0 (Int32.toInt64 (nI (cnE (yA 7) (11 * c0) a2 (ne c0))))))))] ++ pg cds ad gy) _ := hP
          have hD : va_D A ([(zo, .inl (cT 1, 1, .inr (.inl (vp_updL zf 0 (Int32.toInt64 (nI (cnE (yA 7) (11 * c0) a2 (ne c0))))))))] ++ pg cds ad gy) := hD
          have fgy : ∀ z8, z8 ≠ 5060 → gy z8 = gg z8 := fun z8 z1 => by rw [hgy]; exact ups_k (kp_n z1 (kp_s (hYA 6 (by unfold YKy; omega)) (kp_s (hYA 7 (by unfold YKy; omega)) (kp_s (hYA 8 (by unfold YKy; omega)) kp_0))))
          have gy_0 : gy 5060 = some (.inr (11, MO yr (va_up yi 1 0) ysb ybs)) := by rw [hgy]; exact ups_1
          refine lv_istore hx hb dL_law_678 hl (by decide) rfl (fun ls hl => ?_)
          have hl : lv_has ls 7 [(6, .int ru6), (5, .int 0), (0, .ref b), (1, .ref (ad 0)), (2, .ref (ad 5060)), (3, .ref zo), (4, .int (nI (4 * j)))] := hl
          refine lv_aload_n hx hb dL_law_680 rfl (lv_at hl 4 rfl) ?_
          refine ro_i (va_Run.run (va_runV (As := []) (rest := []) ⟨hx, hb, hml, hown, hT⟩ (m_thrown l D cT (ad 5060) yr (va_up yi 1 0) ysb ybs) ⟨callB_of 0 hT (tb_gd w1290) rfl rfl rfl (hT _ w13) (hT _ w1287) hM_thrown ⟨Nat.le_of_ble_eq_true rfl, Nat.le_of_ble_eq_true rfl⟩, (hT _ w1288), (hT _ w1289)⟩ (RO.preV (ci := 11) (q0 := 0) hZ hS ((show va_P D vwCl [(ad 5060, .inr (11, MO yr (va_up yi 1 0) ysb ybs))] _ from (pv_c (pg_1 (x := 5060) hcd hP (by decide) gy_0) pv_0))) hK rfl rfl) rfl rfl hl.1 rfl (lv_room (Nat.le_of_ble_eq_true rfl)) dL_law_681 ⟨(by show (((2000 + j + 3 * fm + 4 * SM mk 16) + 0) + 0) + 0 ≤ 601024; omega), (by show (((400000 + 6 * j + 42 * fm + 69 * SM mk 16) + 0) + 0) + 0 ≤ 7293034; omega)⟩)) ?_
          refine lv_topi (fun y9 e9 => ?_)
          cases (show y9 = 0 from e9.trans rfl)
          refine lv_iload hx hb dL_law_684 (lv_at hl 1 rfl) ?_
          refine lv_icmp_eq (tgt := 691) hx hb dL_law_686 rfl (fun _ => ?_) (fun h7 => absurd (by decide) h7)
          refine lv_iload hx hb dL_law_691 (lv_at hl 1 rfl) ?_
          refine lv_if_ne (tgt := 708) hx hb dL_law_693 rfl (fun h8 => absurd (by decide) h8) (fun _ => ?_)
          refine lv_aload_n hx hb dL_law_696 rfl (lv_at hl 5 rfl) ?_
          refine lv_iconst (v := 0) hx hb dL_law_697 (by decide) ?_
          refine va_lald hx hb hK hP 0 1 rfl rfl (by unfold vp_in; decide) dL_law_698 ?_
          refine lv_iload hx hb dL_law_699 (lv_at hl 0 rfl) ?_
          refine lv_i2l hx hb dL_law_701 rfl ?_
          refine W.lcmp hx hb dL_law_702 ?_
          refine lv_if_eq (tgt := 708) hx hb dL_law_703 rfl (fun _ => ?_) (fun h9 => absurd ((lg_cmp_eq _ _).mpr (pk_uLs.trans (congrArg Int32.toInt64 hpu6.symm))) h9)
          refine lv_goto (tgt := 1690) hx hb dL_law_708 rfl ?_
          obtain ⟨yiz, hyiz⟩ : ∃ f9 : Nat → Int32, f9 = va_up yi 1 0 := ⟨_, rfl⟩
          have hIz : LWI cT ad gg tE T fm mk F n wd dpt lst w ru rl ne Lo yiz ysb yA := hI.sc (fun k hk => by rw [hyiz]; exact va_up_ne _ _ hk) (fun _ _ => rfl)
          have hIz := hIz.yg (g2 := gy) (fun z8 hz => fgy z8 (by omega))
          have hYz : YCL cT ad gy y yr yiz ysb ybs yA yW F := by
            refine ⟨hYad, hyr, (by rw [hyiz]; exact gy_0), fun k hk => ?_⟩
            have hk2 : k = 0 ∨ (4 ≤ k ∧ k ≤ 9) ∨ (18 ≤ k ∧ k ≤ 46) ∨ k = 48 ∨ k = 49 ∨ (56 ≤ k ∧ k ≤ 59) := hk
            exact (fgy (5000 + k) (by omega)).trans ((hYA k hk).trans (congrArg some (ycl_o rfl).symm))
          rw [hyiz] at hIz hYz
          refine W.widen (k := 2000 + (j + 1) + 3 * fm + 4 * SM mk 16) (n := 400000 + 6 * (j + 1) + 42 * fm + 69 * SM mk 16) (by show ((2000 + j + 3 * fm + 4 * SM mk 16) + 0) + 0 ≤ 2000 + (j + 1) + 3 * fm + 4 * SM mk 16; omega) (by show ((400000 + 6 * j + 42 * fm + 69 * SM mk 16) + 0) + 0 ≤ 400000 + 6 * (j + 1) + 42 * fm + 69 * SM mk 16; omega) ?_
          have hl := lv_sub hl [2, 3, 4, 5, 6] rfl
          have hl : lv_has ls 7 [(0, .ref b), (1, .ref (ad 0)), (2, .ref y), (3, .ref zo), (4, .int (nI (4 * j)))] := by rw [← hYz.1]; exact hl
          exact hend ad gy T fm mk F n wd dpt lst w ru rl ne Lo (va_up yi 1 0) ysb ybs yA yW (vp_updL zf 0 (Int32.toInt64 (nI (cnE (yA 7) (11 * c0) a2 (ne c0))))) _ _ ls hIz hYz hP hD hS hl
        · refine lv_aload_n hx hb dL_law_643 rfl (lv_at hl 1 rfl) ?_
          refine lv_aload_n hx hb dL_law_644 rfl (lv_at hl 0 rfl) ?_
          refine lv_iload hx hb dL_law_645 (lv_at hl 4 rfl) ?_
          refine lv_iconst (v := 1) hx hb dL_law_647 (by decide) ?_
          refine lv_iadd hx hb dL_law_648 ?_
          refine lv_topi (fun y9 e9 => ?_)
          cases (show y9 = nI ((4 * j) + 1) from e9.trans (nI_add (4 * j) 1))
          refine va_sld hx hb hX hbl hbA hS (vp_in_nI (n := 4 * j + 1) (N := L) (by omega) (by omega)) dL_law_649 ?_
          refine lv_topi (fun y9 e9 => ?_)
          cases (show y9 = nI c0 from e9.trans (by rw [nI_clamp (by omega)]; exact ha1.symm))
          refine lv_aload_n hx hb dL_law_650 rfl (lv_at hl 0 rfl) ?_
          refine lv_iload hx hb dL_law_651 (lv_at hl 4 rfl) ?_
          refine lv_iconst (v := 2) hx hb dL_law_653 (by decide) ?_
          refine lv_iadd hx hb dL_law_654 ?_
          refine lv_topi (fun y9 e9 => ?_)
          cases (show y9 = nI ((4 * j) + 2) from e9.trans (nI_add (4 * j) 2))
          refine va_sld hx hb hX hbl hbA hS (vp_in_nI (n := 4 * j + 2) (N := L) (by omega) (by omega)) dL_law_655 ?_
          refine lv_topi (fun y9 e9 => ?_)
          cases (show y9 = a2 from e9.trans (by rw [nI_clamp (by omega)]; exact ha2.symm))
          refine lv_aload_n hx hb dL_law_656 rfl (lv_at hl 3 rfl) ?_
          refine hy_iP (X := [(zo, .inl (cT 1, 1, .inr (.inl zf)))]) (pl := pg cds ad gg) (cx := [(zo, .inl (cT 1, 1, .inr (.inl zf)))]) (wr := []) hP hD hS hA [0] [] rfl rfl (by decide) (by decide) (tx_runSH (As := [.ref (ad 0), .int (nI c0), .int a2, .ref zo]) (rest := []) ⟨hx, hb, hml, hown, hT⟩ (l_bin_k l D cT cds ad gg (nI T) (nI wd) (nI n) n (yA 5) (yA 9) (yA 7) (yA 6) ne c0 a2 zo zf hcd hob chtb chCa chCf hq (by omega) hm ((tak_v hm).trans hv) hk _) hT (tc_gd w678 w679 w0 (tb_gd w680)) rfl rfl rfl hL_bin ⟨Nat.le_of_ble_eq_true rfl, Nat.le_of_ble_eq_true rfl⟩ (RW.preS hZ hS (va_freeP (cx := [(zo, .inl (cT 1, 1, .inr (.inl zf)))]) hD hS hA [0] rfl) (hP.part (cx := [(zo, .inl (cT 1, 1, .inr (.inl zf)))]) [0] rfl) hK (hD.part (cx := [(zo, .inl (cT 1, 1, .inr (.inl zf)))]) [0] (by decide) rfl)) rfl hl.1 rfl (Nat.le_of_ble_eq_true rfl) dL_law_657 ⟨(by show (2000 + j + 3 * fm + 4 * SM mk 16) + 0 ≤ 601024; omega), (by show (400000 + 6 * j + 42 * fm + 69 * SM mk 16) + 0 ≤ 7293034; omega)⟩) (fun ru10 u9 H locs hpu10 hP hD hS => ?_)
          have hpu10 : ru10 = 0 := hpu10
          have hP : va_P D vwCl ([(zo, .inl (cT 1, 1, .inr (.inl (vp_updL zf 0 (Int32.toInt64 a2)))))] ++ pg cds ad gg) _ := hP
          have hD : va_D A ([(zo, .inl (cT 1, 1, .inr (.inl (vp_updL zf 0 (Int32.toInt64 a2)))))] ++ pg cds ad gg) := hD
          refine lv_topi (fun y9 e9 => ?_)
          cases (show y9 = 0 from e9.trans hpu10)
          refine lv_istore hx hb dL_law_660 hl (by decide) rfl (fun ls hl => ?_)
          have hl : lv_has ls 7 [(5, .int 0), (0, .ref b), (1, .ref (ad 0)), (2, .ref (ad 5060)), (3, .ref zo), (4, .int (nI (4 * j)))] := hl
          refine lv_aload_n hx hb dL_law_662 rfl (lv_at hl 3 rfl) ?_
          refine lv_aload_n hx hb dL_law_663 rfl (lv_at hl 1 rfl) ?_
          refine lv_iload hx hb dL_law_664 (lv_at hl 5 rfl) ?_
          refine lv_iconst (v := 1) hx hb dL_law_666 (by decide) ?_
          refine lv_iadd hx hb dL_law_667 ?_
          refine lv_topi (fun y9 e9 => ?_)
          cases (show y9 = nI ((4 * j) + 1) from e9.trans (nI_add (4 * j) 1))
          refine va_sld hx hb hX hbl hbA hS (vp_in_nI (n := 4 * j + 1) (N := L) (by omega) (by omega)) dL_law_668 ?_
          refine lv_topi (fun y9 e9 => ?_)
          cases (show y9 = nI c0 from e9.trans (by rw [nI_clamp (by omega)]; exact ha1.symm))
          refine lv_aload_n hx hb dL_law_669 rfl (lv_at hl 1 rfl) ?_
          refine lv_iload hx hb dL_law_670 (lv_at hl 5 rfl) ?_
          refine lv_iconst (v := 2) hx hb dL_law_672 (by decide) ?_
          refine lv_iadd hx hb dL_law_673 ?_
          refine lv_topi (fun y9 e9 => ?_)
          cases (show y9 = nI ((4 * j) + 2) from e9.trans (nI_add (4 * j) 2))
          refine va_sld hx hb hX hbl hbA hS (vp_in_nI (n := 4 * j + 2) (N := L) (by omega) (by omega)) dL_law_674 ?_
          refine lv_topi (fun y9 e9 => ?_)
          cases (show y9 = a2 from e9.trans (by rw [nI_clamp (by omega)]; exact ha2.symm))
          have hB9 : QI gg [(5060, .inr (11, MO yr yi ysb ybs)), (5006, .inl (cT 3, 6, .inl (yA 6)))] := (qi_c (by decide) hYy (qi_c (by decide) (hYA 6 (by unfold YKy; omega)) qi_0))
          have hN9 := (show NDc [5060, 5006] from (nd_c (na_c (by decide) na_0) (nd_c na_0 nd_0)))
          have hP := bo_P (wc := [(5060, .inr (11, MO yr yi ysb ybs)), (5006, .inl (cT 3, 6, .inl (yA 6)))]) (X := [(zo, .inl (cT 1, 1, .inr (.inl (vp_updL zf 0 (Int32.toInt64 a2)))))]) hcd hN9 hB9 hP
          have hD := bo_D (wc := [(5060, .inr (11, MO yr yi ysb ybs)), (5006, .inl (cT 3, 6, .inl (yA 6)))]) (X := [(zo, .inl (cT 1, 1, .inr (.inl (vp_updL zf 0 (Int32.toInt64 a2)))))]) hcd hN9 hB9 hD
          have hP : va_P D vwCl ([(zo, .inl (cT 1, 1, .inr (.inl (vp_updL zf 0 (Int32.toInt64 a2))))), (ad 5060, .inr (11, MO yr yi ysb ybs)), (ad 5006, .inl (cT 3, 6, .inl (yA 6)))] ++ pg cds ad (upo gg [5060, 5006])) _ := hP
          have hD : va_D A ([(zo, .inl (cT 1, 1, .inr (.inl (vp_updL zf 0 (Int32.toInt64 a2))))), (ad 5060, .inr (11, MO yr yi ysb ybs)), (ad 5006, .inl (cT 3, 6, .inl (yA 6)))] ++ pg cds ad (upo gg [5060, 5006])) := hD
          have hw9 : ([(zo, .inl (cT 1, 1, .inr (.inl (vp_updL zf 0 (Int32.toInt64 a2))))), (ad 5060, .inr (11, MO yr yi ysb ybs)), (yr 6, .inl (cT 3, 6, .inl (yA 6)))] ++ pg cds ad (upo gg [5060, 5006])) = ([(zo, .inl (cT 1, 1, .inr (.inl (vp_updL zf 0 (Int32.toInt64 a2))))), (ad 5060, .inr (11, MO yr yi ysb ybs)), (ad 5006, .inl (cT 3, 6, .inl (yA 6)))] ++ pg cds ad (upo gg [5060, 5006])) := by rw [show yr 6 = ad 5006 from (hyr 6 (by unfold YKy; omega)).symm]
          have hP := vP_eq hw9 hP
          have hD := vD_eq hw9 hD
          have hP : va_P D vwCl ([(zo, .inl (cT 1, 1, .inr (.inl (vp_updL zf 0 (Int32.toInt64 a2))))), (ad 5060, .inr (11, MO yr yi ysb ybs)), (yr 6, .inl (cT 3, 6, .inl (yA 6)))] ++ pg cds ad (upo gg [5060, 5006])) _ := hP
          have hD : va_D A ([(zo, .inl (cT 1, 1, .inr (.inl (vp_updL zf 0 (Int32.toInt64 a2))))), (ad 5060, .inr (11, MO yr yi ysb ybs)), (yr 6, .inl (cT 3, 6, .inl (yA 6)))] ++ pg cds ad (upo gg [5060, 5006])) := hD
          refine hy_iQ (X := [(zo, .inl (cT 1, 1, .inr (.inl (vp_updL zf 0 (Int32.toInt64 a2))))), (ad 5060, .inr (11, MO yr yi ysb ybs)), (yr 6, .inl (cT 3, 6, .inl (yA 6)))]) (pl := pg cds ad (upo gg [5060, 5006])) (cx := [(ad 5060, .inr (11, MO yr yi ysb ybs)), (yr 6, .inl (cT 3, 6, .inl (yA 6)))]) (wr := [(zo, .inl (cT 1, 1, .inr (.inl (vp_updL zf 0 (Int32.toInt64 a2)))))]) hP hD hS hA [1, 2] [0] rfl rfl (by decide) (by decide) (va_runV (As := [.int (nI c0), .int a2]) (rest := []) ⟨hx, hb, hml, hown, hT⟩ (y_bin_k l D cT (ad 5060) yr yi ysb ybs (yA 6) c0 a2 (by rw [y2]; exact hq) (by omega) hv hk _) ⟨callB_of 2 hT (tb_gd w1350) rfl rfl rfl (hT _ w13) (hT _ w1347) hM_bin ⟨Nat.le_of_ble_eq_true rfl, Nat.le_of_ble_eq_true rfl⟩, (hT _ w1348), (hT _ w1349)⟩ (RW.preV (ci := 11) (q0 := 0) hZ hS (hy_free (cx := [(ad 5060, .inr (11, MO yr yi ysb ybs)), (yr 6, .inl (cT 3, 6, .inl (yA 6)))]) hD hS hA [1, 2] rfl) (hP.sub (ws' := [(ad 5060, .inr (11, MO yr yi ysb ybs)), (yr 6, .inl (cT 3, 6, .inl (yA 6)))]) [1, 2] rfl) hK (hD.sub (ws' := [(ad 5060, .inr (11, MO yr yi ysb ybs)), (yr 6, .inl (cT 3, 6, .inl (yA 6)))]) [1, 2] (by decide) rfl) rfl rfl) rfl rfl hl.1 rfl (lv_room (Nat.le_of_ble_eq_true rfl)) dL_law_675 ⟨(by show ((2000 + j + 3 * fm + 4 * SM mk 16) + 0) + 0 ≤ 601024; omega), (by show ((400000 + 6 * j + 42 * fm + 69 * SM mk 16) + 0) + 0 ≤ 7293034; omega)⟩) (fun ru11 u9 H locs hpu11 hP hD hS => ?_)
          have hpu11 : ru11 = a2 := hpu11
          have hP : va_P D vwCl ([(zo, .inl (cT 1, 1, .inr (.inl (vp_updL zf 0 (Int32.toInt64 a2))))), (ad 5060, .inr (11, MO yr (va_up yi 1 0) ysb ybs)), (yr 6, .inl (cT 3, 6, .inl (yA 6)))] ++ pg cds ad (upo gg [5060, 5006])) _ := hP
          have hD : va_D A ([(zo, .inl (cT 1, 1, .inr (.inl (vp_updL zf 0 (Int32.toInt64 a2))))), (ad 5060, .inr (11, MO yr (va_up yi 1 0) ysb ybs)), (yr 6, .inl (cT 3, 6, .inl (yA 6)))] ++ pg cds ad (upo gg [5060, 5006])) := hD
          have hw9 : ([(zo, .inl (cT 1, 1, .inr (.inl (vp_updL zf 0 (Int32.toInt64 a2))))), (ad 5060, .inr (11, MO yr (va_up yi 1 0) ysb ybs)), (ad 5006, .inl (cT 3, 6, .inl (yA 6)))] ++ pg cds ad (upo gg [5060, 5006])) = ([(zo, .inl (cT 1, 1, .inr (.inl (vp_updL zf 0 (Int32.toInt64 a2))))), (ad 5060, .inr (11, MO yr (va_up yi 1 0) ysb ybs)), (yr 6, .inl (cT 3, 6, .inl (yA 6)))] ++ pg cds ad (upo gg [5060, 5006])) := by rw [show ad 5006 = yr 6 from hyr 6 (by unfold YKy; omega)]
          have hP := vP_eq hw9 hP
          have hD := vD_eq hw9 hD
          have hP : va_P D vwCl ([(zo, .inl (cT 1, 1, .inr (.inl (vp_updL zf 0 (Int32.toInt64 a2))))), (ad 5060, .inr (11, MO yr (va_up yi 1 0) ysb ybs)), (ad 5006, .inl (cT 3, 6, .inl (yA 6)))] ++ pg cds ad (upo gg [5060, 5006])) _ := hP
          have hD : va_D A ([(zo, .inl (cT 1, 1, .inr (.inl (vp_updL zf 0 (Int32.toInt64 a2))))), (ad 5060, .inr (11, MO yr (va_up yi 1 0) ysb ybs)), (ad 5006, .inl (cT 3, 6, .inl (yA 6)))] ++ pg cds ad (upo gg [5060, 5006])) := hD
          have hN9 := (show NDc [5060, 5006] from (nd_c (na_c (by decide) na_0) (nd_c na_0 nd_0)))
          have hP := gb_P (w9 := [(5060, .inr (11, MO yr (va_up yi 1 0) ysb ybs)), (5006, .inl (cT 3, 6, .inl (yA 6)))]) (X := [(zo, .inl (cT 1, 1, .inr (.inl (vp_updL zf 0 (Int32.toInt64 a2)))))]) (g := gg) hcd hN9 (show QB [(5060, .inr (11, MO yr (va_up yi 1 0) ysb ybs)), (5006, .inl (cT 3, 6, .inl (yA 6)))] from (qb_c (by decide) (qb_c (by decide) qb_0))) (hP.part (cx := [(zo, .inl (cT 1, 1, .inr (.inl (vp_updL zf 0 (Int32.toInt64 a2))))), (ad 5060, .inr (11, MO yr (va_up yi 1 0) ysb ybs)), (ad 5006, .inl (cT 3, 6, .inl (yA 6)))]) [0, 1, 2] rfl)
          have hD := gb_D (w9 := [(5060, .inr (11, MO yr (va_up yi 1 0) ysb ybs)), (5006, .inl (cT 3, 6, .inl (yA 6)))]) (X := [(zo, .inl (cT 1, 1, .inr (.inl (vp_updL zf 0 (Int32.toInt64 a2)))))]) (g := gg) hcd hN9 (show QB [(5060, .inr (11, MO yr (va_up yi 1 0) ysb ybs)), (5006, .inl (cT 3, 6, .inl (yA 6)))] from (qb_c (by decide) (qb_c (by decide) qb_0))) (hD.part (cx := [(zo, .inl (cT 1, 1, .inr (.inl (vp_updL zf 0 (Int32.toInt64 a2))))), (ad 5060, .inr (11, MO yr (va_up yi 1 0) ysb ybs)), (ad 5006, .inl (cT 3, 6, .inl (yA 6)))]) [0, 1, 2] (by decide) rfl)
          obtain ⟨gy, hgy⟩ : ∃ q9, q9 = ups gg [(5060, .inr (11, MO yr (va_up yi 1 0) ysb ybs)), (5006, .inl (cT 3, 6, .inl (yA 6)))] := ⟨_, rfl⟩
          rw [← hgy] at hP hD
          have hP : va_P D vwCl ([(zo, .inl (cT 1, 1, .inr (.inl (vp_updL zf 0 (Int32.toInt64 a2)))))] ++ pg cds ad gy) _ := hP
          have hD : va_D A ([(zo, .inl (cT 1, 1, .inr (.inl (vp_updL zf 0 (Int32.toInt64 a2)))))] ++ pg cds ad gy) := hD
          have fgy : ∀ z8, z8 ≠ 5060 → gy z8 = gg z8 := fun z8 z1 => by rw [hgy]; exact ups_k (kp_n z1 (kp_s (hYA 6 (by unfold YKy; omega)) kp_0))
          have gy_0 : gy 5060 = some (.inr (11, MO yr (va_up yi 1 0) ysb ybs)) := by rw [hgy]; exact ups_1
          refine lv_istore hx hb dL_law_678 hl (by decide) rfl (fun ls hl => ?_)
          have hl : lv_has ls 7 [(6, .int ru11), (5, .int 0), (0, .ref b), (1, .ref (ad 0)), (2, .ref (ad 5060)), (3, .ref zo), (4, .int (nI (4 * j)))] := hl
          refine lv_aload_n hx hb dL_law_680 rfl (lv_at hl 4 rfl) ?_
          refine ro_i (va_Run.run (va_runV (As := []) (rest := []) ⟨hx, hb, hml, hown, hT⟩ (m_thrown l D cT (ad 5060) yr (va_up yi 1 0) ysb ybs) ⟨callB_of 0 hT (tb_gd w1290) rfl rfl rfl (hT _ w13) (hT _ w1287) hM_thrown ⟨Nat.le_of_ble_eq_true rfl, Nat.le_of_ble_eq_true rfl⟩, (hT _ w1288), (hT _ w1289)⟩ (RO.preV (ci := 11) (q0 := 0) hZ hS ((show va_P D vwCl [(ad 5060, .inr (11, MO yr (va_up yi 1 0) ysb ybs))] _ from (pv_c (pg_1 (x := 5060) hcd hP (by decide) gy_0) pv_0))) hK rfl rfl) rfl rfl hl.1 rfl (lv_room (Nat.le_of_ble_eq_true rfl)) dL_law_681 ⟨(by show (((2000 + j + 3 * fm + 4 * SM mk 16) + 0) + 0) + 0 ≤ 601024; omega), (by show (((400000 + 6 * j + 42 * fm + 69 * SM mk 16) + 0) + 0) + 0 ≤ 7293034; omega)⟩)) ?_
          refine lv_topi (fun y9 e9 => ?_)
          cases (show y9 = 0 from e9.trans rfl)
          refine lv_iload hx hb dL_law_684 (lv_at hl 1 rfl) ?_
          refine lv_icmp_eq (tgt := 691) hx hb dL_law_686 rfl (fun _ => ?_) (fun h12 => absurd (by decide) h12)
          refine lv_iload hx hb dL_law_691 (lv_at hl 1 rfl) ?_
          refine lv_if_ne (tgt := 708) hx hb dL_law_693 rfl (fun h13 => absurd (by decide) h13) (fun _ => ?_)
          refine lv_aload_n hx hb dL_law_696 rfl (lv_at hl 5 rfl) ?_
          refine lv_iconst (v := 0) hx hb dL_law_697 (by decide) ?_
          refine va_lald hx hb hK hP 0 1 rfl rfl (by unfold vp_in; decide) dL_law_698 ?_
          refine lv_iload hx hb dL_law_699 (lv_at hl 0 rfl) ?_
          refine lv_i2l hx hb dL_law_701 rfl ?_
          refine W.lcmp hx hb dL_law_702 ?_
          refine lv_if_eq (tgt := 708) hx hb dL_law_703 rfl (fun _ => ?_) (fun h14 => absurd ((lg_cmp_eq _ _).mpr (pk_uLs.trans (congrArg Int32.toInt64 hpu11.symm))) h14)
          refine lv_goto (tgt := 1690) hx hb dL_law_708 rfl ?_
          obtain ⟨yiz, hyiz⟩ : ∃ f9 : Nat → Int32, f9 = va_up yi 1 0 := ⟨_, rfl⟩
          have hIz : LWI cT ad gg tE T fm mk F n wd dpt lst w ru rl ne Lo yiz ysb yA := hI.sc (fun k hk => by rw [hyiz]; exact va_up_ne _ _ hk) (fun _ _ => rfl)
          have hIz := hIz.yg (g2 := gy) (fun z8 hz => fgy z8 (by omega))
          have hYz : YCL cT ad gy y yr yiz ysb ybs yA yW F := by
            refine ⟨hYad, hyr, (by rw [hyiz]; exact gy_0), fun k hk => ?_⟩
            have hk2 : k = 0 ∨ (4 ≤ k ∧ k ≤ 9) ∨ (18 ≤ k ∧ k ≤ 46) ∨ k = 48 ∨ k = 49 ∨ (56 ≤ k ∧ k ≤ 59) := hk
            exact (fgy (5000 + k) (by omega)).trans ((hYA k hk).trans (congrArg some (ycl_o rfl).symm))
          rw [hyiz] at hIz hYz
          refine W.widen (k := 2000 + (j + 1) + 3 * fm + 4 * SM mk 16) (n := 400000 + 6 * (j + 1) + 42 * fm + 69 * SM mk 16) (by show ((2000 + j + 3 * fm + 4 * SM mk 16) + 0) + 0 ≤ 2000 + (j + 1) + 3 * fm + 4 * SM mk 16; omega) (by show ((400000 + 6 * j + 42 * fm + 69 * SM mk 16) + 0) + 0 ≤ 400000 + 6 * (j + 1) + 42 * fm + 69 * SM mk 16; omega) ?_
          have hl := lv_sub hl [2, 3, 4, 5, 6] rfl
          have hl : lv_has ls 7 [(0, .ref b), (1, .ref (ad 0)), (2, .ref y), (3, .ref zo), (4, .int (nI (4 * j)))] := by rw [← hYz.1]; exact hl
          exact hend ad gy T fm mk F n wd dpt lst w ru rl ne Lo (va_up yi 1 0) ysb ybs yA yW (vp_updL zf 0 (Int32.toInt64 a2)) _ _ ls hIz hYz hP hD hS hl
      · have hv2 : vokB (yA 6 c0) a2 = false := Bool.eq_false_iff.mpr hv
        refine lv_aload_n hx hb dL_law_643 rfl (lv_at hl 1 rfl) ?_
        refine lv_aload_n hx hb dL_law_644 rfl (lv_at hl 0 rfl) ?_
        refine lv_iload hx hb dL_law_645 (lv_at hl 4 rfl) ?_
        refine lv_iconst (v := 1) hx hb dL_law_647 (by decide) ?_
        refine lv_iadd hx hb dL_law_648 ?_
        refine lv_topi (fun y9 e9 => ?_)
        cases (show y9 = nI ((4 * j) + 1) from e9.trans (nI_add (4 * j) 1))
        refine va_sld hx hb hX hbl hbA hS (vp_in_nI (n := 4 * j + 1) (N := L) (by omega) (by omega)) dL_law_649 ?_
        refine lv_topi (fun y9 e9 => ?_)
        cases (show y9 = nI c0 from e9.trans (by rw [nI_clamp (by omega)]; exact ha1.symm))
        refine lv_aload_n hx hb dL_law_650 rfl (lv_at hl 0 rfl) ?_
        refine lv_iload hx hb dL_law_651 (lv_at hl 4 rfl) ?_
        refine lv_iconst (v := 2) hx hb dL_law_653 (by decide) ?_
        refine lv_iadd hx hb dL_law_654 ?_
        refine lv_topi (fun y9 e9 => ?_)
        cases (show y9 = nI ((4 * j) + 2) from e9.trans (nI_add (4 * j) 2))
        refine va_sld hx hb hX hbl hbA hS (vp_in_nI (n := 4 * j + 2) (N := L) (by omega) (by omega)) dL_law_655 ?_
        refine lv_topi (fun y9 e9 => ?_)
        cases (show y9 = a2 from e9.trans (by rw [nI_clamp (by omega)]; exact ha2.symm))
        refine lv_aload_n hx hb dL_law_656 rfl (lv_at hl 3 rfl) ?_
        refine hy_iP (X := [(zo, .inl (cT 1, 1, .inr (.inl zf)))]) (pl := pg cds ad gg) (cx := [(zo, .inl (cT 1, 1, .inr (.inl zf)))]) (wr := []) hP hD hS hA [0] [] rfl rfl (by decide) (by decide) (tx_runSH (As := [.ref (ad 0), .int (nI c0), .int a2, .ref zo]) (rest := []) ⟨hx, hb, hml, hown, hT⟩ (l_bin_nov l D cT cds ad gg (nI T) (nI wd) (nI n) n (yA 5) (yA 9) (yA 7) (yA 6) ne c0 a2 zo zf hlt hcd hob chtb chCa chCf hq (by omega) hm ((tak_v hm).trans hv2) _) hT (tc_gd w678 w679 w0 (tb_gd w680)) rfl rfl rfl hL_bin ⟨Nat.le_of_ble_eq_true rfl, Nat.le_of_ble_eq_true rfl⟩ (RW.preS hZ hS (va_freeP (cx := [(zo, .inl (cT 1, 1, .inr (.inl zf)))]) hD hS hA [0] rfl) (hP.part (cx := [(zo, .inl (cT 1, 1, .inr (.inl zf)))]) [0] rfl) hK (hD.part (cx := [(zo, .inl (cT 1, 1, .inr (.inl zf)))]) [0] (by decide) rfl)) rfl hl.1 rfl (Nat.le_of_ble_eq_true rfl) dL_law_657 ⟨(by show (2000 + j + 3 * fm + 4 * SM mk 16) + 1 ≤ 601024; omega), (by show (400000 + 6 * j + 42 * fm + 69 * SM mk 16) + 6 ≤ 7293034; omega)⟩) (fun ru15 u9 H locs hpu15 hP hD hS => ?_)
        have hpu15 : ru15 = 1 := hpu15
        have hP : va_P D vwCl ([(zo, .inl (cT 1, 1, .inr (.inl zf)))] ++ pg cds ad gg) _ := hP
        have hD : va_D A ([(zo, .inl (cT 1, 1, .inr (.inl zf)))] ++ pg cds ad gg) := hD
        refine lv_topi (fun y9 e9 => ?_)
        cases (show y9 = 1 from e9.trans hpu15)
        refine lv_istore hx hb dL_law_660 hl (by decide) rfl (fun ls hl => ?_)
        have hl : lv_has ls 7 [(5, .int 1), (0, .ref b), (1, .ref (ad 0)), (2, .ref (ad 5060)), (3, .ref zo), (4, .int (nI (4 * j)))] := hl
        refine lv_aload_n hx hb dL_law_662 rfl (lv_at hl 3 rfl) ?_
        refine lv_aload_n hx hb dL_law_663 rfl (lv_at hl 1 rfl) ?_
        refine lv_iload hx hb dL_law_664 (lv_at hl 5 rfl) ?_
        refine lv_iconst (v := 1) hx hb dL_law_666 (by decide) ?_
        refine lv_iadd hx hb dL_law_667 ?_
        refine lv_topi (fun y9 e9 => ?_)
        cases (show y9 = nI ((4 * j) + 1) from e9.trans (nI_add (4 * j) 1))
        refine va_sld hx hb hX hbl hbA hS (vp_in_nI (n := 4 * j + 1) (N := L) (by omega) (by omega)) dL_law_668 ?_
        refine lv_topi (fun y9 e9 => ?_)
        cases (show y9 = nI c0 from e9.trans (by rw [nI_clamp (by omega)]; exact ha1.symm))
        refine lv_aload_n hx hb dL_law_669 rfl (lv_at hl 1 rfl) ?_
        refine lv_iload hx hb dL_law_670 (lv_at hl 5 rfl) ?_
        refine lv_iconst (v := 2) hx hb dL_law_672 (by decide) ?_
        refine lv_iadd hx hb dL_law_673 ?_
        refine lv_topi (fun y9 e9 => ?_)
        cases (show y9 = nI ((4 * j) + 2) from e9.trans (nI_add (4 * j) 2))
        refine va_sld hx hb hX hbl hbA hS (vp_in_nI (n := 4 * j + 2) (N := L) (by omega) (by omega)) dL_law_674 ?_
        refine lv_topi (fun y9 e9 => ?_)
        cases (show y9 = a2 from e9.trans (by rw [nI_clamp (by omega)]; exact ha2.symm))
        have hB9 : QI gg [(5060, .inr (11, MO yr yi ysb ybs)), (5006, .inl (cT 3, 6, .inl (yA 6)))] := (qi_c (by decide) hYy (qi_c (by decide) (hYA 6 (by unfold YKy; omega)) qi_0))
        have hN9 := (show NDc [5060, 5006] from (nd_c (na_c (by decide) na_0) (nd_c na_0 nd_0)))
        have hP := bo_P (wc := [(5060, .inr (11, MO yr yi ysb ybs)), (5006, .inl (cT 3, 6, .inl (yA 6)))]) (X := [(zo, .inl (cT 1, 1, .inr (.inl zf)))]) hcd hN9 hB9 hP
        have hD := bo_D (wc := [(5060, .inr (11, MO yr yi ysb ybs)), (5006, .inl (cT 3, 6, .inl (yA 6)))]) (X := [(zo, .inl (cT 1, 1, .inr (.inl zf)))]) hcd hN9 hB9 hD
        have hP : va_P D vwCl ([(zo, .inl (cT 1, 1, .inr (.inl zf))), (ad 5060, .inr (11, MO yr yi ysb ybs)), (ad 5006, .inl (cT 3, 6, .inl (yA 6)))] ++ pg cds ad (upo gg [5060, 5006])) _ := hP
        have hD : va_D A ([(zo, .inl (cT 1, 1, .inr (.inl zf))), (ad 5060, .inr (11, MO yr yi ysb ybs)), (ad 5006, .inl (cT 3, 6, .inl (yA 6)))] ++ pg cds ad (upo gg [5060, 5006])) := hD
        have hw9 : ([(zo, .inl (cT 1, 1, .inr (.inl zf))), (ad 5060, .inr (11, MO yr yi ysb ybs)), (yr 6, .inl (cT 3, 6, .inl (yA 6)))] ++ pg cds ad (upo gg [5060, 5006])) = ([(zo, .inl (cT 1, 1, .inr (.inl zf))), (ad 5060, .inr (11, MO yr yi ysb ybs)), (ad 5006, .inl (cT 3, 6, .inl (yA 6)))] ++ pg cds ad (upo gg [5060, 5006])) := by rw [show yr 6 = ad 5006 from (hyr 6 (by unfold YKy; omega)).symm]
        have hP := vP_eq hw9 hP
        have hD := vD_eq hw9 hD
        have hP : va_P D vwCl ([(zo, .inl (cT 1, 1, .inr (.inl zf))), (ad 5060, .inr (11, MO yr yi ysb ybs)), (yr 6, .inl (cT 3, 6, .inl (yA 6)))] ++ pg cds ad (upo gg [5060, 5006])) _ := hP
        have hD : va_D A ([(zo, .inl (cT 1, 1, .inr (.inl zf))), (ad 5060, .inr (11, MO yr yi ysb ybs)), (yr 6, .inl (cT 3, 6, .inl (yA 6)))] ++ pg cds ad (upo gg [5060, 5006])) := hD
        refine hy_iQ (X := [(zo, .inl (cT 1, 1, .inr (.inl zf))), (ad 5060, .inr (11, MO yr yi ysb ybs)), (yr 6, .inl (cT 3, 6, .inl (yA 6)))]) (pl := pg cds ad (upo gg [5060, 5006])) (cx := [(ad 5060, .inr (11, MO yr yi ysb ybs)), (yr 6, .inl (cT 3, 6, .inl (yA 6)))]) (wr := [(zo, .inl (cT 1, 1, .inr (.inl zf)))]) hP hD hS hA [1, 2] [0] rfl rfl (by decide) (by decide) (va_runV (As := [.int (nI c0), .int a2]) (rest := []) ⟨hx, hb, hml, hown, hT⟩ (y_bin_nov l D cT (ad 5060) yr yi ysb ybs (yA 6) c0 a2 (by rw [y2]; exact hq) (by omega) hv2 _) ⟨callB_of 2 hT (tb_gd w1350) rfl rfl rfl (hT _ w13) (hT _ w1347) hM_bin ⟨Nat.le_of_ble_eq_true rfl, Nat.le_of_ble_eq_true rfl⟩, (hT _ w1348), (hT _ w1349)⟩ (RW.preV (ci := 11) (q0 := 0) hZ hS (hy_free (cx := [(ad 5060, .inr (11, MO yr yi ysb ybs)), (yr 6, .inl (cT 3, 6, .inl (yA 6)))]) hD hS hA [1, 2] rfl) (hP.sub (ws' := [(ad 5060, .inr (11, MO yr yi ysb ybs)), (yr 6, .inl (cT 3, 6, .inl (yA 6)))]) [1, 2] rfl) hK (hD.sub (ws' := [(ad 5060, .inr (11, MO yr yi ysb ybs)), (yr 6, .inl (cT 3, 6, .inl (yA 6)))]) [1, 2] (by decide) rfl) rfl rfl) rfl rfl hl.1 rfl (lv_room (Nat.le_of_ble_eq_true rfl)) dL_law_675 ⟨(by show ((2000 + j + 3 * fm + 4 * SM mk 16) + 1) + 0 ≤ 601024; omega), (by show ((400000 + 6 * j + 42 * fm + 69 * SM mk 16) + 6) + 0 ≤ 7293034; omega)⟩) (fun ru16 u9 H locs hpu16 hP hD hS => ?_)
        have hpu16 : ru16 = 0 := hpu16
        have hP : va_P D vwCl ([(zo, .inl (cT 1, 1, .inr (.inl zf))), (ad 5060, .inr (11, MO yr (va_up yi 1 1) ysb ybs)), (yr 6, .inl (cT 3, 6, .inl (yA 6)))] ++ pg cds ad (upo gg [5060, 5006])) _ := hP
        have hD : va_D A ([(zo, .inl (cT 1, 1, .inr (.inl zf))), (ad 5060, .inr (11, MO yr (va_up yi 1 1) ysb ybs)), (yr 6, .inl (cT 3, 6, .inl (yA 6)))] ++ pg cds ad (upo gg [5060, 5006])) := hD
        refine lv_topi (fun y9 e9 => ?_)
        cases (show y9 = 0 from e9.trans hpu16)
        have hw9 : ([(zo, .inl (cT 1, 1, .inr (.inl zf))), (ad 5060, .inr (11, MO yr (va_up yi 1 1) ysb ybs)), (ad 5006, .inl (cT 3, 6, .inl (yA 6)))] ++ pg cds ad (upo gg [5060, 5006])) = ([(zo, .inl (cT 1, 1, .inr (.inl zf))), (ad 5060, .inr (11, MO yr (va_up yi 1 1) ysb ybs)), (yr 6, .inl (cT 3, 6, .inl (yA 6)))] ++ pg cds ad (upo gg [5060, 5006])) := by rw [show ad 5006 = yr 6 from hyr 6 (by unfold YKy; omega)]
        have hP := vP_eq hw9 hP
        have hD := vD_eq hw9 hD
        have hP : va_P D vwCl ([(zo, .inl (cT 1, 1, .inr (.inl zf))), (ad 5060, .inr (11, MO yr (va_up yi 1 1) ysb ybs)), (ad 5006, .inl (cT 3, 6, .inl (yA 6)))] ++ pg cds ad (upo gg [5060, 5006])) _ := hP
        have hD : va_D A ([(zo, .inl (cT 1, 1, .inr (.inl zf))), (ad 5060, .inr (11, MO yr (va_up yi 1 1) ysb ybs)), (ad 5006, .inl (cT 3, 6, .inl (yA 6)))] ++ pg cds ad (upo gg [5060, 5006])) := hD
        have hN9 := (show NDc [5060, 5006] from (nd_c (na_c (by decide) na_0) (nd_c na_0 nd_0)))
        have hP := gb_P (w9 := [(5060, .inr (11, MO yr (va_up yi 1 1) ysb ybs)), (5006, .inl (cT 3, 6, .inl (yA 6)))]) (X := [(zo, .inl (cT 1, 1, .inr (.inl zf)))]) (g := gg) hcd hN9 (show QB [(5060, .inr (11, MO yr (va_up yi 1 1) ysb ybs)), (5006, .inl (cT 3, 6, .inl (yA 6)))] from (qb_c (by decide) (qb_c (by decide) qb_0))) (hP.part (cx := [(zo, .inl (cT 1, 1, .inr (.inl zf))), (ad 5060, .inr (11, MO yr (va_up yi 1 1) ysb ybs)), (ad 5006, .inl (cT 3, 6, .inl (yA 6)))]) [0, 1, 2] rfl)
        have hD := gb_D (w9 := [(5060, .inr (11, MO yr (va_up yi 1 1) ysb ybs)), (5006, .inl (cT 3, 6, .inl (yA 6)))]) (X := [(zo, .inl (cT 1, 1, .inr (.inl zf)))]) (g := gg) hcd hN9 (show QB [(5060, .inr (11, MO yr (va_up yi 1 1) ysb ybs)), (5006, .inl (cT 3, 6, .inl (yA 6)))] from (qb_c (by decide) (qb_c (by decide) qb_0))) (hD.part (cx := [(zo, .inl (cT 1, 1, .inr (.inl zf))), (ad 5060, .inr (11, MO yr (va_up yi 1 1) ysb ybs)), (ad 5006, .inl (cT 3, 6, .inl (yA 6)))]) [0, 1, 2] (by decide) rfl)
        obtain ⟨gy, hgy⟩ : ∃ q9, q9 = ups gg [(5060, .inr (11, MO yr (va_up yi 1 1) ysb ybs)), (5006, .inl (cT 3, 6, .inl (yA 6)))] := ⟨_, rfl⟩
        rw [← hgy] at hP hD
        have hP : va_P D vwCl ([(zo, .inl (cT 1, 1, .inr (.inl zf)))] ++ pg cds ad gy) _ := hP
        have hD : va_D A ([(zo, .inl (cT 1, 1, .inr (.inl zf)))] ++ pg cds ad gy) := hD
        have fgy : ∀ z8, z8 ≠ 5060 → gy z8 = gg z8 := fun z8 z1 => by rw [hgy]; exact ups_k (kp_n z1 (kp_s (hYA 6 (by unfold YKy; omega)) kp_0))
        have gy_0 : gy 5060 = some (.inr (11, MO yr (va_up yi 1 1) ysb ybs)) := by rw [hgy]; exact ups_1
        refine lv_istore hx hb dL_law_678 hl (by decide) rfl (fun ls hl => ?_)
        have hl : lv_has ls 7 [(6, .int 0), (5, .int 1), (0, .ref b), (1, .ref (ad 0)), (2, .ref (ad 5060)), (3, .ref zo), (4, .int (nI (4 * j)))] := hl
        refine lv_aload_n hx hb dL_law_680 rfl (lv_at hl 4 rfl) ?_
        refine ro_i (va_Run.run (va_runV (As := []) (rest := []) ⟨hx, hb, hml, hown, hT⟩ (m_thrown l D cT (ad 5060) yr (va_up yi 1 1) ysb ybs) ⟨callB_of 0 hT (tb_gd w1290) rfl rfl rfl (hT _ w13) (hT _ w1287) hM_thrown ⟨Nat.le_of_ble_eq_true rfl, Nat.le_of_ble_eq_true rfl⟩, (hT _ w1288), (hT _ w1289)⟩ (RO.preV (ci := 11) (q0 := 0) hZ hS ((show va_P D vwCl [(ad 5060, .inr (11, MO yr (va_up yi 1 1) ysb ybs))] _ from (pv_c (pg_1 (x := 5060) hcd hP (by decide) gy_0) pv_0))) hK rfl rfl) rfl rfl hl.1 rfl (lv_room (Nat.le_of_ble_eq_true rfl)) dL_law_681 ⟨(by show (((2000 + j + 3 * fm + 4 * SM mk 16) + 1) + 0) + 0 ≤ 601024; omega), (by show (((400000 + 6 * j + 42 * fm + 69 * SM mk 16) + 6) + 0) + 0 ≤ 7293034; omega)⟩)) ?_
        refine lv_topi (fun y9 e9 => ?_)
        cases (show y9 = 1 from e9.trans rfl)
        refine lv_iload hx hb dL_law_684 (lv_at hl 1 rfl) ?_
        refine lv_icmp_eq (tgt := 691) hx hb dL_law_686 rfl (fun _ => ?_) (fun h17 => absurd (by decide) h17)
        refine lv_iload hx hb dL_law_691 (lv_at hl 1 rfl) ?_
        refine lv_if_ne (tgt := 708) hx hb dL_law_693 rfl (fun _ => ?_) (fun h18 => absurd h18 (by decide))
        refine lv_goto (tgt := 1690) hx hb dL_law_708 rfl ?_
        obtain ⟨yiz, hyiz⟩ : ∃ f9 : Nat → Int32, f9 = va_up yi 1 1 := ⟨_, rfl⟩
        have hIz : LWI cT ad gg tE T fm mk F n wd dpt lst w ru rl ne Lo yiz ysb yA := hI.sc (fun k hk => by rw [hyiz]; exact va_up_ne _ _ hk) (fun _ _ => rfl)
        have hIz := hIz.yg (g2 := gy) (fun z8 hz => fgy z8 (by omega))
        have hYz : YCL cT ad gy y yr yiz ysb ybs yA yW F := by
          refine ⟨hYad, hyr, (by rw [hyiz]; exact gy_0), fun k hk => ?_⟩
          have hk2 : k = 0 ∨ (4 ≤ k ∧ k ≤ 9) ∨ (18 ≤ k ∧ k ≤ 46) ∨ k = 48 ∨ k = 49 ∨ (56 ≤ k ∧ k ≤ 59) := hk
          exact (fgy (5000 + k) (by omega)).trans ((hYA k hk).trans (congrArg some (ycl_o rfl).symm))
        rw [hyiz] at hIz hYz
        refine W.widen (k := 2000 + (j + 1) + 3 * fm + 4 * SM mk 16) (n := 400000 + 6 * (j + 1) + 42 * fm + 69 * SM mk 16) (by show ((2000 + j + 3 * fm + 4 * SM mk 16) + 1) + 0 ≤ 2000 + (j + 1) + 3 * fm + 4 * SM mk 16; omega) (by show ((400000 + 6 * j + 42 * fm + 69 * SM mk 16) + 6) + 0 ≤ 400000 + 6 * (j + 1) + 42 * fm + 69 * SM mk 16; omega) ?_
        have hl := lv_sub hl [2, 3, 4, 5, 6] rfl
        have hl : lv_has ls 7 [(0, .ref b), (1, .ref (ad 0)), (2, .ref y), (3, .ref zo), (4, .int (nI (4 * j)))] := by rw [← hYz.1]; exact hl
        exact hend ad gy T fm mk F n wd dpt lst w ru rl ne Lo (va_up yi 1 1) ysb ybs yA yW zf _ _ ls hIz hYz hP hD hS hl
  · refine lv_aload_n hx hb dL_law_643 rfl (lv_at hl 1 rfl) ?_
    refine lv_aload_n hx hb dL_law_644 rfl (lv_at hl 0 rfl) ?_
    refine lv_iload hx hb dL_law_645 (lv_at hl 4 rfl) ?_
    refine lv_iconst (v := 1) hx hb dL_law_647 (by decide) ?_
    refine lv_iadd hx hb dL_law_648 ?_
    refine lv_topi (fun y9 e9 => ?_)
    cases (show y9 = nI ((4 * j) + 1) from e9.trans (nI_add (4 * j) 1))
    refine va_sld hx hb hX hbl hbA hS (vp_in_nI (n := 4 * j + 1) (N := L) (by omega) (by omega)) dL_law_649 ?_
    refine lv_topi (fun y9 e9 => ?_)
    cases (show y9 = a1 from e9.trans (by rw [nI_clamp (by omega)]; exact ha1.symm))
    refine lv_aload_n hx hb dL_law_650 rfl (lv_at hl 0 rfl) ?_
    refine lv_iload hx hb dL_law_651 (lv_at hl 4 rfl) ?_
    refine lv_iconst (v := 2) hx hb dL_law_653 (by decide) ?_
    refine lv_iadd hx hb dL_law_654 ?_
    refine lv_topi (fun y9 e9 => ?_)
    cases (show y9 = nI ((4 * j) + 2) from e9.trans (nI_add (4 * j) 2))
    refine va_sld hx hb hX hbl hbA hS (vp_in_nI (n := 4 * j + 2) (N := L) (by omega) (by omega)) dL_law_655 ?_
    refine lv_topi (fun y9 e9 => ?_)
    cases (show y9 = a2 from e9.trans (by rw [nI_clamp (by omega)]; exact ha2.symm))
    refine lv_aload_n hx hb dL_law_656 rfl (lv_at hl 3 rfl) ?_
    refine hy_iP (X := [(zo, .inl (cT 1, 1, .inr (.inl zf)))]) (pl := pg cds ad gg) (cx := [(zo, .inl (cT 1, 1, .inr (.inl zf)))]) (wr := []) hP hD hS hA [0] [] rfl rfl (by decide) (by decide) (tx_runSH (As := [.ref (ad 0), .int a1, .int a2, .ref zo]) (rest := []) ⟨hx, hb, hml, hown, hT⟩ (l_bin_no l D cT cds ad gg (nI T) (nI wd) (nI n) a1 a2 zo zf hlt hcd hob chtb (fun q => hq q.1) _) hT (tc_gd w678 w679 w0 (tb_gd w680)) rfl rfl rfl hL_bin ⟨Nat.le_of_ble_eq_true rfl, Nat.le_of_ble_eq_true rfl⟩ (RW.preS hZ hS (va_freeP (cx := [(zo, .inl (cT 1, 1, .inr (.inl zf)))]) hD hS hA [0] rfl) (hP.part (cx := [(zo, .inl (cT 1, 1, .inr (.inl zf)))]) [0] rfl) hK (hD.part (cx := [(zo, .inl (cT 1, 1, .inr (.inl zf)))]) [0] (by decide) rfl)) rfl hl.1 rfl (Nat.le_of_ble_eq_true rfl) dL_law_657 ⟨(by show (2000 + j + 3 * fm + 4 * SM mk 16) + 1 ≤ 601024; omega), (by show (400000 + 6 * j + 42 * fm + 69 * SM mk 16) + 6 ≤ 7293034; omega)⟩) (fun ru19 u9 H locs hpu19 hP hD hS => ?_)
    have hpu19 : ru19 = 1 := hpu19
    have hP : va_P D vwCl ([(zo, .inl (cT 1, 1, .inr (.inl zf)))] ++ pg cds ad gg) _ := hP
    have hD : va_D A ([(zo, .inl (cT 1, 1, .inr (.inl zf)))] ++ pg cds ad gg) := hD
    refine lv_topi (fun y9 e9 => ?_)
    cases (show y9 = 1 from e9.trans hpu19)
    refine lv_istore hx hb dL_law_660 hl (by decide) rfl (fun ls hl => ?_)
    have hl : lv_has ls 7 [(5, .int 1), (0, .ref b), (1, .ref (ad 0)), (2, .ref (ad 5060)), (3, .ref zo), (4, .int (nI (4 * j)))] := hl
    refine lv_aload_n hx hb dL_law_662 rfl (lv_at hl 3 rfl) ?_
    refine lv_aload_n hx hb dL_law_663 rfl (lv_at hl 1 rfl) ?_
    refine lv_iload hx hb dL_law_664 (lv_at hl 5 rfl) ?_
    refine lv_iconst (v := 1) hx hb dL_law_666 (by decide) ?_
    refine lv_iadd hx hb dL_law_667 ?_
    refine lv_topi (fun y9 e9 => ?_)
    cases (show y9 = nI ((4 * j) + 1) from e9.trans (nI_add (4 * j) 1))
    refine va_sld hx hb hX hbl hbA hS (vp_in_nI (n := 4 * j + 1) (N := L) (by omega) (by omega)) dL_law_668 ?_
    refine lv_topi (fun y9 e9 => ?_)
    cases (show y9 = a1 from e9.trans (by rw [nI_clamp (by omega)]; exact ha1.symm))
    refine lv_aload_n hx hb dL_law_669 rfl (lv_at hl 1 rfl) ?_
    refine lv_iload hx hb dL_law_670 (lv_at hl 5 rfl) ?_
    refine lv_iconst (v := 2) hx hb dL_law_672 (by decide) ?_
    refine lv_iadd hx hb dL_law_673 ?_
    refine lv_topi (fun y9 e9 => ?_)
    cases (show y9 = nI ((4 * j) + 2) from e9.trans (nI_add (4 * j) 2))
    refine va_sld hx hb hX hbl hbA hS (vp_in_nI (n := 4 * j + 2) (N := L) (by omega) (by omega)) dL_law_674 ?_
    refine lv_topi (fun y9 e9 => ?_)
    cases (show y9 = a2 from e9.trans (by rw [nI_clamp (by omega)]; exact ha2.symm))
    have hB9 : QI gg [(5060, .inr (11, MO yr yi ysb ybs))] := (qi_c (by decide) hYy qi_0)
    have hN9 := (show NDc [5060] from (nd_c na_0 nd_0))
    have hP := bo_P (wc := [(5060, .inr (11, MO yr yi ysb ybs))]) (X := [(zo, .inl (cT 1, 1, .inr (.inl zf)))]) hcd hN9 hB9 hP
    have hD := bo_D (wc := [(5060, .inr (11, MO yr yi ysb ybs))]) (X := [(zo, .inl (cT 1, 1, .inr (.inl zf)))]) hcd hN9 hB9 hD
    have hP : va_P D vwCl ([(zo, .inl (cT 1, 1, .inr (.inl zf))), (ad 5060, .inr (11, MO yr yi ysb ybs))] ++ pg cds ad (upo gg [5060])) _ := hP
    have hD : va_D A ([(zo, .inl (cT 1, 1, .inr (.inl zf))), (ad 5060, .inr (11, MO yr yi ysb ybs))] ++ pg cds ad (upo gg [5060])) := hD
    refine hy_iQ (X := [(zo, .inl (cT 1, 1, .inr (.inl zf))), (ad 5060, .inr (11, MO yr yi ysb ybs))]) (pl := pg cds ad (upo gg [5060])) (cx := [(ad 5060, .inr (11, MO yr yi ysb ybs))]) (wr := [(zo, .inl (cT 1, 1, .inr (.inl zf)))]) hP hD hS hA [1] [0] rfl rfl (by decide) (by decide) (va_runV (As := [.int a1, .int a2]) (rest := []) ⟨hx, hb, hml, hown, hT⟩ (y_bin_no l D cT (ad 5060) yr yi ysb ybs a1 a2 (by rw [y2]; exact hq) _) ⟨callB_of 2 hT (tb_gd w1350) rfl rfl rfl (hT _ w13) (hT _ w1347) hM_bin ⟨Nat.le_of_ble_eq_true rfl, Nat.le_of_ble_eq_true rfl⟩, (hT _ w1348), (hT _ w1349)⟩ (RW.preV (ci := 11) (q0 := 0) hZ hS (hy_free (cx := [(ad 5060, .inr (11, MO yr yi ysb ybs))]) hD hS hA [1] rfl) (hP.sub (ws' := [(ad 5060, .inr (11, MO yr yi ysb ybs))]) [1] rfl) hK (hD.sub (ws' := [(ad 5060, .inr (11, MO yr yi ysb ybs))]) [1] (by decide) rfl) rfl rfl) rfl rfl hl.1 rfl (lv_room (Nat.le_of_ble_eq_true rfl)) dL_law_675 ⟨(by show ((2000 + j + 3 * fm + 4 * SM mk 16) + 1) + 0 ≤ 601024; omega), (by show ((400000 + 6 * j + 42 * fm + 69 * SM mk 16) + 6) + 0 ≤ 7293034; omega)⟩) (fun ru20 u9 H locs hpu20 hP hD hS => ?_)
    have hpu20 : ru20 = 0 := hpu20
    have hP : va_P D vwCl ([(zo, .inl (cT 1, 1, .inr (.inl zf))), (ad 5060, .inr (11, MO yr (va_up yi 1 1) ysb ybs))] ++ pg cds ad (upo gg [5060])) _ := hP
    have hD : va_D A ([(zo, .inl (cT 1, 1, .inr (.inl zf))), (ad 5060, .inr (11, MO yr (va_up yi 1 1) ysb ybs))] ++ pg cds ad (upo gg [5060])) := hD
    refine lv_topi (fun y9 e9 => ?_)
    cases (show y9 = 0 from e9.trans hpu20)
    have hN9 := (show NDc [5060] from (nd_c na_0 nd_0))
    have hP := gb_P (w9 := [(5060, .inr (11, MO yr (va_up yi 1 1) ysb ybs))]) (X := [(zo, .inl (cT 1, 1, .inr (.inl zf)))]) (g := gg) hcd hN9 (show QB [(5060, .inr (11, MO yr (va_up yi 1 1) ysb ybs))] from (qb_c (by decide) qb_0)) (hP.part (cx := [(zo, .inl (cT 1, 1, .inr (.inl zf))), (ad 5060, .inr (11, MO yr (va_up yi 1 1) ysb ybs))]) [0, 1] rfl)
    have hD := gb_D (w9 := [(5060, .inr (11, MO yr (va_up yi 1 1) ysb ybs))]) (X := [(zo, .inl (cT 1, 1, .inr (.inl zf)))]) (g := gg) hcd hN9 (show QB [(5060, .inr (11, MO yr (va_up yi 1 1) ysb ybs))] from (qb_c (by decide) qb_0)) (hD.part (cx := [(zo, .inl (cT 1, 1, .inr (.inl zf))), (ad 5060, .inr (11, MO yr (va_up yi 1 1) ysb ybs))]) [0, 1] (by decide) rfl)
    obtain ⟨gy, hgy⟩ : ∃ q9, q9 = ups gg [(5060, .inr (11, MO yr (va_up yi 1 1) ysb ybs))] := ⟨_, rfl⟩
    rw [← hgy] at hP hD
    have hP : va_P D vwCl ([(zo, .inl (cT 1, 1, .inr (.inl zf)))] ++ pg cds ad gy) _ := hP
    have hD : va_D A ([(zo, .inl (cT 1, 1, .inr (.inl zf)))] ++ pg cds ad gy) := hD
    have fgy : ∀ z8, z8 ≠ 5060 → gy z8 = gg z8 := fun z8 z1 => by rw [hgy]; exact ups_k (kp_n z1 kp_0)
    have gy_0 : gy 5060 = some (.inr (11, MO yr (va_up yi 1 1) ysb ybs)) := by rw [hgy]; exact ups_1
    refine lv_istore hx hb dL_law_678 hl (by decide) rfl (fun ls hl => ?_)
    have hl : lv_has ls 7 [(6, .int 0), (5, .int 1), (0, .ref b), (1, .ref (ad 0)), (2, .ref (ad 5060)), (3, .ref zo), (4, .int (nI (4 * j)))] := hl
    refine lv_aload_n hx hb dL_law_680 rfl (lv_at hl 4 rfl) ?_
    refine ro_i (va_Run.run (va_runV (As := []) (rest := []) ⟨hx, hb, hml, hown, hT⟩ (m_thrown l D cT (ad 5060) yr (va_up yi 1 1) ysb ybs) ⟨callB_of 0 hT (tb_gd w1290) rfl rfl rfl (hT _ w13) (hT _ w1287) hM_thrown ⟨Nat.le_of_ble_eq_true rfl, Nat.le_of_ble_eq_true rfl⟩, (hT _ w1288), (hT _ w1289)⟩ (RO.preV (ci := 11) (q0 := 0) hZ hS ((show va_P D vwCl [(ad 5060, .inr (11, MO yr (va_up yi 1 1) ysb ybs))] _ from (pv_c (pg_1 (x := 5060) hcd hP (by decide) gy_0) pv_0))) hK rfl rfl) rfl rfl hl.1 rfl (lv_room (Nat.le_of_ble_eq_true rfl)) dL_law_681 ⟨(by show (((2000 + j + 3 * fm + 4 * SM mk 16) + 1) + 0) + 0 ≤ 601024; omega), (by show (((400000 + 6 * j + 42 * fm + 69 * SM mk 16) + 6) + 0) + 0 ≤ 7293034; omega)⟩)) ?_
    refine lv_topi (fun y9 e9 => ?_)
    cases (show y9 = 1 from e9.trans rfl)
    refine lv_iload hx hb dL_law_684 (lv_at hl 1 rfl) ?_
    refine lv_icmp_eq (tgt := 691) hx hb dL_law_686 rfl (fun _ => ?_) (fun h21 => absurd (by decide) h21)
    refine lv_iload hx hb dL_law_691 (lv_at hl 1 rfl) ?_
    refine lv_if_ne (tgt := 708) hx hb dL_law_693 rfl (fun _ => ?_) (fun h22 => absurd h22 (by decide))
    refine lv_goto (tgt := 1690) hx hb dL_law_708 rfl ?_
    obtain ⟨yiz, hyiz⟩ : ∃ f9 : Nat → Int32, f9 = va_up yi 1 1 := ⟨_, rfl⟩
    have hIz : LWI cT ad gg tE T fm mk F n wd dpt lst w ru rl ne Lo yiz ysb yA := hI.sc (fun k hk => by rw [hyiz]; exact va_up_ne _ _ hk) (fun _ _ => rfl)
    have hIz := hIz.yg (g2 := gy) (fun z8 hz => fgy z8 (by omega))
    have hYz : YCL cT ad gy y yr yiz ysb ybs yA yW F := by
      refine ⟨hYad, hyr, (by rw [hyiz]; exact gy_0), fun k hk => ?_⟩
      have hk2 : k = 0 ∨ (4 ≤ k ∧ k ≤ 9) ∨ (18 ≤ k ∧ k ≤ 46) ∨ k = 48 ∨ k = 49 ∨ (56 ≤ k ∧ k ≤ 59) := hk
      exact (fgy (5000 + k) (by omega)).trans ((hYA k hk).trans (congrArg some (ycl_o rfl).symm))
    rw [hyiz] at hIz hYz
    refine W.widen (k := 2000 + (j + 1) + 3 * fm + 4 * SM mk 16) (n := 400000 + 6 * (j + 1) + 42 * fm + 69 * SM mk 16) (by show ((2000 + j + 3 * fm + 4 * SM mk 16) + 1) + 0 ≤ 2000 + (j + 1) + 3 * fm + 4 * SM mk 16; omega) (by show ((400000 + 6 * j + 42 * fm + 69 * SM mk 16) + 6) + 0 ≤ 400000 + 6 * (j + 1) + 42 * fm + 69 * SM mk 16; omega) ?_
    have hl := lv_sub hl [2, 3, 4, 5, 6] rfl
    have hl : lv_has ls 7 [(0, .ref b), (1, .ref (ad 0)), (2, .ref y), (3, .ref zo), (4, .int (nI (4 * j)))] := by rw [← hYz.1]; exact hl
    exact hend ad gy T fm mk F n wd dpt lst w ru rl ne Lo (va_up yi 1 1) ysb ybs yA yW zf _ _ ls hIz hYz hP hD hS hl
