set_option maxHeartbeats 8000000 in
set_option maxRecDepth 100000 in
theorem lo_13 {p : Program} {l : Launch} {e : Env} {s : State} {m : MethodId} {args : Array Value} {below : List Frame} {meth : Method} {c : Code} {Q : State → Prop} {A : Nat → Prop} {H : Heap} {locs : List Loc} {ls : Array Slot} {b L : Nat} {xs : Nat → Int32} (D : va_G) (cT : Nat → ClassId) (cds : List Nat) (tE mE y : Nat) (yr : Nat → Nat) (zo j : Nat) (ad : Nat → Nat) (gg : Nat → Option va_E) (T : Nat) (fm : Nat) (mk : Nat → Nat) (F : TFR) (n : Nat) (wd : Nat) (dpt : Nat) (lst : Nat) (w : Nat) (ru : Nat) (rl : Nat) (ne : Nat → Nat) (Lo : Nat) (yi : Nat → Int32) (ysb : Int64) (ybs : Int64) (yA : Nat → Nat → Int32) (yW : Nat → Int64) (zf : Nat → Int64) (hlt : l.stackTraces = false) (hx : p.tables.exec = Jvm.exec) (hb : c.code = code) (hml : c.maxLocals = 7) (hown : s.vm.findClass "ResidualTreesLaw" = some m.cls) (hT : ∀ w ∈ TB, w.before args s = true) (hZ : ZZ A s s.heap) (hE0 : ZE tE mE A s s.heap) (hK : va_K D vwCl (TY cT) s) (hA : ∀ q : Nat, s.heap.size ≤ q → A q) (hX : va_X b L xs s s.heap) (hbl : b < s.heap.size) (hbA : ¬ A b) (hcd : CD cds) (hj : 4 * j + 4 ≤ L) (hL : L ≤ 2048) (hI : LWI cT ad gg tE T fm mk F n wd dpt lst w ru rl ne Lo yi ysb yA) (hYC : YCL cT ad gg y yr yi ysb ybs yA yW F) (hP : va_P D vwCl ([(zo, .inl (cT 1, 1, .inr (.inl zf)))] ++ pg cds ad gg) H) (hD : va_D A ([(zo, .inl (cT 1, 1, .inr (.inl zf)))] ++ pg cds ad gg)) (hS : va_S A s.heap H locs) (hl : lv_has ls 7 [(0, .ref b), (1, .ref (ad 0)), (2, .ref y), (3, .ref zo), (4, .int (nI (4 * j)))]) (hend : LEN2 p l e s m args below meth c Q A D cT cds tE y yr zo b j) : W p l e room_1 s m args below meth c H locs (2000 + j + 3 * fm + 4 * SM mk 16) (400000 + 6 * j + 42 * fm + 69 * SM mk 16) Q (F0 m 1000 ls []) := by
  obtain ⟨a1, ha1⟩ : ∃ q9 : Int32, q9 = xs (4 * j + 1) := ⟨_, rfl⟩
  obtain ⟨a2, ha2⟩ : ∃ q9 : Int32, q9 = xs (4 * j + 2) := ⟨_, rfl⟩
  obtain ⟨a3, ha3⟩ : ∃ q9 : Int32, q9 = xs (4 * j + 3) := ⟨_, rfl⟩
  obtain ⟨hfm16, hSM⟩ := lwi_b hI
  obtain ⟨hYad, hYr0, hYy, hYA⟩ := hYC
  have hyr := hYr0
  obtain ⟨fo, hCL, hRF, hPU⟩ := id hI
  obtain ⟨hTV, hOut, ⟨sa9, hso⟩, ⟨zq9, hS1⟩, ⟨zr9, hS2⟩, ⟨z58, hS3⟩⟩ := id hCL
  obtain ⟨hob, hTg, hFT, hTs, ⟨zs0, hGB⟩, ⟨zf0, hLf⟩, ⟨zc0, hCm⟩⟩ := id hTV
  obtain ⟨chtb, chRs, chCa, chCf, chpl, chGa, chSc, chGs, ⟨cfo, chod⟩, cbb9, ctt9, cb90, cik0, chgr, chbt, chSP⟩ := id hGB
  obtain ⟨y2, y3, y10, y11, y12, y13, y14, y17, y47, y55, y8e, y18e, hRFN, hPR, hfoy⟩ := id hRF
  obtain ⟨hTf, hT16, hn48, hwd6, hdp4, hls2, hw20, hr9, hLo, hne, hik, hTOK, hS9, hVk, hVb, htg, hSEP, hSV7⟩ := id hPU
  have hl : lv_has ls 7 [(0, .ref b), (1, .ref (ad 0)), (2, .ref (ad 5060)), (3, .ref zo), (4, .int (nI (4 * j)))] := by rw [hYad]; exact hl
  by_cases hq : 0 ≤ a1 ∧ a1 ≤ nI T - 1
  · obtain ⟨t, ht, rfl⟩ := i_nat (n := T) (by omega) hq
    have hm31 := (hTOK.2 t ht).1.2.1
    by_cases hr : 0 ≤ a2 ∧ a2 ≤ nI (tM F t) - 1
    · obtain ⟨k, hk, rfl⟩ := i_nat (n := tM F t) (by omega) hr
      by_cases hw : 0 ≤ a3 ∧ a3 ≤ 7
      · rcases eight hw with rfl | rfl | rfl | rfl | rfl | rfl | rfl | rfl
        · refine lv_aload_n hx hb dL_law_1000 rfl (lv_at hl 1 rfl) ?_
          refine lv_aload_n hx hb dL_law_1001 rfl (lv_at hl 0 rfl) ?_
          refine lv_iload hx hb dL_law_1002 (lv_at hl 4 rfl) ?_
          refine lv_iconst (v := 1) hx hb dL_law_1004 (by decide) ?_
          refine lv_iadd hx hb dL_law_1005 ?_
          refine lv_topi (fun y9 e9 => ?_)
          cases (show y9 = nI ((4 * j) + 1) from e9.trans (nI_add (4 * j) 1))
          refine va_sld hx hb hX hbl hbA hS (vp_in_nI (n := 4 * j + 1) (N := L) (by omega) (by omega)) dL_law_1006 ?_
          refine lv_topi (fun y9 e9 => ?_)
          cases (show y9 = nI t from e9.trans (by rw [nI_clamp (by omega)]; exact ha1.symm))
          refine lv_aload_n hx hb dL_law_1007 rfl (lv_at hl 0 rfl) ?_
          refine lv_iload hx hb dL_law_1008 (lv_at hl 4 rfl) ?_
          refine lv_iconst (v := 2) hx hb dL_law_1010 (by decide) ?_
          refine lv_iadd hx hb dL_law_1011 ?_
          refine lv_topi (fun y9 e9 => ?_)
          cases (show y9 = nI ((4 * j) + 2) from e9.trans (nI_add (4 * j) 2))
          refine va_sld hx hb hX hbl hbA hS (vp_in_nI (n := 4 * j + 2) (N := L) (by omega) (by omega)) dL_law_1012 ?_
          refine lv_topi (fun y9 e9 => ?_)
          cases (show y9 = nI k from e9.trans (by rw [nI_clamp (by omega)]; exact ha2.symm))
          refine lv_aload_n hx hb dL_law_1013 rfl (lv_at hl 0 rfl) ?_
          refine lv_iload hx hb dL_law_1014 (lv_at hl 4 rfl) ?_
          refine lv_iconst (v := 3) hx hb dL_law_1016 (by decide) ?_
          refine lv_iadd hx hb dL_law_1017 ?_
          refine lv_topi (fun y9 e9 => ?_)
          cases (show y9 = nI ((4 * j) + 3) from e9.trans (nI_add (4 * j) 3))
          refine va_sld hx hb hX hbl hbA hS (vp_in_nI (n := 4 * j + 3) (N := L) (by omega) (by omega)) dL_law_1018 ?_
          refine lv_topi (fun y9 e9 => ?_)
          cases (show y9 = 0 from e9.trans (by rw [nI_clamp (by omega)]; exact ha3.symm))
          refine lv_aload_n hx hb dL_law_1019 rfl (lv_at hl 3 rfl) ?_
          refine hy_iP (X := [(zo, .inl (cT 1, 1, .inr (.inl zf)))]) (pl := pg cds ad gg) (cx := [(zo, .inl (cT 1, 1, .inr (.inl zf)))]) (wr := []) hP hD hS hA [0] [] rfl rfl (by decide) (by decide) (tx_runSH (As := [.ref (ad 0), .int (nI t), .int (nI k), .int 0, .ref zo]) (rest := []) ⟨hx, hb, hml, hown, hT⟩ (l_node0 l D cT cds ad gg T fm F t k zo zf hcd hob hFT.1.frp hTf hTs hT16 ht hq hr hk _) hT (tc_gd w994 w995 w0 (tb_gd w996)) rfl rfl rfl hL_node ⟨Nat.le_of_ble_eq_true rfl, Nat.le_of_ble_eq_true rfl⟩ (RW.preS hZ hS (va_freeP (cx := [(zo, .inl (cT 1, 1, .inr (.inl zf)))]) hD hS hA [0] rfl) (hP.part (cx := [(zo, .inl (cT 1, 1, .inr (.inl zf)))]) [0] rfl) hK (hD.part (cx := [(zo, .inl (cT 1, 1, .inr (.inl zf)))]) [0] (by decide) rfl)) rfl hl.1 rfl (Nat.le_of_ble_eq_true rfl) dL_law_1020 ⟨(by show (2000 + j + 3 * fm + 4 * SM mk 16) + 0 ≤ 601024; omega), (by show (400000 + 6 * j + 42 * fm + 69 * SM mk 16) + 0 ≤ 7293034; omega)⟩) (fun ru1 u9 H locs hpu1 hP hD hS => ?_)
          have hpu1 : ru1 = 0 := hpu1
          have hP : va_P D vwCl ([(zo, .inl (cT 1, 1, .inr (.inl (vp_updL zf 0 (Int32.toInt64 (tA F 0 (31 * t + k)))))))] ++ pg cds ad gg) _ := hP
          have hD : va_D A ([(zo, .inl (cT 1, 1, .inr (.inl (vp_updL zf 0 (Int32.toInt64 (tA F 0 (31 * t + k)))))))] ++ pg cds ad gg) := hD
          refine lv_topi (fun y9 e9 => ?_)
          cases (show y9 = 0 from e9.trans hpu1)
          refine lv_istore hx hb dL_law_1023 hl (by decide) rfl (fun ls hl => ?_)
          have hl : lv_has ls 7 [(5, .int 0), (0, .ref b), (1, .ref (ad 0)), (2, .ref (ad 5060)), (3, .ref zo), (4, .int (nI (4 * j)))] := hl
          refine lv_aload_n hx hb dL_law_1025 rfl (lv_at hl 3 rfl) ?_
          refine lv_aload_n hx hb dL_law_1026 rfl (lv_at hl 1 rfl) ?_
          refine lv_iload hx hb dL_law_1027 (lv_at hl 5 rfl) ?_
          refine lv_iconst (v := 1) hx hb dL_law_1029 (by decide) ?_
          refine lv_iadd hx hb dL_law_1030 ?_
          refine lv_topi (fun y9 e9 => ?_)
          cases (show y9 = nI ((4 * j) + 1) from e9.trans (nI_add (4 * j) 1))
          refine va_sld hx hb hX hbl hbA hS (vp_in_nI (n := 4 * j + 1) (N := L) (by omega) (by omega)) dL_law_1031 ?_
          refine lv_topi (fun y9 e9 => ?_)
          cases (show y9 = nI t from e9.trans (by rw [nI_clamp (by omega)]; exact ha1.symm))
          refine lv_aload_n hx hb dL_law_1032 rfl (lv_at hl 1 rfl) ?_
          refine lv_iload hx hb dL_law_1033 (lv_at hl 5 rfl) ?_
          refine lv_iconst (v := 2) hx hb dL_law_1035 (by decide) ?_
          refine lv_iadd hx hb dL_law_1036 ?_
          refine lv_topi (fun y9 e9 => ?_)
          cases (show y9 = nI ((4 * j) + 2) from e9.trans (nI_add (4 * j) 2))
          refine va_sld hx hb hX hbl hbA hS (vp_in_nI (n := 4 * j + 2) (N := L) (by omega) (by omega)) dL_law_1037 ?_
          refine lv_topi (fun y9 e9 => ?_)
          cases (show y9 = nI k from e9.trans (by rw [nI_clamp (by omega)]; exact ha2.symm))
          refine lv_aload_n hx hb dL_law_1038 rfl (lv_at hl 1 rfl) ?_
          refine lv_iload hx hb dL_law_1039 (lv_at hl 5 rfl) ?_
          refine lv_iconst (v := 3) hx hb dL_law_1041 (by decide) ?_
          refine lv_iadd hx hb dL_law_1042 ?_
          refine lv_topi (fun y9 e9 => ?_)
          cases (show y9 = nI ((4 * j) + 3) from e9.trans (nI_add (4 * j) 3))
          refine va_sld hx hb hX hbl hbA hS (vp_in_nI (n := 4 * j + 3) (N := L) (by omega) (by omega)) dL_law_1043 ?_
          refine lv_topi (fun y9 e9 => ?_)
          cases (show y9 = 0 from e9.trans (by rw [nI_clamp (by omega)]; exact ha3.symm))
          have hB9 : QI gg [(5060, .inr (11, MO yr yi ysb ybs)), (5018, .inl (cT 0, 16, .inl (yA 18))), (5019, .inl (cT 0, 496, .inl (tA F 0)))] := (qi_c (by decide) hYy (qi_c (by decide) (hYA 18 (by unfold YKy; omega)) (qi_c (by decide) (hYA 19 (by unfold YKy; omega)) qi_0)))
          have hN9 := (show NDc [5060, 5018, 5019] from (nd_c (na_c (by decide) (na_c (by decide) na_0)) (nd_c (na_c (by decide) na_0) (nd_c na_0 nd_0))))
          have hP := bo_P (wc := [(5060, .inr (11, MO yr yi ysb ybs)), (5018, .inl (cT 0, 16, .inl (yA 18))), (5019, .inl (cT 0, 496, .inl (tA F 0)))]) (X := [(zo, .inl (cT 1, 1, .inr (.inl (vp_updL zf 0 (Int32.toInt64 (tA F 0 (31 * t + k)))))))]) hcd hN9 hB9 hP
          have hD := bo_D (wc := [(5060, .inr (11, MO yr yi ysb ybs)), (5018, .inl (cT 0, 16, .inl (yA 18))), (5019, .inl (cT 0, 496, .inl (tA F 0)))]) (X := [(zo, .inl (cT 1, 1, .inr (.inl (vp_updL zf 0 (Int32.toInt64 (tA F 0 (31 * t + k)))))))]) hcd hN9 hB9 hD
          have hP : va_P D vwCl ([(zo, .inl (cT 1, 1, .inr (.inl (vp_updL zf 0 (Int32.toInt64 (tA F 0 (31 * t + k))))))), (ad 5060, .inr (11, MO yr yi ysb ybs)), (ad 5018, .inl (cT 0, 16, .inl (yA 18))), (ad 5019, .inl (cT 0, 496, .inl (tA F 0)))] ++ pg cds ad (upo gg [5060, 5018, 5019])) _ := hP
          have hD : va_D A ([(zo, .inl (cT 1, 1, .inr (.inl (vp_updL zf 0 (Int32.toInt64 (tA F 0 (31 * t + k))))))), (ad 5060, .inr (11, MO yr yi ysb ybs)), (ad 5018, .inl (cT 0, 16, .inl (yA 18))), (ad 5019, .inl (cT 0, 496, .inl (tA F 0)))] ++ pg cds ad (upo gg [5060, 5018, 5019])) := hD
          have hw9 : ([(zo, .inl (cT 1, 1, .inr (.inl (vp_updL zf 0 (Int32.toInt64 (tA F 0 (31 * t + k))))))), (ad 5060, .inr (11, MO yr yi ysb ybs)), (yr 18, .inl (cT 0, 16, .inl (yA 18))), (yr 19, .inl (cT 0, 496, .inl (tA F 0)))] ++ pg cds ad (upo gg [5060, 5018, 5019])) = ([(zo, .inl (cT 1, 1, .inr (.inl (vp_updL zf 0 (Int32.toInt64 (tA F 0 (31 * t + k))))))), (ad 5060, .inr (11, MO yr yi ysb ybs)), (ad 5018, .inl (cT 0, 16, .inl (yA 18))), (ad 5019, .inl (cT 0, 496, .inl (tA F 0)))] ++ pg cds ad (upo gg [5060, 5018, 5019])) := by rw [show yr 18 = ad 5018 from (hyr 18 (by unfold YKy; omega)).symm, show yr 19 = ad 5019 from (hyr 19 (by unfold YKy; omega)).symm]
          have hP := vP_eq hw9 hP
          have hD := vD_eq hw9 hD
          have hP : va_P D vwCl ([(zo, .inl (cT 1, 1, .inr (.inl (vp_updL zf 0 (Int32.toInt64 (tA F 0 (31 * t + k))))))), (ad 5060, .inr (11, MO yr yi ysb ybs)), (yr 18, .inl (cT 0, 16, .inl (yA 18))), (yr 19, .inl (cT 0, 496, .inl (tA F 0)))] ++ pg cds ad (upo gg [5060, 5018, 5019])) _ := hP
          have hD : va_D A ([(zo, .inl (cT 1, 1, .inr (.inl (vp_updL zf 0 (Int32.toInt64 (tA F 0 (31 * t + k))))))), (ad 5060, .inr (11, MO yr yi ysb ybs)), (yr 18, .inl (cT 0, 16, .inl (yA 18))), (yr 19, .inl (cT 0, 496, .inl (tA F 0)))] ++ pg cds ad (upo gg [5060, 5018, 5019])) := hD
          refine hy_iQ (X := [(zo, .inl (cT 1, 1, .inr (.inl (vp_updL zf 0 (Int32.toInt64 (tA F 0 (31 * t + k))))))), (ad 5060, .inr (11, MO yr yi ysb ybs)), (yr 18, .inl (cT 0, 16, .inl (yA 18))), (yr 19, .inl (cT 0, 496, .inl (tA F 0)))]) (pl := pg cds ad (upo gg [5060, 5018, 5019])) (cx := [(ad 5060, .inr (11, MO yr yi ysb ybs)), (yr 18, .inl (cT 0, 16, .inl (yA 18))), (yr 19, .inl (cT 0, 496, .inl (tA F 0)))]) (wr := [(zo, .inl (cT 1, 1, .inr (.inl (vp_updL zf 0 (Int32.toInt64 (tA F 0 (31 * t + k)))))))]) hP hD hS hA [1, 2, 3] [0] rfl rfl (by decide) (by decide) (va_runV (As := [.int (nI t), .int (nI k), .int 0]) (rest := []) ⟨hx, hb, hml, hown, hT⟩ (y_node0 l D cT (ad 5060) yr yi ysb ybs (yA 18) (tA F 0) t k (tM F t) (by rw [y17]; exact hq) (by omega) (y18e t ht) hm31 hk _) ⟨callB_of 3 hT (tb_gd w1531) rfl rfl rfl (hT _ w13) (hT _ w1528) hM_node ⟨Nat.le_of_ble_eq_true rfl, Nat.le_of_ble_eq_true rfl⟩, (hT _ w1529), (hT _ w1530)⟩ (RW.preV (ci := 11) (q0 := 0) hZ hS (hy_free (cx := [(ad 5060, .inr (11, MO yr yi ysb ybs)), (yr 18, .inl (cT 0, 16, .inl (yA 18))), (yr 19, .inl (cT 0, 496, .inl (tA F 0)))]) hD hS hA [1, 2, 3] rfl) (hP.sub (ws' := [(ad 5060, .inr (11, MO yr yi ysb ybs)), (yr 18, .inl (cT 0, 16, .inl (yA 18))), (yr 19, .inl (cT 0, 496, .inl (tA F 0)))]) [1, 2, 3] rfl) hK (hD.sub (ws' := [(ad 5060, .inr (11, MO yr yi ysb ybs)), (yr 18, .inl (cT 0, 16, .inl (yA 18))), (yr 19, .inl (cT 0, 496, .inl (tA F 0)))]) [1, 2, 3] (by decide) rfl) rfl rfl) rfl rfl hl.1 rfl (lv_room (Nat.le_of_ble_eq_true rfl)) dL_law_1044 ⟨(by show ((2000 + j + 3 * fm + 4 * SM mk 16) + 0) + 0 ≤ 601024; omega), (by show ((400000 + 6 * j + 42 * fm + 69 * SM mk 16) + 0) + 0 ≤ 7293034; omega)⟩) (fun ru2 u9 H locs hpu2 hP hD hS => ?_)
          have hpu2 : ru2 = (tA F 0) (31 * t + k) := hpu2
          have hP : va_P D vwCl ([(zo, .inl (cT 1, 1, .inr (.inl (vp_updL zf 0 (Int32.toInt64 (tA F 0 (31 * t + k))))))), (ad 5060, .inr (11, MO yr (va_up yi 1 0) ysb ybs)), (yr 18, .inl (cT 0, 16, .inl (yA 18))), (yr 19, .inl (cT 0, 496, .inl (tA F 0)))] ++ pg cds ad (upo gg [5060, 5018, 5019])) _ := hP
          have hD : va_D A ([(zo, .inl (cT 1, 1, .inr (.inl (vp_updL zf 0 (Int32.toInt64 (tA F 0 (31 * t + k))))))), (ad 5060, .inr (11, MO yr (va_up yi 1 0) ysb ybs)), (yr 18, .inl (cT 0, 16, .inl (yA 18))), (yr 19, .inl (cT 0, 496, .inl (tA F 0)))] ++ pg cds ad (upo gg [5060, 5018, 5019])) := hD
          have hw9 : ([(zo, .inl (cT 1, 1, .inr (.inl (vp_updL zf 0 (Int32.toInt64 (tA F 0 (31 * t + k))))))), (ad 5060, .inr (11, MO yr (va_up yi 1 0) ysb ybs)), (ad 5018, .inl (cT 0, 16, .inl (yA 18))), (ad 5019, .inl (cT 0, 496, .inl (tA F 0)))] ++ pg cds ad (upo gg [5060, 5018, 5019])) = ([(zo, .inl (cT 1, 1, .inr (.inl (vp_updL zf 0 (Int32.toInt64 (tA F 0 (31 * t + k))))))), (ad 5060, .inr (11, MO yr (va_up yi 1 0) ysb ybs)), (yr 18, .inl (cT 0, 16, .inl (yA 18))), (yr 19, .inl (cT 0, 496, .inl (tA F 0)))] ++ pg cds ad (upo gg [5060, 5018, 5019])) := by rw [show ad 5018 = yr 18 from hyr 18 (by unfold YKy; omega), show ad 5019 = yr 19 from hyr 19 (by unfold YKy; omega)]
          have hP := vP_eq hw9 hP
          have hD := vD_eq hw9 hD
          have hP : va_P D vwCl ([(zo, .inl (cT 1, 1, .inr (.inl (vp_updL zf 0 (Int32.toInt64 (tA F 0 (31 * t + k))))))), (ad 5060, .inr (11, MO yr (va_up yi 1 0) ysb ybs)), (ad 5018, .inl (cT 0, 16, .inl (yA 18))), (ad 5019, .inl (cT 0, 496, .inl (tA F 0)))] ++ pg cds ad (upo gg [5060, 5018, 5019])) _ := hP
          have hD : va_D A ([(zo, .inl (cT 1, 1, .inr (.inl (vp_updL zf 0 (Int32.toInt64 (tA F 0 (31 * t + k))))))), (ad 5060, .inr (11, MO yr (va_up yi 1 0) ysb ybs)), (ad 5018, .inl (cT 0, 16, .inl (yA 18))), (ad 5019, .inl (cT 0, 496, .inl (tA F 0)))] ++ pg cds ad (upo gg [5060, 5018, 5019])) := hD
          have hN9 := (show NDc [5060, 5018, 5019] from (nd_c (na_c (by decide) (na_c (by decide) na_0)) (nd_c (na_c (by decide) na_0) (nd_c na_0 nd_0))))
          have hP := gb_P (w9 := [(5060, .inr (11, MO yr (va_up yi 1 0) ysb ybs)), (5018, .inl (cT 0, 16, .inl (yA 18))), (5019, .inl (cT 0, 496, .inl (tA F 0)))]) (X := [(zo, .inl (cT 1, 1, .inr (.inl (vp_updL zf 0 (Int32.toInt64 (tA F 0 (31 * t + k)))))))]) (g := gg) hcd hN9 (show QB [(5060, .inr (11, MO yr (va_up yi 1 0) ysb ybs)), (5018, .inl (cT 0, 16, .inl (yA 18))), (5019, .inl (cT 0, 496, .inl (tA F 0)))] from (qb_c (by decide) (qb_c (by decide) (qb_c (by decide) qb_0)))) (hP.part (cx := [(zo, .inl (cT 1, 1, .inr (.inl (vp_updL zf 0 (Int32.toInt64 (tA F 0 (31 * t + k))))))), (ad 5060, .inr (11, MO yr (va_up yi 1 0) ysb ybs)), (ad 5018, .inl (cT 0, 16, .inl (yA 18))), (ad 5019, .inl (cT 0, 496, .inl (tA F 0)))]) [0, 1, 2, 3] rfl)
          have hD := gb_D (w9 := [(5060, .inr (11, MO yr (va_up yi 1 0) ysb ybs)), (5018, .inl (cT 0, 16, .inl (yA 18))), (5019, .inl (cT 0, 496, .inl (tA F 0)))]) (X := [(zo, .inl (cT 1, 1, .inr (.inl (vp_updL zf 0 (Int32.toInt64 (tA F 0 (31 * t + k)))))))]) (g := gg) hcd hN9 (show QB [(5060, .inr (11, MO yr (va_up yi 1 0) ysb ybs)), (5018, .inl (cT 0, 16, .inl (yA 18))), (5019, .inl (cT 0, 496, .inl (tA F 0)))] from (qb_c (by decide) (qb_c (by decide) (qb_c (by decide) qb_0)))) (hD.part (cx := [(zo, .inl (cT 1, 1, .inr (.inl (vp_updL zf 0 (Int32.toInt64 (tA F 0 (31 * t + k))))))), (ad 5060, .inr (11, MO yr (va_up yi 1 0) ysb ybs)), (ad 5018, .inl (cT 0, 16, .inl (yA 18))), (ad 5019, .inl (cT 0, 496, .inl (tA F 0)))]) [0, 1, 2, 3] (by decide) rfl)
          obtain ⟨gy, hgy⟩ : ∃ q9, q9 = ups gg [(5060, .inr (11, MO yr (va_up yi 1 0) ysb ybs)), (5018, .inl (cT 0, 16, .inl (yA 18))), (5019, .inl (cT 0, 496, .inl (tA F 0)))] := ⟨_, rfl⟩
          rw [← hgy] at hP hD
          have hP : va_P D vwCl ([(zo, .inl (cT 1, 1, .inr (.inl (vp_updL zf 0 (Int32.toInt64 (tA F 0 (31 * t + k)))))))] ++ pg cds ad gy) _ := hP
          have hD : va_D A ([(zo, .inl (cT 1, 1, .inr (.inl (vp_updL zf 0 (Int32.toInt64 (tA F 0 (31 * t + k)))))))] ++ pg cds ad gy) := hD
          have fgy : ∀ z8, z8 ≠ 5060 → gy z8 = gg z8 := fun z8 z1 => by rw [hgy]; exact ups_k (kp_n z1 (kp_s (hYA 18 (by unfold YKy; omega)) (kp_s (hYA 19 (by unfold YKy; omega)) kp_0)))
          have gy_0 : gy 5060 = some (.inr (11, MO yr (va_up yi 1 0) ysb ybs)) := by rw [hgy]; exact ups_1
          refine lv_istore hx hb dL_law_1047 hl (by decide) rfl (fun ls hl => ?_)
          have hl : lv_has ls 7 [(6, .int ru2), (5, .int 0), (0, .ref b), (1, .ref (ad 0)), (2, .ref (ad 5060)), (3, .ref zo), (4, .int (nI (4 * j)))] := hl
          refine lv_aload_n hx hb dL_law_1049 rfl (lv_at hl 4 rfl) ?_
          refine ro_i (va_Run.run (va_runV (As := []) (rest := []) ⟨hx, hb, hml, hown, hT⟩ (m_thrown l D cT (ad 5060) yr (va_up yi 1 0) ysb ybs) ⟨callB_of 0 hT (tb_gd w1290) rfl rfl rfl (hT _ w13) (hT _ w1287) hM_thrown ⟨Nat.le_of_ble_eq_true rfl, Nat.le_of_ble_eq_true rfl⟩, (hT _ w1288), (hT _ w1289)⟩ (RO.preV (ci := 11) (q0 := 0) hZ hS ((show va_P D vwCl [(ad 5060, .inr (11, MO yr (va_up yi 1 0) ysb ybs))] _ from (pv_c (pg_1 (x := 5060) hcd hP (by decide) gy_0) pv_0))) hK rfl rfl) rfl rfl hl.1 rfl (lv_room (Nat.le_of_ble_eq_true rfl)) dL_law_1050 ⟨(by show (((2000 + j + 3 * fm + 4 * SM mk 16) + 0) + 0) + 0 ≤ 601024; omega), (by show (((400000 + 6 * j + 42 * fm + 69 * SM mk 16) + 0) + 0) + 0 ≤ 7293034; omega)⟩)) ?_
          refine lv_topi (fun y9 e9 => ?_)
          cases (show y9 = 0 from e9.trans rfl)
          refine lv_iload hx hb dL_law_1053 (lv_at hl 1 rfl) ?_
          refine lv_icmp_eq (tgt := 1060) hx hb dL_law_1055 rfl (fun _ => ?_) (fun h3 => absurd (by decide) h3)
          refine lv_iload hx hb dL_law_1060 (lv_at hl 1 rfl) ?_
          refine lv_if_ne (tgt := 1077) hx hb dL_law_1062 rfl (fun h4 => absurd (by decide) h4) (fun _ => ?_)
          refine lv_aload_n hx hb dL_law_1065 rfl (lv_at hl 5 rfl) ?_
          refine lv_iconst (v := 0) hx hb dL_law_1066 (by decide) ?_
          refine va_lald hx hb hK hP 0 1 rfl rfl (by unfold vp_in; decide) dL_law_1067 ?_
          refine lv_iload hx hb dL_law_1068 (lv_at hl 0 rfl) ?_
          refine lv_i2l hx hb dL_law_1070 rfl ?_
          refine W.lcmp hx hb dL_law_1071 ?_
          refine lv_if_eq (tgt := 1077) hx hb dL_law_1072 rfl (fun _ => ?_) (fun h5 => absurd ((lg_cmp_eq _ _).mpr (pk_uLs.trans (congrArg Int32.toInt64 hpu2.symm))) h5)
          refine lv_goto (tgt := 1690) hx hb dL_law_1077 rfl ?_
          obtain ⟨yiz, hyiz⟩ : ∃ f9 : Nat → Int32, f9 = va_up yi 1 0 := ⟨_, rfl⟩
          have hIz : LWI cT ad gg tE T fm mk F n wd dpt lst w ru rl ne Lo yiz ysb yA := hI.sc (fun k hk => by rw [hyiz]; exact va_up_ne _ _ hk) (fun _ _ => rfl)
          have hIz := hIz.yg (g2 := gy) (fun z8 hz => fgy z8 (by omega))
          have hYz : YCL cT ad gy y yr yiz ysb ybs yA yW F := by
            refine ⟨hYad, hyr, (by rw [hyiz]; exact gy_0), fun k hk => ?_⟩
            have hk2 : k = 0 ∨ (4 ≤ k ∧ k ≤ 9) ∨ (18 ≤ k ∧ k ≤ 46) ∨ k = 48 ∨ k = 49 ∨ (56 ≤ k ∧ k ≤ 59) := hk
            exact (fgy (5000 + k) (by omega)).trans ((hYA k hk).trans (congrArg some (ycl_o rfl).symm))
          rw [hyiz] at hIz hYz
          refine W.widen (k := 2000 + (j + 1) + 3 * fm + 4 * SM mk 16) (n := 400000 + 6 * (j + 1) + 42 * fm + 69 * SM mk 16) (by show ((2000 + j + 3 * fm + 4 * SM mk 16) + 0) + 0 ≤ 2000 + (j + 1) + 3 * fm + 4 * SM mk 16; omega) (by show ((400000 + 6 * j + 42 * fm + 69 * SM mk 16) + 0) + 0 ≤ 400000 + 6 * (j + 1) + 42 * fm + 69 * SM mk 16; omega) ?_
          have hl := lv_sub hl [2, 3, 4, 5, 6] rfl
          have hl : lv_has ls 7 [(0, .ref b), (1, .ref (ad 0)), (2, .ref y), (3, .ref zo), (4, .int (nI (4 * j)))] := by rw [← hYz.1]; exact hl
          exact hend ad gy T fm mk F n wd dpt lst w ru rl ne Lo (va_up yi 1 0) ysb ybs yA yW (vp_updL zf 0 (Int32.toInt64 (tA F 0 (31 * t + k)))) _ _ ls hIz hYz hP hD hS hl
        · refine lv_aload_n hx hb dL_law_1000 rfl (lv_at hl 1 rfl) ?_
          refine lv_aload_n hx hb dL_law_1001 rfl (lv_at hl 0 rfl) ?_
          refine lv_iload hx hb dL_law_1002 (lv_at hl 4 rfl) ?_
          refine lv_iconst (v := 1) hx hb dL_law_1004 (by decide) ?_
          refine lv_iadd hx hb dL_law_1005 ?_
          refine lv_topi (fun y9 e9 => ?_)
          cases (show y9 = nI ((4 * j) + 1) from e9.trans (nI_add (4 * j) 1))
          refine va_sld hx hb hX hbl hbA hS (vp_in_nI (n := 4 * j + 1) (N := L) (by omega) (by omega)) dL_law_1006 ?_
          refine lv_topi (fun y9 e9 => ?_)
          cases (show y9 = nI t from e9.trans (by rw [nI_clamp (by omega)]; exact ha1.symm))
          refine lv_aload_n hx hb dL_law_1007 rfl (lv_at hl 0 rfl) ?_
          refine lv_iload hx hb dL_law_1008 (lv_at hl 4 rfl) ?_
          refine lv_iconst (v := 2) hx hb dL_law_1010 (by decide) ?_
          refine lv_iadd hx hb dL_law_1011 ?_
          refine lv_topi (fun y9 e9 => ?_)
          cases (show y9 = nI ((4 * j) + 2) from e9.trans (nI_add (4 * j) 2))
          refine va_sld hx hb hX hbl hbA hS (vp_in_nI (n := 4 * j + 2) (N := L) (by omega) (by omega)) dL_law_1012 ?_
          refine lv_topi (fun y9 e9 => ?_)
          cases (show y9 = nI k from e9.trans (by rw [nI_clamp (by omega)]; exact ha2.symm))
          refine lv_aload_n hx hb dL_law_1013 rfl (lv_at hl 0 rfl) ?_
          refine lv_iload hx hb dL_law_1014 (lv_at hl 4 rfl) ?_
          refine lv_iconst (v := 3) hx hb dL_law_1016 (by decide) ?_
          refine lv_iadd hx hb dL_law_1017 ?_
          refine lv_topi (fun y9 e9 => ?_)
          cases (show y9 = nI ((4 * j) + 3) from e9.trans (nI_add (4 * j) 3))
          refine va_sld hx hb hX hbl hbA hS (vp_in_nI (n := 4 * j + 3) (N := L) (by omega) (by omega)) dL_law_1018 ?_
          refine lv_topi (fun y9 e9 => ?_)
          cases (show y9 = 1 from e9.trans (by rw [nI_clamp (by omega)]; exact ha3.symm))
          refine lv_aload_n hx hb dL_law_1019 rfl (lv_at hl 3 rfl) ?_
          refine hy_iP (X := [(zo, .inl (cT 1, 1, .inr (.inl zf)))]) (pl := pg cds ad gg) (cx := [(zo, .inl (cT 1, 1, .inr (.inl zf)))]) (wr := []) hP hD hS hA [0] [] rfl rfl (by decide) (by decide) (tx_runSH (As := [.ref (ad 0), .int (nI t), .int (nI k), .int 1, .ref zo]) (rest := []) ⟨hx, hb, hml, hown, hT⟩ (l_node1 l D cT cds ad gg T fm F t k zo zf hcd hob hFT.1.frp hTf hTs hT16 ht hq hr hk _) hT (tc_gd w994 w995 w0 (tb_gd w996)) rfl rfl rfl hL_node ⟨Nat.le_of_ble_eq_true rfl, Nat.le_of_ble_eq_true rfl⟩ (RW.preS hZ hS (va_freeP (cx := [(zo, .inl (cT 1, 1, .inr (.inl zf)))]) hD hS hA [0] rfl) (hP.part (cx := [(zo, .inl (cT 1, 1, .inr (.inl zf)))]) [0] rfl) hK (hD.part (cx := [(zo, .inl (cT 1, 1, .inr (.inl zf)))]) [0] (by decide) rfl)) rfl hl.1 rfl (Nat.le_of_ble_eq_true rfl) dL_law_1020 ⟨(by show (2000 + j + 3 * fm + 4 * SM mk 16) + 0 ≤ 601024; omega), (by show (400000 + 6 * j + 42 * fm + 69 * SM mk 16) + 0 ≤ 7293034; omega)⟩) (fun ru6 u9 H locs hpu6 hP hD hS => ?_)
          have hpu6 : ru6 = 0 := hpu6
          have hP : va_P D vwCl ([(zo, .inl (cT 1, 1, .inr (.inl (vp_updL zf 0 (Int32.toInt64 (tA F 1 (31 * t + k)))))))] ++ pg cds ad gg) _ := hP
          have hD : va_D A ([(zo, .inl (cT 1, 1, .inr (.inl (vp_updL zf 0 (Int32.toInt64 (tA F 1 (31 * t + k)))))))] ++ pg cds ad gg) := hD
          refine lv_topi (fun y9 e9 => ?_)
          cases (show y9 = 0 from e9.trans hpu6)
          refine lv_istore hx hb dL_law_1023 hl (by decide) rfl (fun ls hl => ?_)
          have hl : lv_has ls 7 [(5, .int 0), (0, .ref b), (1, .ref (ad 0)), (2, .ref (ad 5060)), (3, .ref zo), (4, .int (nI (4 * j)))] := hl
          refine lv_aload_n hx hb dL_law_1025 rfl (lv_at hl 3 rfl) ?_
          refine lv_aload_n hx hb dL_law_1026 rfl (lv_at hl 1 rfl) ?_
          refine lv_iload hx hb dL_law_1027 (lv_at hl 5 rfl) ?_
          refine lv_iconst (v := 1) hx hb dL_law_1029 (by decide) ?_
          refine lv_iadd hx hb dL_law_1030 ?_
          refine lv_topi (fun y9 e9 => ?_)
          cases (show y9 = nI ((4 * j) + 1) from e9.trans (nI_add (4 * j) 1))
          refine va_sld hx hb hX hbl hbA hS (vp_in_nI (n := 4 * j + 1) (N := L) (by omega) (by omega)) dL_law_1031 ?_
          refine lv_topi (fun y9 e9 => ?_)
          cases (show y9 = nI t from e9.trans (by rw [nI_clamp (by omega)]; exact ha1.symm))
          refine lv_aload_n hx hb dL_law_1032 rfl (lv_at hl 1 rfl) ?_
          refine lv_iload hx hb dL_law_1033 (lv_at hl 5 rfl) ?_
          refine lv_iconst (v := 2) hx hb dL_law_1035 (by decide) ?_
          refine lv_iadd hx hb dL_law_1036 ?_
          refine lv_topi (fun y9 e9 => ?_)
          cases (show y9 = nI ((4 * j) + 2) from e9.trans (nI_add (4 * j) 2))
          refine va_sld hx hb hX hbl hbA hS (vp_in_nI (n := 4 * j + 2) (N := L) (by omega) (by omega)) dL_law_1037 ?_
          refine lv_topi (fun y9 e9 => ?_)
          cases (show y9 = nI k from e9.trans (by rw [nI_clamp (by omega)]; exact ha2.symm))
          refine lv_aload_n hx hb dL_law_1038 rfl (lv_at hl 1 rfl) ?_
          refine lv_iload hx hb dL_law_1039 (lv_at hl 5 rfl) ?_
          refine lv_iconst (v := 3) hx hb dL_law_1041 (by decide) ?_
          refine lv_iadd hx hb dL_law_1042 ?_
          refine lv_topi (fun y9 e9 => ?_)
          cases (show y9 = nI ((4 * j) + 3) from e9.trans (nI_add (4 * j) 3))
          refine va_sld hx hb hX hbl hbA hS (vp_in_nI (n := 4 * j + 3) (N := L) (by omega) (by omega)) dL_law_1043 ?_
          refine lv_topi (fun y9 e9 => ?_)
          cases (show y9 = 1 from e9.trans (by rw [nI_clamp (by omega)]; exact ha3.symm))
          have hB9 : QI gg [(5060, .inr (11, MO yr yi ysb ybs)), (5018, .inl (cT 0, 16, .inl (yA 18))), (5020, .inl (cT 0, 496, .inl (tA F 1)))] := (qi_c (by decide) hYy (qi_c (by decide) (hYA 18 (by unfold YKy; omega)) (qi_c (by decide) (hYA 20 (by unfold YKy; omega)) qi_0)))
          have hN9 := (show NDc [5060, 5018, 5020] from (nd_c (na_c (by decide) (na_c (by decide) na_0)) (nd_c (na_c (by decide) na_0) (nd_c na_0 nd_0))))
          have hP := bo_P (wc := [(5060, .inr (11, MO yr yi ysb ybs)), (5018, .inl (cT 0, 16, .inl (yA 18))), (5020, .inl (cT 0, 496, .inl (tA F 1)))]) (X := [(zo, .inl (cT 1, 1, .inr (.inl (vp_updL zf 0 (Int32.toInt64 (tA F 1 (31 * t + k)))))))]) hcd hN9 hB9 hP
          have hD := bo_D (wc := [(5060, .inr (11, MO yr yi ysb ybs)), (5018, .inl (cT 0, 16, .inl (yA 18))), (5020, .inl (cT 0, 496, .inl (tA F 1)))]) (X := [(zo, .inl (cT 1, 1, .inr (.inl (vp_updL zf 0 (Int32.toInt64 (tA F 1 (31 * t + k)))))))]) hcd hN9 hB9 hD
          have hP : va_P D vwCl ([(zo, .inl (cT 1, 1, .inr (.inl (vp_updL zf 0 (Int32.toInt64 (tA F 1 (31 * t + k))))))), (ad 5060, .inr (11, MO yr yi ysb ybs)), (ad 5018, .inl (cT 0, 16, .inl (yA 18))), (ad 5020, .inl (cT 0, 496, .inl (tA F 1)))] ++ pg cds ad (upo gg [5060, 5018, 5020])) _ := hP
          have hD : va_D A ([(zo, .inl (cT 1, 1, .inr (.inl (vp_updL zf 0 (Int32.toInt64 (tA F 1 (31 * t + k))))))), (ad 5060, .inr (11, MO yr yi ysb ybs)), (ad 5018, .inl (cT 0, 16, .inl (yA 18))), (ad 5020, .inl (cT 0, 496, .inl (tA F 1)))] ++ pg cds ad (upo gg [5060, 5018, 5020])) := hD
          have hw9 : ([(zo, .inl (cT 1, 1, .inr (.inl (vp_updL zf 0 (Int32.toInt64 (tA F 1 (31 * t + k))))))), (ad 5060, .inr (11, MO yr yi ysb ybs)), (yr 18, .inl (cT 0, 16, .inl (yA 18))), (yr 20, .inl (cT 0, 496, .inl (tA F 1)))] ++ pg cds ad (upo gg [5060, 5018, 5020])) = ([(zo, .inl (cT 1, 1, .inr (.inl (vp_updL zf 0 (Int32.toInt64 (tA F 1 (31 * t + k))))))), (ad 5060, .inr (11, MO yr yi ysb ybs)), (ad 5018, .inl (cT 0, 16, .inl (yA 18))), (ad 5020, .inl (cT 0, 496, .inl (tA F 1)))] ++ pg cds ad (upo gg [5060, 5018, 5020])) := by rw [show yr 18 = ad 5018 from (hyr 18 (by unfold YKy; omega)).symm, show yr 20 = ad 5020 from (hyr 20 (by unfold YKy; omega)).symm]
          have hP := vP_eq hw9 hP
          have hD := vD_eq hw9 hD
          have hP : va_P D vwCl ([(zo, .inl (cT 1, 1, .inr (.inl (vp_updL zf 0 (Int32.toInt64 (tA F 1 (31 * t + k))))))), (ad 5060, .inr (11, MO yr yi ysb ybs)), (yr 18, .inl (cT 0, 16, .inl (yA 18))), (yr 20, .inl (cT 0, 496, .inl (tA F 1)))] ++ pg cds ad (upo gg [5060, 5018, 5020])) _ := hP
          have hD : va_D A ([(zo, .inl (cT 1, 1, .inr (.inl (vp_updL zf 0 (Int32.toInt64 (tA F 1 (31 * t + k))))))), (ad 5060, .inr (11, MO yr yi ysb ybs)), (yr 18, .inl (cT 0, 16, .inl (yA 18))), (yr 20, .inl (cT 0, 496, .inl (tA F 1)))] ++ pg cds ad (upo gg [5060, 5018, 5020])) := hD
          refine hy_iQ (X := [(zo, .inl (cT 1, 1, .inr (.inl (vp_updL zf 0 (Int32.toInt64 (tA F 1 (31 * t + k))))))), (ad 5060, .inr (11, MO yr yi ysb ybs)), (yr 18, .inl (cT 0, 16, .inl (yA 18))), (yr 20, .inl (cT 0, 496, .inl (tA F 1)))]) (pl := pg cds ad (upo gg [5060, 5018, 5020])) (cx := [(ad 5060, .inr (11, MO yr yi ysb ybs)), (yr 18, .inl (cT 0, 16, .inl (yA 18))), (yr 20, .inl (cT 0, 496, .inl (tA F 1)))]) (wr := [(zo, .inl (cT 1, 1, .inr (.inl (vp_updL zf 0 (Int32.toInt64 (tA F 1 (31 * t + k)))))))]) hP hD hS hA [1, 2, 3] [0] rfl rfl (by decide) (by decide) (va_runV (As := [.int (nI t), .int (nI k), .int 1]) (rest := []) ⟨hx, hb, hml, hown, hT⟩ (y_node1 l D cT (ad 5060) yr yi ysb ybs (yA 18) (tA F 1) t k (tM F t) (by rw [y17]; exact hq) (by omega) (y18e t ht) hm31 hk _) ⟨callB_of 3 hT (tb_gd w1531) rfl rfl rfl (hT _ w13) (hT _ w1528) hM_node ⟨Nat.le_of_ble_eq_true rfl, Nat.le_of_ble_eq_true rfl⟩, (hT _ w1529), (hT _ w1530)⟩ (RW.preV (ci := 11) (q0 := 0) hZ hS (hy_free (cx := [(ad 5060, .inr (11, MO yr yi ysb ybs)), (yr 18, .inl (cT 0, 16, .inl (yA 18))), (yr 20, .inl (cT 0, 496, .inl (tA F 1)))]) hD hS hA [1, 2, 3] rfl) (hP.sub (ws' := [(ad 5060, .inr (11, MO yr yi ysb ybs)), (yr 18, .inl (cT 0, 16, .inl (yA 18))), (yr 20, .inl (cT 0, 496, .inl (tA F 1)))]) [1, 2, 3] rfl) hK (hD.sub (ws' := [(ad 5060, .inr (11, MO yr yi ysb ybs)), (yr 18, .inl (cT 0, 16, .inl (yA 18))), (yr 20, .inl (cT 0, 496, .inl (tA F 1)))]) [1, 2, 3] (by decide) rfl) rfl rfl) rfl rfl hl.1 rfl (lv_room (Nat.le_of_ble_eq_true rfl)) dL_law_1044 ⟨(by show ((2000 + j + 3 * fm + 4 * SM mk 16) + 0) + 0 ≤ 601024; omega), (by show ((400000 + 6 * j + 42 * fm + 69 * SM mk 16) + 0) + 0 ≤ 7293034; omega)⟩) (fun ru7 u9 H locs hpu7 hP hD hS => ?_)
          have hpu7 : ru7 = (tA F 1) (31 * t + k) := hpu7
          have hP : va_P D vwCl ([(zo, .inl (cT 1, 1, .inr (.inl (vp_updL zf 0 (Int32.toInt64 (tA F 1 (31 * t + k))))))), (ad 5060, .inr (11, MO yr (va_up yi 1 0) ysb ybs)), (yr 18, .inl (cT 0, 16, .inl (yA 18))), (yr 20, .inl (cT 0, 496, .inl (tA F 1)))] ++ pg cds ad (upo gg [5060, 5018, 5020])) _ := hP
          have hD : va_D A ([(zo, .inl (cT 1, 1, .inr (.inl (vp_updL zf 0 (Int32.toInt64 (tA F 1 (31 * t + k))))))), (ad 5060, .inr (11, MO yr (va_up yi 1 0) ysb ybs)), (yr 18, .inl (cT 0, 16, .inl (yA 18))), (yr 20, .inl (cT 0, 496, .inl (tA F 1)))] ++ pg cds ad (upo gg [5060, 5018, 5020])) := hD
          have hw9 : ([(zo, .inl (cT 1, 1, .inr (.inl (vp_updL zf 0 (Int32.toInt64 (tA F 1 (31 * t + k))))))), (ad 5060, .inr (11, MO yr (va_up yi 1 0) ysb ybs)), (ad 5018, .inl (cT 0, 16, .inl (yA 18))), (ad 5020, .inl (cT 0, 496, .inl (tA F 1)))] ++ pg cds ad (upo gg [5060, 5018, 5020])) = ([(zo, .inl (cT 1, 1, .inr (.inl (vp_updL zf 0 (Int32.toInt64 (tA F 1 (31 * t + k))))))), (ad 5060, .inr (11, MO yr (va_up yi 1 0) ysb ybs)), (yr 18, .inl (cT 0, 16, .inl (yA 18))), (yr 20, .inl (cT 0, 496, .inl (tA F 1)))] ++ pg cds ad (upo gg [5060, 5018, 5020])) := by rw [show ad 5018 = yr 18 from hyr 18 (by unfold YKy; omega), show ad 5020 = yr 20 from hyr 20 (by unfold YKy; omega)]
          have hP := vP_eq hw9 hP
          have hD := vD_eq hw9 hD
          have hP : va_P D vwCl ([(zo, .inl (cT 1, 1, .inr (.inl (vp_updL zf 0 (Int32.toInt64 (tA F 1 (31 * t + k))))))), (ad 5060, .inr (11, MO yr (va_up yi 1 0) ysb ybs)), (ad 5018, .inl (cT 0, 16, .inl (yA 18))), (ad 5020, .inl (cT 0, 496, .inl (tA F 1)))] ++ pg cds ad (upo gg [5060, 5018, 5020])) _ := hP
          have hD : va_D A ([(zo, .inl (cT 1, 1, .inr (.inl (vp_updL zf 0 (Int32.toInt64 (tA F 1 (31 * t + k))))))), (ad 5060, .inr (11, MO yr (va_up yi 1 0) ysb ybs)), (ad 5018, .inl (cT 0, 16, .inl (yA 18))), (ad 5020, .inl (cT 0, 496, .inl (tA F 1)))] ++ pg cds ad (upo gg [5060, 5018, 5020])) := hD
          have hN9 := (show NDc [5060, 5018, 5020] from (nd_c (na_c (by decide) (na_c (by decide) na_0)) (nd_c (na_c (by decide) na_0) (nd_c na_0 nd_0))))
          have hP := gb_P (w9 := [(5060, .inr (11, MO yr (va_up yi 1 0) ysb ybs)), (5018, .inl (cT 0, 16, .inl (yA 18))), (5020, .inl (cT 0, 496, .inl (tA F 1)))]) (X := [(zo, .inl (cT 1, 1, .inr (.inl (vp_updL zf 0 (Int32.toInt64 (tA F 1 (31 * t + k)))))))]) (g := gg) hcd hN9 (show QB [(5060, .inr (11, MO yr (va_up yi 1 0) ysb ybs)), (5018, .inl (cT 0, 16, .inl (yA 18))), (5020, .inl (cT 0, 496, .inl (tA F 1)))] from (qb_c (by decide) (qb_c (by decide) (qb_c (by decide) qb_0)))) (hP.part (cx := [(zo, .inl (cT 1, 1, .inr (.inl (vp_updL zf 0 (Int32.toInt64 (tA F 1 (31 * t + k))))))), (ad 5060, .inr (11, MO yr (va_up yi 1 0) ysb ybs)), (ad 5018, .inl (cT 0, 16, .inl (yA 18))), (ad 5020, .inl (cT 0, 496, .inl (tA F 1)))]) [0, 1, 2, 3] rfl)
          have hD := gb_D (w9 := [(5060, .inr (11, MO yr (va_up yi 1 0) ysb ybs)), (5018, .inl (cT 0, 16, .inl (yA 18))), (5020, .inl (cT 0, 496, .inl (tA F 1)))]) (X := [(zo, .inl (cT 1, 1, .inr (.inl (vp_updL zf 0 (Int32.toInt64 (tA F 1 (31 * t + k)))))))]) (g := gg) hcd hN9 (show QB [(5060, .inr (11, MO yr (va_up yi 1 0) ysb ybs)), (5018, .inl (cT 0, 16, .inl (yA 18))), (5020, .inl (cT 0, 496, .inl (tA F 1)))] from (qb_c (by decide) (qb_c (by decide) (qb_c (by decide) qb_0)))) (hD.part (cx := [(zo, .inl (cT 1, 1, .inr (.inl (vp_updL zf 0 (Int32.toInt64 (tA F 1 (31 * t + k))))))), (ad 5060, .inr (11, MO yr (va_up yi 1 0) ysb ybs)), (ad 5018, .inl (cT 0, 16, .inl (yA 18))), (ad 5020, .inl (cT 0, 496, .inl (tA F 1)))]) [0, 1, 2, 3] (by decide) rfl)
          obtain ⟨gy, hgy⟩ : ∃ q9, q9 = ups gg [(5060, .inr (11, MO yr (va_up yi 1 0) ysb ybs)), (5018, .inl (cT 0, 16, .inl (yA 18))), (5020, .inl (cT 0, 496, .inl (tA F 1)))] := ⟨_, rfl⟩
          rw [← hgy] at hP hD
          have hP : va_P D vwCl ([(zo, .inl (cT 1, 1, .inr (.inl (vp_updL zf 0 (Int32.toInt64 (tA F 1 (31 * t + k)))))))] ++ pg cds ad gy) _ := hP
          have hD : va_D A ([(zo, .inl (cT 1, 1, .inr (.inl (vp_updL zf 0 (Int32.toInt64 (tA F 1 (31 * t + k)))))))] ++ pg cds ad gy) := hD
          have fgy : ∀ z8, z8 ≠ 5060 → gy z8 = gg z8 := fun z8 z1 => by rw [hgy]; exact ups_k (kp_n z1 (kp_s (hYA 18 (by unfold YKy; omega)) (kp_s (hYA 20 (by unfold YKy; omega)) kp_0)))
          have gy_0 : gy 5060 = some (.inr (11, MO yr (va_up yi 1 0) ysb ybs)) := by rw [hgy]; exact ups_1
          refine lv_istore hx hb dL_law_1047 hl (by decide) rfl (fun ls hl => ?_)
          have hl : lv_has ls 7 [(6, .int ru7), (5, .int 0), (0, .ref b), (1, .ref (ad 0)), (2, .ref (ad 5060)), (3, .ref zo), (4, .int (nI (4 * j)))] := hl
          refine lv_aload_n hx hb dL_law_1049 rfl (lv_at hl 4 rfl) ?_
          refine ro_i (va_Run.run (va_runV (As := []) (rest := []) ⟨hx, hb, hml, hown, hT⟩ (m_thrown l D cT (ad 5060) yr (va_up yi 1 0) ysb ybs) ⟨callB_of 0 hT (tb_gd w1290) rfl rfl rfl (hT _ w13) (hT _ w1287) hM_thrown ⟨Nat.le_of_ble_eq_true rfl, Nat.le_of_ble_eq_true rfl⟩, (hT _ w1288), (hT _ w1289)⟩ (RO.preV (ci := 11) (q0 := 0) hZ hS ((show va_P D vwCl [(ad 5060, .inr (11, MO yr (va_up yi 1 0) ysb ybs))] _ from (pv_c (pg_1 (x := 5060) hcd hP (by decide) gy_0) pv_0))) hK rfl rfl) rfl rfl hl.1 rfl (lv_room (Nat.le_of_ble_eq_true rfl)) dL_law_1050 ⟨(by show (((2000 + j + 3 * fm + 4 * SM mk 16) + 0) + 0) + 0 ≤ 601024; omega), (by show (((400000 + 6 * j + 42 * fm + 69 * SM mk 16) + 0) + 0) + 0 ≤ 7293034; omega)⟩)) ?_
          refine lv_topi (fun y9 e9 => ?_)
          cases (show y9 = 0 from e9.trans rfl)
          refine lv_iload hx hb dL_law_1053 (lv_at hl 1 rfl) ?_
          refine lv_icmp_eq (tgt := 1060) hx hb dL_law_1055 rfl (fun _ => ?_) (fun h8 => absurd (by decide) h8)
          refine lv_iload hx hb dL_law_1060 (lv_at hl 1 rfl) ?_
          refine lv_if_ne (tgt := 1077) hx hb dL_law_1062 rfl (fun h9 => absurd (by decide) h9) (fun _ => ?_)
          refine lv_aload_n hx hb dL_law_1065 rfl (lv_at hl 5 rfl) ?_
          refine lv_iconst (v := 0) hx hb dL_law_1066 (by decide) ?_
          refine va_lald hx hb hK hP 0 1 rfl rfl (by unfold vp_in; decide) dL_law_1067 ?_
          refine lv_iload hx hb dL_law_1068 (lv_at hl 0 rfl) ?_
          refine lv_i2l hx hb dL_law_1070 rfl ?_
          refine W.lcmp hx hb dL_law_1071 ?_
          refine lv_if_eq (tgt := 1077) hx hb dL_law_1072 rfl (fun _ => ?_) (fun h10 => absurd ((lg_cmp_eq _ _).mpr (pk_uLs.trans (congrArg Int32.toInt64 hpu7.symm))) h10)
          refine lv_goto (tgt := 1690) hx hb dL_law_1077 rfl ?_
          obtain ⟨yiz, hyiz⟩ : ∃ f9 : Nat → Int32, f9 = va_up yi 1 0 := ⟨_, rfl⟩
          have hIz : LWI cT ad gg tE T fm mk F n wd dpt lst w ru rl ne Lo yiz ysb yA := hI.sc (fun k hk => by rw [hyiz]; exact va_up_ne _ _ hk) (fun _ _ => rfl)
          have hIz := hIz.yg (g2 := gy) (fun z8 hz => fgy z8 (by omega))
          have hYz : YCL cT ad gy y yr yiz ysb ybs yA yW F := by
            refine ⟨hYad, hyr, (by rw [hyiz]; exact gy_0), fun k hk => ?_⟩
            have hk2 : k = 0 ∨ (4 ≤ k ∧ k ≤ 9) ∨ (18 ≤ k ∧ k ≤ 46) ∨ k = 48 ∨ k = 49 ∨ (56 ≤ k ∧ k ≤ 59) := hk
            exact (fgy (5000 + k) (by omega)).trans ((hYA k hk).trans (congrArg some (ycl_o rfl).symm))
          rw [hyiz] at hIz hYz
          refine W.widen (k := 2000 + (j + 1) + 3 * fm + 4 * SM mk 16) (n := 400000 + 6 * (j + 1) + 42 * fm + 69 * SM mk 16) (by show ((2000 + j + 3 * fm + 4 * SM mk 16) + 0) + 0 ≤ 2000 + (j + 1) + 3 * fm + 4 * SM mk 16; omega) (by show ((400000 + 6 * j + 42 * fm + 69 * SM mk 16) + 0) + 0 ≤ 400000 + 6 * (j + 1) + 42 * fm + 69 * SM mk 16; omega) ?_
          have hl := lv_sub hl [2, 3, 4, 5, 6] rfl
          have hl : lv_has ls 7 [(0, .ref b), (1, .ref (ad 0)), (2, .ref y), (3, .ref zo), (4, .int (nI (4 * j)))] := by rw [← hYz.1]; exact hl
          exact hend ad gy T fm mk F n wd dpt lst w ru rl ne Lo (va_up yi 1 0) ysb ybs yA yW (vp_updL zf 0 (Int32.toInt64 (tA F 1 (31 * t + k)))) _ _ ls hIz hYz hP hD hS hl
        · refine lv_aload_n hx hb dL_law_1000 rfl (lv_at hl 1 rfl) ?_
          refine lv_aload_n hx hb dL_law_1001 rfl (lv_at hl 0 rfl) ?_
          refine lv_iload hx hb dL_law_1002 (lv_at hl 4 rfl) ?_
          refine lv_iconst (v := 1) hx hb dL_law_1004 (by decide) ?_
          refine lv_iadd hx hb dL_law_1005 ?_
          refine lv_topi (fun y9 e9 => ?_)
          cases (show y9 = nI ((4 * j) + 1) from e9.trans (nI_add (4 * j) 1))
          refine va_sld hx hb hX hbl hbA hS (vp_in_nI (n := 4 * j + 1) (N := L) (by omega) (by omega)) dL_law_1006 ?_
          refine lv_topi (fun y9 e9 => ?_)
          cases (show y9 = nI t from e9.trans (by rw [nI_clamp (by omega)]; exact ha1.symm))
          refine lv_aload_n hx hb dL_law_1007 rfl (lv_at hl 0 rfl) ?_
          refine lv_iload hx hb dL_law_1008 (lv_at hl 4 rfl) ?_
          refine lv_iconst (v := 2) hx hb dL_law_1010 (by decide) ?_
          refine lv_iadd hx hb dL_law_1011 ?_
          refine lv_topi (fun y9 e9 => ?_)
          cases (show y9 = nI ((4 * j) + 2) from e9.trans (nI_add (4 * j) 2))
          refine va_sld hx hb hX hbl hbA hS (vp_in_nI (n := 4 * j + 2) (N := L) (by omega) (by omega)) dL_law_1012 ?_
          refine lv_topi (fun y9 e9 => ?_)
          cases (show y9 = nI k from e9.trans (by rw [nI_clamp (by omega)]; exact ha2.symm))
          refine lv_aload_n hx hb dL_law_1013 rfl (lv_at hl 0 rfl) ?_
          refine lv_iload hx hb dL_law_1014 (lv_at hl 4 rfl) ?_
          refine lv_iconst (v := 3) hx hb dL_law_1016 (by decide) ?_
          refine lv_iadd hx hb dL_law_1017 ?_
          refine lv_topi (fun y9 e9 => ?_)
          cases (show y9 = nI ((4 * j) + 3) from e9.trans (nI_add (4 * j) 3))
          refine va_sld hx hb hX hbl hbA hS (vp_in_nI (n := 4 * j + 3) (N := L) (by omega) (by omega)) dL_law_1018 ?_
          refine lv_topi (fun y9 e9 => ?_)
          cases (show y9 = 2 from e9.trans (by rw [nI_clamp (by omega)]; exact ha3.symm))
          refine lv_aload_n hx hb dL_law_1019 rfl (lv_at hl 3 rfl) ?_
          refine hy_iP (X := [(zo, .inl (cT 1, 1, .inr (.inl zf)))]) (pl := pg cds ad gg) (cx := [(zo, .inl (cT 1, 1, .inr (.inl zf)))]) (wr := []) hP hD hS hA [0] [] rfl rfl (by decide) (by decide) (tx_runSH (As := [.ref (ad 0), .int (nI t), .int (nI k), .int 2, .ref zo]) (rest := []) ⟨hx, hb, hml, hown, hT⟩ (l_node2 l D cT cds ad gg T fm F t k zo zf hcd hob hFT.1.frp hTf hTs hT16 ht hq hr hk (hTOK.1 _ (by omega)) _) hT (tc_gd w994 w995 w0 (tb_gd w996)) rfl rfl rfl hL_node ⟨Nat.le_of_ble_eq_true rfl, Nat.le_of_ble_eq_true rfl⟩ (RW.preS hZ hS (va_freeP (cx := [(zo, .inl (cT 1, 1, .inr (.inl zf)))]) hD hS hA [0] rfl) (hP.part (cx := [(zo, .inl (cT 1, 1, .inr (.inl zf)))]) [0] rfl) hK (hD.part (cx := [(zo, .inl (cT 1, 1, .inr (.inl zf)))]) [0] (by decide) rfl)) rfl hl.1 rfl (Nat.le_of_ble_eq_true rfl) dL_law_1020 ⟨(by show (2000 + j + 3 * fm + 4 * SM mk 16) + 0 ≤ 601024; omega), (by show (400000 + 6 * j + 42 * fm + 69 * SM mk 16) + 0 ≤ 7293034; omega)⟩) (fun ru11 u9 H locs hpu11 hP hD hS => ?_)
          have hpu11 : ru11 = 0 := hpu11
          have hP : va_P D vwCl ([(zo, .inl (cT 1, 1, .inr (.inl (vp_updL zf 0 (Int32.toInt64 (tA F 2 (31 * t + k)))))))] ++ pg cds ad gg) _ := hP
          have hD : va_D A ([(zo, .inl (cT 1, 1, .inr (.inl (vp_updL zf 0 (Int32.toInt64 (tA F 2 (31 * t + k)))))))] ++ pg cds ad gg) := hD
          refine lv_topi (fun y9 e9 => ?_)
          cases (show y9 = 0 from e9.trans hpu11)
          refine lv_istore hx hb dL_law_1023 hl (by decide) rfl (fun ls hl => ?_)
          have hl : lv_has ls 7 [(5, .int 0), (0, .ref b), (1, .ref (ad 0)), (2, .ref (ad 5060)), (3, .ref zo), (4, .int (nI (4 * j)))] := hl
          refine lv_aload_n hx hb dL_law_1025 rfl (lv_at hl 3 rfl) ?_
          refine lv_aload_n hx hb dL_law_1026 rfl (lv_at hl 1 rfl) ?_
          refine lv_iload hx hb dL_law_1027 (lv_at hl 5 rfl) ?_
          refine lv_iconst (v := 1) hx hb dL_law_1029 (by decide) ?_
          refine lv_iadd hx hb dL_law_1030 ?_
          refine lv_topi (fun y9 e9 => ?_)
          cases (show y9 = nI ((4 * j) + 1) from e9.trans (nI_add (4 * j) 1))
          refine va_sld hx hb hX hbl hbA hS (vp_in_nI (n := 4 * j + 1) (N := L) (by omega) (by omega)) dL_law_1031 ?_
          refine lv_topi (fun y9 e9 => ?_)
          cases (show y9 = nI t from e9.trans (by rw [nI_clamp (by omega)]; exact ha1.symm))
          refine lv_aload_n hx hb dL_law_1032 rfl (lv_at hl 1 rfl) ?_
          refine lv_iload hx hb dL_law_1033 (lv_at hl 5 rfl) ?_
          refine lv_iconst (v := 2) hx hb dL_law_1035 (by decide) ?_
          refine lv_iadd hx hb dL_law_1036 ?_
          refine lv_topi (fun y9 e9 => ?_)
          cases (show y9 = nI ((4 * j) + 2) from e9.trans (nI_add (4 * j) 2))
          refine va_sld hx hb hX hbl hbA hS (vp_in_nI (n := 4 * j + 2) (N := L) (by omega) (by omega)) dL_law_1037 ?_
          refine lv_topi (fun y9 e9 => ?_)
          cases (show y9 = nI k from e9.trans (by rw [nI_clamp (by omega)]; exact ha2.symm))
          refine lv_aload_n hx hb dL_law_1038 rfl (lv_at hl 1 rfl) ?_
          refine lv_iload hx hb dL_law_1039 (lv_at hl 5 rfl) ?_
          refine lv_iconst (v := 3) hx hb dL_law_1041 (by decide) ?_
          refine lv_iadd hx hb dL_law_1042 ?_
          refine lv_topi (fun y9 e9 => ?_)
          cases (show y9 = nI ((4 * j) + 3) from e9.trans (nI_add (4 * j) 3))
          refine va_sld hx hb hX hbl hbA hS (vp_in_nI (n := 4 * j + 3) (N := L) (by omega) (by omega)) dL_law_1043 ?_
          refine lv_topi (fun y9 e9 => ?_)
          cases (show y9 = 2 from e9.trans (by rw [nI_clamp (by omega)]; exact ha3.symm))
          have hB9 : QI gg [(5060, .inr (11, MO yr yi ysb ybs)), (5018, .inl (cT 0, 16, .inl (yA 18))), (5021, .inl (cT 3, 496, .inl (tA F 2)))] := (qi_c (by decide) hYy (qi_c (by decide) (hYA 18 (by unfold YKy; omega)) (qi_c (by decide) (hYA 21 (by unfold YKy; omega)) qi_0)))
          have hN9 := (show NDc [5060, 5018, 5021] from (nd_c (na_c (by decide) (na_c (by decide) na_0)) (nd_c (na_c (by decide) na_0) (nd_c na_0 nd_0))))
          have hP := bo_P (wc := [(5060, .inr (11, MO yr yi ysb ybs)), (5018, .inl (cT 0, 16, .inl (yA 18))), (5021, .inl (cT 3, 496, .inl (tA F 2)))]) (X := [(zo, .inl (cT 1, 1, .inr (.inl (vp_updL zf 0 (Int32.toInt64 (tA F 2 (31 * t + k)))))))]) hcd hN9 hB9 hP
          have hD := bo_D (wc := [(5060, .inr (11, MO yr yi ysb ybs)), (5018, .inl (cT 0, 16, .inl (yA 18))), (5021, .inl (cT 3, 496, .inl (tA F 2)))]) (X := [(zo, .inl (cT 1, 1, .inr (.inl (vp_updL zf 0 (Int32.toInt64 (tA F 2 (31 * t + k)))))))]) hcd hN9 hB9 hD
          have hP : va_P D vwCl ([(zo, .inl (cT 1, 1, .inr (.inl (vp_updL zf 0 (Int32.toInt64 (tA F 2 (31 * t + k))))))), (ad 5060, .inr (11, MO yr yi ysb ybs)), (ad 5018, .inl (cT 0, 16, .inl (yA 18))), (ad 5021, .inl (cT 3, 496, .inl (tA F 2)))] ++ pg cds ad (upo gg [5060, 5018, 5021])) _ := hP
          have hD : va_D A ([(zo, .inl (cT 1, 1, .inr (.inl (vp_updL zf 0 (Int32.toInt64 (tA F 2 (31 * t + k))))))), (ad 5060, .inr (11, MO yr yi ysb ybs)), (ad 5018, .inl (cT 0, 16, .inl (yA 18))), (ad 5021, .inl (cT 3, 496, .inl (tA F 2)))] ++ pg cds ad (upo gg [5060, 5018, 5021])) := hD
          have hw9 : ([(zo, .inl (cT 1, 1, .inr (.inl (vp_updL zf 0 (Int32.toInt64 (tA F 2 (31 * t + k))))))), (ad 5060, .inr (11, MO yr yi ysb ybs)), (yr 18, .inl (cT 0, 16, .inl (yA 18))), (yr 21, .inl (cT 3, 496, .inl (tA F 2)))] ++ pg cds ad (upo gg [5060, 5018, 5021])) = ([(zo, .inl (cT 1, 1, .inr (.inl (vp_updL zf 0 (Int32.toInt64 (tA F 2 (31 * t + k))))))), (ad 5060, .inr (11, MO yr yi ysb ybs)), (ad 5018, .inl (cT 0, 16, .inl (yA 18))), (ad 5021, .inl (cT 3, 496, .inl (tA F 2)))] ++ pg cds ad (upo gg [5060, 5018, 5021])) := by rw [show yr 18 = ad 5018 from (hyr 18 (by unfold YKy; omega)).symm, show yr 21 = ad 5021 from (hyr 21 (by unfold YKy; omega)).symm]
          have hP := vP_eq hw9 hP
          have hD := vD_eq hw9 hD
          have hP : va_P D vwCl ([(zo, .inl (cT 1, 1, .inr (.inl (vp_updL zf 0 (Int32.toInt64 (tA F 2 (31 * t + k))))))), (ad 5060, .inr (11, MO yr yi ysb ybs)), (yr 18, .inl (cT 0, 16, .inl (yA 18))), (yr 21, .inl (cT 3, 496, .inl (tA F 2)))] ++ pg cds ad (upo gg [5060, 5018, 5021])) _ := hP
          have hD : va_D A ([(zo, .inl (cT 1, 1, .inr (.inl (vp_updL zf 0 (Int32.toInt64 (tA F 2 (31 * t + k))))))), (ad 5060, .inr (11, MO yr yi ysb ybs)), (yr 18, .inl (cT 0, 16, .inl (yA 18))), (yr 21, .inl (cT 3, 496, .inl (tA F 2)))] ++ pg cds ad (upo gg [5060, 5018, 5021])) := hD
          refine hy_iQ (X := [(zo, .inl (cT 1, 1, .inr (.inl (vp_updL zf 0 (Int32.toInt64 (tA F 2 (31 * t + k))))))), (ad 5060, .inr (11, MO yr yi ysb ybs)), (yr 18, .inl (cT 0, 16, .inl (yA 18))), (yr 21, .inl (cT 3, 496, .inl (tA F 2)))]) (pl := pg cds ad (upo gg [5060, 5018, 5021])) (cx := [(ad 5060, .inr (11, MO yr yi ysb ybs)), (yr 18, .inl (cT 0, 16, .inl (yA 18))), (yr 21, .inl (cT 3, 496, .inl (tA F 2)))]) (wr := [(zo, .inl (cT 1, 1, .inr (.inl (vp_updL zf 0 (Int32.toInt64 (tA F 2 (31 * t + k)))))))]) hP hD hS hA [1, 2, 3] [0] rfl rfl (by decide) (by decide) (va_runV (As := [.int (nI t), .int (nI k), .int 2]) (rest := []) ⟨hx, hb, hml, hown, hT⟩ (y_node2 l D cT (ad 5060) yr yi ysb ybs (yA 18) (tA F 2) t k (tM F t) (by rw [y17]; exact hq) (by omega) (y18e t ht) hm31 hk (hTOK.1 _ (by omega)) _) ⟨callB_of 3 hT (tb_gd w1531) rfl rfl rfl (hT _ w13) (hT _ w1528) hM_node ⟨Nat.le_of_ble_eq_true rfl, Nat.le_of_ble_eq_true rfl⟩, (hT _ w1529), (hT _ w1530)⟩ (RW.preV (ci := 11) (q0 := 0) hZ hS (hy_free (cx := [(ad 5060, .inr (11, MO yr yi ysb ybs)), (yr 18, .inl (cT 0, 16, .inl (yA 18))), (yr 21, .inl (cT 3, 496, .inl (tA F 2)))]) hD hS hA [1, 2, 3] rfl) (hP.sub (ws' := [(ad 5060, .inr (11, MO yr yi ysb ybs)), (yr 18, .inl (cT 0, 16, .inl (yA 18))), (yr 21, .inl (cT 3, 496, .inl (tA F 2)))]) [1, 2, 3] rfl) hK (hD.sub (ws' := [(ad 5060, .inr (11, MO yr yi ysb ybs)), (yr 18, .inl (cT 0, 16, .inl (yA 18))), (yr 21, .inl (cT 3, 496, .inl (tA F 2)))]) [1, 2, 3] (by decide) rfl) rfl rfl) rfl rfl hl.1 rfl (lv_room (Nat.le_of_ble_eq_true rfl)) dL_law_1044 ⟨(by show ((2000 + j + 3 * fm + 4 * SM mk 16) + 0) + 0 ≤ 601024; omega), (by show ((400000 + 6 * j + 42 * fm + 69 * SM mk 16) + 0) + 0 ≤ 7293034; omega)⟩) (fun ru12 u9 H locs hpu12 hP hD hS => ?_)
          have hpu12 : ru12 = (tA F 2) (31 * t + k) := hpu12
          have hP : va_P D vwCl ([(zo, .inl (cT 1, 1, .inr (.inl (vp_updL zf 0 (Int32.toInt64 (tA F 2 (31 * t + k))))))), (ad 5060, .inr (11, MO yr (va_up yi 1 0) ysb ybs)), (yr 18, .inl (cT 0, 16, .inl (yA 18))), (yr 21, .inl (cT 3, 496, .inl (tA F 2)))] ++ pg cds ad (upo gg [5060, 5018, 5021])) _ := hP
          have hD : va_D A ([(zo, .inl (cT 1, 1, .inr (.inl (vp_updL zf 0 (Int32.toInt64 (tA F 2 (31 * t + k))))))), (ad 5060, .inr (11, MO yr (va_up yi 1 0) ysb ybs)), (yr 18, .inl (cT 0, 16, .inl (yA 18))), (yr 21, .inl (cT 3, 496, .inl (tA F 2)))] ++ pg cds ad (upo gg [5060, 5018, 5021])) := hD
          have hw9 : ([(zo, .inl (cT 1, 1, .inr (.inl (vp_updL zf 0 (Int32.toInt64 (tA F 2 (31 * t + k))))))), (ad 5060, .inr (11, MO yr (va_up yi 1 0) ysb ybs)), (ad 5018, .inl (cT 0, 16, .inl (yA 18))), (ad 5021, .inl (cT 3, 496, .inl (tA F 2)))] ++ pg cds ad (upo gg [5060, 5018, 5021])) = ([(zo, .inl (cT 1, 1, .inr (.inl (vp_updL zf 0 (Int32.toInt64 (tA F 2 (31 * t + k))))))), (ad 5060, .inr (11, MO yr (va_up yi 1 0) ysb ybs)), (yr 18, .inl (cT 0, 16, .inl (yA 18))), (yr 21, .inl (cT 3, 496, .inl (tA F 2)))] ++ pg cds ad (upo gg [5060, 5018, 5021])) := by rw [show ad 5018 = yr 18 from hyr 18 (by unfold YKy; omega), show ad 5021 = yr 21 from hyr 21 (by unfold YKy; omega)]
          have hP := vP_eq hw9 hP
          have hD := vD_eq hw9 hD
          have hP : va_P D vwCl ([(zo, .inl (cT 1, 1, .inr (.inl (vp_updL zf 0 (Int32.toInt64 (tA F 2 (31 * t + k))))))), (ad 5060, .inr (11, MO yr (va_up yi 1 0) ysb ybs)), (ad 5018, .inl (cT 0, 16, .inl (yA 18))), (ad 5021, .inl (cT 3, 496, .inl (tA F 2)))] ++ pg cds ad (upo gg [5060, 5018, 5021])) _ := hP
          have hD : va_D A ([(zo, .inl (cT 1, 1, .inr (.inl (vp_updL zf 0 (Int32.toInt64 (tA F 2 (31 * t + k))))))), (ad 5060, .inr (11, MO yr (va_up yi 1 0) ysb ybs)), (ad 5018, .inl (cT 0, 16, .inl (yA 18))), (ad 5021, .inl (cT 3, 496, .inl (tA F 2)))] ++ pg cds ad (upo gg [5060, 5018, 5021])) := hD
          have hN9 := (show NDc [5060, 5018, 5021] from (nd_c (na_c (by decide) (na_c (by decide) na_0)) (nd_c (na_c (by decide) na_0) (nd_c na_0 nd_0))))
          have hP := gb_P (w9 := [(5060, .inr (11, MO yr (va_up yi 1 0) ysb ybs)), (5018, .inl (cT 0, 16, .inl (yA 18))), (5021, .inl (cT 3, 496, .inl (tA F 2)))]) (X := [(zo, .inl (cT 1, 1, .inr (.inl (vp_updL zf 0 (Int32.toInt64 (tA F 2 (31 * t + k)))))))]) (g := gg) hcd hN9 (show QB [(5060, .inr (11, MO yr (va_up yi 1 0) ysb ybs)), (5018, .inl (cT 0, 16, .inl (yA 18))), (5021, .inl (cT 3, 496, .inl (tA F 2)))] from (qb_c (by decide) (qb_c (by decide) (qb_c (by decide) qb_0)))) (hP.part (cx := [(zo, .inl (cT 1, 1, .inr (.inl (vp_updL zf 0 (Int32.toInt64 (tA F 2 (31 * t + k))))))), (ad 5060, .inr (11, MO yr (va_up yi 1 0) ysb ybs)), (ad 5018, .inl (cT 0, 16, .inl (yA 18))), (ad 5021, .inl (cT 3, 496, .inl (tA F 2)))]) [0, 1, 2, 3] rfl)
          have hD := gb_D (w9 := [(5060, .inr (11, MO yr (va_up yi 1 0) ysb ybs)), (5018, .inl (cT 0, 16, .inl (yA 18))), (5021, .inl (cT 3, 496, .inl (tA F 2)))]) (X := [(zo, .inl (cT 1, 1, .inr (.inl (vp_updL zf 0 (Int32.toInt64 (tA F 2 (31 * t + k)))))))]) (g := gg) hcd hN9 (show QB [(5060, .inr (11, MO yr (va_up yi 1 0) ysb ybs)), (5018, .inl (cT 0, 16, .inl (yA 18))), (5021, .inl (cT 3, 496, .inl (tA F 2)))] from (qb_c (by decide) (qb_c (by decide) (qb_c (by decide) qb_0)))) (hD.part (cx := [(zo, .inl (cT 1, 1, .inr (.inl (vp_updL zf 0 (Int32.toInt64 (tA F 2 (31 * t + k))))))), (ad 5060, .inr (11, MO yr (va_up yi 1 0) ysb ybs)), (ad 5018, .inl (cT 0, 16, .inl (yA 18))), (ad 5021, .inl (cT 3, 496, .inl (tA F 2)))]) [0, 1, 2, 3] (by decide) rfl)
          obtain ⟨gy, hgy⟩ : ∃ q9, q9 = ups gg [(5060, .inr (11, MO yr (va_up yi 1 0) ysb ybs)), (5018, .inl (cT 0, 16, .inl (yA 18))), (5021, .inl (cT 3, 496, .inl (tA F 2)))] := ⟨_, rfl⟩
          rw [← hgy] at hP hD
          have hP : va_P D vwCl ([(zo, .inl (cT 1, 1, .inr (.inl (vp_updL zf 0 (Int32.toInt64 (tA F 2 (31 * t + k)))))))] ++ pg cds ad gy) _ := hP
          have hD : va_D A ([(zo, .inl (cT 1, 1, .inr (.inl (vp_updL zf 0 (Int32.toInt64 (tA F 2 (31 * t + k)))))))] ++ pg cds ad gy) := hD
          have fgy : ∀ z8, z8 ≠ 5060 → gy z8 = gg z8 := fun z8 z1 => by rw [hgy]; exact ups_k (kp_n z1 (kp_s (hYA 18 (by unfold YKy; omega)) (kp_s (hYA 21 (by unfold YKy; omega)) kp_0)))
          have gy_0 : gy 5060 = some (.inr (11, MO yr (va_up yi 1 0) ysb ybs)) := by rw [hgy]; exact ups_1
          refine lv_istore hx hb dL_law_1047 hl (by decide) rfl (fun ls hl => ?_)
          have hl : lv_has ls 7 [(6, .int ru12), (5, .int 0), (0, .ref b), (1, .ref (ad 0)), (2, .ref (ad 5060)), (3, .ref zo), (4, .int (nI (4 * j)))] := hl
          refine lv_aload_n hx hb dL_law_1049 rfl (lv_at hl 4 rfl) ?_
          refine ro_i (va_Run.run (va_runV (As := []) (rest := []) ⟨hx, hb, hml, hown, hT⟩ (m_thrown l D cT (ad 5060) yr (va_up yi 1 0) ysb ybs) ⟨callB_of 0 hT (tb_gd w1290) rfl rfl rfl (hT _ w13) (hT _ w1287) hM_thrown ⟨Nat.le_of_ble_eq_true rfl, Nat.le_of_ble_eq_true rfl⟩, (hT _ w1288), (hT _ w1289)⟩ (RO.preV (ci := 11) (q0 := 0) hZ hS ((show va_P D vwCl [(ad 5060, .inr (11, MO yr (va_up yi 1 0) ysb ybs))] _ from (pv_c (pg_1 (x := 5060) hcd hP (by decide) gy_0) pv_0))) hK rfl rfl) rfl rfl hl.1 rfl (lv_room (Nat.le_of_ble_eq_true rfl)) dL_law_1050 ⟨(by show (((2000 + j + 3 * fm + 4 * SM mk 16) + 0) + 0) + 0 ≤ 601024; omega), (by show (((400000 + 6 * j + 42 * fm + 69 * SM mk 16) + 0) + 0) + 0 ≤ 7293034; omega)⟩)) ?_
          refine lv_topi (fun y9 e9 => ?_)
          cases (show y9 = 0 from e9.trans rfl)
          refine lv_iload hx hb dL_law_1053 (lv_at hl 1 rfl) ?_
          refine lv_icmp_eq (tgt := 1060) hx hb dL_law_1055 rfl (fun _ => ?_) (fun h13 => absurd (by decide) h13)
          refine lv_iload hx hb dL_law_1060 (lv_at hl 1 rfl) ?_
          refine lv_if_ne (tgt := 1077) hx hb dL_law_1062 rfl (fun h14 => absurd (by decide) h14) (fun _ => ?_)
          refine lv_aload_n hx hb dL_law_1065 rfl (lv_at hl 5 rfl) ?_
          refine lv_iconst (v := 0) hx hb dL_law_1066 (by decide) ?_
          refine va_lald hx hb hK hP 0 1 rfl rfl (by unfold vp_in; decide) dL_law_1067 ?_
          refine lv_iload hx hb dL_law_1068 (lv_at hl 0 rfl) ?_
          refine lv_i2l hx hb dL_law_1070 rfl ?_
          refine W.lcmp hx hb dL_law_1071 ?_
          refine lv_if_eq (tgt := 1077) hx hb dL_law_1072 rfl (fun _ => ?_) (fun h15 => absurd ((lg_cmp_eq _ _).mpr (pk_uLs.trans (congrArg Int32.toInt64 hpu12.symm))) h15)
          refine lv_goto (tgt := 1690) hx hb dL_law_1077 rfl ?_
          obtain ⟨yiz, hyiz⟩ : ∃ f9 : Nat → Int32, f9 = va_up yi 1 0 := ⟨_, rfl⟩
          have hIz : LWI cT ad gg tE T fm mk F n wd dpt lst w ru rl ne Lo yiz ysb yA := hI.sc (fun k hk => by rw [hyiz]; exact va_up_ne _ _ hk) (fun _ _ => rfl)
          have hIz := hIz.yg (g2 := gy) (fun z8 hz => fgy z8 (by omega))
          have hYz : YCL cT ad gy y yr yiz ysb ybs yA yW F := by
            refine ⟨hYad, hyr, (by rw [hyiz]; exact gy_0), fun k hk => ?_⟩
            have hk2 : k = 0 ∨ (4 ≤ k ∧ k ≤ 9) ∨ (18 ≤ k ∧ k ≤ 46) ∨ k = 48 ∨ k = 49 ∨ (56 ≤ k ∧ k ≤ 59) := hk
            exact (fgy (5000 + k) (by omega)).trans ((hYA k hk).trans (congrArg some (ycl_o rfl).symm))
          rw [hyiz] at hIz hYz
          refine W.widen (k := 2000 + (j + 1) + 3 * fm + 4 * SM mk 16) (n := 400000 + 6 * (j + 1) + 42 * fm + 69 * SM mk 16) (by show ((2000 + j + 3 * fm + 4 * SM mk 16) + 0) + 0 ≤ 2000 + (j + 1) + 3 * fm + 4 * SM mk 16; omega) (by show ((400000 + 6 * j + 42 * fm + 69 * SM mk 16) + 0) + 0 ≤ 400000 + 6 * (j + 1) + 42 * fm + 69 * SM mk 16; omega) ?_
          have hl := lv_sub hl [2, 3, 4, 5, 6] rfl
          have hl : lv_has ls 7 [(0, .ref b), (1, .ref (ad 0)), (2, .ref y), (3, .ref zo), (4, .int (nI (4 * j)))] := by rw [← hYz.1]; exact hl
          exact hend ad gy T fm mk F n wd dpt lst w ru rl ne Lo (va_up yi 1 0) ysb ybs yA yW (vp_updL zf 0 (Int32.toInt64 (tA F 2 (31 * t + k)))) _ _ ls hIz hYz hP hD hS hl
        · refine lv_aload_n hx hb dL_law_1000 rfl (lv_at hl 1 rfl) ?_
          refine lv_aload_n hx hb dL_law_1001 rfl (lv_at hl 0 rfl) ?_
          refine lv_iload hx hb dL_law_1002 (lv_at hl 4 rfl) ?_
          refine lv_iconst (v := 1) hx hb dL_law_1004 (by decide) ?_
          refine lv_iadd hx hb dL_law_1005 ?_
          refine lv_topi (fun y9 e9 => ?_)
          cases (show y9 = nI ((4 * j) + 1) from e9.trans (nI_add (4 * j) 1))
          refine va_sld hx hb hX hbl hbA hS (vp_in_nI (n := 4 * j + 1) (N := L) (by omega) (by omega)) dL_law_1006 ?_
          refine lv_topi (fun y9 e9 => ?_)
          cases (show y9 = nI t from e9.trans (by rw [nI_clamp (by omega)]; exact ha1.symm))
          refine lv_aload_n hx hb dL_law_1007 rfl (lv_at hl 0 rfl) ?_
          refine lv_iload hx hb dL_law_1008 (lv_at hl 4 rfl) ?_
          refine lv_iconst (v := 2) hx hb dL_law_1010 (by decide) ?_
          refine lv_iadd hx hb dL_law_1011 ?_
          refine lv_topi (fun y9 e9 => ?_)
          cases (show y9 = nI ((4 * j) + 2) from e9.trans (nI_add (4 * j) 2))
          refine va_sld hx hb hX hbl hbA hS (vp_in_nI (n := 4 * j + 2) (N := L) (by omega) (by omega)) dL_law_1012 ?_
          refine lv_topi (fun y9 e9 => ?_)
          cases (show y9 = nI k from e9.trans (by rw [nI_clamp (by omega)]; exact ha2.symm))
          refine lv_aload_n hx hb dL_law_1013 rfl (lv_at hl 0 rfl) ?_
          refine lv_iload hx hb dL_law_1014 (lv_at hl 4 rfl) ?_
          refine lv_iconst (v := 3) hx hb dL_law_1016 (by decide) ?_
          refine lv_iadd hx hb dL_law_1017 ?_
          refine lv_topi (fun y9 e9 => ?_)
          cases (show y9 = nI ((4 * j) + 3) from e9.trans (nI_add (4 * j) 3))
          refine va_sld hx hb hX hbl hbA hS (vp_in_nI (n := 4 * j + 3) (N := L) (by omega) (by omega)) dL_law_1018 ?_
          refine lv_topi (fun y9 e9 => ?_)
          cases (show y9 = 3 from e9.trans (by rw [nI_clamp (by omega)]; exact ha3.symm))
          refine lv_aload_n hx hb dL_law_1019 rfl (lv_at hl 3 rfl) ?_
          refine hy_iP (X := [(zo, .inl (cT 1, 1, .inr (.inl zf)))]) (pl := pg cds ad gg) (cx := [(zo, .inl (cT 1, 1, .inr (.inl zf)))]) (wr := []) hP hD hS hA [0] [] rfl rfl (by decide) (by decide) (tx_runSH (As := [.ref (ad 0), .int (nI t), .int (nI k), .int 3, .ref zo]) (rest := []) ⟨hx, hb, hml, hown, hT⟩ (l_node3 l D cT cds ad gg T fm F t k zo zf hcd hob hFT.1.frp hTf hTs hT16 ht hq hr hk _) hT (tc_gd w994 w995 w0 (tb_gd w996)) rfl rfl rfl hL_node ⟨Nat.le_of_ble_eq_true rfl, Nat.le_of_ble_eq_true rfl⟩ (RW.preS hZ hS (va_freeP (cx := [(zo, .inl (cT 1, 1, .inr (.inl zf)))]) hD hS hA [0] rfl) (hP.part (cx := [(zo, .inl (cT 1, 1, .inr (.inl zf)))]) [0] rfl) hK (hD.part (cx := [(zo, .inl (cT 1, 1, .inr (.inl zf)))]) [0] (by decide) rfl)) rfl hl.1 rfl (Nat.le_of_ble_eq_true rfl) dL_law_1020 ⟨(by show (2000 + j + 3 * fm + 4 * SM mk 16) + 0 ≤ 601024; omega), (by show (400000 + 6 * j + 42 * fm + 69 * SM mk 16) + 0 ≤ 7293034; omega)⟩) (fun ru16 u9 H locs hpu16 hP hD hS => ?_)
          have hpu16 : ru16 = 0 := hpu16
          have hP : va_P D vwCl ([(zo, .inl (cT 1, 1, .inr (.inl (vp_updL zf 0 (Int32.toInt64 (tA F 3 (31 * t + k)))))))] ++ pg cds ad gg) _ := hP
          have hD : va_D A ([(zo, .inl (cT 1, 1, .inr (.inl (vp_updL zf 0 (Int32.toInt64 (tA F 3 (31 * t + k)))))))] ++ pg cds ad gg) := hD
          refine lv_topi (fun y9 e9 => ?_)
          cases (show y9 = 0 from e9.trans hpu16)
          refine lv_istore hx hb dL_law_1023 hl (by decide) rfl (fun ls hl => ?_)
          have hl : lv_has ls 7 [(5, .int 0), (0, .ref b), (1, .ref (ad 0)), (2, .ref (ad 5060)), (3, .ref zo), (4, .int (nI (4 * j)))] := hl
          refine lv_aload_n hx hb dL_law_1025 rfl (lv_at hl 3 rfl) ?_
          refine lv_aload_n hx hb dL_law_1026 rfl (lv_at hl 1 rfl) ?_
          refine lv_iload hx hb dL_law_1027 (lv_at hl 5 rfl) ?_
          refine lv_iconst (v := 1) hx hb dL_law_1029 (by decide) ?_
          refine lv_iadd hx hb dL_law_1030 ?_
          refine lv_topi (fun y9 e9 => ?_)
          cases (show y9 = nI ((4 * j) + 1) from e9.trans (nI_add (4 * j) 1))
          refine va_sld hx hb hX hbl hbA hS (vp_in_nI (n := 4 * j + 1) (N := L) (by omega) (by omega)) dL_law_1031 ?_
          refine lv_topi (fun y9 e9 => ?_)
          cases (show y9 = nI t from e9.trans (by rw [nI_clamp (by omega)]; exact ha1.symm))
          refine lv_aload_n hx hb dL_law_1032 rfl (lv_at hl 1 rfl) ?_
          refine lv_iload hx hb dL_law_1033 (lv_at hl 5 rfl) ?_
          refine lv_iconst (v := 2) hx hb dL_law_1035 (by decide) ?_
          refine lv_iadd hx hb dL_law_1036 ?_
          refine lv_topi (fun y9 e9 => ?_)
          cases (show y9 = nI ((4 * j) + 2) from e9.trans (nI_add (4 * j) 2))
          refine va_sld hx hb hX hbl hbA hS (vp_in_nI (n := 4 * j + 2) (N := L) (by omega) (by omega)) dL_law_1037 ?_
          refine lv_topi (fun y9 e9 => ?_)
          cases (show y9 = nI k from e9.trans (by rw [nI_clamp (by omega)]; exact ha2.symm))
          refine lv_aload_n hx hb dL_law_1038 rfl (lv_at hl 1 rfl) ?_
          refine lv_iload hx hb dL_law_1039 (lv_at hl 5 rfl) ?_
          refine lv_iconst (v := 3) hx hb dL_law_1041 (by decide) ?_
          refine lv_iadd hx hb dL_law_1042 ?_
          refine lv_topi (fun y9 e9 => ?_)
          cases (show y9 = nI ((4 * j) + 3) from e9.trans (nI_add (4 * j) 3))
          refine va_sld hx hb hX hbl hbA hS (vp_in_nI (n := 4 * j + 3) (N := L) (by omega) (by omega)) dL_law_1043 ?_
          refine lv_topi (fun y9 e9 => ?_)
          cases (show y9 = 3 from e9.trans (by rw [nI_clamp (by omega)]; exact ha3.symm))
          have hB9 : QI gg [(5060, .inr (11, MO yr yi ysb ybs)), (5018, .inl (cT 0, 16, .inl (yA 18))), (5022, .inl (cT 0, 496, .inl (tA F 3)))] := (qi_c (by decide) hYy (qi_c (by decide) (hYA 18 (by unfold YKy; omega)) (qi_c (by decide) (hYA 22 (by unfold YKy; omega)) qi_0)))
          have hN9 := (show NDc [5060, 5018, 5022] from (nd_c (na_c (by decide) (na_c (by decide) na_0)) (nd_c (na_c (by decide) na_0) (nd_c na_0 nd_0))))
          have hP := bo_P (wc := [(5060, .inr (11, MO yr yi ysb ybs)), (5018, .inl (cT 0, 16, .inl (yA 18))), (5022, .inl (cT 0, 496, .inl (tA F 3)))]) (X := [(zo, .inl (cT 1, 1, .inr (.inl (vp_updL zf 0 (Int32.toInt64 (tA F 3 (31 * t + k)))))))]) hcd hN9 hB9 hP
          have hD := bo_D (wc := [(5060, .inr (11, MO yr yi ysb ybs)), (5018, .inl (cT 0, 16, .inl (yA 18))), (5022, .inl (cT 0, 496, .inl (tA F 3)))]) (X := [(zo, .inl (cT 1, 1, .inr (.inl (vp_updL zf 0 (Int32.toInt64 (tA F 3 (31 * t + k)))))))]) hcd hN9 hB9 hD
          have hP : va_P D vwCl ([(zo, .inl (cT 1, 1, .inr (.inl (vp_updL zf 0 (Int32.toInt64 (tA F 3 (31 * t + k))))))), (ad 5060, .inr (11, MO yr yi ysb ybs)), (ad 5018, .inl (cT 0, 16, .inl (yA 18))), (ad 5022, .inl (cT 0, 496, .inl (tA F 3)))] ++ pg cds ad (upo gg [5060, 5018, 5022])) _ := hP
          have hD : va_D A ([(zo, .inl (cT 1, 1, .inr (.inl (vp_updL zf 0 (Int32.toInt64 (tA F 3 (31 * t + k))))))), (ad 5060, .inr (11, MO yr yi ysb ybs)), (ad 5018, .inl (cT 0, 16, .inl (yA 18))), (ad 5022, .inl (cT 0, 496, .inl (tA F 3)))] ++ pg cds ad (upo gg [5060, 5018, 5022])) := hD
          have hw9 : ([(zo, .inl (cT 1, 1, .inr (.inl (vp_updL zf 0 (Int32.toInt64 (tA F 3 (31 * t + k))))))), (ad 5060, .inr (11, MO yr yi ysb ybs)), (yr 18, .inl (cT 0, 16, .inl (yA 18))), (yr 22, .inl (cT 0, 496, .inl (tA F 3)))] ++ pg cds ad (upo gg [5060, 5018, 5022])) = ([(zo, .inl (cT 1, 1, .inr (.inl (vp_updL zf 0 (Int32.toInt64 (tA F 3 (31 * t + k))))))), (ad 5060, .inr (11, MO yr yi ysb ybs)), (ad 5018, .inl (cT 0, 16, .inl (yA 18))), (ad 5022, .inl (cT 0, 496, .inl (tA F 3)))] ++ pg cds ad (upo gg [5060, 5018, 5022])) := by rw [show yr 18 = ad 5018 from (hyr 18 (by unfold YKy; omega)).symm, show yr 22 = ad 5022 from (hyr 22 (by unfold YKy; omega)).symm]
          have hP := vP_eq hw9 hP
          have hD := vD_eq hw9 hD
          have hP : va_P D vwCl ([(zo, .inl (cT 1, 1, .inr (.inl (vp_updL zf 0 (Int32.toInt64 (tA F 3 (31 * t + k))))))), (ad 5060, .inr (11, MO yr yi ysb ybs)), (yr 18, .inl (cT 0, 16, .inl (yA 18))), (yr 22, .inl (cT 0, 496, .inl (tA F 3)))] ++ pg cds ad (upo gg [5060, 5018, 5022])) _ := hP
          have hD : va_D A ([(zo, .inl (cT 1, 1, .inr (.inl (vp_updL zf 0 (Int32.toInt64 (tA F 3 (31 * t + k))))))), (ad 5060, .inr (11, MO yr yi ysb ybs)), (yr 18, .inl (cT 0, 16, .inl (yA 18))), (yr 22, .inl (cT 0, 496, .inl (tA F 3)))] ++ pg cds ad (upo gg [5060, 5018, 5022])) := hD
          refine hy_iQ (X := [(zo, .inl (cT 1, 1, .inr (.inl (vp_updL zf 0 (Int32.toInt64 (tA F 3 (31 * t + k))))))), (ad 5060, .inr (11, MO yr yi ysb ybs)), (yr 18, .inl (cT 0, 16, .inl (yA 18))), (yr 22, .inl (cT 0, 496, .inl (tA F 3)))]) (pl := pg cds ad (upo gg [5060, 5018, 5022])) (cx := [(ad 5060, .inr (11, MO yr yi ysb ybs)), (yr 18, .inl (cT 0, 16, .inl (yA 18))), (yr 22, .inl (cT 0, 496, .inl (tA F 3)))]) (wr := [(zo, .inl (cT 1, 1, .inr (.inl (vp_updL zf 0 (Int32.toInt64 (tA F 3 (31 * t + k)))))))]) hP hD hS hA [1, 2, 3] [0] rfl rfl (by decide) (by decide) (va_runV (As := [.int (nI t), .int (nI k), .int 3]) (rest := []) ⟨hx, hb, hml, hown, hT⟩ (y_node3 l D cT (ad 5060) yr yi ysb ybs (yA 18) (tA F 3) t k (tM F t) (by rw [y17]; exact hq) (by omega) (y18e t ht) hm31 hk _) ⟨callB_of 3 hT (tb_gd w1531) rfl rfl rfl (hT _ w13) (hT _ w1528) hM_node ⟨Nat.le_of_ble_eq_true rfl, Nat.le_of_ble_eq_true rfl⟩, (hT _ w1529), (hT _ w1530)⟩ (RW.preV (ci := 11) (q0 := 0) hZ hS (hy_free (cx := [(ad 5060, .inr (11, MO yr yi ysb ybs)), (yr 18, .inl (cT 0, 16, .inl (yA 18))), (yr 22, .inl (cT 0, 496, .inl (tA F 3)))]) hD hS hA [1, 2, 3] rfl) (hP.sub (ws' := [(ad 5060, .inr (11, MO yr yi ysb ybs)), (yr 18, .inl (cT 0, 16, .inl (yA 18))), (yr 22, .inl (cT 0, 496, .inl (tA F 3)))]) [1, 2, 3] rfl) hK (hD.sub (ws' := [(ad 5060, .inr (11, MO yr yi ysb ybs)), (yr 18, .inl (cT 0, 16, .inl (yA 18))), (yr 22, .inl (cT 0, 496, .inl (tA F 3)))]) [1, 2, 3] (by decide) rfl) rfl rfl) rfl rfl hl.1 rfl (lv_room (Nat.le_of_ble_eq_true rfl)) dL_law_1044 ⟨(by show ((2000 + j + 3 * fm + 4 * SM mk 16) + 0) + 0 ≤ 601024; omega), (by show ((400000 + 6 * j + 42 * fm + 69 * SM mk 16) + 0) + 0 ≤ 7293034; omega)⟩) (fun ru17 u9 H locs hpu17 hP hD hS => ?_)
          have hpu17 : ru17 = (tA F 3) (31 * t + k) := hpu17
          have hP : va_P D vwCl ([(zo, .inl (cT 1, 1, .inr (.inl (vp_updL zf 0 (Int32.toInt64 (tA F 3 (31 * t + k))))))), (ad 5060, .inr (11, MO yr (va_up yi 1 0) ysb ybs)), (yr 18, .inl (cT 0, 16, .inl (yA 18))), (yr 22, .inl (cT 0, 496, .inl (tA F 3)))] ++ pg cds ad (upo gg [5060, 5018, 5022])) _ := hP
          have hD : va_D A ([(zo, .inl (cT 1, 1, .inr (.inl (vp_updL zf 0 (Int32.toInt64 (tA F 3 (31 * t + k))))))), (ad 5060, .inr (11, MO yr (va_up yi 1 0) ysb ybs)), (yr 18, .inl (cT 0, 16, .inl (yA 18))), (yr 22, .inl (cT 0, 496, .inl (tA F 3)))] ++ pg cds ad (upo gg [5060, 5018, 5022])) := hD
          have hw9 : ([(zo, .inl (cT 1, 1, .inr (.inl (vp_updL zf 0 (Int32.toInt64 (tA F 3 (31 * t + k))))))), (ad 5060, .inr (11, MO yr (va_up yi 1 0) ysb ybs)), (ad 5018, .inl (cT 0, 16, .inl (yA 18))), (ad 5022, .inl (cT 0, 496, .inl (tA F 3)))] ++ pg cds ad (upo gg [5060, 5018, 5022])) = ([(zo, .inl (cT 1, 1, .inr (.inl (vp_updL zf 0 (Int32.toInt64 (tA F 3 (31 * t + k))))))), (ad 5060, .inr (11, MO yr (va_up yi 1 0) ysb ybs)), (yr 18, .inl (cT 0, 16, .inl (yA 18))), (yr 22, .inl (cT 0, 496, .inl (tA F 3)))] ++ pg cds ad (upo gg [5060, 5018, 5022])) := by rw [show ad 5018 = yr 18 from hyr 18 (by unfold YKy; omega), show ad 5022 = yr 22 from hyr 22 (by unfold YKy; omega)]
          have hP := vP_eq hw9 hP
          have hD := vD_eq hw9 hD
          have hP : va_P D vwCl ([(zo, .inl (cT 1, 1, .inr (.inl (vp_updL zf 0 (Int32.toInt64 (tA F 3 (31 * t + k))))))), (ad 5060, .inr (11, MO yr (va_up yi 1 0) ysb ybs)), (ad 5018, .inl (cT 0, 16, .inl (yA 18))), (ad 5022, .inl (cT 0, 496, .inl (tA F 3)))] ++ pg cds ad (upo gg [5060, 5018, 5022])) _ := hP
          have hD : va_D A ([(zo, .inl (cT 1, 1, .inr (.inl (vp_updL zf 0 (Int32.toInt64 (tA F 3 (31 * t + k))))))), (ad 5060, .inr (11, MO yr (va_up yi 1 0) ysb ybs)), (ad 5018, .inl (cT 0, 16, .inl (yA 18))), (ad 5022, .inl (cT 0, 496, .inl (tA F 3)))] ++ pg cds ad (upo gg [5060, 5018, 5022])) := hD
          have hN9 := (show NDc [5060, 5018, 5022] from (nd_c (na_c (by decide) (na_c (by decide) na_0)) (nd_c (na_c (by decide) na_0) (nd_c na_0 nd_0))))
          have hP := gb_P (w9 := [(5060, .inr (11, MO yr (va_up yi 1 0) ysb ybs)), (5018, .inl (cT 0, 16, .inl (yA 18))), (5022, .inl (cT 0, 496, .inl (tA F 3)))]) (X := [(zo, .inl (cT 1, 1, .inr (.inl (vp_updL zf 0 (Int32.toInt64 (tA F 3 (31 * t + k)))))))]) (g := gg) hcd hN9 (show QB [(5060, .inr (11, MO yr (va_up yi 1 0) ysb ybs)), (5018, .inl (cT 0, 16, .inl (yA 18))), (5022, .inl (cT 0, 496, .inl (tA F 3)))] from (qb_c (by decide) (qb_c (by decide) (qb_c (by decide) qb_0)))) (hP.part (cx := [(zo, .inl (cT 1, 1, .inr (.inl (vp_updL zf 0 (Int32.toInt64 (tA F 3 (31 * t + k))))))), (ad 5060, .inr (11, MO yr (va_up yi 1 0) ysb ybs)), (ad 5018, .inl (cT 0, 16, .inl (yA 18))), (ad 5022, .inl (cT 0, 496, .inl (tA F 3)))]) [0, 1, 2, 3] rfl)
          have hD := gb_D (w9 := [(5060, .inr (11, MO yr (va_up yi 1 0) ysb ybs)), (5018, .inl (cT 0, 16, .inl (yA 18))), (5022, .inl (cT 0, 496, .inl (tA F 3)))]) (X := [(zo, .inl (cT 1, 1, .inr (.inl (vp_updL zf 0 (Int32.toInt64 (tA F 3 (31 * t + k)))))))]) (g := gg) hcd hN9 (show QB [(5060, .inr (11, MO yr (va_up yi 1 0) ysb ybs)), (5018, .inl (cT 0, 16, .inl (yA 18))), (5022, .inl (cT 0, 496, .inl (tA F 3)))] from (qb_c (by decide) (qb_c (by decide) (qb_c (by decide) qb_0)))) (hD.part (cx := [(zo, .inl (cT 1, 1, .inr (.inl (vp_updL zf 0 (Int32.toInt64 (tA F 3 (31 * t + k))))))), (ad 5060, .inr (11, MO yr (va_up yi 1 0) ysb ybs)), (ad 5018, .inl (cT 0, 16, .inl (yA 18))), (ad 5022, .inl (cT 0, 496, .inl (tA F 3)))]) [0, 1, 2, 3] (by decide) rfl)
          obtain ⟨gy, hgy⟩ : ∃ q9, q9 = ups gg [(5060, .inr (11, MO yr (va_up yi 1 0) ysb ybs)), (5018, .inl (cT 0, 16, .inl (yA 18))), (5022, .inl (cT 0, 496, .inl (tA F 3)))] := ⟨_, rfl⟩
          rw [← hgy] at hP hD
          have hP : va_P D vwCl ([(zo, .inl (cT 1, 1, .inr (.inl (vp_updL zf 0 (Int32.toInt64 (tA F 3 (31 * t + k)))))))] ++ pg cds ad gy) _ := hP
          have hD : va_D A ([(zo, .inl (cT 1, 1, .inr (.inl (vp_updL zf 0 (Int32.toInt64 (tA F 3 (31 * t + k)))))))] ++ pg cds ad gy) := hD
          have fgy : ∀ z8, z8 ≠ 5060 → gy z8 = gg z8 := fun z8 z1 => by rw [hgy]; exact ups_k (kp_n z1 (kp_s (hYA 18 (by unfold YKy; omega)) (kp_s (hYA 22 (by unfold YKy; omega)) kp_0)))
          have gy_0 : gy 5060 = some (.inr (11, MO yr (va_up yi 1 0) ysb ybs)) := by rw [hgy]; exact ups_1
          refine lv_istore hx hb dL_law_1047 hl (by decide) rfl (fun ls hl => ?_)
          have hl : lv_has ls 7 [(6, .int ru17), (5, .int 0), (0, .ref b), (1, .ref (ad 0)), (2, .ref (ad 5060)), (3, .ref zo), (4, .int (nI (4 * j)))] := hl
          refine lv_aload_n hx hb dL_law_1049 rfl (lv_at hl 4 rfl) ?_
          refine ro_i (va_Run.run (va_runV (As := []) (rest := []) ⟨hx, hb, hml, hown, hT⟩ (m_thrown l D cT (ad 5060) yr (va_up yi 1 0) ysb ybs) ⟨callB_of 0 hT (tb_gd w1290) rfl rfl rfl (hT _ w13) (hT _ w1287) hM_thrown ⟨Nat.le_of_ble_eq_true rfl, Nat.le_of_ble_eq_true rfl⟩, (hT _ w1288), (hT _ w1289)⟩ (RO.preV (ci := 11) (q0 := 0) hZ hS ((show va_P D vwCl [(ad 5060, .inr (11, MO yr (va_up yi 1 0) ysb ybs))] _ from (pv_c (pg_1 (x := 5060) hcd hP (by decide) gy_0) pv_0))) hK rfl rfl) rfl rfl hl.1 rfl (lv_room (Nat.le_of_ble_eq_true rfl)) dL_law_1050 ⟨(by show (((2000 + j + 3 * fm + 4 * SM mk 16) + 0) + 0) + 0 ≤ 601024; omega), (by show (((400000 + 6 * j + 42 * fm + 69 * SM mk 16) + 0) + 0) + 0 ≤ 7293034; omega)⟩)) ?_
          refine lv_topi (fun y9 e9 => ?_)
          cases (show y9 = 0 from e9.trans rfl)
          refine lv_iload hx hb dL_law_1053 (lv_at hl 1 rfl) ?_
          refine lv_icmp_eq (tgt := 1060) hx hb dL_law_1055 rfl (fun _ => ?_) (fun h18 => absurd (by decide) h18)
          refine lv_iload hx hb dL_law_1060 (lv_at hl 1 rfl) ?_
          refine lv_if_ne (tgt := 1077) hx hb dL_law_1062 rfl (fun h19 => absurd (by decide) h19) (fun _ => ?_)
          refine lv_aload_n hx hb dL_law_1065 rfl (lv_at hl 5 rfl) ?_
          refine lv_iconst (v := 0) hx hb dL_law_1066 (by decide) ?_
          refine va_lald hx hb hK hP 0 1 rfl rfl (by unfold vp_in; decide) dL_law_1067 ?_
          refine lv_iload hx hb dL_law_1068 (lv_at hl 0 rfl) ?_
          refine lv_i2l hx hb dL_law_1070 rfl ?_
          refine W.lcmp hx hb dL_law_1071 ?_
          refine lv_if_eq (tgt := 1077) hx hb dL_law_1072 rfl (fun _ => ?_) (fun h20 => absurd ((lg_cmp_eq _ _).mpr (pk_uLs.trans (congrArg Int32.toInt64 hpu17.symm))) h20)
          refine lv_goto (tgt := 1690) hx hb dL_law_1077 rfl ?_
          obtain ⟨yiz, hyiz⟩ : ∃ f9 : Nat → Int32, f9 = va_up yi 1 0 := ⟨_, rfl⟩
          have hIz : LWI cT ad gg tE T fm mk F n wd dpt lst w ru rl ne Lo yiz ysb yA := hI.sc (fun k hk => by rw [hyiz]; exact va_up_ne _ _ hk) (fun _ _ => rfl)
          have hIz := hIz.yg (g2 := gy) (fun z8 hz => fgy z8 (by omega))
          have hYz : YCL cT ad gy y yr yiz ysb ybs yA yW F := by
            refine ⟨hYad, hyr, (by rw [hyiz]; exact gy_0), fun k hk => ?_⟩
            have hk2 : k = 0 ∨ (4 ≤ k ∧ k ≤ 9) ∨ (18 ≤ k ∧ k ≤ 46) ∨ k = 48 ∨ k = 49 ∨ (56 ≤ k ∧ k ≤ 59) := hk
            exact (fgy (5000 + k) (by omega)).trans ((hYA k hk).trans (congrArg some (ycl_o rfl).symm))
          rw [hyiz] at hIz hYz
          refine W.widen (k := 2000 + (j + 1) + 3 * fm + 4 * SM mk 16) (n := 400000 + 6 * (j + 1) + 42 * fm + 69 * SM mk 16) (by show ((2000 + j + 3 * fm + 4 * SM mk 16) + 0) + 0 ≤ 2000 + (j + 1) + 3 * fm + 4 * SM mk 16; omega) (by show ((400000 + 6 * j + 42 * fm + 69 * SM mk 16) + 0) + 0 ≤ 400000 + 6 * (j + 1) + 42 * fm + 69 * SM mk 16; omega) ?_
          have hl := lv_sub hl [2, 3, 4, 5, 6] rfl
          have hl : lv_has ls 7 [(0, .ref b), (1, .ref (ad 0)), (2, .ref y), (3, .ref zo), (4, .int (nI (4 * j)))] := by rw [← hYz.1]; exact hl
          exact hend ad gy T fm mk F n wd dpt lst w ru rl ne Lo (va_up yi 1 0) ysb ybs yA yW (vp_updL zf 0 (Int32.toInt64 (tA F 3 (31 * t + k)))) _ _ ls hIz hYz hP hD hS hl
        · refine lv_aload_n hx hb dL_law_1000 rfl (lv_at hl 1 rfl) ?_
          refine lv_aload_n hx hb dL_law_1001 rfl (lv_at hl 0 rfl) ?_
          refine lv_iload hx hb dL_law_1002 (lv_at hl 4 rfl) ?_
          refine lv_iconst (v := 1) hx hb dL_law_1004 (by decide) ?_
          refine lv_iadd hx hb dL_law_1005 ?_
          refine lv_topi (fun y9 e9 => ?_)
          cases (show y9 = nI ((4 * j) + 1) from e9.trans (nI_add (4 * j) 1))
          refine va_sld hx hb hX hbl hbA hS (vp_in_nI (n := 4 * j + 1) (N := L) (by omega) (by omega)) dL_law_1006 ?_
          refine lv_topi (fun y9 e9 => ?_)
          cases (show y9 = nI t from e9.trans (by rw [nI_clamp (by omega)]; exact ha1.symm))
          refine lv_aload_n hx hb dL_law_1007 rfl (lv_at hl 0 rfl) ?_
          refine lv_iload hx hb dL_law_1008 (lv_at hl 4 rfl) ?_
          refine lv_iconst (v := 2) hx hb dL_law_1010 (by decide) ?_
          refine lv_iadd hx hb dL_law_1011 ?_
          refine lv_topi (fun y9 e9 => ?_)
          cases (show y9 = nI ((4 * j) + 2) from e9.trans (nI_add (4 * j) 2))
          refine va_sld hx hb hX hbl hbA hS (vp_in_nI (n := 4 * j + 2) (N := L) (by omega) (by omega)) dL_law_1012 ?_
          refine lv_topi (fun y9 e9 => ?_)
          cases (show y9 = nI k from e9.trans (by rw [nI_clamp (by omega)]; exact ha2.symm))
          refine lv_aload_n hx hb dL_law_1013 rfl (lv_at hl 0 rfl) ?_
          refine lv_iload hx hb dL_law_1014 (lv_at hl 4 rfl) ?_
          refine lv_iconst (v := 3) hx hb dL_law_1016 (by decide) ?_
          refine lv_iadd hx hb dL_law_1017 ?_
          refine lv_topi (fun y9 e9 => ?_)
          cases (show y9 = nI ((4 * j) + 3) from e9.trans (nI_add (4 * j) 3))
          refine va_sld hx hb hX hbl hbA hS (vp_in_nI (n := 4 * j + 3) (N := L) (by omega) (by omega)) dL_law_1018 ?_
          refine lv_topi (fun y9 e9 => ?_)
          cases (show y9 = 4 from e9.trans (by rw [nI_clamp (by omega)]; exact ha3.symm))
          refine lv_aload_n hx hb dL_law_1019 rfl (lv_at hl 3 rfl) ?_
          refine hy_iP (X := [(zo, .inl (cT 1, 1, .inr (.inl zf)))]) (pl := pg cds ad gg) (cx := [(zo, .inl (cT 1, 1, .inr (.inl zf)))]) (wr := []) hP hD hS hA [0] [] rfl rfl (by decide) (by decide) (tx_runSH (As := [.ref (ad 0), .int (nI t), .int (nI k), .int 4, .ref zo]) (rest := []) ⟨hx, hb, hml, hown, hT⟩ (l_node4 l D cT cds ad gg T fm F t k zo zf hcd hob hFT.1.frp hTf hTs hT16 ht hq hr hk _) hT (tc_gd w994 w995 w0 (tb_gd w996)) rfl rfl rfl hL_node ⟨Nat.le_of_ble_eq_true rfl, Nat.le_of_ble_eq_true rfl⟩ (RW.preS hZ hS (va_freeP (cx := [(zo, .inl (cT 1, 1, .inr (.inl zf)))]) hD hS hA [0] rfl) (hP.part (cx := [(zo, .inl (cT 1, 1, .inr (.inl zf)))]) [0] rfl) hK (hD.part (cx := [(zo, .inl (cT 1, 1, .inr (.inl zf)))]) [0] (by decide) rfl)) rfl hl.1 rfl (Nat.le_of_ble_eq_true rfl) dL_law_1020 ⟨(by show (2000 + j + 3 * fm + 4 * SM mk 16) + 0 ≤ 601024; omega), (by show (400000 + 6 * j + 42 * fm + 69 * SM mk 16) + 0 ≤ 7293034; omega)⟩) (fun ru21 u9 H locs hpu21 hP hD hS => ?_)
          have hpu21 : ru21 = 0 := hpu21
          have hP : va_P D vwCl ([(zo, .inl (cT 1, 1, .inr (.inl (vp_updL zf 0 (Int32.toInt64 (tA F 4 (31 * t + k)))))))] ++ pg cds ad gg) _ := hP
          have hD : va_D A ([(zo, .inl (cT 1, 1, .inr (.inl (vp_updL zf 0 (Int32.toInt64 (tA F 4 (31 * t + k)))))))] ++ pg cds ad gg) := hD
          refine lv_topi (fun y9 e9 => ?_)
          cases (show y9 = 0 from e9.trans hpu21)
          refine lv_istore hx hb dL_law_1023 hl (by decide) rfl (fun ls hl => ?_)
          have hl : lv_has ls 7 [(5, .int 0), (0, .ref b), (1, .ref (ad 0)), (2, .ref (ad 5060)), (3, .ref zo), (4, .int (nI (4 * j)))] := hl
          refine lv_aload_n hx hb dL_law_1025 rfl (lv_at hl 3 rfl) ?_
          refine lv_aload_n hx hb dL_law_1026 rfl (lv_at hl 1 rfl) ?_
          refine lv_iload hx hb dL_law_1027 (lv_at hl 5 rfl) ?_
          refine lv_iconst (v := 1) hx hb dL_law_1029 (by decide) ?_
          refine lv_iadd hx hb dL_law_1030 ?_
          refine lv_topi (fun y9 e9 => ?_)
          cases (show y9 = nI ((4 * j) + 1) from e9.trans (nI_add (4 * j) 1))
          refine va_sld hx hb hX hbl hbA hS (vp_in_nI (n := 4 * j + 1) (N := L) (by omega) (by omega)) dL_law_1031 ?_
          refine lv_topi (fun y9 e9 => ?_)
          cases (show y9 = nI t from e9.trans (by rw [nI_clamp (by omega)]; exact ha1.symm))
          refine lv_aload_n hx hb dL_law_1032 rfl (lv_at hl 1 rfl) ?_
          refine lv_iload hx hb dL_law_1033 (lv_at hl 5 rfl) ?_
          refine lv_iconst (v := 2) hx hb dL_law_1035 (by decide) ?_
          refine lv_iadd hx hb dL_law_1036 ?_
          refine lv_topi (fun y9 e9 => ?_)
          cases (show y9 = nI ((4 * j) + 2) from e9.trans (nI_add (4 * j) 2))
          refine va_sld hx hb hX hbl hbA hS (vp_in_nI (n := 4 * j + 2) (N := L) (by omega) (by omega)) dL_law_1037 ?_
          refine lv_topi (fun y9 e9 => ?_)
          cases (show y9 = nI k from e9.trans (by rw [nI_clamp (by omega)]; exact ha2.symm))
          refine lv_aload_n hx hb dL_law_1038 rfl (lv_at hl 1 rfl) ?_
          refine lv_iload hx hb dL_law_1039 (lv_at hl 5 rfl) ?_
          refine lv_iconst (v := 3) hx hb dL_law_1041 (by decide) ?_
          refine lv_iadd hx hb dL_law_1042 ?_
          refine lv_topi (fun y9 e9 => ?_)
          cases (show y9 = nI ((4 * j) + 3) from e9.trans (nI_add (4 * j) 3))
          refine va_sld hx hb hX hbl hbA hS (vp_in_nI (n := 4 * j + 3) (N := L) (by omega) (by omega)) dL_law_1043 ?_
          refine lv_topi (fun y9 e9 => ?_)
          cases (show y9 = 4 from e9.trans (by rw [nI_clamp (by omega)]; exact ha3.symm))
          have hB9 : QI gg [(5060, .inr (11, MO yr yi ysb ybs)), (5018, .inl (cT 0, 16, .inl (yA 18))), (5023, .inl (cT 0, 496, .inl (tA F 4)))] := (qi_c (by decide) hYy (qi_c (by decide) (hYA 18 (by unfold YKy; omega)) (qi_c (by decide) (hYA 23 (by unfold YKy; omega)) qi_0)))
          have hN9 := (show NDc [5060, 5018, 5023] from (nd_c (na_c (by decide) (na_c (by decide) na_0)) (nd_c (na_c (by decide) na_0) (nd_c na_0 nd_0))))
          have hP := bo_P (wc := [(5060, .inr (11, MO yr yi ysb ybs)), (5018, .inl (cT 0, 16, .inl (yA 18))), (5023, .inl (cT 0, 496, .inl (tA F 4)))]) (X := [(zo, .inl (cT 1, 1, .inr (.inl (vp_updL zf 0 (Int32.toInt64 (tA F 4 (31 * t + k)))))))]) hcd hN9 hB9 hP
          have hD := bo_D (wc := [(5060, .inr (11, MO yr yi ysb ybs)), (5018, .inl (cT 0, 16, .inl (yA 18))), (5023, .inl (cT 0, 496, .inl (tA F 4)))]) (X := [(zo, .inl (cT 1, 1, .inr (.inl (vp_updL zf 0 (Int32.toInt64 (tA F 4 (31 * t + k)))))))]) hcd hN9 hB9 hD
          have hP : va_P D vwCl ([(zo, .inl (cT 1, 1, .inr (.inl (vp_updL zf 0 (Int32.toInt64 (tA F 4 (31 * t + k))))))), (ad 5060, .inr (11, MO yr yi ysb ybs)), (ad 5018, .inl (cT 0, 16, .inl (yA 18))), (ad 5023, .inl (cT 0, 496, .inl (tA F 4)))] ++ pg cds ad (upo gg [5060, 5018, 5023])) _ := hP
          have hD : va_D A ([(zo, .inl (cT 1, 1, .inr (.inl (vp_updL zf 0 (Int32.toInt64 (tA F 4 (31 * t + k))))))), (ad 5060, .inr (11, MO yr yi ysb ybs)), (ad 5018, .inl (cT 0, 16, .inl (yA 18))), (ad 5023, .inl (cT 0, 496, .inl (tA F 4)))] ++ pg cds ad (upo gg [5060, 5018, 5023])) := hD
          have hw9 : ([(zo, .inl (cT 1, 1, .inr (.inl (vp_updL zf 0 (Int32.toInt64 (tA F 4 (31 * t + k))))))), (ad 5060, .inr (11, MO yr yi ysb ybs)), (yr 18, .inl (cT 0, 16, .inl (yA 18))), (yr 23, .inl (cT 0, 496, .inl (tA F 4)))] ++ pg cds ad (upo gg [5060, 5018, 5023])) = ([(zo, .inl (cT 1, 1, .inr (.inl (vp_updL zf 0 (Int32.toInt64 (tA F 4 (31 * t + k))))))), (ad 5060, .inr (11, MO yr yi ysb ybs)), (ad 5018, .inl (cT 0, 16, .inl (yA 18))), (ad 5023, .inl (cT 0, 496, .inl (tA F 4)))] ++ pg cds ad (upo gg [5060, 5018, 5023])) := by rw [show yr 18 = ad 5018 from (hyr 18 (by unfold YKy; omega)).symm, show yr 23 = ad 5023 from (hyr 23 (by unfold YKy; omega)).symm]
          have hP := vP_eq hw9 hP
          have hD := vD_eq hw9 hD
          have hP : va_P D vwCl ([(zo, .inl (cT 1, 1, .inr (.inl (vp_updL zf 0 (Int32.toInt64 (tA F 4 (31 * t + k))))))), (ad 5060, .inr (11, MO yr yi ysb ybs)), (yr 18, .inl (cT 0, 16, .inl (yA 18))), (yr 23, .inl (cT 0, 496, .inl (tA F 4)))] ++ pg cds ad (upo gg [5060, 5018, 5023])) _ := hP
          have hD : va_D A ([(zo, .inl (cT 1, 1, .inr (.inl (vp_updL zf 0 (Int32.toInt64 (tA F 4 (31 * t + k))))))), (ad 5060, .inr (11, MO yr yi ysb ybs)), (yr 18, .inl (cT 0, 16, .inl (yA 18))), (yr 23, .inl (cT 0, 496, .inl (tA F 4)))] ++ pg cds ad (upo gg [5060, 5018, 5023])) := hD
          refine hy_iQ (X := [(zo, .inl (cT 1, 1, .inr (.inl (vp_updL zf 0 (Int32.toInt64 (tA F 4 (31 * t + k))))))), (ad 5060, .inr (11, MO yr yi ysb ybs)), (yr 18, .inl (cT 0, 16, .inl (yA 18))), (yr 23, .inl (cT 0, 496, .inl (tA F 4)))]) (pl := pg cds ad (upo gg [5060, 5018, 5023])) (cx := [(ad 5060, .inr (11, MO yr yi ysb ybs)), (yr 18, .inl (cT 0, 16, .inl (yA 18))), (yr 23, .inl (cT 0, 496, .inl (tA F 4)))]) (wr := [(zo, .inl (cT 1, 1, .inr (.inl (vp_updL zf 0 (Int32.toInt64 (tA F 4 (31 * t + k)))))))]) hP hD hS hA [1, 2, 3] [0] rfl rfl (by decide) (by decide) (va_runV (As := [.int (nI t), .int (nI k), .int 4]) (rest := []) ⟨hx, hb, hml, hown, hT⟩ (y_node4 l D cT (ad 5060) yr yi ysb ybs (yA 18) (tA F 4) t k (tM F t) (by rw [y17]; exact hq) (by omega) (y18e t ht) hm31 hk _) ⟨callB_of 3 hT (tb_gd w1531) rfl rfl rfl (hT _ w13) (hT _ w1528) hM_node ⟨Nat.le_of_ble_eq_true rfl, Nat.le_of_ble_eq_true rfl⟩, (hT _ w1529), (hT _ w1530)⟩ (RW.preV (ci := 11) (q0 := 0) hZ hS (hy_free (cx := [(ad 5060, .inr (11, MO yr yi ysb ybs)), (yr 18, .inl (cT 0, 16, .inl (yA 18))), (yr 23, .inl (cT 0, 496, .inl (tA F 4)))]) hD hS hA [1, 2, 3] rfl) (hP.sub (ws' := [(ad 5060, .inr (11, MO yr yi ysb ybs)), (yr 18, .inl (cT 0, 16, .inl (yA 18))), (yr 23, .inl (cT 0, 496, .inl (tA F 4)))]) [1, 2, 3] rfl) hK (hD.sub (ws' := [(ad 5060, .inr (11, MO yr yi ysb ybs)), (yr 18, .inl (cT 0, 16, .inl (yA 18))), (yr 23, .inl (cT 0, 496, .inl (tA F 4)))]) [1, 2, 3] (by decide) rfl) rfl rfl) rfl rfl hl.1 rfl (lv_room (Nat.le_of_ble_eq_true rfl)) dL_law_1044 ⟨(by show ((2000 + j + 3 * fm + 4 * SM mk 16) + 0) + 0 ≤ 601024; omega), (by show ((400000 + 6 * j + 42 * fm + 69 * SM mk 16) + 0) + 0 ≤ 7293034; omega)⟩) (fun ru22 u9 H locs hpu22 hP hD hS => ?_)
          have hpu22 : ru22 = (tA F 4) (31 * t + k) := hpu22
          have hP : va_P D vwCl ([(zo, .inl (cT 1, 1, .inr (.inl (vp_updL zf 0 (Int32.toInt64 (tA F 4 (31 * t + k))))))), (ad 5060, .inr (11, MO yr (va_up yi 1 0) ysb ybs)), (yr 18, .inl (cT 0, 16, .inl (yA 18))), (yr 23, .inl (cT 0, 496, .inl (tA F 4)))] ++ pg cds ad (upo gg [5060, 5018, 5023])) _ := hP
          have hD : va_D A ([(zo, .inl (cT 1, 1, .inr (.inl (vp_updL zf 0 (Int32.toInt64 (tA F 4 (31 * t + k))))))), (ad 5060, .inr (11, MO yr (va_up yi 1 0) ysb ybs)), (yr 18, .inl (cT 0, 16, .inl (yA 18))), (yr 23, .inl (cT 0, 496, .inl (tA F 4)))] ++ pg cds ad (upo gg [5060, 5018, 5023])) := hD
          have hw9 : ([(zo, .inl (cT 1, 1, .inr (.inl (vp_updL zf 0 (Int32.toInt64 (tA F 4 (31 * t + k))))))), (ad 5060, .inr (11, MO yr (va_up yi 1 0) ysb ybs)), (ad 5018, .inl (cT 0, 16, .inl (yA 18))), (ad 5023, .inl (cT 0, 496, .inl (tA F 4)))] ++ pg cds ad (upo gg [5060, 5018, 5023])) = ([(zo, .inl (cT 1, 1, .inr (.inl (vp_updL zf 0 (Int32.toInt64 (tA F 4 (31 * t + k))))))), (ad 5060, .inr (11, MO yr (va_up yi 1 0) ysb ybs)), (yr 18, .inl (cT 0, 16, .inl (yA 18))), (yr 23, .inl (cT 0, 496, .inl (tA F 4)))] ++ pg cds ad (upo gg [5060, 5018, 5023])) := by rw [show ad 5018 = yr 18 from hyr 18 (by unfold YKy; omega), show ad 5023 = yr 23 from hyr 23 (by unfold YKy; omega)]
          have hP := vP_eq hw9 hP
          have hD := vD_eq hw9 hD
          have hP : va_P D vwCl ([(zo, .inl (cT 1, 1, .inr (.inl (vp_updL zf 0 (Int32.toInt64 (tA F 4 (31 * t + k))))))), (ad 5060, .inr (11, MO yr (va_up yi 1 0) ysb ybs)), (ad 5018, .inl (cT 0, 16, .inl (yA 18))), (ad 5023, .inl (cT 0, 496, .inl (tA F 4)))] ++ pg cds ad (upo gg [5060, 5018, 5023])) _ := hP
          have hD : va_D A ([(zo, .inl (cT 1, 1, .inr (.inl (vp_updL zf 0 (Int32.toInt64 (tA F 4 (31 * t + k))))))), (ad 5060, .inr (11, MO yr (va_up yi 1 0) ysb ybs)), (ad 5018, .inl (cT 0, 16, .inl (yA 18))), (ad 5023, .inl (cT 0, 496, .inl (tA F 4)))] ++ pg cds ad (upo gg [5060, 5018, 5023])) := hD
          have hN9 := (show NDc [5060, 5018, 5023] from (nd_c (na_c (by decide) (na_c (by decide) na_0)) (nd_c (na_c (by decide) na_0) (nd_c na_0 nd_0))))
          have hP := gb_P (w9 := [(5060, .inr (11, MO yr (va_up yi 1 0) ysb ybs)), (5018, .inl (cT 0, 16, .inl (yA 18))), (5023, .inl (cT 0, 496, .inl (tA F 4)))]) (X := [(zo, .inl (cT 1, 1, .inr (.inl (vp_updL zf 0 (Int32.toInt64 (tA F 4 (31 * t + k)))))))]) (g := gg) hcd hN9 (show QB [(5060, .inr (11, MO yr (va_up yi 1 0) ysb ybs)), (5018, .inl (cT 0, 16, .inl (yA 18))), (5023, .inl (cT 0, 496, .inl (tA F 4)))] from (qb_c (by decide) (qb_c (by decide) (qb_c (by decide) qb_0)))) (hP.part (cx := [(zo, .inl (cT 1, 1, .inr (.inl (vp_updL zf 0 (Int32.toInt64 (tA F 4 (31 * t + k))))))), (ad 5060, .inr (11, MO yr (va_up yi 1 0) ysb ybs)), (ad 5018, .inl (cT 0, 16, .inl (yA 18))), (ad 5023, .inl (cT 0, 496, .inl (tA F 4)))]) [0, 1, 2, 3] rfl)
          have hD := gb_D (w9 := [(5060, .inr (11, MO yr (va_up yi 1 0) ysb ybs)), (5018, .inl (cT 0, 16, .inl (yA 18))), (5023, .inl (cT 0, 496, .inl (tA F 4)))]) (X := [(zo, .inl (cT 1, 1, .inr (.inl (vp_updL zf 0 (Int32.toInt64 (tA F 4 (31 * t + k)))))))]) (g := gg) hcd hN9 (show QB [(5060, .inr (11, MO yr (va_up yi 1 0) ysb ybs)), (5018, .inl (cT 0, 16, .inl (yA 18))), (5023, .inl (cT 0, 496, .inl (tA F 4)))] from (qb_c (by decide) (qb_c (by decide) (qb_c (by decide) qb_0)))) (hD.part (cx := [(zo, .inl (cT 1, 1, .inr (.inl (vp_updL zf 0 (Int32.toInt64 (tA F 4 (31 * t + k))))))), (ad 5060, .inr (11, MO yr (va_up yi 1 0) ysb ybs)), (ad 5018, .inl (cT 0, 16, .inl (yA 18))), (ad 5023, .inl (cT 0, 496, .inl (tA F 4)))]) [0, 1, 2, 3] (by decide) rfl)
          obtain ⟨gy, hgy⟩ : ∃ q9, q9 = ups gg [(5060, .inr (11, MO yr (va_up yi 1 0) ysb ybs)), (5018, .inl (cT 0, 16, .inl (yA 18))), (5023, .inl (cT 0, 496, .inl (tA F 4)))] := ⟨_, rfl⟩
          rw [← hgy] at hP hD
          have hP : va_P D vwCl ([(zo, .inl (cT 1, 1, .inr (.inl (vp_updL zf 0 (Int32.toInt64 (tA F 4 (31 * t + k)))))))] ++ pg cds ad gy) _ := hP
          have hD : va_D A ([(zo, .inl (cT 1, 1, .inr (.inl (vp_updL zf 0 (Int32.toInt64 (tA F 4 (31 * t + k)))))))] ++ pg cds ad gy) := hD
          have fgy : ∀ z8, z8 ≠ 5060 → gy z8 = gg z8 := fun z8 z1 => by rw [hgy]; exact ups_k (kp_n z1 (kp_s (hYA 18 (by unfold YKy; omega)) (kp_s (hYA 23 (by unfold YKy; omega)) kp_0)))
          have gy_0 : gy 5060 = some (.inr (11, MO yr (va_up yi 1 0) ysb ybs)) := by rw [hgy]; exact ups_1
          refine lv_istore hx hb dL_law_1047 hl (by decide) rfl (fun ls hl => ?_)
          have hl : lv_has ls 7 [(6, .int ru22), (5, .int 0), (0, .ref b), (1, .ref (ad 0)), (2, .ref (ad 5060)), (3, .ref zo), (4, .int (nI (4 * j)))] := hl
          refine lv_aload_n hx hb dL_law_1049 rfl (lv_at hl 4 rfl) ?_
          refine ro_i (va_Run.run (va_runV (As := []) (rest := []) ⟨hx, hb, hml, hown, hT⟩ (m_thrown l D cT (ad 5060) yr (va_up yi 1 0) ysb ybs) ⟨callB_of 0 hT (tb_gd w1290) rfl rfl rfl (hT _ w13) (hT _ w1287) hM_thrown ⟨Nat.le_of_ble_eq_true rfl, Nat.le_of_ble_eq_true rfl⟩, (hT _ w1288), (hT _ w1289)⟩ (RO.preV (ci := 11) (q0 := 0) hZ hS ((show va_P D vwCl [(ad 5060, .inr (11, MO yr (va_up yi 1 0) ysb ybs))] _ from (pv_c (pg_1 (x := 5060) hcd hP (by decide) gy_0) pv_0))) hK rfl rfl) rfl rfl hl.1 rfl (lv_room (Nat.le_of_ble_eq_true rfl)) dL_law_1050 ⟨(by show (((2000 + j + 3 * fm + 4 * SM mk 16) + 0) + 0) + 0 ≤ 601024; omega), (by show (((400000 + 6 * j + 42 * fm + 69 * SM mk 16) + 0) + 0) + 0 ≤ 7293034; omega)⟩)) ?_
          refine lv_topi (fun y9 e9 => ?_)
          cases (show y9 = 0 from e9.trans rfl)
          refine lv_iload hx hb dL_law_1053 (lv_at hl 1 rfl) ?_
          refine lv_icmp_eq (tgt := 1060) hx hb dL_law_1055 rfl (fun _ => ?_) (fun h23 => absurd (by decide) h23)
          refine lv_iload hx hb dL_law_1060 (lv_at hl 1 rfl) ?_
          refine lv_if_ne (tgt := 1077) hx hb dL_law_1062 rfl (fun h24 => absurd (by decide) h24) (fun _ => ?_)
          refine lv_aload_n hx hb dL_law_1065 rfl (lv_at hl 5 rfl) ?_
          refine lv_iconst (v := 0) hx hb dL_law_1066 (by decide) ?_
          refine va_lald hx hb hK hP 0 1 rfl rfl (by unfold vp_in; decide) dL_law_1067 ?_
          refine lv_iload hx hb dL_law_1068 (lv_at hl 0 rfl) ?_
          refine lv_i2l hx hb dL_law_1070 rfl ?_
          refine W.lcmp hx hb dL_law_1071 ?_
          refine lv_if_eq (tgt := 1077) hx hb dL_law_1072 rfl (fun _ => ?_) (fun h25 => absurd ((lg_cmp_eq _ _).mpr (pk_uLs.trans (congrArg Int32.toInt64 hpu22.symm))) h25)
          refine lv_goto (tgt := 1690) hx hb dL_law_1077 rfl ?_
          obtain ⟨yiz, hyiz⟩ : ∃ f9 : Nat → Int32, f9 = va_up yi 1 0 := ⟨_, rfl⟩
          have hIz : LWI cT ad gg tE T fm mk F n wd dpt lst w ru rl ne Lo yiz ysb yA := hI.sc (fun k hk => by rw [hyiz]; exact va_up_ne _ _ hk) (fun _ _ => rfl)
          have hIz := hIz.yg (g2 := gy) (fun z8 hz => fgy z8 (by omega))
          have hYz : YCL cT ad gy y yr yiz ysb ybs yA yW F := by
            refine ⟨hYad, hyr, (by rw [hyiz]; exact gy_0), fun k hk => ?_⟩
            have hk2 : k = 0 ∨ (4 ≤ k ∧ k ≤ 9) ∨ (18 ≤ k ∧ k ≤ 46) ∨ k = 48 ∨ k = 49 ∨ (56 ≤ k ∧ k ≤ 59) := hk
            exact (fgy (5000 + k) (by omega)).trans ((hYA k hk).trans (congrArg some (ycl_o rfl).symm))
          rw [hyiz] at hIz hYz
          refine W.widen (k := 2000 + (j + 1) + 3 * fm + 4 * SM mk 16) (n := 400000 + 6 * (j + 1) + 42 * fm + 69 * SM mk 16) (by show ((2000 + j + 3 * fm + 4 * SM mk 16) + 0) + 0 ≤ 2000 + (j + 1) + 3 * fm + 4 * SM mk 16; omega) (by show ((400000 + 6 * j + 42 * fm + 69 * SM mk 16) + 0) + 0 ≤ 400000 + 6 * (j + 1) + 42 * fm + 69 * SM mk 16; omega) ?_
          have hl := lv_sub hl [2, 3, 4, 5, 6] rfl
          have hl : lv_has ls 7 [(0, .ref b), (1, .ref (ad 0)), (2, .ref y), (3, .ref zo), (4, .int (nI (4 * j)))] := by rw [← hYz.1]; exact hl
          exact hend ad gy T fm mk F n wd dpt lst w ru rl ne Lo (va_up yi 1 0) ysb ybs yA yW (vp_updL zf 0 (Int32.toInt64 (tA F 4 (31 * t + k)))) _ _ ls hIz hYz hP hD hS hl
        · refine lv_aload_n hx hb dL_law_1000 rfl (lv_at hl 1 rfl) ?_
          refine lv_aload_n hx hb dL_law_1001 rfl (lv_at hl 0 rfl) ?_
          refine lv_iload hx hb dL_law_1002 (lv_at hl 4 rfl) ?_
          refine lv_iconst (v := 1) hx hb dL_law_1004 (by decide) ?_
          refine lv_iadd hx hb dL_law_1005 ?_
          refine lv_topi (fun y9 e9 => ?_)
          cases (show y9 = nI ((4 * j) + 1) from e9.trans (nI_add (4 * j) 1))
          refine va_sld hx hb hX hbl hbA hS (vp_in_nI (n := 4 * j + 1) (N := L) (by omega) (by omega)) dL_law_1006 ?_
          refine lv_topi (fun y9 e9 => ?_)
          cases (show y9 = nI t from e9.trans (by rw [nI_clamp (by omega)]; exact ha1.symm))
          refine lv_aload_n hx hb dL_law_1007 rfl (lv_at hl 0 rfl) ?_
          refine lv_iload hx hb dL_law_1008 (lv_at hl 4 rfl) ?_
          refine lv_iconst (v := 2) hx hb dL_law_1010 (by decide) ?_
          refine lv_iadd hx hb dL_law_1011 ?_
          refine lv_topi (fun y9 e9 => ?_)
          cases (show y9 = nI ((4 * j) + 2) from e9.trans (nI_add (4 * j) 2))
          refine va_sld hx hb hX hbl hbA hS (vp_in_nI (n := 4 * j + 2) (N := L) (by omega) (by omega)) dL_law_1012 ?_
          refine lv_topi (fun y9 e9 => ?_)
          cases (show y9 = nI k from e9.trans (by rw [nI_clamp (by omega)]; exact ha2.symm))
          refine lv_aload_n hx hb dL_law_1013 rfl (lv_at hl 0 rfl) ?_
          refine lv_iload hx hb dL_law_1014 (lv_at hl 4 rfl) ?_
          refine lv_iconst (v := 3) hx hb dL_law_1016 (by decide) ?_
          refine lv_iadd hx hb dL_law_1017 ?_
          refine lv_topi (fun y9 e9 => ?_)
          cases (show y9 = nI ((4 * j) + 3) from e9.trans (nI_add (4 * j) 3))
          refine va_sld hx hb hX hbl hbA hS (vp_in_nI (n := 4 * j + 3) (N := L) (by omega) (by omega)) dL_law_1018 ?_
          refine lv_topi (fun y9 e9 => ?_)
          cases (show y9 = 5 from e9.trans (by rw [nI_clamp (by omega)]; exact ha3.symm))
          refine lv_aload_n hx hb dL_law_1019 rfl (lv_at hl 3 rfl) ?_
          refine hy_iP (X := [(zo, .inl (cT 1, 1, .inr (.inl zf)))]) (pl := pg cds ad gg) (cx := [(zo, .inl (cT 1, 1, .inr (.inl zf)))]) (wr := []) hP hD hS hA [0] [] rfl rfl (by decide) (by decide) (tx_runSH (As := [.ref (ad 0), .int (nI t), .int (nI k), .int 5, .ref zo]) (rest := []) ⟨hx, hb, hml, hown, hT⟩ (l_node5 l D cT cds ad gg T fm F t k zo zf hcd hob hFT.1.frp hTf hTs hT16 ht hq hr hk _) hT (tc_gd w994 w995 w0 (tb_gd w996)) rfl rfl rfl hL_node ⟨Nat.le_of_ble_eq_true rfl, Nat.le_of_ble_eq_true rfl⟩ (RW.preS hZ hS (va_freeP (cx := [(zo, .inl (cT 1, 1, .inr (.inl zf)))]) hD hS hA [0] rfl) (hP.part (cx := [(zo, .inl (cT 1, 1, .inr (.inl zf)))]) [0] rfl) hK (hD.part (cx := [(zo, .inl (cT 1, 1, .inr (.inl zf)))]) [0] (by decide) rfl)) rfl hl.1 rfl (Nat.le_of_ble_eq_true rfl) dL_law_1020 ⟨(by show (2000 + j + 3 * fm + 4 * SM mk 16) + 0 ≤ 601024; omega), (by show (400000 + 6 * j + 42 * fm + 69 * SM mk 16) + 0 ≤ 7293034; omega)⟩) (fun ru26 u9 H locs hpu26 hP hD hS => ?_)
          have hpu26 : ru26 = 0 := hpu26
          have hP : va_P D vwCl ([(zo, .inl (cT 1, 1, .inr (.inl (vp_updL zf 0 (Int32.toInt64 (tA F 5 (31 * t + k)))))))] ++ pg cds ad gg) _ := hP
          have hD : va_D A ([(zo, .inl (cT 1, 1, .inr (.inl (vp_updL zf 0 (Int32.toInt64 (tA F 5 (31 * t + k)))))))] ++ pg cds ad gg) := hD
          refine lv_topi (fun y9 e9 => ?_)
          cases (show y9 = 0 from e9.trans hpu26)
          refine lv_istore hx hb dL_law_1023 hl (by decide) rfl (fun ls hl => ?_)
          have hl : lv_has ls 7 [(5, .int 0), (0, .ref b), (1, .ref (ad 0)), (2, .ref (ad 5060)), (3, .ref zo), (4, .int (nI (4 * j)))] := hl
          refine lv_aload_n hx hb dL_law_1025 rfl (lv_at hl 3 rfl) ?_
          refine lv_aload_n hx hb dL_law_1026 rfl (lv_at hl 1 rfl) ?_
          refine lv_iload hx hb dL_law_1027 (lv_at hl 5 rfl) ?_
          refine lv_iconst (v := 1) hx hb dL_law_1029 (by decide) ?_
          refine lv_iadd hx hb dL_law_1030 ?_
          refine lv_topi (fun y9 e9 => ?_)
          cases (show y9 = nI ((4 * j) + 1) from e9.trans (nI_add (4 * j) 1))
          refine va_sld hx hb hX hbl hbA hS (vp_in_nI (n := 4 * j + 1) (N := L) (by omega) (by omega)) dL_law_1031 ?_
          refine lv_topi (fun y9 e9 => ?_)
          cases (show y9 = nI t from e9.trans (by rw [nI_clamp (by omega)]; exact ha1.symm))
          refine lv_aload_n hx hb dL_law_1032 rfl (lv_at hl 1 rfl) ?_
          refine lv_iload hx hb dL_law_1033 (lv_at hl 5 rfl) ?_
          refine lv_iconst (v := 2) hx hb dL_law_1035 (by decide) ?_
          refine lv_iadd hx hb dL_law_1036 ?_
          refine lv_topi (fun y9 e9 => ?_)
          cases (show y9 = nI ((4 * j) + 2) from e9.trans (nI_add (4 * j) 2))
          refine va_sld hx hb hX hbl hbA hS (vp_in_nI (n := 4 * j + 2) (N := L) (by omega) (by omega)) dL_law_1037 ?_
          refine lv_topi (fun y9 e9 => ?_)
          cases (show y9 = nI k from e9.trans (by rw [nI_clamp (by omega)]; exact ha2.symm))
          refine lv_aload_n hx hb dL_law_1038 rfl (lv_at hl 1 rfl) ?_
          refine lv_iload hx hb dL_law_1039 (lv_at hl 5 rfl) ?_
          refine lv_iconst (v := 3) hx hb dL_law_1041 (by decide) ?_
          refine lv_iadd hx hb dL_law_1042 ?_
          refine lv_topi (fun y9 e9 => ?_)
          cases (show y9 = nI ((4 * j) + 3) from e9.trans (nI_add (4 * j) 3))
          refine va_sld hx hb hX hbl hbA hS (vp_in_nI (n := 4 * j + 3) (N := L) (by omega) (by omega)) dL_law_1043 ?_
          refine lv_topi (fun y9 e9 => ?_)
          cases (show y9 = 5 from e9.trans (by rw [nI_clamp (by omega)]; exact ha3.symm))
          have hB9 : QI gg [(5060, .inr (11, MO yr yi ysb ybs)), (5018, .inl (cT 0, 16, .inl (yA 18))), (5024, .inl (cT 0, 496, .inl (tA F 5)))] := (qi_c (by decide) hYy (qi_c (by decide) (hYA 18 (by unfold YKy; omega)) (qi_c (by decide) (hYA 24 (by unfold YKy; omega)) qi_0)))
          have hN9 := (show NDc [5060, 5018, 5024] from (nd_c (na_c (by decide) (na_c (by decide) na_0)) (nd_c (na_c (by decide) na_0) (nd_c na_0 nd_0))))
          have hP := bo_P (wc := [(5060, .inr (11, MO yr yi ysb ybs)), (5018, .inl (cT 0, 16, .inl (yA 18))), (5024, .inl (cT 0, 496, .inl (tA F 5)))]) (X := [(zo, .inl (cT 1, 1, .inr (.inl (vp_updL zf 0 (Int32.toInt64 (tA F 5 (31 * t + k)))))))]) hcd hN9 hB9 hP
          have hD := bo_D (wc := [(5060, .inr (11, MO yr yi ysb ybs)), (5018, .inl (cT 0, 16, .inl (yA 18))), (5024, .inl (cT 0, 496, .inl (tA F 5)))]) (X := [(zo, .inl (cT 1, 1, .inr (.inl (vp_updL zf 0 (Int32.toInt64 (tA F 5 (31 * t + k)))))))]) hcd hN9 hB9 hD
          have hP : va_P D vwCl ([(zo, .inl (cT 1, 1, .inr (.inl (vp_updL zf 0 (Int32.toInt64 (tA F 5 (31 * t + k))))))), (ad 5060, .inr (11, MO yr yi ysb ybs)), (ad 5018, .inl (cT 0, 16, .inl (yA 18))), (ad 5024, .inl (cT 0, 496, .inl (tA F 5)))] ++ pg cds ad (upo gg [5060, 5018, 5024])) _ := hP
          have hD : va_D A ([(zo, .inl (cT 1, 1, .inr (.inl (vp_updL zf 0 (Int32.toInt64 (tA F 5 (31 * t + k))))))), (ad 5060, .inr (11, MO yr yi ysb ybs)), (ad 5018, .inl (cT 0, 16, .inl (yA 18))), (ad 5024, .inl (cT 0, 496, .inl (tA F 5)))] ++ pg cds ad (upo gg [5060, 5018, 5024])) := hD
          have hw9 : ([(zo, .inl (cT 1, 1, .inr (.inl (vp_updL zf 0 (Int32.toInt64 (tA F 5 (31 * t + k))))))), (ad 5060, .inr (11, MO yr yi ysb ybs)), (yr 18, .inl (cT 0, 16, .inl (yA 18))), (yr 24, .inl (cT 0, 496, .inl (tA F 5)))] ++ pg cds ad (upo gg [5060, 5018, 5024])) = ([(zo, .inl (cT 1, 1, .inr (.inl (vp_updL zf 0 (Int32.toInt64 (tA F 5 (31 * t + k))))))), (ad 5060, .inr (11, MO yr yi ysb ybs)), (ad 5018, .inl (cT 0, 16, .inl (yA 18))), (ad 5024, .inl (cT 0, 496, .inl (tA F 5)))] ++ pg cds ad (upo gg [5060, 5018, 5024])) := by rw [show yr 18 = ad 5018 from (hyr 18 (by unfold YKy; omega)).symm, show yr 24 = ad 5024 from (hyr 24 (by unfold YKy; omega)).symm]
          have hP := vP_eq hw9 hP
          have hD := vD_eq hw9 hD
          have hP : va_P D vwCl ([(zo, .inl (cT 1, 1, .inr (.inl (vp_updL zf 0 (Int32.toInt64 (tA F 5 (31 * t + k))))))), (ad 5060, .inr (11, MO yr yi ysb ybs)), (yr 18, .inl (cT 0, 16, .inl (yA 18))), (yr 24, .inl (cT 0, 496, .inl (tA F 5)))] ++ pg cds ad (upo gg [5060, 5018, 5024])) _ := hP
          have hD : va_D A ([(zo, .inl (cT 1, 1, .inr (.inl (vp_updL zf 0 (Int32.toInt64 (tA F 5 (31 * t + k))))))), (ad 5060, .inr (11, MO yr yi ysb ybs)), (yr 18, .inl (cT 0, 16, .inl (yA 18))), (yr 24, .inl (cT 0, 496, .inl (tA F 5)))] ++ pg cds ad (upo gg [5060, 5018, 5024])) := hD
          refine hy_iQ (X := [(zo, .inl (cT 1, 1, .inr (.inl (vp_updL zf 0 (Int32.toInt64 (tA F 5 (31 * t + k))))))), (ad 5060, .inr (11, MO yr yi ysb ybs)), (yr 18, .inl (cT 0, 16, .inl (yA 18))), (yr 24, .inl (cT 0, 496, .inl (tA F 5)))]) (pl := pg cds ad (upo gg [5060, 5018, 5024])) (cx := [(ad 5060, .inr (11, MO yr yi ysb ybs)), (yr 18, .inl (cT 0, 16, .inl (yA 18))), (yr 24, .inl (cT 0, 496, .inl (tA F 5)))]) (wr := [(zo, .inl (cT 1, 1, .inr (.inl (vp_updL zf 0 (Int32.toInt64 (tA F 5 (31 * t + k)))))))]) hP hD hS hA [1, 2, 3] [0] rfl rfl (by decide) (by decide) (va_runV (As := [.int (nI t), .int (nI k), .int 5]) (rest := []) ⟨hx, hb, hml, hown, hT⟩ (y_node5 l D cT (ad 5060) yr yi ysb ybs (yA 18) (tA F 5) t k (tM F t) (by rw [y17]; exact hq) (by omega) (y18e t ht) hm31 hk _) ⟨callB_of 3 hT (tb_gd w1531) rfl rfl rfl (hT _ w13) (hT _ w1528) hM_node ⟨Nat.le_of_ble_eq_true rfl, Nat.le_of_ble_eq_true rfl⟩, (hT _ w1529), (hT _ w1530)⟩ (RW.preV (ci := 11) (q0 := 0) hZ hS (hy_free (cx := [(ad 5060, .inr (11, MO yr yi ysb ybs)), (yr 18, .inl (cT 0, 16, .inl (yA 18))), (yr 24, .inl (cT 0, 496, .inl (tA F 5)))]) hD hS hA [1, 2, 3] rfl) (hP.sub (ws' := [(ad 5060, .inr (11, MO yr yi ysb ybs)), (yr 18, .inl (cT 0, 16, .inl (yA 18))), (yr 24, .inl (cT 0, 496, .inl (tA F 5)))]) [1, 2, 3] rfl) hK (hD.sub (ws' := [(ad 5060, .inr (11, MO yr yi ysb ybs)), (yr 18, .inl (cT 0, 16, .inl (yA 18))), (yr 24, .inl (cT 0, 496, .inl (tA F 5)))]) [1, 2, 3] (by decide) rfl) rfl rfl) rfl rfl hl.1 rfl (lv_room (Nat.le_of_ble_eq_true rfl)) dL_law_1044 ⟨(by show ((2000 + j + 3 * fm + 4 * SM mk 16) + 0) + 0 ≤ 601024; omega), (by show ((400000 + 6 * j + 42 * fm + 69 * SM mk 16) + 0) + 0 ≤ 7293034; omega)⟩) (fun ru27 u9 H locs hpu27 hP hD hS => ?_)
          have hpu27 : ru27 = (tA F 5) (31 * t + k) := hpu27
          have hP : va_P D vwCl ([(zo, .inl (cT 1, 1, .inr (.inl (vp_updL zf 0 (Int32.toInt64 (tA F 5 (31 * t + k))))))), (ad 5060, .inr (11, MO yr (va_up yi 1 0) ysb ybs)), (yr 18, .inl (cT 0, 16, .inl (yA 18))), (yr 24, .inl (cT 0, 496, .inl (tA F 5)))] ++ pg cds ad (upo gg [5060, 5018, 5024])) _ := hP
          have hD : va_D A ([(zo, .inl (cT 1, 1, .inr (.inl (vp_updL zf 0 (Int32.toInt64 (tA F 5 (31 * t + k))))))), (ad 5060, .inr (11, MO yr (va_up yi 1 0) ysb ybs)), (yr 18, .inl (cT 0, 16, .inl (yA 18))), (yr 24, .inl (cT 0, 496, .inl (tA F 5)))] ++ pg cds ad (upo gg [5060, 5018, 5024])) := hD
          have hw9 : ([(zo, .inl (cT 1, 1, .inr (.inl (vp_updL zf 0 (Int32.toInt64 (tA F 5 (31 * t + k))))))), (ad 5060, .inr (11, MO yr (va_up yi 1 0) ysb ybs)), (ad 5018, .inl (cT 0, 16, .inl (yA 18))), (ad 5024, .inl (cT 0, 496, .inl (tA F 5)))] ++ pg cds ad (upo gg [5060, 5018, 5024])) = ([(zo, .inl (cT 1, 1, .inr (.inl (vp_updL zf 0 (Int32.toInt64 (tA F 5 (31 * t + k))))))), (ad 5060, .inr (11, MO yr (va_up yi 1 0) ysb ybs)), (yr 18, .inl (cT 0, 16, .inl (yA 18))), (yr 24, .inl (cT 0, 496, .inl (tA F 5)))] ++ pg cds ad (upo gg [5060, 5018, 5024])) := by rw [show ad 5018 = yr 18 from hyr 18 (by unfold YKy; omega), show ad 5024 = yr 24 from hyr 24 (by unfold YKy; omega)]
          have hP := vP_eq hw9 hP
          have hD := vD_eq hw9 hD
          have hP : va_P D vwCl ([(zo, .inl (cT 1, 1, .inr (.inl (vp_updL zf 0 (Int32.toInt64 (tA F 5 (31 * t + k))))))), (ad 5060, .inr (11, MO yr (va_up yi 1 0) ysb ybs)), (ad 5018, .inl (cT 0, 16, .inl (yA 18))), (ad 5024, .inl (cT 0, 496, .inl (tA F 5)))] ++ pg cds ad (upo gg [5060, 5018, 5024])) _ := hP
          have hD : va_D A ([(zo, .inl (cT 1, 1, .inr (.inl (vp_updL zf 0 (Int32.toInt64 (tA F 5 (31 * t + k))))))), (ad 5060, .inr (11, MO yr (va_up yi 1 0) ysb ybs)), (ad 5018, .inl (cT 0, 16, .inl (yA 18))), (ad 5024, .inl (cT 0, 496, .inl (tA F 5)))] ++ pg cds ad (upo gg [5060, 5018, 5024])) := hD
          have hN9 := (show NDc [5060, 5018, 5024] from (nd_c (na_c (by decide) (na_c (by decide) na_0)) (nd_c (na_c (by decide) na_0) (nd_c na_0 nd_0))))
          have hP := gb_P (w9 := [(5060, .inr (11, MO yr (va_up yi 1 0) ysb ybs)), (5018, .inl (cT 0, 16, .inl (yA 18))), (5024, .inl (cT 0, 496, .inl (tA F 5)))]) (X := [(zo, .inl (cT 1, 1, .inr (.inl (vp_updL zf 0 (Int32.toInt64 (tA F 5 (31 * t + k)))))))]) (g := gg) hcd hN9 (show QB [(5060, .inr (11, MO yr (va_up yi 1 0) ysb ybs)), (5018, .inl (cT 0, 16, .inl (yA 18))), (5024, .inl (cT 0, 496, .inl (tA F 5)))] from (qb_c (by decide) (qb_c (by decide) (qb_c (by decide) qb_0)))) (hP.part (cx := [(zo, .inl (cT 1, 1, .inr (.inl (vp_updL zf 0 (Int32.toInt64 (tA F 5 (31 * t + k))))))), (ad 5060, .inr (11, MO yr (va_up yi 1 0) ysb ybs)), (ad 5018, .inl (cT 0, 16, .inl (yA 18))), (ad 5024, .inl (cT 0, 496, .inl (tA F 5)))]) [0, 1, 2, 3] rfl)
          have hD := gb_D (w9 := [(5060, .inr (11, MO yr (va_up yi 1 0) ysb ybs)), (5018, .inl (cT 0, 16, .inl (yA 18))), (5024, .inl (cT 0, 496, .inl (tA F 5)))]) (X := [(zo, .inl (cT 1, 1, .inr (.inl (vp_updL zf 0 (Int32.toInt64 (tA F 5 (31 * t + k)))))))]) (g := gg) hcd hN9 (show QB [(5060, .inr (11, MO yr (va_up yi 1 0) ysb ybs)), (5018, .inl (cT 0, 16, .inl (yA 18))), (5024, .inl (cT 0, 496, .inl (tA F 5)))] from (qb_c (by decide) (qb_c (by decide) (qb_c (by decide) qb_0)))) (hD.part (cx := [(zo, .inl (cT 1, 1, .inr (.inl (vp_updL zf 0 (Int32.toInt64 (tA F 5 (31 * t + k))))))), (ad 5060, .inr (11, MO yr (va_up yi 1 0) ysb ybs)), (ad 5018, .inl (cT 0, 16, .inl (yA 18))), (ad 5024, .inl (cT 0, 496, .inl (tA F 5)))]) [0, 1, 2, 3] (by decide) rfl)
          obtain ⟨gy, hgy⟩ : ∃ q9, q9 = ups gg [(5060, .inr (11, MO yr (va_up yi 1 0) ysb ybs)), (5018, .inl (cT 0, 16, .inl (yA 18))), (5024, .inl (cT 0, 496, .inl (tA F 5)))] := ⟨_, rfl⟩
          rw [← hgy] at hP hD
          have hP : va_P D vwCl ([(zo, .inl (cT 1, 1, .inr (.inl (vp_updL zf 0 (Int32.toInt64 (tA F 5 (31 * t + k)))))))] ++ pg cds ad gy) _ := hP
          have hD : va_D A ([(zo, .inl (cT 1, 1, .inr (.inl (vp_updL zf 0 (Int32.toInt64 (tA F 5 (31 * t + k)))))))] ++ pg cds ad gy) := hD
          have fgy : ∀ z8, z8 ≠ 5060 → gy z8 = gg z8 := fun z8 z1 => by rw [hgy]; exact ups_k (kp_n z1 (kp_s (hYA 18 (by unfold YKy; omega)) (kp_s (hYA 24 (by unfold YKy; omega)) kp_0)))
          have gy_0 : gy 5060 = some (.inr (11, MO yr (va_up yi 1 0) ysb ybs)) := by rw [hgy]; exact ups_1
          refine lv_istore hx hb dL_law_1047 hl (by decide) rfl (fun ls hl => ?_)
          have hl : lv_has ls 7 [(6, .int ru27), (5, .int 0), (0, .ref b), (1, .ref (ad 0)), (2, .ref (ad 5060)), (3, .ref zo), (4, .int (nI (4 * j)))] := hl
          refine lv_aload_n hx hb dL_law_1049 rfl (lv_at hl 4 rfl) ?_
          refine ro_i (va_Run.run (va_runV (As := []) (rest := []) ⟨hx, hb, hml, hown, hT⟩ (m_thrown l D cT (ad 5060) yr (va_up yi 1 0) ysb ybs) ⟨callB_of 0 hT (tb_gd w1290) rfl rfl rfl (hT _ w13) (hT _ w1287) hM_thrown ⟨Nat.le_of_ble_eq_true rfl, Nat.le_of_ble_eq_true rfl⟩, (hT _ w1288), (hT _ w1289)⟩ (RO.preV (ci := 11) (q0 := 0) hZ hS ((show va_P D vwCl [(ad 5060, .inr (11, MO yr (va_up yi 1 0) ysb ybs))] _ from (pv_c (pg_1 (x := 5060) hcd hP (by decide) gy_0) pv_0))) hK rfl rfl) rfl rfl hl.1 rfl (lv_room (Nat.le_of_ble_eq_true rfl)) dL_law_1050 ⟨(by show (((2000 + j + 3 * fm + 4 * SM mk 16) + 0) + 0) + 0 ≤ 601024; omega), (by show (((400000 + 6 * j + 42 * fm + 69 * SM mk 16) + 0) + 0) + 0 ≤ 7293034; omega)⟩)) ?_
          refine lv_topi (fun y9 e9 => ?_)
          cases (show y9 = 0 from e9.trans rfl)
          refine lv_iload hx hb dL_law_1053 (lv_at hl 1 rfl) ?_
          refine lv_icmp_eq (tgt := 1060) hx hb dL_law_1055 rfl (fun _ => ?_) (fun h28 => absurd (by decide) h28)
          refine lv_iload hx hb dL_law_1060 (lv_at hl 1 rfl) ?_
          refine lv_if_ne (tgt := 1077) hx hb dL_law_1062 rfl (fun h29 => absurd (by decide) h29) (fun _ => ?_)
          refine lv_aload_n hx hb dL_law_1065 rfl (lv_at hl 5 rfl) ?_
          refine lv_iconst (v := 0) hx hb dL_law_1066 (by decide) ?_
          refine va_lald hx hb hK hP 0 1 rfl rfl (by unfold vp_in; decide) dL_law_1067 ?_
          refine lv_iload hx hb dL_law_1068 (lv_at hl 0 rfl) ?_
          refine lv_i2l hx hb dL_law_1070 rfl ?_
          refine W.lcmp hx hb dL_law_1071 ?_
          refine lv_if_eq (tgt := 1077) hx hb dL_law_1072 rfl (fun _ => ?_) (fun h30 => absurd ((lg_cmp_eq _ _).mpr (pk_uLs.trans (congrArg Int32.toInt64 hpu27.symm))) h30)
          refine lv_goto (tgt := 1690) hx hb dL_law_1077 rfl ?_
          obtain ⟨yiz, hyiz⟩ : ∃ f9 : Nat → Int32, f9 = va_up yi 1 0 := ⟨_, rfl⟩
          have hIz : LWI cT ad gg tE T fm mk F n wd dpt lst w ru rl ne Lo yiz ysb yA := hI.sc (fun k hk => by rw [hyiz]; exact va_up_ne _ _ hk) (fun _ _ => rfl)
          have hIz := hIz.yg (g2 := gy) (fun z8 hz => fgy z8 (by omega))
          have hYz : YCL cT ad gy y yr yiz ysb ybs yA yW F := by
            refine ⟨hYad, hyr, (by rw [hyiz]; exact gy_0), fun k hk => ?_⟩
            have hk2 : k = 0 ∨ (4 ≤ k ∧ k ≤ 9) ∨ (18 ≤ k ∧ k ≤ 46) ∨ k = 48 ∨ k = 49 ∨ (56 ≤ k ∧ k ≤ 59) := hk
            exact (fgy (5000 + k) (by omega)).trans ((hYA k hk).trans (congrArg some (ycl_o rfl).symm))
          rw [hyiz] at hIz hYz
          refine W.widen (k := 2000 + (j + 1) + 3 * fm + 4 * SM mk 16) (n := 400000 + 6 * (j + 1) + 42 * fm + 69 * SM mk 16) (by show ((2000 + j + 3 * fm + 4 * SM mk 16) + 0) + 0 ≤ 2000 + (j + 1) + 3 * fm + 4 * SM mk 16; omega) (by show ((400000 + 6 * j + 42 * fm + 69 * SM mk 16) + 0) + 0 ≤ 400000 + 6 * (j + 1) + 42 * fm + 69 * SM mk 16; omega) ?_
          have hl := lv_sub hl [2, 3, 4, 5, 6] rfl
          have hl : lv_has ls 7 [(0, .ref b), (1, .ref (ad 0)), (2, .ref y), (3, .ref zo), (4, .int (nI (4 * j)))] := by rw [← hYz.1]; exact hl
          exact hend ad gy T fm mk F n wd dpt lst w ru rl ne Lo (va_up yi 1 0) ysb ybs yA yW (vp_updL zf 0 (Int32.toInt64 (tA F 5 (31 * t + k)))) _ _ ls hIz hYz hP hD hS hl
        · refine lv_aload_n hx hb dL_law_1000 rfl (lv_at hl 1 rfl) ?_
          refine lv_aload_n hx hb dL_law_1001 rfl (lv_at hl 0 rfl) ?_
          refine lv_iload hx hb dL_law_1002 (lv_at hl 4 rfl) ?_
          refine lv_iconst (v := 1) hx hb dL_law_1004 (by decide) ?_
          refine lv_iadd hx hb dL_law_1005 ?_
          refine lv_topi (fun y9 e9 => ?_)
          cases (show y9 = nI ((4 * j) + 1) from e9.trans (nI_add (4 * j) 1))
          refine va_sld hx hb hX hbl hbA hS (vp_in_nI (n := 4 * j + 1) (N := L) (by omega) (by omega)) dL_law_1006 ?_
          refine lv_topi (fun y9 e9 => ?_)
          cases (show y9 = nI t from e9.trans (by rw [nI_clamp (by omega)]; exact ha1.symm))
          refine lv_aload_n hx hb dL_law_1007 rfl (lv_at hl 0 rfl) ?_
          refine lv_iload hx hb dL_law_1008 (lv_at hl 4 rfl) ?_
          refine lv_iconst (v := 2) hx hb dL_law_1010 (by decide) ?_
          refine lv_iadd hx hb dL_law_1011 ?_
          refine lv_topi (fun y9 e9 => ?_)
          cases (show y9 = nI ((4 * j) + 2) from e9.trans (nI_add (4 * j) 2))
          refine va_sld hx hb hX hbl hbA hS (vp_in_nI (n := 4 * j + 2) (N := L) (by omega) (by omega)) dL_law_1012 ?_
          refine lv_topi (fun y9 e9 => ?_)
          cases (show y9 = nI k from e9.trans (by rw [nI_clamp (by omega)]; exact ha2.symm))
          refine lv_aload_n hx hb dL_law_1013 rfl (lv_at hl 0 rfl) ?_
          refine lv_iload hx hb dL_law_1014 (lv_at hl 4 rfl) ?_
          refine lv_iconst (v := 3) hx hb dL_law_1016 (by decide) ?_
          refine lv_iadd hx hb dL_law_1017 ?_
          refine lv_topi (fun y9 e9 => ?_)
          cases (show y9 = nI ((4 * j) + 3) from e9.trans (nI_add (4 * j) 3))
          refine va_sld hx hb hX hbl hbA hS (vp_in_nI (n := 4 * j + 3) (N := L) (by omega) (by omega)) dL_law_1018 ?_
          refine lv_topi (fun y9 e9 => ?_)
          cases (show y9 = 6 from e9.trans (by rw [nI_clamp (by omega)]; exact ha3.symm))
          refine lv_aload_n hx hb dL_law_1019 rfl (lv_at hl 3 rfl) ?_
          refine hy_iP (X := [(zo, .inl (cT 1, 1, .inr (.inl zf)))]) (pl := pg cds ad gg) (cx := [(zo, .inl (cT 1, 1, .inr (.inl zf)))]) (wr := []) hP hD hS hA [0] [] rfl rfl (by decide) (by decide) (tx_runSH (As := [.ref (ad 0), .int (nI t), .int (nI k), .int 6, .ref zo]) (rest := []) ⟨hx, hb, hml, hown, hT⟩ (l_node6 l D cT cds ad gg T fm F t k zo zf hcd hob hFT.1.frp hTf hTs hT16 ht hq hr hk _) hT (tc_gd w994 w995 w0 (tb_gd w996)) rfl rfl rfl hL_node ⟨Nat.le_of_ble_eq_true rfl, Nat.le_of_ble_eq_true rfl⟩ (RW.preS hZ hS (va_freeP (cx := [(zo, .inl (cT 1, 1, .inr (.inl zf)))]) hD hS hA [0] rfl) (hP.part (cx := [(zo, .inl (cT 1, 1, .inr (.inl zf)))]) [0] rfl) hK (hD.part (cx := [(zo, .inl (cT 1, 1, .inr (.inl zf)))]) [0] (by decide) rfl)) rfl hl.1 rfl (Nat.le_of_ble_eq_true rfl) dL_law_1020 ⟨(by show (2000 + j + 3 * fm + 4 * SM mk 16) + 0 ≤ 601024; omega), (by show (400000 + 6 * j + 42 * fm + 69 * SM mk 16) + 0 ≤ 7293034; omega)⟩) (fun ru31 u9 H locs hpu31 hP hD hS => ?_)
          have hpu31 : ru31 = 0 := hpu31
          have hP : va_P D vwCl ([(zo, .inl (cT 1, 1, .inr (.inl (vp_updL zf 0 (Int32.toInt64 (tA F 6 (31 * t + k)))))))] ++ pg cds ad gg) _ := hP
          have hD : va_D A ([(zo, .inl (cT 1, 1, .inr (.inl (vp_updL zf 0 (Int32.toInt64 (tA F 6 (31 * t + k)))))))] ++ pg cds ad gg) := hD
          refine lv_topi (fun y9 e9 => ?_)
          cases (show y9 = 0 from e9.trans hpu31)
          refine lv_istore hx hb dL_law_1023 hl (by decide) rfl (fun ls hl => ?_)
          have hl : lv_has ls 7 [(5, .int 0), (0, .ref b), (1, .ref (ad 0)), (2, .ref (ad 5060)), (3, .ref zo), (4, .int (nI (4 * j)))] := hl
          refine lv_aload_n hx hb dL_law_1025 rfl (lv_at hl 3 rfl) ?_
          refine lv_aload_n hx hb dL_law_1026 rfl (lv_at hl 1 rfl) ?_
          refine lv_iload hx hb dL_law_1027 (lv_at hl 5 rfl) ?_
          refine lv_iconst (v := 1) hx hb dL_law_1029 (by decide) ?_
          refine lv_iadd hx hb dL_law_1030 ?_
          refine lv_topi (fun y9 e9 => ?_)
          cases (show y9 = nI ((4 * j) + 1) from e9.trans (nI_add (4 * j) 1))
          refine va_sld hx hb hX hbl hbA hS (vp_in_nI (n := 4 * j + 1) (N := L) (by omega) (by omega)) dL_law_1031 ?_
          refine lv_topi (fun y9 e9 => ?_)
          cases (show y9 = nI t from e9.trans (by rw [nI_clamp (by omega)]; exact ha1.symm))
          refine lv_aload_n hx hb dL_law_1032 rfl (lv_at hl 1 rfl) ?_
          refine lv_iload hx hb dL_law_1033 (lv_at hl 5 rfl) ?_
          refine lv_iconst (v := 2) hx hb dL_law_1035 (by decide) ?_
          refine lv_iadd hx hb dL_law_1036 ?_
          refine lv_topi (fun y9 e9 => ?_)
          cases (show y9 = nI ((4 * j) + 2) from e9.trans (nI_add (4 * j) 2))
          refine va_sld hx hb hX hbl hbA hS (vp_in_nI (n := 4 * j + 2) (N := L) (by omega) (by omega)) dL_law_1037 ?_
          refine lv_topi (fun y9 e9 => ?_)
          cases (show y9 = nI k from e9.trans (by rw [nI_clamp (by omega)]; exact ha2.symm))
          refine lv_aload_n hx hb dL_law_1038 rfl (lv_at hl 1 rfl) ?_
          refine lv_iload hx hb dL_law_1039 (lv_at hl 5 rfl) ?_
          refine lv_iconst (v := 3) hx hb dL_law_1041 (by decide) ?_
          refine lv_iadd hx hb dL_law_1042 ?_
          refine lv_topi (fun y9 e9 => ?_)
          cases (show y9 = nI ((4 * j) + 3) from e9.trans (nI_add (4 * j) 3))
          refine va_sld hx hb hX hbl hbA hS (vp_in_nI (n := 4 * j + 3) (N := L) (by omega) (by omega)) dL_law_1043 ?_
          refine lv_topi (fun y9 e9 => ?_)
          cases (show y9 = 6 from e9.trans (by rw [nI_clamp (by omega)]; exact ha3.symm))
          have hB9 : QI gg [(5060, .inr (11, MO yr yi ysb ybs)), (5018, .inl (cT 0, 16, .inl (yA 18))), (5025, .inl (cT 0, 496, .inl (tA F 6)))] := (qi_c (by decide) hYy (qi_c (by decide) (hYA 18 (by unfold YKy; omega)) (qi_c (by decide) (hYA 25 (by unfold YKy; omega)) qi_0)))
          have hN9 := (show NDc [5060, 5018, 5025] from (nd_c (na_c (by decide) (na_c (by decide) na_0)) (nd_c (na_c (by decide) na_0) (nd_c na_0 nd_0))))
          have hP := bo_P (wc := [(5060, .inr (11, MO yr yi ysb ybs)), (5018, .inl (cT 0, 16, .inl (yA 18))), (5025, .inl (cT 0, 496, .inl (tA F 6)))]) (X := [(zo, .inl (cT 1, 1, .inr (.inl (vp_updL zf 0 (Int32.toInt64 (tA F 6 (31 * t + k)))))))]) hcd hN9 hB9 hP
          have hD := bo_D (wc := [(5060, .inr (11, MO yr yi ysb ybs)), (5018, .inl (cT 0, 16, .inl (yA 18))), (5025, .inl (cT 0, 496, .inl (tA F 6)))]) (X := [(zo, .inl (cT 1, 1, .inr (.inl (vp_updL zf 0 (Int32.toInt64 (tA F 6 (31 * t + k)))))))]) hcd hN9 hB9 hD
          have hP : va_P D vwCl ([(zo, .inl (cT 1, 1, .inr (.inl (vp_updL zf 0 (Int32.toInt64 (tA F 6 (31 * t + k))))))), (ad 5060, .inr (11, MO yr yi ysb ybs)), (ad 5018, .inl (cT 0, 16, .inl (yA 18))), (ad 5025, .inl (cT 0, 496, .inl (tA F 6)))] ++ pg cds ad (upo gg [5060, 5018, 5025])) _ := hP
          have hD : va_D A ([(zo, .inl (cT 1, 1, .inr (.inl (vp_updL zf 0 (Int32.toInt64 (tA F 6 (31 * t + k))))))), (ad 5060, .inr (11, MO yr yi ysb ybs)), (ad 5018, .inl (cT 0, 16, .inl (yA 18))), (ad 5025, .inl (cT 0, 496, .inl (tA F 6)))] ++ pg cds ad (upo gg [5060, 5018, 5025])) := hD
          have hw9 : ([(zo, .inl (cT 1, 1, .inr (.inl (vp_updL zf 0 (Int32.toInt64 (tA F 6 (31 * t + k))))))), (ad 5060, .inr (11, MO yr yi ysb ybs)), (yr 18, .inl (cT 0, 16, .inl (yA 18))), (yr 25, .inl (cT 0, 496, .inl (tA F 6)))] ++ pg cds ad (upo gg [5060, 5018, 5025])) = ([(zo, .inl (cT 1, 1, .inr (.inl (vp_updL zf 0 (Int32.toInt64 (tA F 6 (31 * t + k))))))), (ad 5060, .inr (11, MO yr yi ysb ybs)), (ad 5018, .inl (cT 0, 16, .inl (yA 18))), (ad 5025, .inl (cT 0, 496, .inl (tA F 6)))] ++ pg cds ad (upo gg [5060, 5018, 5025])) := by rw [show yr 18 = ad 5018 from (hyr 18 (by unfold YKy; omega)).symm, show yr 25 = ad 5025 from (hyr 25 (by unfold YKy; omega)).symm]
          have hP := vP_eq hw9 hP
          have hD := vD_eq hw9 hD
          have hP : va_P D vwCl ([(zo, .inl (cT 1, 1, .inr (.inl (vp_updL zf 0 (Int32.toInt64 (tA F 6 (31 * t + k))))))), (ad 5060, .inr (11, MO yr yi ysb ybs)), (yr 18, .inl (cT 0, 16, .inl (yA 18))), (yr 25, .inl (cT 0, 496, .inl (tA F 6)))] ++ pg cds ad (upo gg [5060, 5018, 5025])) _ := hP
          have hD : va_D A ([(zo, .inl (cT 1, 1, .inr (.inl (vp_updL zf 0 (Int32.toInt64 (tA F 6 (31 * t + k))))))), (ad 5060, .inr (11, MO yr yi ysb ybs)), (yr 18, .inl (cT 0, 16, .inl (yA 18))), (yr 25, .inl (cT 0, 496, .inl (tA F 6)))] ++ pg cds ad (upo gg [5060, 5018, 5025])) := hD
          refine hy_iQ (X := [(zo, .inl (cT 1, 1, .inr (.inl (vp_updL zf 0 (Int32.toInt64 (tA F 6 (31 * t + k))))))), (ad 5060, .inr (11, MO yr yi ysb ybs)), (yr 18, .inl (cT 0, 16, .inl (yA 18))), (yr 25, .inl (cT 0, 496, .inl (tA F 6)))]) (pl := pg cds ad (upo gg [5060, 5018, 5025])) (cx := [(ad 5060, .inr (11, MO yr yi ysb ybs)), (yr 18, .inl (cT 0, 16, .inl (yA 18))), (yr 25, .inl (cT 0, 496, .inl (tA F 6)))]) (wr := [(zo, .inl (cT 1, 1, .inr (.inl (vp_updL zf 0 (Int32.toInt64 (tA F 6 (31 * t + k)))))))]) hP hD hS hA [1, 2, 3] [0] rfl rfl (by decide) (by decide) (va_runV (As := [.int (nI t), .int (nI k), .int 6]) (rest := []) ⟨hx, hb, hml, hown, hT⟩ (y_node6 l D cT (ad 5060) yr yi ysb ybs (yA 18) (tA F 6) t k (tM F t) (by rw [y17]; exact hq) (by omega) (y18e t ht) hm31 hk _) ⟨callB_of 3 hT (tb_gd w1531) rfl rfl rfl (hT _ w13) (hT _ w1528) hM_node ⟨Nat.le_of_ble_eq_true rfl, Nat.le_of_ble_eq_true rfl⟩, (hT _ w1529), (hT _ w1530)⟩ (RW.preV (ci := 11) (q0 := 0) hZ hS (hy_free (cx := [(ad 5060, .inr (11, MO yr yi ysb ybs)), (yr 18, .inl (cT 0, 16, .inl (yA 18))), (yr 25, .inl (cT 0, 496, .inl (tA F 6)))]) hD hS hA [1, 2, 3] rfl) (hP.sub (ws' := [(ad 5060, .inr (11, MO yr yi ysb ybs)), (yr 18, .inl (cT 0, 16, .inl (yA 18))), (yr 25, .inl (cT 0, 496, .inl (tA F 6)))]) [1, 2, 3] rfl) hK (hD.sub (ws' := [(ad 5060, .inr (11, MO yr yi ysb ybs)), (yr 18, .inl (cT 0, 16, .inl (yA 18))), (yr 25, .inl (cT 0, 496, .inl (tA F 6)))]) [1, 2, 3] (by decide) rfl) rfl rfl) rfl rfl hl.1 rfl (lv_room (Nat.le_of_ble_eq_true rfl)) dL_law_1044 ⟨(by show ((2000 + j + 3 * fm + 4 * SM mk 16) + 0) + 0 ≤ 601024; omega), (by show ((400000 + 6 * j + 42 * fm + 69 * SM mk 16) + 0) + 0 ≤ 7293034; omega)⟩) (fun ru32 u9 H locs hpu32 hP hD hS => ?_)
          have hpu32 : ru32 = (tA F 6) (31 * t + k) := hpu32
          have hP : va_P D vwCl ([(zo, .inl (cT 1, 1, .inr (.inl (vp_updL zf 0 (Int32.toInt64 (tA F 6 (31 * t + k))))))), (ad 5060, .inr (11, MO yr (va_up yi 1 0) ysb ybs)), (yr 18, .inl (cT 0, 16, .inl (yA 18))), (yr 25, .inl (cT 0, 496, .inl (tA F 6)))] ++ pg cds ad (upo gg [5060, 5018, 5025])) _ := hP
          have hD : va_D A ([(zo, .inl (cT 1, 1, .inr (.inl (vp_updL zf 0 (Int32.toInt64 (tA F 6 (31 * t + k))))))), (ad 5060, .inr (11, MO yr (va_up yi 1 0) ysb ybs)), (yr 18, .inl (cT 0, 16, .inl (yA 18))), (yr 25, .inl (cT 0, 496, .inl (tA F 6)))] ++ pg cds ad (upo gg [5060, 5018, 5025])) := hD
          have hw9 : ([(zo, .inl (cT 1, 1, .inr (.inl (vp_updL zf 0 (Int32.toInt64 (tA F 6 (31 * t + k))))))), (ad 5060, .inr (11, MO yr (va_up yi 1 0) ysb ybs)), (ad 5018, .inl (cT 0, 16, .inl (yA 18))), (ad 5025, .inl (cT 0, 496, .inl (tA F 6)))] ++ pg cds ad (upo gg [5060, 5018, 5025])) = ([(zo, .inl (cT 1, 1, .inr (.inl (vp_updL zf 0 (Int32.toInt64 (tA F 6 (31 * t + k))))))), (ad 5060, .inr (11, MO yr (va_up yi 1 0) ysb ybs)), (yr 18, .inl (cT 0, 16, .inl (yA 18))), (yr 25, .inl (cT 0, 496, .inl (tA F 6)))] ++ pg cds ad (upo gg [5060, 5018, 5025])) := by rw [show ad 5018 = yr 18 from hyr 18 (by unfold YKy; omega), show ad 5025 = yr 25 from hyr 25 (by unfold YKy; omega)]
          have hP := vP_eq hw9 hP
          have hD := vD_eq hw9 hD
          have hP : va_P D vwCl ([(zo, .inl (cT 1, 1, .inr (.inl (vp_updL zf 0 (Int32.toInt64 (tA F 6 (31 * t + k))))))), (ad 5060, .inr (11, MO yr (va_up yi 1 0) ysb ybs)), (ad 5018, .inl (cT 0, 16, .inl (yA 18))), (ad 5025, .inl (cT 0, 496, .inl (tA F 6)))] ++ pg cds ad (upo gg [5060, 5018, 5025])) _ := hP
          have hD : va_D A ([(zo, .inl (cT 1, 1, .inr (.inl (vp_updL zf 0 (Int32.toInt64 (tA F 6 (31 * t + k))))))), (ad 5060, .inr (11, MO yr (va_up yi 1 0) ysb ybs)), (ad 5018, .inl (cT 0, 16, .inl (yA 18))), (ad 5025, .inl (cT 0, 496, .inl (tA F 6)))] ++ pg cds ad (upo gg [5060, 5018, 5025])) := hD
          have hN9 := (show NDc [5060, 5018, 5025] from (nd_c (na_c (by decide) (na_c (by decide) na_0)) (nd_c (na_c (by decide) na_0) (nd_c na_0 nd_0))))
          have hP := gb_P (w9 := [(5060, .inr (11, MO yr (va_up yi 1 0) ysb ybs)), (5018, .inl (cT 0, 16, .inl (yA 18))), (5025, .inl (cT 0, 496, .inl (tA F 6)))]) (X := [(zo, .inl (cT 1, 1, .inr (.inl (vp_updL zf 0 (Int32.toInt64 (tA F 6 (31 * t + k)))))))]) (g := gg) hcd hN9 (show QB [(5060, .inr (11, MO yr (va_up yi 1 0) ysb ybs)), (5018, .inl (cT 0, 16, .inl (yA 18))), (5025, .inl (cT 0, 496, .inl (tA F 6)))] from (qb_c (by decide) (qb_c (by decide) (qb_c (by decide) qb_0)))) (hP.part (cx := [(zo, .inl (cT 1, 1, .inr (.inl (vp_updL zf 0 (Int32.toInt64 (tA F 6 (31 * t + k))))))), (ad 5060, .inr (11, MO yr (va_up yi 1 0) ysb ybs)), (ad 5018, .inl (cT 0, 16, .inl (yA 18))), (ad 5025, .inl (cT 0, 496, .inl (tA F 6)))]) [0, 1, 2, 3] rfl)
          have hD := gb_D (w9 := [(5060, .inr (11, MO yr (va_up yi 1 0) ysb ybs)), (5018, .inl (cT 0, 16, .inl (yA 18))), (5025, .inl (cT 0, 496, .inl (tA F 6)))]) (X := [(zo, .inl (cT 1, 1, .inr (.inl (vp_updL zf 0 (Int32.toInt64 (tA F 6 (31 * t + k)))))))]) (g := gg) hcd hN9 (show QB [(5060, .inr (11, MO yr (va_up yi 1 0) ysb ybs)), (5018, .inl (cT 0, 16, .inl (yA 18))), (5025, .inl (cT 0, 496, .inl (tA F 6)))] from (qb_c (by decide) (qb_c (by decide) (qb_c (by decide) qb_0)))) (hD.part (cx := [(zo, .inl (cT 1, 1, .inr (.inl (vp_updL zf 0 (Int32.toInt64 (tA F 6 (31 * t + k))))))), (ad 5060, .inr (11, MO yr (va_up yi 1 0) ysb ybs)), (ad 5018, .inl (cT 0, 16, .inl (yA 18))), (ad 5025, .inl (cT 0, 496, .inl (tA F 6)))]) [0, 1, 2, 3] (by decide) rfl)
          obtain ⟨gy, hgy⟩ : ∃ q9, q9 = ups gg [(5060, .inr (11, MO yr (va_up yi 1 0) ysb ybs)), (5018, .inl (cT 0, 16, .inl (yA 18))), (5025, .inl (cT 0, 496, .inl (tA F 6)))] := ⟨_, rfl⟩
          rw [← hgy] at hP hD
          have hP : va_P D vwCl ([(zo, .inl (cT 1, 1, .inr (.inl (vp_updL zf 0 (Int32.toInt64 (tA F 6 (31 * t + k)))))))] ++ pg cds ad gy) _ := hP
          have hD : va_D A ([(zo, .inl (cT 1, 1, .inr (.inl (vp_updL zf 0 (Int32.toInt64 (tA F 6 (31 * t + k)))))))] ++ pg cds ad gy) := hD
          have fgy : ∀ z8, z8 ≠ 5060 → gy z8 = gg z8 := fun z8 z1 => by rw [hgy]; exact ups_k (kp_n z1 (kp_s (hYA 18 (by unfold YKy; omega)) (kp_s (hYA 25 (by unfold YKy; omega)) kp_0)))
          have gy_0 : gy 5060 = some (.inr (11, MO yr (va_up yi 1 0) ysb ybs)) := by rw [hgy]; exact ups_1
          refine lv_istore hx hb dL_law_1047 hl (by decide) rfl (fun ls hl => ?_)
          have hl : lv_has ls 7 [(6, .int ru32), (5, .int 0), (0, .ref b), (1, .ref (ad 0)), (2, .ref (ad 5060)), (3, .ref zo), (4, .int (nI (4 * j)))] := hl
          refine lv_aload_n hx hb dL_law_1049 rfl (lv_at hl 4 rfl) ?_
          refine ro_i (va_Run.run (va_runV (As := []) (rest := []) ⟨hx, hb, hml, hown, hT⟩ (m_thrown l D cT (ad 5060) yr (va_up yi 1 0) ysb ybs) ⟨callB_of 0 hT (tb_gd w1290) rfl rfl rfl (hT _ w13) (hT _ w1287) hM_thrown ⟨Nat.le_of_ble_eq_true rfl, Nat.le_of_ble_eq_true rfl⟩, (hT _ w1288), (hT _ w1289)⟩ (RO.preV (ci := 11) (q0 := 0) hZ hS ((show va_P D vwCl [(ad 5060, .inr (11, MO yr (va_up yi 1 0) ysb ybs))] _ from (pv_c (pg_1 (x := 5060) hcd hP (by decide) gy_0) pv_0))) hK rfl rfl) rfl rfl hl.1 rfl (lv_room (Nat.le_of_ble_eq_true rfl)) dL_law_1050 ⟨(by show (((2000 + j + 3 * fm + 4 * SM mk 16) + 0) + 0) + 0 ≤ 601024; omega), (by show (((400000 + 6 * j + 42 * fm + 69 * SM mk 16) + 0) + 0) + 0 ≤ 7293034; omega)⟩)) ?_
          refine lv_topi (fun y9 e9 => ?_)
          cases (show y9 = 0 from e9.trans rfl)
          refine lv_iload hx hb dL_law_1053 (lv_at hl 1 rfl) ?_
          refine lv_icmp_eq (tgt := 1060) hx hb dL_law_1055 rfl (fun _ => ?_) (fun h33 => absurd (by decide) h33)
          refine lv_iload hx hb dL_law_1060 (lv_at hl 1 rfl) ?_
          refine lv_if_ne (tgt := 1077) hx hb dL_law_1062 rfl (fun h34 => absurd (by decide) h34) (fun _ => ?_)
          refine lv_aload_n hx hb dL_law_1065 rfl (lv_at hl 5 rfl) ?_
          refine lv_iconst (v := 0) hx hb dL_law_1066 (by decide) ?_
          refine va_lald hx hb hK hP 0 1 rfl rfl (by unfold vp_in; decide) dL_law_1067 ?_
          refine lv_iload hx hb dL_law_1068 (lv_at hl 0 rfl) ?_
          refine lv_i2l hx hb dL_law_1070 rfl ?_
          refine W.lcmp hx hb dL_law_1071 ?_
          refine lv_if_eq (tgt := 1077) hx hb dL_law_1072 rfl (fun _ => ?_) (fun h35 => absurd ((lg_cmp_eq _ _).mpr (pk_uLs.trans (congrArg Int32.toInt64 hpu32.symm))) h35)
          refine lv_goto (tgt := 1690) hx hb dL_law_1077 rfl ?_
          obtain ⟨yiz, hyiz⟩ : ∃ f9 : Nat → Int32, f9 = va_up yi 1 0 := ⟨_, rfl⟩
          have hIz : LWI cT ad gg tE T fm mk F n wd dpt lst w ru rl ne Lo yiz ysb yA := hI.sc (fun k hk => by rw [hyiz]; exact va_up_ne _ _ hk) (fun _ _ => rfl)
          have hIz := hIz.yg (g2 := gy) (fun z8 hz => fgy z8 (by omega))
          have hYz : YCL cT ad gy y yr yiz ysb ybs yA yW F := by
            refine ⟨hYad, hyr, (by rw [hyiz]; exact gy_0), fun k hk => ?_⟩
            have hk2 : k = 0 ∨ (4 ≤ k ∧ k ≤ 9) ∨ (18 ≤ k ∧ k ≤ 46) ∨ k = 48 ∨ k = 49 ∨ (56 ≤ k ∧ k ≤ 59) := hk
            exact (fgy (5000 + k) (by omega)).trans ((hYA k hk).trans (congrArg some (ycl_o rfl).symm))
          rw [hyiz] at hIz hYz
          refine W.widen (k := 2000 + (j + 1) + 3 * fm + 4 * SM mk 16) (n := 400000 + 6 * (j + 1) + 42 * fm + 69 * SM mk 16) (by show ((2000 + j + 3 * fm + 4 * SM mk 16) + 0) + 0 ≤ 2000 + (j + 1) + 3 * fm + 4 * SM mk 16; omega) (by show ((400000 + 6 * j + 42 * fm + 69 * SM mk 16) + 0) + 0 ≤ 400000 + 6 * (j + 1) + 42 * fm + 69 * SM mk 16; omega) ?_
          have hl := lv_sub hl [2, 3, 4, 5, 6] rfl
          have hl : lv_has ls 7 [(0, .ref b), (1, .ref (ad 0)), (2, .ref y), (3, .ref zo), (4, .int (nI (4 * j)))] := by rw [← hYz.1]; exact hl
          exact hend ad gy T fm mk F n wd dpt lst w ru rl ne Lo (va_up yi 1 0) ysb ybs yA yW (vp_updL zf 0 (Int32.toInt64 (tA F 6 (31 * t + k)))) _ _ ls hIz hYz hP hD hS hl
        · refine lv_aload_n hx hb dL_law_1000 rfl (lv_at hl 1 rfl) ?_
          refine lv_aload_n hx hb dL_law_1001 rfl (lv_at hl 0 rfl) ?_
          refine lv_iload hx hb dL_law_1002 (lv_at hl 4 rfl) ?_
          refine lv_iconst (v := 1) hx hb dL_law_1004 (by decide) ?_
          refine lv_iadd hx hb dL_law_1005 ?_
          refine lv_topi (fun y9 e9 => ?_)
          cases (show y9 = nI ((4 * j) + 1) from e9.trans (nI_add (4 * j) 1))
          refine va_sld hx hb hX hbl hbA hS (vp_in_nI (n := 4 * j + 1) (N := L) (by omega) (by omega)) dL_law_1006 ?_
          refine lv_topi (fun y9 e9 => ?_)
          cases (show y9 = nI t from e9.trans (by rw [nI_clamp (by omega)]; exact ha1.symm))
          refine lv_aload_n hx hb dL_law_1007 rfl (lv_at hl 0 rfl) ?_
          refine lv_iload hx hb dL_law_1008 (lv_at hl 4 rfl) ?_
          refine lv_iconst (v := 2) hx hb dL_law_1010 (by decide) ?_
          refine lv_iadd hx hb dL_law_1011 ?_
          refine lv_topi (fun y9 e9 => ?_)
          cases (show y9 = nI ((4 * j) + 2) from e9.trans (nI_add (4 * j) 2))
          refine va_sld hx hb hX hbl hbA hS (vp_in_nI (n := 4 * j + 2) (N := L) (by omega) (by omega)) dL_law_1012 ?_
          refine lv_topi (fun y9 e9 => ?_)
          cases (show y9 = nI k from e9.trans (by rw [nI_clamp (by omega)]; exact ha2.symm))
          refine lv_aload_n hx hb dL_law_1013 rfl (lv_at hl 0 rfl) ?_
          refine lv_iload hx hb dL_law_1014 (lv_at hl 4 rfl) ?_
          refine lv_iconst (v := 3) hx hb dL_law_1016 (by decide) ?_
          refine lv_iadd hx hb dL_law_1017 ?_
          refine lv_topi (fun y9 e9 => ?_)
          cases (show y9 = nI ((4 * j) + 3) from e9.trans (nI_add (4 * j) 3))
          refine va_sld hx hb hX hbl hbA hS (vp_in_nI (n := 4 * j + 3) (N := L) (by omega) (by omega)) dL_law_1018 ?_
          refine lv_topi (fun y9 e9 => ?_)
          cases (show y9 = 7 from e9.trans (by rw [nI_clamp (by omega)]; exact ha3.symm))
          refine lv_aload_n hx hb dL_law_1019 rfl (lv_at hl 3 rfl) ?_
          refine hy_iP (X := [(zo, .inl (cT 1, 1, .inr (.inl zf)))]) (pl := pg cds ad gg) (cx := [(zo, .inl (cT 1, 1, .inr (.inl zf)))]) (wr := []) hP hD hS hA [0] [] rfl rfl (by decide) (by decide) (tx_runSH (As := [.ref (ad 0), .int (nI t), .int (nI k), .int 7, .ref zo]) (rest := []) ⟨hx, hb, hml, hown, hT⟩ (l_node7 l D cT cds ad gg T fm F t k zo zf hcd hob hFT.1.frp hTf hTs hT16 ht hq hr hk (hSV7 _ (by omega)) _) hT (tc_gd w994 w995 w0 (tb_gd w996)) rfl rfl rfl hL_node ⟨Nat.le_of_ble_eq_true rfl, Nat.le_of_ble_eq_true rfl⟩ (RW.preS hZ hS (va_freeP (cx := [(zo, .inl (cT 1, 1, .inr (.inl zf)))]) hD hS hA [0] rfl) (hP.part (cx := [(zo, .inl (cT 1, 1, .inr (.inl zf)))]) [0] rfl) hK (hD.part (cx := [(zo, .inl (cT 1, 1, .inr (.inl zf)))]) [0] (by decide) rfl)) rfl hl.1 rfl (Nat.le_of_ble_eq_true rfl) dL_law_1020 ⟨(by show (2000 + j + 3 * fm + 4 * SM mk 16) + 0 ≤ 601024; omega), (by show (400000 + 6 * j + 42 * fm + 69 * SM mk 16) + 0 ≤ 7293034; omega)⟩) (fun ru36 u9 H locs hpu36 hP hD hS => ?_)
          have hpu36 : ru36 = 0 := hpu36
          have hP : va_P D vwCl ([(zo, .inl (cT 1, 1, .inr (.inl (vp_updL zf 0 (Int32.toInt64 (tA F 7 (31 * t + k)))))))] ++ pg cds ad gg) _ := hP
          have hD : va_D A ([(zo, .inl (cT 1, 1, .inr (.inl (vp_updL zf 0 (Int32.toInt64 (tA F 7 (31 * t + k)))))))] ++ pg cds ad gg) := hD
          refine lv_topi (fun y9 e9 => ?_)
          cases (show y9 = 0 from e9.trans hpu36)
          refine lv_istore hx hb dL_law_1023 hl (by decide) rfl (fun ls hl => ?_)
          have hl : lv_has ls 7 [(5, .int 0), (0, .ref b), (1, .ref (ad 0)), (2, .ref (ad 5060)), (3, .ref zo), (4, .int (nI (4 * j)))] := hl
          refine lv_aload_n hx hb dL_law_1025 rfl (lv_at hl 3 rfl) ?_
          refine lv_aload_n hx hb dL_law_1026 rfl (lv_at hl 1 rfl) ?_
          refine lv_iload hx hb dL_law_1027 (lv_at hl 5 rfl) ?_
          refine lv_iconst (v := 1) hx hb dL_law_1029 (by decide) ?_
          refine lv_iadd hx hb dL_law_1030 ?_
          refine lv_topi (fun y9 e9 => ?_)
          cases (show y9 = nI ((4 * j) + 1) from e9.trans (nI_add (4 * j) 1))
          refine va_sld hx hb hX hbl hbA hS (vp_in_nI (n := 4 * j + 1) (N := L) (by omega) (by omega)) dL_law_1031 ?_
          refine lv_topi (fun y9 e9 => ?_)
          cases (show y9 = nI t from e9.trans (by rw [nI_clamp (by omega)]; exact ha1.symm))
          refine lv_aload_n hx hb dL_law_1032 rfl (lv_at hl 1 rfl) ?_
          refine lv_iload hx hb dL_law_1033 (lv_at hl 5 rfl) ?_
          refine lv_iconst (v := 2) hx hb dL_law_1035 (by decide) ?_
          refine lv_iadd hx hb dL_law_1036 ?_
          refine lv_topi (fun y9 e9 => ?_)
          cases (show y9 = nI ((4 * j) + 2) from e9.trans (nI_add (4 * j) 2))
          refine va_sld hx hb hX hbl hbA hS (vp_in_nI (n := 4 * j + 2) (N := L) (by omega) (by omega)) dL_law_1037 ?_
          refine lv_topi (fun y9 e9 => ?_)
          cases (show y9 = nI k from e9.trans (by rw [nI_clamp (by omega)]; exact ha2.symm))
          refine lv_aload_n hx hb dL_law_1038 rfl (lv_at hl 1 rfl) ?_
          refine lv_iload hx hb dL_law_1039 (lv_at hl 5 rfl) ?_
          refine lv_iconst (v := 3) hx hb dL_law_1041 (by decide) ?_
          refine lv_iadd hx hb dL_law_1042 ?_
          refine lv_topi (fun y9 e9 => ?_)
          cases (show y9 = nI ((4 * j) + 3) from e9.trans (nI_add (4 * j) 3))
          refine va_sld hx hb hX hbl hbA hS (vp_in_nI (n := 4 * j + 3) (N := L) (by omega) (by omega)) dL_law_1043 ?_
          refine lv_topi (fun y9 e9 => ?_)
          cases (show y9 = 7 from e9.trans (by rw [nI_clamp (by omega)]; exact ha3.symm))
          have hB9 : QI gg [(5060, .inr (11, MO yr yi ysb ybs)), (5018, .inl (cT 0, 16, .inl (yA 18))), (5026, .inl (cT 3, 496, .inl (tA F 7)))] := (qi_c (by decide) hYy (qi_c (by decide) (hYA 18 (by unfold YKy; omega)) (qi_c (by decide) (hYA 26 (by unfold YKy; omega)) qi_0)))
          have hN9 := (show NDc [5060, 5018, 5026] from (nd_c (na_c (by decide) (na_c (by decide) na_0)) (nd_c (na_c (by decide) na_0) (nd_c na_0 nd_0))))
          have hP := bo_P (wc := [(5060, .inr (11, MO yr yi ysb ybs)), (5018, .inl (cT 0, 16, .inl (yA 18))), (5026, .inl (cT 3, 496, .inl (tA F 7)))]) (X := [(zo, .inl (cT 1, 1, .inr (.inl (vp_updL zf 0 (Int32.toInt64 (tA F 7 (31 * t + k)))))))]) hcd hN9 hB9 hP
          have hD := bo_D (wc := [(5060, .inr (11, MO yr yi ysb ybs)), (5018, .inl (cT 0, 16, .inl (yA 18))), (5026, .inl (cT 3, 496, .inl (tA F 7)))]) (X := [(zo, .inl (cT 1, 1, .inr (.inl (vp_updL zf 0 (Int32.toInt64 (tA F 7 (31 * t + k)))))))]) hcd hN9 hB9 hD
          have hP : va_P D vwCl ([(zo, .inl (cT 1, 1, .inr (.inl (vp_updL zf 0 (Int32.toInt64 (tA F 7 (31 * t + k))))))), (ad 5060, .inr (11, MO yr yi ysb ybs)), (ad 5018, .inl (cT 0, 16, .inl (yA 18))), (ad 5026, .inl (cT 3, 496, .inl (tA F 7)))] ++ pg cds ad (upo gg [5060, 5018, 5026])) _ := hP
          have hD : va_D A ([(zo, .inl (cT 1, 1, .inr (.inl (vp_updL zf 0 (Int32.toInt64 (tA F 7 (31 * t + k))))))), (ad 5060, .inr (11, MO yr yi ysb ybs)), (ad 5018, .inl (cT 0, 16, .inl (yA 18))), (ad 5026, .inl (cT 3, 496, .inl (tA F 7)))] ++ pg cds ad (upo gg [5060, 5018, 5026])) := hD
          have hw9 : ([(zo, .inl (cT 1, 1, .inr (.inl (vp_updL zf 0 (Int32.toInt64 (tA F 7 (31 * t + k))))))), (ad 5060, .inr (11, MO yr yi ysb ybs)), (yr 18, .inl (cT 0, 16, .inl (yA 18))), (yr 26, .inl (cT 3, 496, .inl (tA F 7)))] ++ pg cds ad (upo gg [5060, 5018, 5026])) = ([(zo, .inl (cT 1, 1, .inr (.inl (vp_updL zf 0 (Int32.toInt64 (tA F 7 (31 * t + k))))))), (ad 5060, .inr (11, MO yr yi ysb ybs)), (ad 5018, .inl (cT 0, 16, .inl (yA 18))), (ad 5026, .inl (cT 3, 496, .inl (tA F 7)))] ++ pg cds ad (upo gg [5060, 5018, 5026])) := by rw [show yr 18 = ad 5018 from (hyr 18 (by unfold YKy; omega)).symm, show yr 26 = ad 5026 from (hyr 26 (by unfold YKy; omega)).symm]
          have hP := vP_eq hw9 hP
          have hD := vD_eq hw9 hD
          have hP : va_P D vwCl ([(zo, .inl (cT 1, 1, .inr (.inl (vp_updL zf 0 (Int32.toInt64 (tA F 7 (31 * t + k))))))), (ad 5060, .inr (11, MO yr yi ysb ybs)), (yr 18, .inl (cT 0, 16, .inl (yA 18))), (yr 26, .inl (cT 3, 496, .inl (tA F 7)))] ++ pg cds ad (upo gg [5060, 5018, 5026])) _ := hP
          have hD : va_D A ([(zo, .inl (cT 1, 1, .inr (.inl (vp_updL zf 0 (Int32.toInt64 (tA F 7 (31 * t + k))))))), (ad 5060, .inr (11, MO yr yi ysb ybs)), (yr 18, .inl (cT 0, 16, .inl (yA 18))), (yr 26, .inl (cT 3, 496, .inl (tA F 7)))] ++ pg cds ad (upo gg [5060, 5018, 5026])) := hD
          refine hy_iQ (X := [(zo, .inl (cT 1, 1, .inr (.inl (vp_updL zf 0 (Int32.toInt64 (tA F 7 (31 * t + k))))))), (ad 5060, .inr (11, MO yr yi ysb ybs)), (yr 18, .inl (cT 0, 16, .inl (yA 18))), (yr 26, .inl (cT 3, 496, .inl (tA F 7)))]) (pl := pg cds ad (upo gg [5060, 5018, 5026])) (cx := [(ad 5060, .inr (11, MO yr yi ysb ybs)), (yr 18, .inl (cT 0, 16, .inl (yA 18))), (yr 26, .inl (cT 3, 496, .inl (tA F 7)))]) (wr := [(zo, .inl (cT 1, 1, .inr (.inl (vp_updL zf 0 (Int32.toInt64 (tA F 7 (31 * t + k)))))))]) hP hD hS hA [1, 2, 3] [0] rfl rfl (by decide) (by decide) (va_runV (As := [.int (nI t), .int (nI k), .int 7]) (rest := []) ⟨hx, hb, hml, hown, hT⟩ (y_node7 l D cT (ad 5060) yr yi ysb ybs (yA 18) (tA F 7) t k (tM F t) (by rw [y17]; exact hq) (by omega) (y18e t ht) hm31 hk (hSV7 _ (by omega)) _) ⟨callB_of 3 hT (tb_gd w1531) rfl rfl rfl (hT _ w13) (hT _ w1528) hM_node ⟨Nat.le_of_ble_eq_true rfl, Nat.le_of_ble_eq_true rfl⟩, (hT _ w1529), (hT _ w1530)⟩ (RW.preV (ci := 11) (q0 := 0) hZ hS (hy_free (cx := [(ad 5060, .inr (11, MO yr yi ysb ybs)), (yr 18, .inl (cT 0, 16, .inl (yA 18))), (yr 26, .inl (cT 3, 496, .inl (tA F 7)))]) hD hS hA [1, 2, 3] rfl) (hP.sub (ws' := [(ad 5060, .inr (11, MO yr yi ysb ybs)), (yr 18, .inl (cT 0, 16, .inl (yA 18))), (yr 26, .inl (cT 3, 496, .inl (tA F 7)))]) [1, 2, 3] rfl) hK (hD.sub (ws' := [(ad 5060, .inr (11, MO yr yi ysb ybs)), (yr 18, .inl (cT 0, 16, .inl (yA 18))), (yr 26, .inl (cT 3, 496, .inl (tA F 7)))]) [1, 2, 3] (by decide) rfl) rfl rfl) rfl rfl hl.1 rfl (lv_room (Nat.le_of_ble_eq_true rfl)) dL_law_1044 ⟨(by show ((2000 + j + 3 * fm + 4 * SM mk 16) + 0) + 0 ≤ 601024; omega), (by show ((400000 + 6 * j + 42 * fm + 69 * SM mk 16) + 0) + 0 ≤ 7293034; omega)⟩) (fun ru37 u9 H locs hpu37 hP hD hS => ?_)
          have hpu37 : ru37 = (tA F 7) (31 * t + k) := hpu37
          have hP : va_P D vwCl ([(zo, .inl (cT 1, 1, .inr (.inl (vp_updL zf 0 (Int32.toInt64 (tA F 7 (31 * t + k))))))), (ad 5060, .inr (11, MO yr (va_up yi 1 0) ysb ybs)), (yr 18, .inl (cT 0, 16, .inl (yA 18))), (yr 26, .inl (cT 3, 496, .inl (tA F 7)))] ++ pg cds ad (upo gg [5060, 5018, 5026])) _ := hP
          have hD : va_D A ([(zo, .inl (cT 1, 1, .inr (.inl (vp_updL zf 0 (Int32.toInt64 (tA F 7 (31 * t + k))))))), (ad 5060, .inr (11, MO yr (va_up yi 1 0) ysb ybs)), (yr 18, .inl (cT 0, 16, .inl (yA 18))), (yr 26, .inl (cT 3, 496, .inl (tA F 7)))] ++ pg cds ad (upo gg [5060, 5018, 5026])) := hD
          have hw9 : ([(zo, .inl (cT 1, 1, .inr (.inl (vp_updL zf 0 (Int32.toInt64 (tA F 7 (31 * t + k))))))), (ad 5060, .inr (11, MO yr (va_up yi 1 0) ysb ybs)), (ad 5018, .inl (cT 0, 16, .inl (yA 18))), (ad 5026, .inl (cT 3, 496, .inl (tA F 7)))] ++ pg cds ad (upo gg [5060, 5018, 5026])) = ([(zo, .inl (cT 1, 1, .inr (.inl (vp_updL zf 0 (Int32.toInt64 (tA F 7 (31 * t + k))))))), (ad 5060, .inr (11, MO yr (va_up yi 1 0) ysb ybs)), (yr 18, .inl (cT 0, 16, .inl (yA 18))), (yr 26, .inl (cT 3, 496, .inl (tA F 7)))] ++ pg cds ad (upo gg [5060, 5018, 5026])) := by rw [show ad 5018 = yr 18 from hyr 18 (by unfold YKy; omega), show ad 5026 = yr 26 from hyr 26 (by unfold YKy; omega)]
          have hP := vP_eq hw9 hP
          have hD := vD_eq hw9 hD
          have hP : va_P D vwCl ([(zo, .inl (cT 1, 1, .inr (.inl (vp_updL zf 0 (Int32.toInt64 (tA F 7 (31 * t + k))))))), (ad 5060, .inr (11, MO yr (va_up yi 1 0) ysb ybs)), (ad 5018, .inl (cT 0, 16, .inl (yA 18))), (ad 5026, .inl (cT 3, 496, .inl (tA F 7)))] ++ pg cds ad (upo gg [5060, 5018, 5026])) _ := hP
          have hD : va_D A ([(zo, .inl (cT 1, 1, .inr (.inl (vp_updL zf 0 (Int32.toInt64 (tA F 7 (31 * t + k))))))), (ad 5060, .inr (11, MO yr (va_up yi 1 0) ysb ybs)), (ad 5018, .inl (cT 0, 16, .inl (yA 18))), (ad 5026, .inl (cT 3, 496, .inl (tA F 7)))] ++ pg cds ad (upo gg [5060, 5018, 5026])) := hD
          have hN9 := (show NDc [5060, 5018, 5026] from (nd_c (na_c (by decide) (na_c (by decide) na_0)) (nd_c (na_c (by decide) na_0) (nd_c na_0 nd_0))))
          have hP := gb_P (w9 := [(5060, .inr (11, MO yr (va_up yi 1 0) ysb ybs)), (5018, .inl (cT 0, 16, .inl (yA 18))), (5026, .inl (cT 3, 496, .inl (tA F 7)))]) (X := [(zo, .inl (cT 1, 1, .inr (.inl (vp_updL zf 0 (Int32.toInt64 (tA F 7 (31 * t + k)))))))]) (g := gg) hcd hN9 (show QB [(5060, .inr (11, MO yr (va_up yi 1 0) ysb ybs)), (5018, .inl (cT 0, 16, .inl (yA 18))), (5026, .inl (cT 3, 496, .inl (tA F 7)))] from (qb_c (by decide) (qb_c (by decide) (qb_c (by decide) qb_0)))) (hP.part (cx := [(zo, .inl (cT 1, 1, .inr (.inl (vp_updL zf 0 (Int32.toInt64 (tA F 7 (31 * t + k))))))), (ad 5060, .inr (11, MO yr (va_up yi 1 0) ysb ybs)), (ad 5018, .inl (cT 0, 16, .inl (yA 18))), (ad 5026, .inl (cT 3, 496, .inl (tA F 7)))]) [0, 1, 2, 3] rfl)
          have hD := gb_D (w9 := [(5060, .inr (11, MO yr (va_up yi 1 0) ysb ybs)), (5018, .inl (cT 0, 16, .inl (yA 18))), (5026, .inl (cT 3, 496, .inl (tA F 7)))]) (X := [(zo, .inl (cT 1, 1, .inr (.inl (vp_updL zf 0 (Int32.toInt64 (tA F 7 (31 * t + k)))))))]) (g := gg) hcd hN9 (show QB [(5060, .inr (11, MO yr (va_up yi 1 0) ysb ybs)), (5018, .inl (cT 0, 16, .inl (yA 18))), (5026, .inl (cT 3, 496, .inl (tA F 7)))] from (qb_c (by decide) (qb_c (by decide) (qb_c (by decide) qb_0)))) (hD.part (cx := [(zo, .inl (cT 1, 1, .inr (.inl (vp_updL zf 0 (Int32.toInt64 (tA F 7 (31 * t + k))))))), (ad 5060, .inr (11, MO yr (va_up yi 1 0) ysb ybs)), (ad 5018, .inl (cT 0, 16, .inl (yA 18))), (ad 5026, .inl (cT 3, 496, .inl (tA F 7)))]) [0, 1, 2, 3] (by decide) rfl)
          obtain ⟨gy, hgy⟩ : ∃ q9, q9 = ups gg [(5060, .inr (11, MO yr (va_up yi 1 0) ysb ybs)), (5018, .inl (cT 0, 16, .inl (yA 18))), (5026, .inl (cT 3, 496, .inl (tA F 7)))] := ⟨_, rfl⟩
          rw [← hgy] at hP hD
          have hP : va_P D vwCl ([(zo, .inl (cT 1, 1, .inr (.inl (vp_updL zf 0 (Int32.toInt64 (tA F 7 (31 * t + k)))))))] ++ pg cds ad gy) _ := hP
          have hD : va_D A ([(zo, .inl (cT 1, 1, .inr (.inl (vp_updL zf 0 (Int32.toInt64 (tA F 7 (31 * t + k)))))))] ++ pg cds ad gy) := hD
          have fgy : ∀ z8, z8 ≠ 5060 → gy z8 = gg z8 := fun z8 z1 => by rw [hgy]; exact ups_k (kp_n z1 (kp_s (hYA 18 (by unfold YKy; omega)) (kp_s (hYA 26 (by unfold YKy; omega)) kp_0)))
          have gy_0 : gy 5060 = some (.inr (11, MO yr (va_up yi 1 0) ysb ybs)) := by rw [hgy]; exact ups_1
          refine lv_istore hx hb dL_law_1047 hl (by decide) rfl (fun ls hl => ?_)
          have hl : lv_has ls 7 [(6, .int ru37), (5, .int 0), (0, .ref b), (1, .ref (ad 0)), (2, .ref (ad 5060)), (3, .ref zo), (4, .int (nI (4 * j)))] := hl
          refine lv_aload_n hx hb dL_law_1049 rfl (lv_at hl 4 rfl) ?_
          refine ro_i (va_Run.run (va_runV (As := []) (rest := []) ⟨hx, hb, hml, hown, hT⟩ (m_thrown l D cT (ad 5060) yr (va_up yi 1 0) ysb ybs) ⟨callB_of 0 hT (tb_gd w1290) rfl rfl rfl (hT _ w13) (hT _ w1287) hM_thrown ⟨Nat.le_of_ble_eq_true rfl, Nat.le_of_ble_eq_true rfl⟩, (hT _ w1288), (hT _ w1289)⟩ (RO.preV (ci := 11) (q0 := 0) hZ hS ((show va_P D vwCl [(ad 5060, .inr (11, MO yr (va_up yi 1 0) ysb ybs))] _ from (pv_c (pg_1 (x := 5060) hcd hP (by decide) gy_0) pv_0))) hK rfl rfl) rfl rfl hl.1 rfl (lv_room (Nat.le_of_ble_eq_true rfl)) dL_law_1050 ⟨(by show (((2000 + j + 3 * fm + 4 * SM mk 16) + 0) + 0) + 0 ≤ 601024; omega), (by show (((400000 + 6 * j + 42 * fm + 69 * SM mk 16) + 0) + 0) + 0 ≤ 7293034; omega)⟩)) ?_
          refine lv_topi (fun y9 e9 => ?_)
          cases (show y9 = 0 from e9.trans rfl)
          refine lv_iload hx hb dL_law_1053 (lv_at hl 1 rfl) ?_
          refine lv_icmp_eq (tgt := 1060) hx hb dL_law_1055 rfl (fun _ => ?_) (fun h38 => absurd (by decide) h38)
          refine lv_iload hx hb dL_law_1060 (lv_at hl 1 rfl) ?_
          refine lv_if_ne (tgt := 1077) hx hb dL_law_1062 rfl (fun h39 => absurd (by decide) h39) (fun _ => ?_)
          refine lv_aload_n hx hb dL_law_1065 rfl (lv_at hl 5 rfl) ?_
          refine lv_iconst (v := 0) hx hb dL_law_1066 (by decide) ?_
          refine va_lald hx hb hK hP 0 1 rfl rfl (by unfold vp_in; decide) dL_law_1067 ?_
          refine lv_iload hx hb dL_law_1068 (lv_at hl 0 rfl) ?_
          refine lv_i2l hx hb dL_law_1070 rfl ?_
          refine W.lcmp hx hb dL_law_1071 ?_
          refine lv_if_eq (tgt := 1077) hx hb dL_law_1072 rfl (fun _ => ?_) (fun h40 => absurd ((lg_cmp_eq _ _).mpr (pk_uLs.trans (congrArg Int32.toInt64 hpu37.symm))) h40)
          refine lv_goto (tgt := 1690) hx hb dL_law_1077 rfl ?_
          obtain ⟨yiz, hyiz⟩ : ∃ f9 : Nat → Int32, f9 = va_up yi 1 0 := ⟨_, rfl⟩
          have hIz : LWI cT ad gg tE T fm mk F n wd dpt lst w ru rl ne Lo yiz ysb yA := hI.sc (fun k hk => by rw [hyiz]; exact va_up_ne _ _ hk) (fun _ _ => rfl)
          have hIz := hIz.yg (g2 := gy) (fun z8 hz => fgy z8 (by omega))
          have hYz : YCL cT ad gy y yr yiz ysb ybs yA yW F := by
            refine ⟨hYad, hyr, (by rw [hyiz]; exact gy_0), fun k hk => ?_⟩
            have hk2 : k = 0 ∨ (4 ≤ k ∧ k ≤ 9) ∨ (18 ≤ k ∧ k ≤ 46) ∨ k = 48 ∨ k = 49 ∨ (56 ≤ k ∧ k ≤ 59) := hk
            exact (fgy (5000 + k) (by omega)).trans ((hYA k hk).trans (congrArg some (ycl_o rfl).symm))
          rw [hyiz] at hIz hYz
          refine W.widen (k := 2000 + (j + 1) + 3 * fm + 4 * SM mk 16) (n := 400000 + 6 * (j + 1) + 42 * fm + 69 * SM mk 16) (by show ((2000 + j + 3 * fm + 4 * SM mk 16) + 0) + 0 ≤ 2000 + (j + 1) + 3 * fm + 4 * SM mk 16; omega) (by show ((400000 + 6 * j + 42 * fm + 69 * SM mk 16) + 0) + 0 ≤ 400000 + 6 * (j + 1) + 42 * fm + 69 * SM mk 16; omega) ?_
          have hl := lv_sub hl [2, 3, 4, 5, 6] rfl
          have hl : lv_has ls 7 [(0, .ref b), (1, .ref (ad 0)), (2, .ref y), (3, .ref zo), (4, .int (nI (4 * j)))] := by rw [← hYz.1]; exact hl
          exact hend ad gy T fm mk F n wd dpt lst w ru rl ne Lo (va_up yi 1 0) ysb ybs yA yW (vp_updL zf 0 (Int32.toInt64 (tA F 7 (31 * t + k)))) _ _ ls hIz hYz hP hD hS hl
      · refine lv_aload_n hx hb dL_law_1000 rfl (lv_at hl 1 rfl) ?_
        refine lv_aload_n hx hb dL_law_1001 rfl (lv_at hl 0 rfl) ?_
        refine lv_iload hx hb dL_law_1002 (lv_at hl 4 rfl) ?_
        refine lv_iconst (v := 1) hx hb dL_law_1004 (by decide) ?_
        refine lv_iadd hx hb dL_law_1005 ?_
        refine lv_topi (fun y9 e9 => ?_)
        cases (show y9 = nI ((4 * j) + 1) from e9.trans (nI_add (4 * j) 1))
        refine va_sld hx hb hX hbl hbA hS (vp_in_nI (n := 4 * j + 1) (N := L) (by omega) (by omega)) dL_law_1006 ?_
        refine lv_topi (fun y9 e9 => ?_)
        cases (show y9 = nI t from e9.trans (by rw [nI_clamp (by omega)]; exact ha1.symm))
        refine lv_aload_n hx hb dL_law_1007 rfl (lv_at hl 0 rfl) ?_
        refine lv_iload hx hb dL_law_1008 (lv_at hl 4 rfl) ?_
        refine lv_iconst (v := 2) hx hb dL_law_1010 (by decide) ?_
        refine lv_iadd hx hb dL_law_1011 ?_
        refine lv_topi (fun y9 e9 => ?_)
        cases (show y9 = nI ((4 * j) + 2) from e9.trans (nI_add (4 * j) 2))
        refine va_sld hx hb hX hbl hbA hS (vp_in_nI (n := 4 * j + 2) (N := L) (by omega) (by omega)) dL_law_1012 ?_
        refine lv_topi (fun y9 e9 => ?_)
        cases (show y9 = nI k from e9.trans (by rw [nI_clamp (by omega)]; exact ha2.symm))
        refine lv_aload_n hx hb dL_law_1013 rfl (lv_at hl 0 rfl) ?_
        refine lv_iload hx hb dL_law_1014 (lv_at hl 4 rfl) ?_
        refine lv_iconst (v := 3) hx hb dL_law_1016 (by decide) ?_
        refine lv_iadd hx hb dL_law_1017 ?_
        refine lv_topi (fun y9 e9 => ?_)
        cases (show y9 = nI ((4 * j) + 3) from e9.trans (nI_add (4 * j) 3))
        refine va_sld hx hb hX hbl hbA hS (vp_in_nI (n := 4 * j + 3) (N := L) (by omega) (by omega)) dL_law_1018 ?_
        refine lv_topi (fun y9 e9 => ?_)
        cases (show y9 = a3 from e9.trans (by rw [nI_clamp (by omega)]; exact ha3.symm))
        refine lv_aload_n hx hb dL_law_1019 rfl (lv_at hl 3 rfl) ?_
        refine hy_iP (X := [(zo, .inl (cT 1, 1, .inr (.inl zf)))]) (pl := pg cds ad gg) (cx := [(zo, .inl (cT 1, 1, .inr (.inl zf)))]) (wr := []) hP hD hS hA [0] [] rfl rfl (by decide) (by decide) (tx_runSH (As := [.ref (ad 0), .int (nI t), .int (nI k), .int a3, .ref zo]) (rest := []) ⟨hx, hb, hml, hown, hT⟩ (l_node_now l D cT cds ad gg T fm F t k a3 zo zf hlt hcd hob hFT.1.frp hTf hTs hT16 ht hq hr hk (out_rng (k := 7) (by decide) hw) _) hT (tc_gd w994 w995 w0 (tb_gd w996)) rfl rfl rfl hL_node ⟨Nat.le_of_ble_eq_true rfl, Nat.le_of_ble_eq_true rfl⟩ (RW.preS hZ hS (va_freeP (cx := [(zo, .inl (cT 1, 1, .inr (.inl zf)))]) hD hS hA [0] rfl) (hP.part (cx := [(zo, .inl (cT 1, 1, .inr (.inl zf)))]) [0] rfl) hK (hD.part (cx := [(zo, .inl (cT 1, 1, .inr (.inl zf)))]) [0] (by decide) rfl)) rfl hl.1 rfl (Nat.le_of_ble_eq_true rfl) dL_law_1020 ⟨(by show (2000 + j + 3 * fm + 4 * SM mk 16) + 1 ≤ 601024; omega), (by show (400000 + 6 * j + 42 * fm + 69 * SM mk 16) + 6 ≤ 7293034; omega)⟩) (fun ru41 u9 H locs hpu41 hP hD hS => ?_)
        have hpu41 : ru41 = 1 := hpu41
        have hP : va_P D vwCl ([(zo, .inl (cT 1, 1, .inr (.inl zf)))] ++ pg cds ad gg) _ := hP
        have hD : va_D A ([(zo, .inl (cT 1, 1, .inr (.inl zf)))] ++ pg cds ad gg) := hD
        refine lv_topi (fun y9 e9 => ?_)
        cases (show y9 = 1 from e9.trans hpu41)
        refine lv_istore hx hb dL_law_1023 hl (by decide) rfl (fun ls hl => ?_)
        have hl : lv_has ls 7 [(5, .int 1), (0, .ref b), (1, .ref (ad 0)), (2, .ref (ad 5060)), (3, .ref zo), (4, .int (nI (4 * j)))] := hl
        refine lv_aload_n hx hb dL_law_1025 rfl (lv_at hl 3 rfl) ?_
        refine lv_aload_n hx hb dL_law_1026 rfl (lv_at hl 1 rfl) ?_
        refine lv_iload hx hb dL_law_1027 (lv_at hl 5 rfl) ?_
        refine lv_iconst (v := 1) hx hb dL_law_1029 (by decide) ?_
        refine lv_iadd hx hb dL_law_1030 ?_
        refine lv_topi (fun y9 e9 => ?_)
        cases (show y9 = nI ((4 * j) + 1) from e9.trans (nI_add (4 * j) 1))
        refine va_sld hx hb hX hbl hbA hS (vp_in_nI (n := 4 * j + 1) (N := L) (by omega) (by omega)) dL_law_1031 ?_
        refine lv_topi (fun y9 e9 => ?_)
        cases (show y9 = nI t from e9.trans (by rw [nI_clamp (by omega)]; exact ha1.symm))
        refine lv_aload_n hx hb dL_law_1032 rfl (lv_at hl 1 rfl) ?_
        refine lv_iload hx hb dL_law_1033 (lv_at hl 5 rfl) ?_
        refine lv_iconst (v := 2) hx hb dL_law_1035 (by decide) ?_
        refine lv_iadd hx hb dL_law_1036 ?_
        refine lv_topi (fun y9 e9 => ?_)
        cases (show y9 = nI ((4 * j) + 2) from e9.trans (nI_add (4 * j) 2))
        refine va_sld hx hb hX hbl hbA hS (vp_in_nI (n := 4 * j + 2) (N := L) (by omega) (by omega)) dL_law_1037 ?_
        refine lv_topi (fun y9 e9 => ?_)
        cases (show y9 = nI k from e9.trans (by rw [nI_clamp (by omega)]; exact ha2.symm))
        refine lv_aload_n hx hb dL_law_1038 rfl (lv_at hl 1 rfl) ?_
        refine lv_iload hx hb dL_law_1039 (lv_at hl 5 rfl) ?_
        refine lv_iconst (v := 3) hx hb dL_law_1041 (by decide) ?_
        refine lv_iadd hx hb dL_law_1042 ?_
        refine lv_topi (fun y9 e9 => ?_)
        cases (show y9 = nI ((4 * j) + 3) from e9.trans (nI_add (4 * j) 3))
        refine va_sld hx hb hX hbl hbA hS (vp_in_nI (n := 4 * j + 3) (N := L) (by omega) (by omega)) dL_law_1043 ?_
        refine lv_topi (fun y9 e9 => ?_)
        cases (show y9 = a3 from e9.trans (by rw [nI_clamp (by omega)]; exact ha3.symm))
        have hB9 : QI gg [(5060, .inr (11, MO yr yi ysb ybs)), (5018, .inl (cT 0, 16, .inl (yA 18)))] := (qi_c (by decide) hYy (qi_c (by decide) (hYA 18 (by unfold YKy; omega)) qi_0))
        have hN9 := (show NDc [5060, 5018] from (nd_c (na_c (by decide) na_0) (nd_c na_0 nd_0)))
        have hP := bo_P (wc := [(5060, .inr (11, MO yr yi ysb ybs)), (5018, .inl (cT 0, 16, .inl (yA 18)))]) (X := [(zo, .inl (cT 1, 1, .inr (.inl zf)))]) hcd hN9 hB9 hP
        have hD := bo_D (wc := [(5060, .inr (11, MO yr yi ysb ybs)), (5018, .inl (cT 0, 16, .inl (yA 18)))]) (X := [(zo, .inl (cT 1, 1, .inr (.inl zf)))]) hcd hN9 hB9 hD
        have hP : va_P D vwCl ([(zo, .inl (cT 1, 1, .inr (.inl zf))), (ad 5060, .inr (11, MO yr yi ysb ybs)), (ad 5018, .inl (cT 0, 16, .inl (yA 18)))] ++ pg cds ad (upo gg [5060, 5018])) _ := hP
        have hD : va_D A ([(zo, .inl (cT 1, 1, .inr (.inl zf))), (ad 5060, .inr (11, MO yr yi ysb ybs)), (ad 5018, .inl (cT 0, 16, .inl (yA 18)))] ++ pg cds ad (upo gg [5060, 5018])) := hD
        have hw9 : ([(zo, .inl (cT 1, 1, .inr (.inl zf))), (ad 5060, .inr (11, MO yr yi ysb ybs)), (yr 18, .inl (cT 0, 16, .inl (yA 18)))] ++ pg cds ad (upo gg [5060, 5018])) = ([(zo, .inl (cT 1, 1, .inr (.inl zf))), (ad 5060, .inr (11, MO yr yi ysb ybs)), (ad 5018, .inl (cT 0, 16, .inl (yA 18)))] ++ pg cds ad (upo gg [5060, 5018])) := by rw [show yr 18 = ad 5018 from (hyr 18 (by unfold YKy; omega)).symm]
        have hP := vP_eq hw9 hP
        have hD := vD_eq hw9 hD
        have hP : va_P D vwCl ([(zo, .inl (cT 1, 1, .inr (.inl zf))), (ad 5060, .inr (11, MO yr yi ysb ybs)), (yr 18, .inl (cT 0, 16, .inl (yA 18)))] ++ pg cds ad (upo gg [5060, 5018])) _ := hP
        have hD : va_D A ([(zo, .inl (cT 1, 1, .inr (.inl zf))), (ad 5060, .inr (11, MO yr yi ysb ybs)), (yr 18, .inl (cT 0, 16, .inl (yA 18)))] ++ pg cds ad (upo gg [5060, 5018])) := hD
        refine hy_iQ (X := [(zo, .inl (cT 1, 1, .inr (.inl zf))), (ad 5060, .inr (11, MO yr yi ysb ybs)), (yr 18, .inl (cT 0, 16, .inl (yA 18)))]) (pl := pg cds ad (upo gg [5060, 5018])) (cx := [(ad 5060, .inr (11, MO yr yi ysb ybs)), (yr 18, .inl (cT 0, 16, .inl (yA 18)))]) (wr := [(zo, .inl (cT 1, 1, .inr (.inl zf)))]) hP hD hS hA [1, 2] [0] rfl rfl (by decide) (by decide) (va_runV (As := [.int (nI t), .int (nI k), .int a3]) (rest := []) ⟨hx, hb, hml, hown, hT⟩ (y_node_now l D cT (ad 5060) yr yi ysb ybs (yA 18) t k (tM F t) a3 (by rw [y17]; exact hq) (by omega) (y18e t ht) hm31 hk hw _) ⟨callB_of 3 hT (tb_gd w1531) rfl rfl rfl (hT _ w13) (hT _ w1528) hM_node ⟨Nat.le_of_ble_eq_true rfl, Nat.le_of_ble_eq_true rfl⟩, (hT _ w1529), (hT _ w1530)⟩ (RW.preV (ci := 11) (q0 := 0) hZ hS (hy_free (cx := [(ad 5060, .inr (11, MO yr yi ysb ybs)), (yr 18, .inl (cT 0, 16, .inl (yA 18)))]) hD hS hA [1, 2] rfl) (hP.sub (ws' := [(ad 5060, .inr (11, MO yr yi ysb ybs)), (yr 18, .inl (cT 0, 16, .inl (yA 18)))]) [1, 2] rfl) hK (hD.sub (ws' := [(ad 5060, .inr (11, MO yr yi ysb ybs)), (yr 18, .inl (cT 0, 16, .inl (yA 18)))]) [1, 2] (by decide) rfl) rfl rfl) rfl rfl hl.1 rfl (lv_room (Nat.le_of_ble_eq_true rfl)) dL_law_1044 ⟨(by show ((2000 + j + 3 * fm + 4 * SM mk 16) + 1) + 0 ≤ 601024; omega), (by show ((400000 + 6 * j + 42 * fm + 69 * SM mk 16) + 6) + 0 ≤ 7293034; omega)⟩) (fun ru42 u9 H locs hpu42 hP hD hS => ?_)
        have hpu42 : ru42 = 0 := hpu42
        have hP : va_P D vwCl ([(zo, .inl (cT 1, 1, .inr (.inl zf))), (ad 5060, .inr (11, MO yr (va_up yi 1 1) ysb ybs)), (yr 18, .inl (cT 0, 16, .inl (yA 18)))] ++ pg cds ad (upo gg [5060, 5018])) _ := hP
        have hD : va_D A ([(zo, .inl (cT 1, 1, .inr (.inl zf))), (ad 5060, .inr (11, MO yr (va_up yi 1 1) ysb ybs)), (yr 18, .inl (cT 0, 16, .inl (yA 18)))] ++ pg cds ad (upo gg [5060, 5018])) := hD
        refine lv_topi (fun y9 e9 => ?_)
        cases (show y9 = 0 from e9.trans hpu42)
        have hw9 : ([(zo, .inl (cT 1, 1, .inr (.inl zf))), (ad 5060, .inr (11, MO yr (va_up yi 1 1) ysb ybs)), (ad 5018, .inl (cT 0, 16, .inl (yA 18)))] ++ pg cds ad (upo gg [5060, 5018])) = ([(zo, .inl (cT 1, 1, .inr (.inl zf))), (ad 5060, .inr (11, MO yr (va_up yi 1 1) ysb ybs)), (yr 18, .inl (cT 0, 16, .inl (yA 18)))] ++ pg cds ad (upo gg [5060, 5018])) := by rw [show ad 5018 = yr 18 from hyr 18 (by unfold YKy; omega)]
        have hP := vP_eq hw9 hP
        have hD := vD_eq hw9 hD
        have hP : va_P D vwCl ([(zo, .inl (cT 1, 1, .inr (.inl zf))), (ad 5060, .inr (11, MO yr (va_up yi 1 1) ysb ybs)), (ad 5018, .inl (cT 0, 16, .inl (yA 18)))] ++ pg cds ad (upo gg [5060, 5018])) _ := hP
        have hD : va_D A ([(zo, .inl (cT 1, 1, .inr (.inl zf))), (ad 5060, .inr (11, MO yr (va_up yi 1 1) ysb ybs)), (ad 5018, .inl (cT 0, 16, .inl (yA 18)))] ++ pg cds ad (upo gg [5060, 5018])) := hD
        have hN9 := (show NDc [5060, 5018] from (nd_c (na_c (by decide) na_0) (nd_c na_0 nd_0)))
        have hP := gb_P (w9 := [(5060, .inr (11, MO yr (va_up yi 1 1) ysb ybs)), (5018, .inl (cT 0, 16, .inl (yA 18)))]) (X := [(zo, .inl (cT 1, 1, .inr (.inl zf)))]) (g := gg) hcd hN9 (show QB [(5060, .inr (11, MO yr (va_up yi 1 1) ysb ybs)), (5018, .inl (cT 0, 16, .inl (yA 18)))] from (qb_c (by decide) (qb_c (by decide) qb_0))) (hP.part (cx := [(zo, .inl (cT 1, 1, .inr (.inl zf))), (ad 5060, .inr (11, MO yr (va_up yi 1 1) ysb ybs)), (ad 5018, .inl (cT 0, 16, .inl (yA 18)))]) [0, 1, 2] rfl)
        have hD := gb_D (w9 := [(5060, .inr (11, MO yr (va_up yi 1 1) ysb ybs)), (5018, .inl (cT 0, 16, .inl (yA 18)))]) (X := [(zo, .inl (cT 1, 1, .inr (.inl zf)))]) (g := gg) hcd hN9 (show QB [(5060, .inr (11, MO yr (va_up yi 1 1) ysb ybs)), (5018, .inl (cT 0, 16, .inl (yA 18)))] from (qb_c (by decide) (qb_c (by decide) qb_0))) (hD.part (cx := [(zo, .inl (cT 1, 1, .inr (.inl zf))), (ad 5060, .inr (11, MO yr (va_up yi 1 1) ysb ybs)), (ad 5018, .inl (cT 0, 16, .inl (yA 18)))]) [0, 1, 2] (by decide) rfl)
        obtain ⟨gy, hgy⟩ : ∃ q9, q9 = ups gg [(5060, .inr (11, MO yr (va_up yi 1 1) ysb ybs)), (5018, .inl (cT 0, 16, .inl (yA 18)))] := ⟨_, rfl⟩
        rw [← hgy] at hP hD
        have hP : va_P D vwCl ([(zo, .inl (cT 1, 1, .inr (.inl zf)))] ++ pg cds ad gy) _ := hP
        have hD : va_D A ([(zo, .inl (cT 1, 1, .inr (.inl zf)))] ++ pg cds ad gy) := hD
        have fgy : ∀ z8, z8 ≠ 5060 → gy z8 = gg z8 := fun z8 z1 => by rw [hgy]; exact ups_k (kp_n z1 (kp_s (hYA 18 (by unfold YKy; omega)) kp_0))
        have gy_0 : gy 5060 = some (.inr (11, MO yr (va_up yi 1 1) ysb ybs)) := by rw [hgy]; exact ups_1
        refine lv_istore hx hb dL_law_1047 hl (by decide) rfl (fun ls hl => ?_)
        have hl : lv_has ls 7 [(6, .int 0), (5, .int 1), (0, .ref b), (1, .ref (ad 0)), (2, .ref (ad 5060)), (3, .ref zo), (4, .int (nI (4 * j)))] := hl
        refine lv_aload_n hx hb dL_law_1049 rfl (lv_at hl 4 rfl) ?_
        refine ro_i (va_Run.run (va_runV (As := []) (rest := []) ⟨hx, hb, hml, hown, hT⟩ (m_thrown l D cT (ad 5060) yr (va_up yi 1 1) ysb ybs) ⟨callB_of 0 hT (tb_gd w1290) rfl rfl rfl (hT _ w13) (hT _ w1287) hM_thrown ⟨Nat.le_of_ble_eq_true rfl, Nat.le_of_ble_eq_true rfl⟩, (hT _ w1288), (hT _ w1289)⟩ (RO.preV (ci := 11) (q0 := 0) hZ hS ((show va_P D vwCl [(ad 5060, .inr (11, MO yr (va_up yi 1 1) ysb ybs))] _ from (pv_c (pg_1 (x := 5060) hcd hP (by decide) gy_0) pv_0))) hK rfl rfl) rfl rfl hl.1 rfl (lv_room (Nat.le_of_ble_eq_true rfl)) dL_law_1050 ⟨(by show (((2000 + j + 3 * fm + 4 * SM mk 16) + 1) + 0) + 0 ≤ 601024; omega), (by show (((400000 + 6 * j + 42 * fm + 69 * SM mk 16) + 6) + 0) + 0 ≤ 7293034; omega)⟩)) ?_
        refine lv_topi (fun y9 e9 => ?_)
        cases (show y9 = 1 from e9.trans rfl)
        refine lv_iload hx hb dL_law_1053 (lv_at hl 1 rfl) ?_
        refine lv_icmp_eq (tgt := 1060) hx hb dL_law_1055 rfl (fun _ => ?_) (fun h43 => absurd (by decide) h43)
        refine lv_iload hx hb dL_law_1060 (lv_at hl 1 rfl) ?_
        refine lv_if_ne (tgt := 1077) hx hb dL_law_1062 rfl (fun _ => ?_) (fun h44 => absurd h44 (by decide))
        refine lv_goto (tgt := 1690) hx hb dL_law_1077 rfl ?_
        obtain ⟨yiz, hyiz⟩ : ∃ f9 : Nat → Int32, f9 = va_up yi 1 1 := ⟨_, rfl⟩
        have hIz : LWI cT ad gg tE T fm mk F n wd dpt lst w ru rl ne Lo yiz ysb yA := hI.sc (fun k hk => by rw [hyiz]; exact va_up_ne _ _ hk) (fun _ _ => rfl)
        have hIz := hIz.yg (g2 := gy) (fun z8 hz => fgy z8 (by omega))
        have hYz : YCL cT ad gy y yr yiz ysb ybs yA yW F := by
          refine ⟨hYad, hyr, (by rw [hyiz]; exact gy_0), fun k hk => ?_⟩
          have hk2 : k = 0 ∨ (4 ≤ k ∧ k ≤ 9) ∨ (18 ≤ k ∧ k ≤ 46) ∨ k = 48 ∨ k = 49 ∨ (56 ≤ k ∧ k ≤ 59) := hk
          exact (fgy (5000 + k) (by omega)).trans ((hYA k hk).trans (congrArg some (ycl_o rfl).symm))
        rw [hyiz] at hIz hYz
        refine W.widen (k := 2000 + (j + 1) + 3 * fm + 4 * SM mk 16) (n := 400000 + 6 * (j + 1) + 42 * fm + 69 * SM mk 16) (by show ((2000 + j + 3 * fm + 4 * SM mk 16) + 1) + 0 ≤ 2000 + (j + 1) + 3 * fm + 4 * SM mk 16; omega) (by show ((400000 + 6 * j + 42 * fm + 69 * SM mk 16) + 6) + 0 ≤ 400000 + 6 * (j + 1) + 42 * fm + 69 * SM mk 16; omega) ?_
        have hl := lv_sub hl [2, 3, 4, 5, 6] rfl
        have hl : lv_has ls 7 [(0, .ref b), (1, .ref (ad 0)), (2, .ref y), (3, .ref zo), (4, .int (nI (4 * j)))] := by rw [← hYz.1]; exact hl
        exact hend ad gy T fm mk F n wd dpt lst w ru rl ne Lo (va_up yi 1 1) ysb ybs yA yW zf _ _ ls hIz hYz hP hD hS hl
    · refine lv_aload_n hx hb dL_law_1000 rfl (lv_at hl 1 rfl) ?_
      refine lv_aload_n hx hb dL_law_1001 rfl (lv_at hl 0 rfl) ?_
      refine lv_iload hx hb dL_law_1002 (lv_at hl 4 rfl) ?_
      refine lv_iconst (v := 1) hx hb dL_law_1004 (by decide) ?_
      refine lv_iadd hx hb dL_law_1005 ?_
      refine lv_topi (fun y9 e9 => ?_)
      cases (show y9 = nI ((4 * j) + 1) from e9.trans (nI_add (4 * j) 1))
      refine va_sld hx hb hX hbl hbA hS (vp_in_nI (n := 4 * j + 1) (N := L) (by omega) (by omega)) dL_law_1006 ?_
      refine lv_topi (fun y9 e9 => ?_)
      cases (show y9 = nI t from e9.trans (by rw [nI_clamp (by omega)]; exact ha1.symm))
      refine lv_aload_n hx hb dL_law_1007 rfl (lv_at hl 0 rfl) ?_
      refine lv_iload hx hb dL_law_1008 (lv_at hl 4 rfl) ?_
      refine lv_iconst (v := 2) hx hb dL_law_1010 (by decide) ?_
      refine lv_iadd hx hb dL_law_1011 ?_
      refine lv_topi (fun y9 e9 => ?_)
      cases (show y9 = nI ((4 * j) + 2) from e9.trans (nI_add (4 * j) 2))
      refine va_sld hx hb hX hbl hbA hS (vp_in_nI (n := 4 * j + 2) (N := L) (by omega) (by omega)) dL_law_1012 ?_
      refine lv_topi (fun y9 e9 => ?_)
      cases (show y9 = a2 from e9.trans (by rw [nI_clamp (by omega)]; exact ha2.symm))
      refine lv_aload_n hx hb dL_law_1013 rfl (lv_at hl 0 rfl) ?_
      refine lv_iload hx hb dL_law_1014 (lv_at hl 4 rfl) ?_
      refine lv_iconst (v := 3) hx hb dL_law_1016 (by decide) ?_
      refine lv_iadd hx hb dL_law_1017 ?_
      refine lv_topi (fun y9 e9 => ?_)
      cases (show y9 = nI ((4 * j) + 3) from e9.trans (nI_add (4 * j) 3))
      refine va_sld hx hb hX hbl hbA hS (vp_in_nI (n := 4 * j + 3) (N := L) (by omega) (by omega)) dL_law_1018 ?_
      refine lv_topi (fun y9 e9 => ?_)
      cases (show y9 = a3 from e9.trans (by rw [nI_clamp (by omega)]; exact ha3.symm))
      refine lv_aload_n hx hb dL_law_1019 rfl (lv_at hl 3 rfl) ?_
      refine hy_iP (X := [(zo, .inl (cT 1, 1, .inr (.inl zf)))]) (pl := pg cds ad gg) (cx := [(zo, .inl (cT 1, 1, .inr (.inl zf)))]) (wr := []) hP hD hS hA [0] [] rfl rfl (by decide) (by decide) (tx_runSH (As := [.ref (ad 0), .int (nI t), .int a2, .int a3, .ref zo]) (rest := []) ⟨hx, hb, hml, hown, hT⟩ (l_node_nok l D cT cds ad gg T fm F t a2 a3 zo zf hlt hcd hob hFT.1.frp hTf hTs hT16 ht hq hr _) hT (tc_gd w994 w995 w0 (tb_gd w996)) rfl rfl rfl hL_node ⟨Nat.le_of_ble_eq_true rfl, Nat.le_of_ble_eq_true rfl⟩ (RW.preS hZ hS (va_freeP (cx := [(zo, .inl (cT 1, 1, .inr (.inl zf)))]) hD hS hA [0] rfl) (hP.part (cx := [(zo, .inl (cT 1, 1, .inr (.inl zf)))]) [0] rfl) hK (hD.part (cx := [(zo, .inl (cT 1, 1, .inr (.inl zf)))]) [0] (by decide) rfl)) rfl hl.1 rfl (Nat.le_of_ble_eq_true rfl) dL_law_1020 ⟨(by show (2000 + j + 3 * fm + 4 * SM mk 16) + 1 ≤ 601024; omega), (by show (400000 + 6 * j + 42 * fm + 69 * SM mk 16) + 6 ≤ 7293034; omega)⟩) (fun ru45 u9 H locs hpu45 hP hD hS => ?_)
      have hpu45 : ru45 = 1 := hpu45
      have hP : va_P D vwCl ([(zo, .inl (cT 1, 1, .inr (.inl zf)))] ++ pg cds ad gg) _ := hP
      have hD : va_D A ([(zo, .inl (cT 1, 1, .inr (.inl zf)))] ++ pg cds ad gg) := hD
      refine lv_topi (fun y9 e9 => ?_)
      cases (show y9 = 1 from e9.trans hpu45)
      refine lv_istore hx hb dL_law_1023 hl (by decide) rfl (fun ls hl => ?_)
      have hl : lv_has ls 7 [(5, .int 1), (0, .ref b), (1, .ref (ad 0)), (2, .ref (ad 5060)), (3, .ref zo), (4, .int (nI (4 * j)))] := hl
      refine lv_aload_n hx hb dL_law_1025 rfl (lv_at hl 3 rfl) ?_
      refine lv_aload_n hx hb dL_law_1026 rfl (lv_at hl 1 rfl) ?_
      refine lv_iload hx hb dL_law_1027 (lv_at hl 5 rfl) ?_
      refine lv_iconst (v := 1) hx hb dL_law_1029 (by decide) ?_
      refine lv_iadd hx hb dL_law_1030 ?_
      refine lv_topi (fun y9 e9 => ?_)
      cases (show y9 = nI ((4 * j) + 1) from e9.trans (nI_add (4 * j) 1))
      refine va_sld hx hb hX hbl hbA hS (vp_in_nI (n := 4 * j + 1) (N := L) (by omega) (by omega)) dL_law_1031 ?_
      refine lv_topi (fun y9 e9 => ?_)
      cases (show y9 = nI t from e9.trans (by rw [nI_clamp (by omega)]; exact ha1.symm))
      refine lv_aload_n hx hb dL_law_1032 rfl (lv_at hl 1 rfl) ?_
      refine lv_iload hx hb dL_law_1033 (lv_at hl 5 rfl) ?_
      refine lv_iconst (v := 2) hx hb dL_law_1035 (by decide) ?_
      refine lv_iadd hx hb dL_law_1036 ?_
      refine lv_topi (fun y9 e9 => ?_)
      cases (show y9 = nI ((4 * j) + 2) from e9.trans (nI_add (4 * j) 2))
      refine va_sld hx hb hX hbl hbA hS (vp_in_nI (n := 4 * j + 2) (N := L) (by omega) (by omega)) dL_law_1037 ?_
      refine lv_topi (fun y9 e9 => ?_)
      cases (show y9 = a2 from e9.trans (by rw [nI_clamp (by omega)]; exact ha2.symm))
      refine lv_aload_n hx hb dL_law_1038 rfl (lv_at hl 1 rfl) ?_
      refine lv_iload hx hb dL_law_1039 (lv_at hl 5 rfl) ?_
      refine lv_iconst (v := 3) hx hb dL_law_1041 (by decide) ?_
      refine lv_iadd hx hb dL_law_1042 ?_
      refine lv_topi (fun y9 e9 => ?_)
      cases (show y9 = nI ((4 * j) + 3) from e9.trans (nI_add (4 * j) 3))
      refine va_sld hx hb hX hbl hbA hS (vp_in_nI (n := 4 * j + 3) (N := L) (by omega) (by omega)) dL_law_1043 ?_
      refine lv_topi (fun y9 e9 => ?_)
      cases (show y9 = a3 from e9.trans (by rw [nI_clamp (by omega)]; exact ha3.symm))
      have hB9 : QI gg [(5060, .inr (11, MO yr yi ysb ybs)), (5018, .inl (cT 0, 16, .inl (yA 18)))] := (qi_c (by decide) hYy (qi_c (by decide) (hYA 18 (by unfold YKy; omega)) qi_0))
      have hN9 := (show NDc [5060, 5018] from (nd_c (na_c (by decide) na_0) (nd_c na_0 nd_0)))
      have hP := bo_P (wc := [(5060, .inr (11, MO yr yi ysb ybs)), (5018, .inl (cT 0, 16, .inl (yA 18)))]) (X := [(zo, .inl (cT 1, 1, .inr (.inl zf)))]) hcd hN9 hB9 hP
      have hD := bo_D (wc := [(5060, .inr (11, MO yr yi ysb ybs)), (5018, .inl (cT 0, 16, .inl (yA 18)))]) (X := [(zo, .inl (cT 1, 1, .inr (.inl zf)))]) hcd hN9 hB9 hD
      have hP : va_P D vwCl ([(zo, .inl (cT 1, 1, .inr (.inl zf))), (ad 5060, .inr (11, MO yr yi ysb ybs)), (ad 5018, .inl (cT 0, 16, .inl (yA 18)))] ++ pg cds ad (upo gg [5060, 5018])) _ := hP
      have hD : va_D A ([(zo, .inl (cT 1, 1, .inr (.inl zf))), (ad 5060, .inr (11, MO yr yi ysb ybs)), (ad 5018, .inl (cT 0, 16, .inl (yA 18)))] ++ pg cds ad (upo gg [5060, 5018])) := hD
      have hw9 : ([(zo, .inl (cT 1, 1, .inr (.inl zf))), (ad 5060, .inr (11, MO yr yi ysb ybs)), (yr 18, .inl (cT 0, 16, .inl (yA 18)))] ++ pg cds ad (upo gg [5060, 5018])) = ([(zo, .inl (cT 1, 1, .inr (.inl zf))), (ad 5060, .inr (11, MO yr yi ysb ybs)), (ad 5018, .inl (cT 0, 16, .inl (yA 18)))] ++ pg cds ad (upo gg [5060, 5018])) := by rw [show yr 18 = ad 5018 from (hyr 18 (by unfold YKy; omega)).symm]
      have hP := vP_eq hw9 hP
      have hD := vD_eq hw9 hD
      have hP : va_P D vwCl ([(zo, .inl (cT 1, 1, .inr (.inl zf))), (ad 5060, .inr (11, MO yr yi ysb ybs)), (yr 18, .inl (cT 0, 16, .inl (yA 18)))] ++ pg cds ad (upo gg [5060, 5018])) _ := hP
      have hD : va_D A ([(zo, .inl (cT 1, 1, .inr (.inl zf))), (ad 5060, .inr (11, MO yr yi ysb ybs)), (yr 18, .inl (cT 0, 16, .inl (yA 18)))] ++ pg cds ad (upo gg [5060, 5018])) := hD
      refine hy_iQ (X := [(zo, .inl (cT 1, 1, .inr (.inl zf))), (ad 5060, .inr (11, MO yr yi ysb ybs)), (yr 18, .inl (cT 0, 16, .inl (yA 18)))]) (pl := pg cds ad (upo gg [5060, 5018])) (cx := [(ad 5060, .inr (11, MO yr yi ysb ybs)), (yr 18, .inl (cT 0, 16, .inl (yA 18)))]) (wr := [(zo, .inl (cT 1, 1, .inr (.inl zf)))]) hP hD hS hA [1, 2] [0] rfl rfl (by decide) (by decide) (va_runV (As := [.int (nI t), .int a2, .int a3]) (rest := []) ⟨hx, hb, hml, hown, hT⟩ (y_node_nok l D cT (ad 5060) yr yi ysb ybs (yA 18) t a2 a3 (by rw [y17]; exact hq) (by omega) (by rw [y18e t ht]; exact hr) _) ⟨callB_of 3 hT (tb_gd w1531) rfl rfl rfl (hT _ w13) (hT _ w1528) hM_node ⟨Nat.le_of_ble_eq_true rfl, Nat.le_of_ble_eq_true rfl⟩, (hT _ w1529), (hT _ w1530)⟩ (RW.preV (ci := 11) (q0 := 0) hZ hS (hy_free (cx := [(ad 5060, .inr (11, MO yr yi ysb ybs)), (yr 18, .inl (cT 0, 16, .inl (yA 18)))]) hD hS hA [1, 2] rfl) (hP.sub (ws' := [(ad 5060, .inr (11, MO yr yi ysb ybs)), (yr 18, .inl (cT 0, 16, .inl (yA 18)))]) [1, 2] rfl) hK (hD.sub (ws' := [(ad 5060, .inr (11, MO yr yi ysb ybs)), (yr 18, .inl (cT 0, 16, .inl (yA 18)))]) [1, 2] (by decide) rfl) rfl rfl) rfl rfl hl.1 rfl (lv_room (Nat.le_of_ble_eq_true rfl)) dL_law_1044 ⟨(by show ((2000 + j + 3 * fm + 4 * SM mk 16) + 1) + 0 ≤ 601024; omega), (by show ((400000 + 6 * j + 42 * fm + 69 * SM mk 16) + 6) + 0 ≤ 7293034; omega)⟩) (fun ru46 u9 H locs hpu46 hP hD hS => ?_)
      have hpu46 : ru46 = 0 := hpu46
      have hP : va_P D vwCl ([(zo, .inl (cT 1, 1, .inr (.inl zf))), (ad 5060, .inr (11, MO yr (va_up yi 1 1) ysb ybs)), (yr 18, .inl (cT 0, 16, .inl (yA 18)))] ++ pg cds ad (upo gg [5060, 5018])) _ := hP
      have hD : va_D A ([(zo, .inl (cT 1, 1, .inr (.inl zf))), (ad 5060, .inr (11, MO yr (va_up yi 1 1) ysb ybs)), (yr 18, .inl (cT 0, 16, .inl (yA 18)))] ++ pg cds ad (upo gg [5060, 5018])) := hD
      refine lv_topi (fun y9 e9 => ?_)
      cases (show y9 = 0 from e9.trans hpu46)
      have hw9 : ([(zo, .inl (cT 1, 1, .inr (.inl zf))), (ad 5060, .inr (11, MO yr (va_up yi 1 1) ysb ybs)), (ad 5018, .inl (cT 0, 16, .inl (yA 18)))] ++ pg cds ad (upo gg [5060, 5018])) = ([(zo, .inl (cT 1, 1, .inr (.inl zf))), (ad 5060, .inr (11, MO yr (va_up yi 1 1) ysb ybs)), (yr 18, .inl (cT 0, 16, .inl (yA 18)))] ++ pg cds ad (upo gg [5060, 5018])) := by rw [show ad 5018 = yr 18 from hyr 18 (by unfold YKy; omega)]
      have hP := vP_eq hw9 hP
      have hD := vD_eq hw9 hD
      have hP : va_P D vwCl ([(zo, .inl (cT 1, 1, .inr (.inl zf))), (ad 5060, .inr (11, MO yr (va_up yi 1 1) ysb ybs)), (ad 5018, .inl (cT 0, 16, .inl (yA 18)))] ++ pg cds ad (upo gg [5060, 5018])) _ := hP
      have hD : va_D A ([(zo, .inl (cT 1, 1, .inr (.inl zf))), (ad 5060, .inr (11, MO yr (va_up yi 1 1) ysb ybs)), (ad 5018, .inl (cT 0, 16, .inl (yA 18)))] ++ pg cds ad (upo gg [5060, 5018])) := hD
      have hN9 := (show NDc [5060, 5018] from (nd_c (na_c (by decide) na_0) (nd_c na_0 nd_0)))
      have hP := gb_P (w9 := [(5060, .inr (11, MO yr (va_up yi 1 1) ysb ybs)), (5018, .inl (cT 0, 16, .inl (yA 18)))]) (X := [(zo, .inl (cT 1, 1, .inr (.inl zf)))]) (g := gg) hcd hN9 (show QB [(5060, .inr (11, MO yr (va_up yi 1 1) ysb ybs)), (5018, .inl (cT 0, 16, .inl (yA 18)))] from (qb_c (by decide) (qb_c (by decide) qb_0))) (hP.part (cx := [(zo, .inl (cT 1, 1, .inr (.inl zf))), (ad 5060, .inr (11, MO yr (va_up yi 1 1) ysb ybs)), (ad 5018, .inl (cT 0, 16, .inl (yA 18)))]) [0, 1, 2] rfl)
      have hD := gb_D (w9 := [(5060, .inr (11, MO yr (va_up yi 1 1) ysb ybs)), (5018, .inl (cT 0, 16, .inl (yA 18)))]) (X := [(zo, .inl (cT 1, 1, .inr (.inl zf)))]) (g := gg) hcd hN9 (show QB [(5060, .inr (11, MO yr (va_up yi 1 1) ysb ybs)), (5018, .inl (cT 0, 16, .inl (yA 18)))] from (qb_c (by decide) (qb_c (by decide) qb_0))) (hD.part (cx := [(zo, .inl (cT 1, 1, .inr (.inl zf))), (ad 5060, .inr (11, MO yr (va_up yi 1 1) ysb ybs)), (ad 5018, .inl (cT 0, 16, .inl (yA 18)))]) [0, 1, 2] (by decide) rfl)
      obtain ⟨gy, hgy⟩ : ∃ q9, q9 = ups gg [(5060, .inr (11, MO yr (va_up yi 1 1) ysb ybs)), (5018, .inl (cT 0, 16, .inl (yA 18)))] := ⟨_, rfl⟩
      rw [← hgy] at hP hD
      have hP : va_P D vwCl ([(zo, .inl (cT 1, 1, .inr (.inl zf)))] ++ pg cds ad gy) _ := hP
      have hD : va_D A ([(zo, .inl (cT 1, 1, .inr (.inl zf)))] ++ pg cds ad gy) := hD
      have fgy : ∀ z8, z8 ≠ 5060 → gy z8 = gg z8 := fun z8 z1 => by rw [hgy]; exact ups_k (kp_n z1 (kp_s (hYA 18 (by unfold YKy; omega)) kp_0))
      have gy_0 : gy 5060 = some (.inr (11, MO yr (va_up yi 1 1) ysb ybs)) := by rw [hgy]; exact ups_1
      refine lv_istore hx hb dL_law_1047 hl (by decide) rfl (fun ls hl => ?_)
      have hl : lv_has ls 7 [(6, .int 0), (5, .int 1), (0, .ref b), (1, .ref (ad 0)), (2, .ref (ad 5060)), (3, .ref zo), (4, .int (nI (4 * j)))] := hl
      refine lv_aload_n hx hb dL_law_1049 rfl (lv_at hl 4 rfl) ?_
      refine ro_i (va_Run.run (va_runV (As := []) (rest := []) ⟨hx, hb, hml, hown, hT⟩ (m_thrown l D cT (ad 5060) yr (va_up yi 1 1) ysb ybs) ⟨callB_of 0 hT (tb_gd w1290) rfl rfl rfl (hT _ w13) (hT _ w1287) hM_thrown ⟨Nat.le_of_ble_eq_true rfl, Nat.le_of_ble_eq_true rfl⟩, (hT _ w1288), (hT _ w1289)⟩ (RO.preV (ci := 11) (q0 := 0) hZ hS ((show va_P D vwCl [(ad 5060, .inr (11, MO yr (va_up yi 1 1) ysb ybs))] _ from (pv_c (pg_1 (x := 5060) hcd hP (by decide) gy_0) pv_0))) hK rfl rfl) rfl rfl hl.1 rfl (lv_room (Nat.le_of_ble_eq_true rfl)) dL_law_1050 ⟨(by show (((2000 + j + 3 * fm + 4 * SM mk 16) + 1) + 0) + 0 ≤ 601024; omega), (by show (((400000 + 6 * j + 42 * fm + 69 * SM mk 16) + 6) + 0) + 0 ≤ 7293034; omega)⟩)) ?_
      refine lv_topi (fun y9 e9 => ?_)
      cases (show y9 = 1 from e9.trans rfl)
      refine lv_iload hx hb dL_law_1053 (lv_at hl 1 rfl) ?_
      refine lv_icmp_eq (tgt := 1060) hx hb dL_law_1055 rfl (fun _ => ?_) (fun h47 => absurd (by decide) h47)
      refine lv_iload hx hb dL_law_1060 (lv_at hl 1 rfl) ?_
      refine lv_if_ne (tgt := 1077) hx hb dL_law_1062 rfl (fun _ => ?_) (fun h48 => absurd h48 (by decide))
      refine lv_goto (tgt := 1690) hx hb dL_law_1077 rfl ?_
      obtain ⟨yiz, hyiz⟩ : ∃ f9 : Nat → Int32, f9 = va_up yi 1 1 := ⟨_, rfl⟩
      have hIz : LWI cT ad gg tE T fm mk F n wd dpt lst w ru rl ne Lo yiz ysb yA := hI.sc (fun k hk => by rw [hyiz]; exact va_up_ne _ _ hk) (fun _ _ => rfl)
      have hIz := hIz.yg (g2 := gy) (fun z8 hz => fgy z8 (by omega))
      have hYz : YCL cT ad gy y yr yiz ysb ybs yA yW F := by
        refine ⟨hYad, hyr, (by rw [hyiz]; exact gy_0), fun k hk => ?_⟩
        have hk2 : k = 0 ∨ (4 ≤ k ∧ k ≤ 9) ∨ (18 ≤ k ∧ k ≤ 46) ∨ k = 48 ∨ k = 49 ∨ (56 ≤ k ∧ k ≤ 59) := hk
        exact (fgy (5000 + k) (by omega)).trans ((hYA k hk).trans (congrArg some (ycl_o rfl).symm))
      rw [hyiz] at hIz hYz
      refine W.widen (k := 2000 + (j + 1) + 3 * fm + 4 * SM mk 16) (n := 400000 + 6 * (j + 1) + 42 * fm + 69 * SM mk 16) (by show ((2000 + j + 3 * fm + 4 * SM mk 16) + 1) + 0 ≤ 2000 + (j + 1) + 3 * fm + 4 * SM mk 16; omega) (by show ((400000 + 6 * j + 42 * fm + 69 * SM mk 16) + 6) + 0 ≤ 400000 + 6 * (j + 1) + 42 * fm + 69 * SM mk 16; omega) ?_
      have hl := lv_sub hl [2, 3, 4, 5, 6] rfl
      have hl : lv_has ls 7 [(0, .ref b), (1, .ref (ad 0)), (2, .ref y), (3, .ref zo), (4, .int (nI (4 * j)))] := by rw [← hYz.1]; exact hl
      exact hend ad gy T fm mk F n wd dpt lst w ru rl ne Lo (va_up yi 1 1) ysb ybs yA yW zf _ _ ls hIz hYz hP hD hS hl
  · refine lv_aload_n hx hb dL_law_1000 rfl (lv_at hl 1 rfl) ?_
    refine lv_aload_n hx hb dL_law_1001 rfl (lv_at hl 0 rfl) ?_
    refine lv_iload hx hb dL_law_1002 (lv_at hl 4 rfl) ?_
    refine lv_iconst (v := 1) hx hb dL_law_1004 (by decide) ?_
    refine lv_iadd hx hb dL_law_1005 ?_
    refine lv_topi (fun y9 e9 => ?_)
    cases (show y9 = nI ((4 * j) + 1) from e9.trans (nI_add (4 * j) 1))
    refine va_sld hx hb hX hbl hbA hS (vp_in_nI (n := 4 * j + 1) (N := L) (by omega) (by omega)) dL_law_1006 ?_
    refine lv_topi (fun y9 e9 => ?_)
    cases (show y9 = a1 from e9.trans (by rw [nI_clamp (by omega)]; exact ha1.symm))
    refine lv_aload_n hx hb dL_law_1007 rfl (lv_at hl 0 rfl) ?_
    refine lv_iload hx hb dL_law_1008 (lv_at hl 4 rfl) ?_
    refine lv_iconst (v := 2) hx hb dL_law_1010 (by decide) ?_
    refine lv_iadd hx hb dL_law_1011 ?_
    refine lv_topi (fun y9 e9 => ?_)
    cases (show y9 = nI ((4 * j) + 2) from e9.trans (nI_add (4 * j) 2))
    refine va_sld hx hb hX hbl hbA hS (vp_in_nI (n := 4 * j + 2) (N := L) (by omega) (by omega)) dL_law_1012 ?_
    refine lv_topi (fun y9 e9 => ?_)
    cases (show y9 = a2 from e9.trans (by rw [nI_clamp (by omega)]; exact ha2.symm))
    refine lv_aload_n hx hb dL_law_1013 rfl (lv_at hl 0 rfl) ?_
    refine lv_iload hx hb dL_law_1014 (lv_at hl 4 rfl) ?_
    refine lv_iconst (v := 3) hx hb dL_law_1016 (by decide) ?_
    refine lv_iadd hx hb dL_law_1017 ?_
    refine lv_topi (fun y9 e9 => ?_)
    cases (show y9 = nI ((4 * j) + 3) from e9.trans (nI_add (4 * j) 3))
    refine va_sld hx hb hX hbl hbA hS (vp_in_nI (n := 4 * j + 3) (N := L) (by omega) (by omega)) dL_law_1018 ?_
    refine lv_topi (fun y9 e9 => ?_)
    cases (show y9 = a3 from e9.trans (by rw [nI_clamp (by omega)]; exact ha3.symm))
    refine lv_aload_n hx hb dL_law_1019 rfl (lv_at hl 3 rfl) ?_
    refine hy_iP (X := [(zo, .inl (cT 1, 1, .inr (.inl zf)))]) (pl := pg cds ad gg) (cx := [(zo, .inl (cT 1, 1, .inr (.inl zf)))]) (wr := []) hP hD hS hA [0] [] rfl rfl (by decide) (by decide) (tx_runSH (As := [.ref (ad 0), .int a1, .int a2, .int a3, .ref zo]) (rest := []) ⟨hx, hb, hml, hown, hT⟩ (l_node_not l D cT cds ad gg T fm F a1 a2 a3 zo zf hlt hcd hob hFT.1.frp hTf hTs hT16 hq _) hT (tc_gd w994 w995 w0 (tb_gd w996)) rfl rfl rfl hL_node ⟨Nat.le_of_ble_eq_true rfl, Nat.le_of_ble_eq_true rfl⟩ (RW.preS hZ hS (va_freeP (cx := [(zo, .inl (cT 1, 1, .inr (.inl zf)))]) hD hS hA [0] rfl) (hP.part (cx := [(zo, .inl (cT 1, 1, .inr (.inl zf)))]) [0] rfl) hK (hD.part (cx := [(zo, .inl (cT 1, 1, .inr (.inl zf)))]) [0] (by decide) rfl)) rfl hl.1 rfl (Nat.le_of_ble_eq_true rfl) dL_law_1020 ⟨(by show (2000 + j + 3 * fm + 4 * SM mk 16) + 1 ≤ 601024; omega), (by show (400000 + 6 * j + 42 * fm + 69 * SM mk 16) + 6 ≤ 7293034; omega)⟩) (fun ru49 u9 H locs hpu49 hP hD hS => ?_)
    have hpu49 : ru49 = 1 := hpu49
    have hP : va_P D vwCl ([(zo, .inl (cT 1, 1, .inr (.inl zf)))] ++ pg cds ad gg) _ := hP
    have hD : va_D A ([(zo, .inl (cT 1, 1, .inr (.inl zf)))] ++ pg cds ad gg) := hD
    refine lv_topi (fun y9 e9 => ?_)
    cases (show y9 = 1 from e9.trans hpu49)
    refine lv_istore hx hb dL_law_1023 hl (by decide) rfl (fun ls hl => ?_)
    have hl : lv_has ls 7 [(5, .int 1), (0, .ref b), (1, .ref (ad 0)), (2, .ref (ad 5060)), (3, .ref zo), (4, .int (nI (4 * j)))] := hl
    refine lv_aload_n hx hb dL_law_1025 rfl (lv_at hl 3 rfl) ?_
    refine lv_aload_n hx hb dL_law_1026 rfl (lv_at hl 1 rfl) ?_
    refine lv_iload hx hb dL_law_1027 (lv_at hl 5 rfl) ?_
    refine lv_iconst (v := 1) hx hb dL_law_1029 (by decide) ?_
    refine lv_iadd hx hb dL_law_1030 ?_
    refine lv_topi (fun y9 e9 => ?_)
    cases (show y9 = nI ((4 * j) + 1) from e9.trans (nI_add (4 * j) 1))
    refine va_sld hx hb hX hbl hbA hS (vp_in_nI (n := 4 * j + 1) (N := L) (by omega) (by omega)) dL_law_1031 ?_
    refine lv_topi (fun y9 e9 => ?_)
    cases (show y9 = a1 from e9.trans (by rw [nI_clamp (by omega)]; exact ha1.symm))
    refine lv_aload_n hx hb dL_law_1032 rfl (lv_at hl 1 rfl) ?_
    refine lv_iload hx hb dL_law_1033 (lv_at hl 5 rfl) ?_
    refine lv_iconst (v := 2) hx hb dL_law_1035 (by decide) ?_
    refine lv_iadd hx hb dL_law_1036 ?_
    refine lv_topi (fun y9 e9 => ?_)
    cases (show y9 = nI ((4 * j) + 2) from e9.trans (nI_add (4 * j) 2))
    refine va_sld hx hb hX hbl hbA hS (vp_in_nI (n := 4 * j + 2) (N := L) (by omega) (by omega)) dL_law_1037 ?_
    refine lv_topi (fun y9 e9 => ?_)
    cases (show y9 = a2 from e9.trans (by rw [nI_clamp (by omega)]; exact ha2.symm))
    refine lv_aload_n hx hb dL_law_1038 rfl (lv_at hl 1 rfl) ?_
    refine lv_iload hx hb dL_law_1039 (lv_at hl 5 rfl) ?_
    refine lv_iconst (v := 3) hx hb dL_law_1041 (by decide) ?_
    refine lv_iadd hx hb dL_law_1042 ?_
    refine lv_topi (fun y9 e9 => ?_)
    cases (show y9 = nI ((4 * j) + 3) from e9.trans (nI_add (4 * j) 3))
    refine va_sld hx hb hX hbl hbA hS (vp_in_nI (n := 4 * j + 3) (N := L) (by omega) (by omega)) dL_law_1043 ?_
    refine lv_topi (fun y9 e9 => ?_)
    cases (show y9 = a3 from e9.trans (by rw [nI_clamp (by omega)]; exact ha3.symm))
    have hB9 : QI gg [(5060, .inr (11, MO yr yi ysb ybs))] := (qi_c (by decide) hYy qi_0)
    have hN9 := (show NDc [5060] from (nd_c na_0 nd_0))
    have hP := bo_P (wc := [(5060, .inr (11, MO yr yi ysb ybs))]) (X := [(zo, .inl (cT 1, 1, .inr (.inl zf)))]) hcd hN9 hB9 hP
    have hD := bo_D (wc := [(5060, .inr (11, MO yr yi ysb ybs))]) (X := [(zo, .inl (cT 1, 1, .inr (.inl zf)))]) hcd hN9 hB9 hD
    have hP : va_P D vwCl ([(zo, .inl (cT 1, 1, .inr (.inl zf))), (ad 5060, .inr (11, MO yr yi ysb ybs))] ++ pg cds ad (upo gg [5060])) _ := hP
    have hD : va_D A ([(zo, .inl (cT 1, 1, .inr (.inl zf))), (ad 5060, .inr (11, MO yr yi ysb ybs))] ++ pg cds ad (upo gg [5060])) := hD
    refine hy_iQ (X := [(zo, .inl (cT 1, 1, .inr (.inl zf))), (ad 5060, .inr (11, MO yr yi ysb ybs))]) (pl := pg cds ad (upo gg [5060])) (cx := [(ad 5060, .inr (11, MO yr yi ysb ybs))]) (wr := [(zo, .inl (cT 1, 1, .inr (.inl zf)))]) hP hD hS hA [1] [0] rfl rfl (by decide) (by decide) (va_runV (As := [.int a1, .int a2, .int a3]) (rest := []) ⟨hx, hb, hml, hown, hT⟩ (y_node_not l D cT (ad 5060) yr yi ysb ybs a1 a2 a3 (by rw [y17]; exact hq) _) ⟨callB_of 3 hT (tb_gd w1531) rfl rfl rfl (hT _ w13) (hT _ w1528) hM_node ⟨Nat.le_of_ble_eq_true rfl, Nat.le_of_ble_eq_true rfl⟩, (hT _ w1529), (hT _ w1530)⟩ (RW.preV (ci := 11) (q0 := 0) hZ hS (hy_free (cx := [(ad 5060, .inr (11, MO yr yi ysb ybs))]) hD hS hA [1] rfl) (hP.sub (ws' := [(ad 5060, .inr (11, MO yr yi ysb ybs))]) [1] rfl) hK (hD.sub (ws' := [(ad 5060, .inr (11, MO yr yi ysb ybs))]) [1] (by decide) rfl) rfl rfl) rfl rfl hl.1 rfl (lv_room (Nat.le_of_ble_eq_true rfl)) dL_law_1044 ⟨(by show ((2000 + j + 3 * fm + 4 * SM mk 16) + 1) + 0 ≤ 601024; omega), (by show ((400000 + 6 * j + 42 * fm + 69 * SM mk 16) + 6) + 0 ≤ 7293034; omega)⟩) (fun ru50 u9 H locs hpu50 hP hD hS => ?_)
    have hpu50 : ru50 = 0 := hpu50
    have hP : va_P D vwCl ([(zo, .inl (cT 1, 1, .inr (.inl zf))), (ad 5060, .inr (11, MO yr (va_up yi 1 1) ysb ybs))] ++ pg cds ad (upo gg [5060])) _ := hP
    have hD : va_D A ([(zo, .inl (cT 1, 1, .inr (.inl zf))), (ad 5060, .inr (11, MO yr (va_up yi 1 1) ysb ybs))] ++ pg cds ad (upo gg [5060])) := hD
    refine lv_topi (fun y9 e9 => ?_)
    cases (show y9 = 0 from e9.trans hpu50)
    have hN9 := (show NDc [5060] from (nd_c na_0 nd_0))
    have hP := gb_P (w9 := [(5060, .inr (11, MO yr (va_up yi 1 1) ysb ybs))]) (X := [(zo, .inl (cT 1, 1, .inr (.inl zf)))]) (g := gg) hcd hN9 (show QB [(5060, .inr (11, MO yr (va_up yi 1 1) ysb ybs))] from (qb_c (by decide) qb_0)) (hP.part (cx := [(zo, .inl (cT 1, 1, .inr (.inl zf))), (ad 5060, .inr (11, MO yr (va_up yi 1 1) ysb ybs))]) [0, 1] rfl)
    have hD := gb_D (w9 := [(5060, .inr (11, MO yr (va_up yi 1 1) ysb ybs))]) (X := [(zo, .inl (cT 1, 1, .inr (.inl zf)))]) (g := gg) hcd hN9 (show QB [(5060, .inr (11, MO yr (va_up yi 1 1) ysb ybs))] from (qb_c (by decide) qb_0)) (hD.part (cx := [(zo, .inl (cT 1, 1, .inr (.inl zf))), (ad 5060, .inr (11, MO yr (va_up yi 1 1) ysb ybs))]) [0, 1] (by decide) rfl)
    obtain ⟨gy, hgy⟩ : ∃ q9, q9 = ups gg [(5060, .inr (11, MO yr (va_up yi 1 1) ysb ybs))] := ⟨_, rfl⟩
    rw [← hgy] at hP hD
    have hP : va_P D vwCl ([(zo, .inl (cT 1, 1, .inr (.inl zf)))] ++ pg cds ad gy) _ := hP
    have hD : va_D A ([(zo, .inl (cT 1, 1, .inr (.inl zf)))] ++ pg cds ad gy) := hD
    have fgy : ∀ z8, z8 ≠ 5060 → gy z8 = gg z8 := fun z8 z1 => by rw [hgy]; exact ups_k (kp_n z1 kp_0)
    have gy_0 : gy 5060 = some (.inr (11, MO yr (va_up yi 1 1) ysb ybs)) := by rw [hgy]; exact ups_1
    refine lv_istore hx hb dL_law_1047 hl (by decide) rfl (fun ls hl => ?_)
    have hl : lv_has ls 7 [(6, .int 0), (5, .int 1), (0, .ref b), (1, .ref (ad 0)), (2, .ref (ad 5060)), (3, .ref zo), (4, .int (nI (4 * j)))] := hl
    refine lv_aload_n hx hb dL_law_1049 rfl (lv_at hl 4 rfl) ?_
    refine ro_i (va_Run.run (va_runV (As := []) (rest := []) ⟨hx, hb, hml, hown, hT⟩ (m_thrown l D cT (ad 5060) yr (va_up yi 1 1) ysb ybs) ⟨callB_of 0 hT (tb_gd w1290) rfl rfl rfl (hT _ w13) (hT _ w1287) hM_thrown ⟨Nat.le_of_ble_eq_true rfl, Nat.le_of_ble_eq_true rfl⟩, (hT _ w1288), (hT _ w1289)⟩ (RO.preV (ci := 11) (q0 := 0) hZ hS ((show va_P D vwCl [(ad 5060, .inr (11, MO yr (va_up yi 1 1) ysb ybs))] _ from (pv_c (pg_1 (x := 5060) hcd hP (by decide) gy_0) pv_0))) hK rfl rfl) rfl rfl hl.1 rfl (lv_room (Nat.le_of_ble_eq_true rfl)) dL_law_1050 ⟨(by show (((2000 + j + 3 * fm + 4 * SM mk 16) + 1) + 0) + 0 ≤ 601024; omega), (by show (((400000 + 6 * j + 42 * fm + 69 * SM mk 16) + 6) + 0) + 0 ≤ 7293034; omega)⟩)) ?_
    refine lv_topi (fun y9 e9 => ?_)
    cases (show y9 = 1 from e9.trans rfl)
    refine lv_iload hx hb dL_law_1053 (lv_at hl 1 rfl) ?_
    refine lv_icmp_eq (tgt := 1060) hx hb dL_law_1055 rfl (fun _ => ?_) (fun h51 => absurd (by decide) h51)
    refine lv_iload hx hb dL_law_1060 (lv_at hl 1 rfl) ?_
    refine lv_if_ne (tgt := 1077) hx hb dL_law_1062 rfl (fun _ => ?_) (fun h52 => absurd h52 (by decide))
    refine lv_goto (tgt := 1690) hx hb dL_law_1077 rfl ?_
    obtain ⟨yiz, hyiz⟩ : ∃ f9 : Nat → Int32, f9 = va_up yi 1 1 := ⟨_, rfl⟩
    have hIz : LWI cT ad gg tE T fm mk F n wd dpt lst w ru rl ne Lo yiz ysb yA := hI.sc (fun k hk => by rw [hyiz]; exact va_up_ne _ _ hk) (fun _ _ => rfl)
    have hIz := hIz.yg (g2 := gy) (fun z8 hz => fgy z8 (by omega))
    have hYz : YCL cT ad gy y yr yiz ysb ybs yA yW F := by
      refine ⟨hYad, hyr, (by rw [hyiz]; exact gy_0), fun k hk => ?_⟩
      have hk2 : k = 0 ∨ (4 ≤ k ∧ k ≤ 9) ∨ (18 ≤ k ∧ k ≤ 46) ∨ k = 48 ∨ k = 49 ∨ (56 ≤ k ∧ k ≤ 59) := hk
      exact (fgy (5000 + k) (by omega)).trans ((hYA k hk).trans (congrArg some (ycl_o rfl).symm))
    rw [hyiz] at hIz hYz
    refine W.widen (k := 2000 + (j + 1) + 3 * fm + 4 * SM mk 16) (n := 400000 + 6 * (j + 1) + 42 * fm + 69 * SM mk 16) (by show ((2000 + j + 3 * fm + 4 * SM mk 16) + 1) + 0 ≤ 2000 + (j + 1) + 3 * fm + 4 * SM mk 16; omega) (by show ((400000 + 6 * j + 42 * fm + 69 * SM mk 16) + 6) + 0 ≤ 400000 + 6 * (j + 1) + 42 * fm + 69 * SM mk 16; omega) ?_
    have hl := lv_sub hl [2, 3, 4, 5, 6] rfl
    have hl : lv_has ls 7 [(0, .ref b), (1, .ref (ad 0)), (2, .ref y), (3, .ref zo), (4, .int (nI (4 * j)))] := by rw [← hYz.1]; exact hl
    exact hend ad gy T fm mk F n wd dpt lst w ru rl ne Lo (va_up yi 1 1) ysb ybs yA yW zf _ _ ls hIz hYz hP hD hS hl
set_option maxHeartbeats 8000000 in
set_option maxRecDepth 100000 in
theorem lo_23 {p : Program} {l : Launch} {e : Env} {s : State} {m : MethodId} {args : Array Value} {below : List Frame} {meth : Method} {c : Code} {Q : State → Prop} {A : Nat → Prop} {H : Heap} {locs : List Loc} {ls : Array Slot} {b L : Nat} {xs : Nat → Int32} (D : va_G) (cT : Nat → ClassId) (cds : List Nat) (tE mE y : Nat) (yr : Nat → Nat) (zo j : Nat) (ad : Nat → Nat) (gg : Nat → Option va_E) (T : Nat) (fm : Nat) (mk : Nat → Nat) (F : TFR) (n : Nat) (wd : Nat) (dpt : Nat) (lst : Nat) (w : Nat) (ru : Nat) (rl : Nat) (ne : Nat → Nat) (Lo : Nat) (yi : Nat → Int32) (ysb : Int64) (ybs : Int64) (yA : Nat → Nat → Int32) (yW : Nat → Int64) (zf : Nat → Int64) (hlt : l.stackTraces = false) (hx : p.tables.exec = Jvm.exec) (hb : c.code = code) (hml : c.maxLocals = 7) (hown : s.vm.findClass "ResidualTreesLaw" = some m.cls) (hT : ∀ w ∈ TB, w.before args s = true) (hZ : ZZ A s s.heap) (hE0 : ZE tE mE A s s.heap) (hK : va_K D vwCl (TY cT) s) (hA : ∀ q : Nat, s.heap.size ≤ q → A q) (hX : va_X b L xs s s.heap) (hbl : b < s.heap.size) (hbA : ¬ A b) (hcd : CD cds) (hj : 4 * j + 4 ≤ L) (hL : L ≤ 2048) (hI : LWI cT ad gg tE T fm mk F n wd dpt lst w ru rl ne Lo yi ysb yA) (hYC : YCL cT ad gg y yr yi ysb ybs yA yW F) (hP : va_P D vwCl ([(zo, .inl (cT 1, 1, .inr (.inl zf)))] ++ pg cds ad gg) H) (hD : va_D A ([(zo, .inl (cT 1, 1, .inr (.inl zf)))] ++ pg cds ad gg)) (hS : va_S A s.heap H locs) (hl : lv_has ls 7 [(0, .ref b), (1, .ref (ad 0)), (2, .ref y), (3, .ref zo), (4, .int (nI (4 * j)))]) (hend : LEN2 p l e s m args below meth c Q A D cT cds tE y yr zo b j) : W p l e room_1 s m args below meth c H locs (2000 + j + 3 * fm + 4 * SM mk 16) (400000 + 6 * j + 42 * fm + 69 * SM mk 16) Q (F0 m 1665 ls []) := by
  obtain ⟨a1, ha1⟩ : ∃ q9 : Int32, q9 = xs (4 * j + 1) := ⟨_, rfl⟩
  obtain ⟨a2, ha2⟩ : ∃ q9 : Int32, q9 = xs (4 * j + 2) := ⟨_, rfl⟩
  obtain ⟨a3, ha3⟩ : ∃ q9 : Int32, q9 = xs (4 * j + 3) := ⟨_, rfl⟩
  obtain ⟨hfm16, hSM⟩ := lwi_b hI
  obtain ⟨hYad, hYr0, hYy, hYA⟩ := hYC
  have hyr := hYr0
  obtain ⟨fo, hCL, hRF, hPU⟩ := id hI
  obtain ⟨hTV, hOut, ⟨sa9, hso⟩, ⟨zq9, hS1⟩, ⟨zr9, hS2⟩, ⟨z58, hS3⟩⟩ := id hCL
  obtain ⟨hob, hTg, hFT, hTs, ⟨zs0, hGB⟩, ⟨zf0, hLf⟩, ⟨zc0, hCm⟩⟩ := id hTV
  obtain ⟨chtb, chRs, chCa, chCf, chpl, chGa, chSc, chGs, ⟨cfo, chod⟩, cbb9, ctt9, cb90, cik0, chgr, chbt, chSP⟩ := id hGB
  obtain ⟨y2, y3, y10, y11, y12, y13, y14, y17, y47, y55, y8e, y18e, hRFN, hPR, hfoy⟩ := id hRF
  obtain ⟨hTf, hT16, hn48, hwd6, hdp4, hls2, hw20, hr9, hLo, hne, hik, hTOK, hS9, hVk, hVb, htg, hSEP, hSV7⟩ := id hPU
  have hl : lv_has ls 7 [(0, .ref b), (1, .ref (ad 0)), (2, .ref (ad 5060)), (3, .ref zo), (4, .int (nI (4 * j)))] := by rw [hYad]; exact hl
  by_cases hq : 0 ≤ a1 ∧ a1 ≤ nI Lo - 1
  · obtain ⟨i9, hi, rfl⟩ := i_nat (n := Lo) (by omega) hq
    refine lv_aload_n hx hb dL_law_1665 rfl (lv_at hl 1 rfl) ?_
    refine lv_aload_n hx hb dL_law_1666 rfl (lv_at hl 0 rfl) ?_
    refine lv_iload hx hb dL_law_1667 (lv_at hl 4 rfl) ?_
    refine lv_iconst (v := 1) hx hb dL_law_1669 (by decide) ?_
    refine lv_iadd hx hb dL_law_1670 ?_
    refine lv_topi (fun y9 e9 => ?_)
    cases (show y9 = nI ((4 * j) + 1) from e9.trans (nI_add (4 * j) 1))
    refine va_sld hx hb hX hbl hbA hS (vp_in_nI (n := 4 * j + 1) (N := L) (by omega) (by omega)) dL_law_1671 ?_
    refine lv_topi (fun y9 e9 => ?_)
    cases (show y9 = nI i9 from e9.trans (by rw [nI_clamp (by omega)]; exact ha1.symm))
    refine ro_i (va_Run.run (va_runV (As := [.int (nI i9)]) (rest := []) ⟨hx, hb, hml, hown, hT⟩ (k_byteY l D cT cds ad gg T Lo fo i9 hcd hob hOut hq (by omega)) ⟨callB_of 1 hT (tb_gd w496) rfl rfl rfl (hT _ w1) (hT _ w493) hR_byteAt ⟨Nat.le_of_ble_eq_true rfl, Nat.le_of_ble_eq_true rfl⟩, (hT _ w494), (hT _ w495)⟩ (RO.preW (ci := 0) (q0 := 0) hZ hS ((show va_P D vwCl ([] ++ pg cds ad gg) _ from (pv_p hP))) hK (pg_1 (x := 0) hcd hP (by decide) hob) rfl rfl) rfl rfl hl.1 rfl (lv_room (Nat.le_of_ble_eq_true rfl)) dL_law_1672 ⟨(by show (2000 + j + 3 * fm + 4 * SM mk 16) + 0 ≤ 601024; omega), (by show (400000 + 6 * j + 42 * fm + 69 * SM mk 16) + 0 ≤ 7293034; omega)⟩)) ?_
    refine lv_aload_n hx hb dL_law_1675 rfl (lv_at hl 2 rfl) ?_
    refine lv_aload_n hx hb dL_law_1676 rfl (lv_at hl 0 rfl) ?_
    refine lv_iload hx hb dL_law_1677 (lv_at hl 4 rfl) ?_
    refine lv_iconst (v := 1) hx hb dL_law_1679 (by decide) ?_
    refine lv_iadd hx hb dL_law_1680 ?_
    refine lv_topi (fun y9 e9 => ?_)
    cases (show y9 = nI ((4 * j) + 1) from e9.trans (nI_add (4 * j) 1))
    refine va_sld hx hb hX hbl hbA hS (vp_in_nI (n := 4 * j + 1) (N := L) (by omega) (by omega)) dL_law_1681 ?_
    refine lv_topi (fun y9 e9 => ?_)
    cases (show y9 = nI i9 from e9.trans (by rw [nI_clamp (by omega)]; exact ha1.symm))
    have hB9 : QI gg [(5060, .inr (11, MO yr yi ysb ybs)), (5048, .inl (cT 2, 6000, .inl (yA 48)))] := (qi_c (by decide) hYy (qi_c (by decide) (hYA 48 (by unfold YKy; omega)) qi_0))
    have hN9 := (show NDc [5060, 5048] from (nd_c (na_c (by decide) na_0) (nd_c na_0 nd_0)))
    have hP := bo_P (wc := [(5060, .inr (11, MO yr yi ysb ybs)), (5048, .inl (cT 2, 6000, .inl (yA 48)))]) (X := [(zo, .inl (cT 1, 1, .inr (.inl zf)))]) hcd hN9 hB9 hP
    have hD := bo_D (wc := [(5060, .inr (11, MO yr yi ysb ybs)), (5048, .inl (cT 2, 6000, .inl (yA 48)))]) (X := [(zo, .inl (cT 1, 1, .inr (.inl zf)))]) hcd hN9 hB9 hD
    have hP : va_P D vwCl ([(zo, .inl (cT 1, 1, .inr (.inl zf))), (ad 5060, .inr (11, MO yr yi ysb ybs)), (ad 5048, .inl (cT 2, 6000, .inl (yA 48)))] ++ pg cds ad (upo gg [5060, 5048])) _ := hP
    have hD : va_D A ([(zo, .inl (cT 1, 1, .inr (.inl zf))), (ad 5060, .inr (11, MO yr yi ysb ybs)), (ad 5048, .inl (cT 2, 6000, .inl (yA 48)))] ++ pg cds ad (upo gg [5060, 5048])) := hD
    have hw9 : ([(zo, .inl (cT 1, 1, .inr (.inl zf))), (ad 5060, .inr (11, MO yr yi ysb ybs)), (yr 48, .inl (cT 2, 6000, .inl (yA 48)))] ++ pg cds ad (upo gg [5060, 5048])) = ([(zo, .inl (cT 1, 1, .inr (.inl zf))), (ad 5060, .inr (11, MO yr yi ysb ybs)), (ad 5048, .inl (cT 2, 6000, .inl (yA 48)))] ++ pg cds ad (upo gg [5060, 5048])) := by rw [show yr 48 = ad 5048 from (hyr 48 (by unfold YKy; omega)).symm]
    have hP := vP_eq hw9 hP
    have hD := vD_eq hw9 hD
    have hP : va_P D vwCl ([(zo, .inl (cT 1, 1, .inr (.inl zf))), (ad 5060, .inr (11, MO yr yi ysb ybs)), (yr 48, .inl (cT 2, 6000, .inl (yA 48)))] ++ pg cds ad (upo gg [5060, 5048])) _ := hP
    have hD : va_D A ([(zo, .inl (cT 1, 1, .inr (.inl zf))), (ad 5060, .inr (11, MO yr yi ysb ybs)), (yr 48, .inl (cT 2, 6000, .inl (yA 48)))] ++ pg cds ad (upo gg [5060, 5048])) := hD
    refine hy_iQ (X := [(zo, .inl (cT 1, 1, .inr (.inl zf))), (ad 5060, .inr (11, MO yr yi ysb ybs)), (yr 48, .inl (cT 2, 6000, .inl (yA 48)))]) (pl := pg cds ad (upo gg [5060, 5048])) (cx := [(ad 5060, .inr (11, MO yr yi ysb ybs)), (yr 48, .inl (cT 2, 6000, .inl (yA 48)))]) (wr := [(zo, .inl (cT 1, 1, .inr (.inl zf)))]) hP hD hS hA [1, 2] [0] rfl rfl (by decide) (by decide) (va_runV (As := [.int (nI i9)]) (rest := [.int (fo i9)]) ⟨hx, hb, hml, hown, hT⟩ (y_byte_ok l D cT (ad 5060) yr yi ysb ybs (yA 48) i9 Lo hi y47 (by omega) _) ⟨callB_of 1 hT (tb_gd w1591) rfl rfl rfl (hT _ w13) (hT _ w1588) hM_byteAt ⟨Nat.le_of_ble_eq_true rfl, Nat.le_of_ble_eq_true rfl⟩, (hT _ w1589), (hT _ w1590)⟩ (RW.preV (ci := 11) (q0 := 0) hZ hS (hy_free (cx := [(ad 5060, .inr (11, MO yr yi ysb ybs)), (yr 48, .inl (cT 2, 6000, .inl (yA 48)))]) hD hS hA [1, 2] rfl) (hP.sub (ws' := [(ad 5060, .inr (11, MO yr yi ysb ybs)), (yr 48, .inl (cT 2, 6000, .inl (yA 48)))]) [1, 2] rfl) hK (hD.sub (ws' := [(ad 5060, .inr (11, MO yr yi ysb ybs)), (yr 48, .inl (cT 2, 6000, .inl (yA 48)))]) [1, 2] (by decide) rfl) rfl rfl) rfl rfl hl.1 rfl (lv_room (Nat.le_of_ble_eq_true rfl)) dL_law_1682 ⟨(by show (2000 + j + 3 * fm + 4 * SM mk 16) + 0 ≤ 601024; omega), (by show (400000 + 6 * j + 42 * fm + 69 * SM mk 16) + 0 ≤ 7293034; omega)⟩) (fun ru1 u9 H locs hpu1 hP hD hS => ?_)
    have hpu1 : ru1 = (yA 48) i9 := hpu1
    have hP : va_P D vwCl ([(zo, .inl (cT 1, 1, .inr (.inl zf))), (ad 5060, .inr (11, MO yr (va_up yi 1 0) ysb ybs)), (yr 48, .inl (cT 2, 6000, .inl (yA 48)))] ++ pg cds ad (upo gg [5060, 5048])) _ := hP
    have hD : va_D A ([(zo, .inl (cT 1, 1, .inr (.inl zf))), (ad 5060, .inr (11, MO yr (va_up yi 1 0) ysb ybs)), (yr 48, .inl (cT 2, 6000, .inl (yA 48)))] ++ pg cds ad (upo gg [5060, 5048])) := hD
    have hw9 : ([(zo, .inl (cT 1, 1, .inr (.inl zf))), (ad 5060, .inr (11, MO yr (va_up yi 1 0) ysb ybs)), (ad 5048, .inl (cT 2, 6000, .inl (yA 48)))] ++ pg cds ad (upo gg [5060, 5048])) = ([(zo, .inl (cT 1, 1, .inr (.inl zf))), (ad 5060, .inr (11, MO yr (va_up yi 1 0) ysb ybs)), (yr 48, .inl (cT 2, 6000, .inl (yA 48)))] ++ pg cds ad (upo gg [5060, 5048])) := by rw [show ad 5048 = yr 48 from hyr 48 (by unfold YKy; omega)]
    have hP := vP_eq hw9 hP
    have hD := vD_eq hw9 hD
    have hP : va_P D vwCl ([(zo, .inl (cT 1, 1, .inr (.inl zf))), (ad 5060, .inr (11, MO yr (va_up yi 1 0) ysb ybs)), (ad 5048, .inl (cT 2, 6000, .inl (yA 48)))] ++ pg cds ad (upo gg [5060, 5048])) _ := hP
    have hD : va_D A ([(zo, .inl (cT 1, 1, .inr (.inl zf))), (ad 5060, .inr (11, MO yr (va_up yi 1 0) ysb ybs)), (ad 5048, .inl (cT 2, 6000, .inl (yA 48)))] ++ pg cds ad (upo gg [5060, 5048])) := hD
    have hN9 := (show NDc [5060, 5048] from (nd_c (na_c (by decide) na_0) (nd_c na_0 nd_0)))
    have hP := gb_P (w9 := [(5060, .inr (11, MO yr (va_up yi 1 0) ysb ybs)), (5048, .inl (cT 2, 6000, .inl (yA 48)))]) (X := [(zo, .inl (cT 1, 1, .inr (.inl zf)))]) (g := gg) hcd hN9 (show QB [(5060, .inr (11, MO yr (va_up yi 1 0) ysb ybs)), (5048, .inl (cT 2, 6000, .inl (yA 48)))] from (qb_c (by decide) (qb_c (by decide) qb_0))) (hP.part (cx := [(zo, .inl (cT 1, 1, .inr (.inl zf))), (ad 5060, .inr (11, MO yr (va_up yi 1 0) ysb ybs)), (ad 5048, .inl (cT 2, 6000, .inl (yA 48)))]) [0, 1, 2] rfl)
    have hD := gb_D (w9 := [(5060, .inr (11, MO yr (va_up yi 1 0) ysb ybs)), (5048, .inl (cT 2, 6000, .inl (yA 48)))]) (X := [(zo, .inl (cT 1, 1, .inr (.inl zf)))]) (g := gg) hcd hN9 (show QB [(5060, .inr (11, MO yr (va_up yi 1 0) ysb ybs)), (5048, .inl (cT 2, 6000, .inl (yA 48)))] from (qb_c (by decide) (qb_c (by decide) qb_0))) (hD.part (cx := [(zo, .inl (cT 1, 1, .inr (.inl zf))), (ad 5060, .inr (11, MO yr (va_up yi 1 0) ysb ybs)), (ad 5048, .inl (cT 2, 6000, .inl (yA 48)))]) [0, 1, 2] (by decide) rfl)
    obtain ⟨gy, hgy⟩ : ∃ q9, q9 = ups gg [(5060, .inr (11, MO yr (va_up yi 1 0) ysb ybs)), (5048, .inl (cT 2, 6000, .inl (yA 48)))] := ⟨_, rfl⟩
    rw [← hgy] at hP hD
    have hP : va_P D vwCl ([(zo, .inl (cT 1, 1, .inr (.inl zf)))] ++ pg cds ad gy) _ := hP
    have hD : va_D A ([(zo, .inl (cT 1, 1, .inr (.inl zf)))] ++ pg cds ad gy) := hD
    have fgy : ∀ z8, z8 ≠ 5060 → gy z8 = gg z8 := fun z8 z1 => by rw [hgy]; exact ups_k (kp_n z1 (kp_s (hYA 48 (by unfold YKy; omega)) kp_0))
    have gy_0 : gy 5060 = some (.inr (11, MO yr (va_up yi 1 0) ysb ybs)) := by rw [hgy]; exact ups_1
    refine lv_icmp_eq (tgt := 1690) hx hb dL_law_1685 rfl (fun _ => ?_) (fun h2 => absurd ((hfoy i9 hi).trans hpu1.symm) h2)
    obtain ⟨yiz, hyiz⟩ : ∃ f9 : Nat → Int32, f9 = va_up yi 1 0 := ⟨_, rfl⟩
    have hIz : LWI cT ad gg tE T fm mk F n wd dpt lst w ru rl ne Lo yiz ysb yA := hI.sc (fun k hk => by rw [hyiz]; exact va_up_ne _ _ hk) (fun _ _ => rfl)
    have hIz := hIz.yg (g2 := gy) (fun z8 hz => fgy z8 (by omega))
    have hYz : YCL cT ad gy y yr yiz ysb ybs yA yW F := by
      refine ⟨hYad, hyr, (by rw [hyiz]; exact gy_0), fun k hk => ?_⟩
      have hk2 : k = 0 ∨ (4 ≤ k ∧ k ≤ 9) ∨ (18 ≤ k ∧ k ≤ 46) ∨ k = 48 ∨ k = 49 ∨ (56 ≤ k ∧ k ≤ 59) := hk
      exact (fgy (5000 + k) (by omega)).trans ((hYA k hk).trans (congrArg some (ycl_o rfl).symm))
    rw [hyiz] at hIz hYz
    refine W.widen (k := 2000 + (j + 1) + 3 * fm + 4 * SM mk 16) (n := 400000 + 6 * (j + 1) + 42 * fm + 69 * SM mk 16) (by show (2000 + j + 3 * fm + 4 * SM mk 16) + 0 ≤ 2000 + (j + 1) + 3 * fm + 4 * SM mk 16; omega) (by show (400000 + 6 * j + 42 * fm + 69 * SM mk 16) + 0 ≤ 400000 + 6 * (j + 1) + 42 * fm + 69 * SM mk 16; omega) ?_
    have hl := lv_sub hl [0, 1, 2, 3, 4] rfl
    have hl : lv_has ls 7 [(0, .ref b), (1, .ref (ad 0)), (2, .ref y), (3, .ref zo), (4, .int (nI (4 * j)))] := by rw [← hYz.1]; exact hl
    exact hend ad gy T fm mk F n wd dpt lst w ru rl ne Lo (va_up yi 1 0) ysb ybs yA yW zf _ _ ls hIz hYz hP hD hS hl
  · refine lv_aload_n hx hb dL_law_1665 rfl (lv_at hl 1 rfl) ?_
    refine lv_aload_n hx hb dL_law_1666 rfl (lv_at hl 0 rfl) ?_
    refine lv_iload hx hb dL_law_1667 (lv_at hl 4 rfl) ?_
    refine lv_iconst (v := 1) hx hb dL_law_1669 (by decide) ?_
    refine lv_iadd hx hb dL_law_1670 ?_
    refine lv_topi (fun y9 e9 => ?_)
    cases (show y9 = nI ((4 * j) + 1) from e9.trans (nI_add (4 * j) 1))
    refine va_sld hx hb hX hbl hbA hS (vp_in_nI (n := 4 * j + 1) (N := L) (by omega) (by omega)) dL_law_1671 ?_
    refine lv_topi (fun y9 e9 => ?_)
    cases (show y9 = a1 from e9.trans (by rw [nI_clamp (by omega)]; exact ha1.symm))
    refine ro_i (va_Run.run (va_runV (As := [.int a1]) (rest := []) ⟨hx, hb, hml, hown, hT⟩ (k_byteN l D cT cds ad gg T Lo fo a1 hcd hob hOut hq) ⟨callB_of 1 hT (tb_gd w496) rfl rfl rfl (hT _ w1) (hT _ w493) hR_byteAt ⟨Nat.le_of_ble_eq_true rfl, Nat.le_of_ble_eq_true rfl⟩, (hT _ w494), (hT _ w495)⟩ (RO.preW (ci := 0) (q0 := 0) hZ hS ((show va_P D vwCl ([] ++ pg cds ad gg) _ from (pv_p hP))) hK (pg_1 (x := 0) hcd hP (by decide) hob) rfl rfl) rfl rfl hl.1 rfl (lv_room (Nat.le_of_ble_eq_true rfl)) dL_law_1672 ⟨(by show (2000 + j + 3 * fm + 4 * SM mk 16) + 0 ≤ 601024; omega), (by show (400000 + 6 * j + 42 * fm + 69 * SM mk 16) + 0 ≤ 7293034; omega)⟩)) ?_
    refine lv_aload_n hx hb dL_law_1675 rfl (lv_at hl 2 rfl) ?_
    refine lv_aload_n hx hb dL_law_1676 rfl (lv_at hl 0 rfl) ?_
    refine lv_iload hx hb dL_law_1677 (lv_at hl 4 rfl) ?_
    refine lv_iconst (v := 1) hx hb dL_law_1679 (by decide) ?_
    refine lv_iadd hx hb dL_law_1680 ?_
    refine lv_topi (fun y9 e9 => ?_)
    cases (show y9 = nI ((4 * j) + 1) from e9.trans (nI_add (4 * j) 1))
    refine va_sld hx hb hX hbl hbA hS (vp_in_nI (n := 4 * j + 1) (N := L) (by omega) (by omega)) dL_law_1681 ?_
    refine lv_topi (fun y9 e9 => ?_)
    cases (show y9 = a1 from e9.trans (by rw [nI_clamp (by omega)]; exact ha1.symm))
    have hB9 : QI gg [(5060, .inr (11, MO yr yi ysb ybs))] := (qi_c (by decide) hYy qi_0)
    have hN9 := (show NDc [5060] from (nd_c na_0 nd_0))
    have hP := bo_P (wc := [(5060, .inr (11, MO yr yi ysb ybs))]) (X := [(zo, .inl (cT 1, 1, .inr (.inl zf)))]) hcd hN9 hB9 hP
    have hD := bo_D (wc := [(5060, .inr (11, MO yr yi ysb ybs))]) (X := [(zo, .inl (cT 1, 1, .inr (.inl zf)))]) hcd hN9 hB9 hD
    have hP : va_P D vwCl ([(zo, .inl (cT 1, 1, .inr (.inl zf))), (ad 5060, .inr (11, MO yr yi ysb ybs))] ++ pg cds ad (upo gg [5060])) _ := hP
    have hD : va_D A ([(zo, .inl (cT 1, 1, .inr (.inl zf))), (ad 5060, .inr (11, MO yr yi ysb ybs))] ++ pg cds ad (upo gg [5060])) := hD
    refine hy_iQ (X := [(zo, .inl (cT 1, 1, .inr (.inl zf))), (ad 5060, .inr (11, MO yr yi ysb ybs))]) (pl := pg cds ad (upo gg [5060])) (cx := [(ad 5060, .inr (11, MO yr yi ysb ybs))]) (wr := [(zo, .inl (cT 1, 1, .inr (.inl zf)))]) hP hD hS hA [1] [0] rfl rfl (by decide) (by decide) (va_runV (As := [.int a1]) (rest := [.int (-1)]) ⟨hx, hb, hml, hown, hT⟩ (y_byte_no l D cT (ad 5060) yr yi ysb ybs a1 (by rw [y47]; exact fun q => hq ((lt_le1 (by omega)).mp q)) _) ⟨callB_of 1 hT (tb_gd w1591) rfl rfl rfl (hT _ w13) (hT _ w1588) hM_byteAt ⟨Nat.le_of_ble_eq_true rfl, Nat.le_of_ble_eq_true rfl⟩, (hT _ w1589), (hT _ w1590)⟩ (RW.preV (ci := 11) (q0 := 0) hZ hS (hy_free (cx := [(ad 5060, .inr (11, MO yr yi ysb ybs))]) hD hS hA [1] rfl) (hP.sub (ws' := [(ad 5060, .inr (11, MO yr yi ysb ybs))]) [1] rfl) hK (hD.sub (ws' := [(ad 5060, .inr (11, MO yr yi ysb ybs))]) [1] (by decide) rfl) rfl rfl) rfl rfl hl.1 rfl (lv_room (Nat.le_of_ble_eq_true rfl)) dL_law_1682 ⟨(by show (2000 + j + 3 * fm + 4 * SM mk 16) + 0 ≤ 601024; omega), (by show (400000 + 6 * j + 42 * fm + 69 * SM mk 16) + 0 ≤ 7293034; omega)⟩) (fun ru3 u9 H locs hpu3 hP hD hS => ?_)
    have hpu3 : ru3 = (-1) := hpu3
    have hP : va_P D vwCl ([(zo, .inl (cT 1, 1, .inr (.inl zf))), (ad 5060, .inr (11, MO yr (va_up yi 1 0) ysb ybs))] ++ pg cds ad (upo gg [5060])) _ := hP
    have hD : va_D A ([(zo, .inl (cT 1, 1, .inr (.inl zf))), (ad 5060, .inr (11, MO yr (va_up yi 1 0) ysb ybs))] ++ pg cds ad (upo gg [5060])) := hD
    refine lv_topi (fun y9 e9 => ?_)
    cases (show y9 = (-1) from e9.trans hpu3)
    have hN9 := (show NDc [5060] from (nd_c na_0 nd_0))
    have hP := gb_P (w9 := [(5060, .inr (11, MO yr (va_up yi 1 0) ysb ybs))]) (X := [(zo, .inl (cT 1, 1, .inr (.inl zf)))]) (g := gg) hcd hN9 (show QB [(5060, .inr (11, MO yr (va_up yi 1 0) ysb ybs))] from (qb_c (by decide) qb_0)) (hP.part (cx := [(zo, .inl (cT 1, 1, .inr (.inl zf))), (ad 5060, .inr (11, MO yr (va_up yi 1 0) ysb ybs))]) [0, 1] rfl)
    have hD := gb_D (w9 := [(5060, .inr (11, MO yr (va_up yi 1 0) ysb ybs))]) (X := [(zo, .inl (cT 1, 1, .inr (.inl zf)))]) (g := gg) hcd hN9 (show QB [(5060, .inr (11, MO yr (va_up yi 1 0) ysb ybs))] from (qb_c (by decide) qb_0)) (hD.part (cx := [(zo, .inl (cT 1, 1, .inr (.inl zf))), (ad 5060, .inr (11, MO yr (va_up yi 1 0) ysb ybs))]) [0, 1] (by decide) rfl)
    obtain ⟨gy, hgy⟩ : ∃ q9, q9 = ups gg [(5060, .inr (11, MO yr (va_up yi 1 0) ysb ybs))] := ⟨_, rfl⟩
    rw [← hgy] at hP hD
    have hP : va_P D vwCl ([(zo, .inl (cT 1, 1, .inr (.inl zf)))] ++ pg cds ad gy) _ := hP
    have hD : va_D A ([(zo, .inl (cT 1, 1, .inr (.inl zf)))] ++ pg cds ad gy) := hD
    have fgy : ∀ z8, z8 ≠ 5060 → gy z8 = gg z8 := fun z8 z1 => by rw [hgy]; exact ups_k (kp_n z1 kp_0)
    have gy_0 : gy 5060 = some (.inr (11, MO yr (va_up yi 1 0) ysb ybs)) := by rw [hgy]; exact ups_1
    refine lv_icmp_eq (tgt := 1690) hx hb dL_law_1685 rfl (fun _ => ?_) (fun h4 => absurd (by decide) h4)
    obtain ⟨yiz, hyiz⟩ : ∃ f9 : Nat → Int32, f9 = va_up yi 1 0 := ⟨_, rfl⟩
    have hIz : LWI cT ad gg tE T fm mk F n wd dpt lst w ru rl ne Lo yiz ysb yA := hI.sc (fun k hk => by rw [hyiz]; exact va_up_ne _ _ hk) (fun _ _ => rfl)
    have hIz := hIz.yg (g2 := gy) (fun z8 hz => fgy z8 (by omega))
    have hYz : YCL cT ad gy y yr yiz ysb ybs yA yW F := by
      refine ⟨hYad, hyr, (by rw [hyiz]; exact gy_0), fun k hk => ?_⟩
      have hk2 : k = 0 ∨ (4 ≤ k ∧ k ≤ 9) ∨ (18 ≤ k ∧ k ≤ 46) ∨ k = 48 ∨ k = 49 ∨ (56 ≤ k ∧ k ≤ 59) := hk
      exact (fgy (5000 + k) (by omega)).trans ((hYA k hk).trans (congrArg some (ycl_o rfl).symm))
    rw [hyiz] at hIz hYz
    refine W.widen (k := 2000 + (j + 1) + 3 * fm + 4 * SM mk 16) (n := 400000 + 6 * (j + 1) + 42 * fm + 69 * SM mk 16) (by show (2000 + j + 3 * fm + 4 * SM mk 16) + 0 ≤ 2000 + (j + 1) + 3 * fm + 4 * SM mk 16; omega) (by show (400000 + 6 * j + 42 * fm + 69 * SM mk 16) + 0 ≤ 400000 + 6 * (j + 1) + 42 * fm + 69 * SM mk 16; omega) ?_
    have hl := lv_sub hl [0, 1, 2, 3, 4] rfl
    have hl : lv_has ls 7 [(0, .ref b), (1, .ref (ad 0)), (2, .ref y), (3, .ref zo), (4, .int (nI (4 * j)))] := by rw [← hYz.1]; exact hl
    exact hend ad gy T fm mk F n wd dpt lst w ru rl ne Lo (va_up yi 1 0) ysb ybs yA yW zf _ _ ls hIz hYz hP hD hS hl
