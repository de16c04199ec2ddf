set_option maxHeartbeats 8000000 in
set_option maxRecDepth 100000 in
theorem lo_4 {p : Program} {l : Launch} {e : Env} {s : State} {m : MethodId} {args : Array Value} {below : List Frame} {meth : Method} {c : Code} {Q : State → Prop} {A : Nat → Prop} {H : Heap} {locs : List Loc} {ls : Array Slot} {b L : Nat} {xs : Nat → Int32} (D : va_G) (cT : Nat → ClassId) (cds : List Nat) (tE mE y : Nat) (yr : Nat → Nat) (zo j : Nat) (ad : Nat → Nat) (gg : Nat → Option va_E) (T : Nat) (fm : Nat) (mk : Nat → Nat) (F : TFR) (n : Nat) (wd : Nat) (dpt : Nat) (lst : Nat) (w : Nat) (ru : Nat) (rl : Nat) (ne : Nat → Nat) (Lo : Nat) (yi : Nat → Int32) (ysb : Int64) (ybs : Int64) (yA : Nat → Nat → Int32) (yW : Nat → Int64) (zf : Nat → Int64) (hlt : l.stackTraces = false) (hx : p.tables.exec = Jvm.exec) (hb : c.code = code) (hml : c.maxLocals = 7) (hown : s.vm.findClass "ResidualTreesLaw" = some m.cls) (hT : ∀ w ∈ TB, w.before args s = true) (hZ : ZZ A s s.heap) (hE0 : ZE tE mE A s s.heap) (hK : va_K D vwCl (TY cT) s) (hA : ∀ q : Nat, s.heap.size ≤ q → A q) (hX : va_X b L xs s s.heap) (hbl : b < s.heap.size) (hbA : ¬ A b) (hcd : CD cds) (hj : 4 * j + 4 ≤ L) (hL : L ≤ 2048) (hI : LWI cT ad gg tE T fm mk F n wd dpt lst w ru rl ne Lo yi ysb yA) (hYC : YCL cT ad gg y yr yi ysb ybs yA yW F) (hP : va_P D vwCl ([(zo, .inl (cT 1, 1, .inr (.inl zf)))] ++ pg cds ad gg) H) (hD : va_D A ([(zo, .inl (cT 1, 1, .inr (.inl zf)))] ++ pg cds ad gg)) (hS : va_S A s.heap H locs) (hl : lv_has ls 7 [(0, .ref b), (1, .ref (ad 0)), (2, .ref y), (3, .ref zo), (4, .int (nI (4 * j)))]) (hend : LEN2 p l e s m args below meth c Q A D cT cds tE y yr zo b j) : W p l e room_1 s m args below meth c H locs (2000 + j + 3 * fm + 4 * SM mk 16) (400000 + 6 * j + 42 * fm + 69 * SM mk 16) Q (F0 m 388 ls []) := by
  obtain ⟨a1, ha1⟩ : ∃ q9 : Int32, q9 = xs (4 * j + 1) := ⟨_, rfl⟩
  obtain ⟨a2, ha2⟩ : ∃ q9 : Int32, q9 = xs (4 * j + 2) := ⟨_, rfl⟩
  obtain ⟨a3, ha3⟩ : ∃ q9 : Int32, q9 = xs (4 * j + 3) := ⟨_, rfl⟩
  obtain ⟨hfm16, hSM⟩ := lwi_b hI
  obtain ⟨hYad, hYr0, hYy, hYA⟩ := hYC
  have hyr := hYr0
  obtain ⟨fo, hCL, hRF, hPU⟩ := id hI
  obtain ⟨hTV, hOut, ⟨sa9, hso⟩, ⟨zq9, hS1⟩, ⟨zr9, hS2⟩, ⟨z58, hS3⟩⟩ := id hCL
  obtain ⟨hob, hTg, hFT, hTs, ⟨zs0, hGB⟩, ⟨zf0, hLf⟩, ⟨zc0, hCm⟩⟩ := id hTV
  obtain ⟨chtb, chRs, chCa, chCf, chpl, chGa, chSc, chGs, ⟨cfo, chod⟩, cbb9, ctt9, cb90, cik0, chgr, chbt, chSP⟩ := id hGB
  obtain ⟨y2, y3, y10, y11, y12, y13, y14, y17, y47, y55, y8e, y18e, hRFN, hPR, hfoy⟩ := id hRF
  obtain ⟨hTf, hT16, hn48, hwd6, hdp4, hls2, hw20, hr9, hLo, hne, hik, hTOK, hS9, hVk, hVb, htg, hSEP, hSV7⟩ := id hPU
  have hl : lv_has ls 7 [(0, .ref b), (1, .ref (ad 0)), (2, .ref (ad 5060)), (3, .ref zo), (4, .int (nI (4 * j)))] := by rw [hYad]; exact hl
  by_cases hz2 : a2 = 0
  · by_cases hq : 0 ≤ a1 ∧ a1 ≤ nI wd - 1
    · obtain ⟨c0, hc8, rfl⟩ := i_nat (n := wd) (by omega) hq
      refine lv_aload_n hx hb dL_law_388 rfl (lv_at hl 1 rfl) ?_
      refine lv_aload_n hx hb dL_law_389 rfl (lv_at hl 0 rfl) ?_
      refine lv_iload hx hb dL_law_390 (lv_at hl 4 rfl) ?_
      refine lv_iconst (v := 1) hx hb dL_law_392 (by decide) ?_
      refine lv_iadd hx hb dL_law_393 ?_
      refine lv_topi (fun y9 e9 => ?_)
      cases (show y9 = nI ((4 * j) + 1) from e9.trans (nI_add (4 * j) 1))
      refine va_sld hx hb hX hbl hbA hS (vp_in_nI (n := 4 * j + 1) (N := L) (by omega) (by omega)) dL_law_394 ?_
      refine lv_topi (fun y9 e9 => ?_)
      cases (show y9 = nI c0 from e9.trans (by rw [nI_clamp (by omega)]; exact ha1.symm))
      refine lv_aload_n hx hb dL_law_395 rfl (lv_at hl 0 rfl) ?_
      refine lv_iload hx hb dL_law_396 (lv_at hl 4 rfl) ?_
      refine lv_iconst (v := 2) hx hb dL_law_398 (by decide) ?_
      refine lv_iadd hx hb dL_law_399 ?_
      refine lv_topi (fun y9 e9 => ?_)
      cases (show y9 = nI ((4 * j) + 2) from e9.trans (nI_add (4 * j) 2))
      refine va_sld hx hb hX hbl hbA hS (vp_in_nI (n := 4 * j + 2) (N := L) (by omega) (by omega)) dL_law_400 ?_
      refine lv_topi (fun y9 e9 => ?_)
      cases (show y9 = a2 from e9.trans (by rw [nI_clamp (by omega)]; exact ha2.symm))
      refine lv_if_eq (tgt := 408) hx hb dL_law_401 rfl (fun _ => ?_) (fun h1 => absurd hz2 h1)
      refine lv_iconst (v := 0) hx hb dL_law_408 (by decide) ?_
      refine lv_aload_n hx hb dL_law_409 rfl (lv_at hl 3 rfl) ?_
      refine hy_iP (X := [(zo, .inl (cT 1, 1, .inr (.inl zf)))]) (pl := pg cds ad gg) (cx := [(zo, .inl (cT 1, 1, .inr (.inl zf)))]) (wr := []) hP hD hS hA [0] [] rfl rfl (by decide) (by decide) (tx_runSH (As := [.ref (ad 0), .int (nI c0), .int 0, .ref zo]) (rest := []) ⟨hx, hb, hml, hown, hT⟩ (l_kinds l D cT cds ad gg (nI T) (nI wd) (nI n) n (yA 5) (yA 9) (yA 7) (yA 6) ne c0 0 zo zf hcd hob chtb rfl hn48 chCa chCf hq (by omega) (Or.inl rfl) hne hik (Or.inl rfl) _) hT (tc_gd w644 w645 w0 (tb_gd w646)) rfl rfl rfl hL_kinds ⟨Nat.le_of_ble_eq_true rfl, Nat.le_of_ble_eq_true rfl⟩ (RW.preS hZ hS (va_freeP (cx := [(zo, .inl (cT 1, 1, .inr (.inl zf)))]) hD hS hA [0] rfl) (hP.part (cx := [(zo, .inl (cT 1, 1, .inr (.inl zf)))]) [0] rfl) hK (hD.part (cx := [(zo, .inl (cT 1, 1, .inr (.inl zf)))]) [0] (by decide) rfl)) rfl hl.1 rfl (Nat.le_of_ble_eq_true rfl) dL_law_410 ⟨(by show (2000 + j + 3 * fm + 4 * SM mk 16) + 0 ≤ 601024; omega), (by show (400000 + 6 * j + 42 * fm + 69 * SM mk 16) + 0 ≤ 7293034; omega)⟩) (fun ru2 u9 H locs hpu2 hP hD hS => ?_)
      obtain ⟨gg7u2, rvu2⟩ := u9
      have hpu2 : ru2 = 0 ∧ rvu2 = (yA 6) c0 ∧ (∀ z8, (z8 < 10 ∨ 40 ≤ z8) → gg7u2 z8 = gg z8) ∧ COLF cT ad gg7u2 n (yA 5) (yA 9) (yA 7) (upd (yA 6) c0 0) (va_up ne c0 0) := hpu2
      have hP : va_P D vwCl ([(zo, .inl (cT 1, 1, .inr (.inl (vp_updL zf 0 (Int32.toInt64 rvu2)))))] ++ pg cds ad gg7u2) _ := hP
      have hD : va_D A ([(zo, .inl (cT 1, 1, .inr (.inl (vp_updL zf 0 (Int32.toInt64 rvu2)))))] ++ pg cds ad gg7u2) := hD
      refine lv_topi (fun y9 e9 => ?_)
      cases (show y9 = 0 from e9.trans hpu2.1)
      obtain ⟨_, cR, cF, ccn⟩ := hpu2
      refine lv_istore hx hb dL_law_413 hl (by decide) rfl (fun ls hl => ?_)
      have hl : lv_has ls 7 [(5, .int 0), (0, .ref b), (1, .ref (ad 0)), (2, .ref (ad 5060)), (3, .ref zo), (4, .int (nI (4 * j)))] := hl
      refine lv_aload_n hx hb dL_law_415 rfl (lv_at hl 3 rfl) ?_
      refine lv_aload_n hx hb dL_law_416 rfl (lv_at hl 1 rfl) ?_
      refine lv_iload hx hb dL_law_417 (lv_at hl 5 rfl) ?_
      refine lv_iconst (v := 1) hx hb dL_law_419 (by decide) ?_
      refine lv_iadd hx hb dL_law_420 ?_
      refine lv_topi (fun y9 e9 => ?_)
      cases (show y9 = nI ((4 * j) + 1) from e9.trans (nI_add (4 * j) 1))
      refine va_sld hx hb hX hbl hbA hS (vp_in_nI (n := 4 * j + 1) (N := L) (by omega) (by omega)) dL_law_421 ?_
      refine lv_topi (fun y9 e9 => ?_)
      cases (show y9 = nI c0 from e9.trans (by rw [nI_clamp (by omega)]; exact ha1.symm))
      refine lv_aload_n hx hb dL_law_422 rfl (lv_at hl 1 rfl) ?_
      refine lv_iload hx hb dL_law_423 (lv_at hl 5 rfl) ?_
      refine lv_iconst (v := 2) hx hb dL_law_425 (by decide) ?_
      refine lv_iadd hx hb dL_law_426 ?_
      refine lv_topi (fun y9 e9 => ?_)
      cases (show y9 = nI ((4 * j) + 2) from e9.trans (nI_add (4 * j) 2))
      refine va_sld hx hb hX hbl hbA hS (vp_in_nI (n := 4 * j + 2) (N := L) (by omega) (by omega)) dL_law_427 ?_
      refine lv_topi (fun y9 e9 => ?_)
      cases (show y9 = a2 from e9.trans (by rw [nI_clamp (by omega)]; exact ha2.symm))
      refine lv_if_eq (tgt := 435) hx hb dL_law_428 rfl (fun _ => ?_) (fun h3 => absurd hz2 h3)
      refine lv_iconst (v := 0) hx hb dL_law_435 (by decide) ?_
      have hB9 : QI gg7u2 [(5060, .inr (11, MO yr yi ysb ybs)), (5006, .inl (cT 3, 6, .inl (yA 6))), (5008, .inl (cT 0, 6, .inl (yA 8))), (5005, .inl (cT 0, 288, .inl (yA 5)))] := (qi_c (by decide) ((cF 5060 (by omega)).trans hYy) (qi_c (by decide) ((cF 5006 (by omega)).trans (hYA 6 (by unfold YKy; omega))) (qi_c (by decide) ((cF 5008 (by omega)).trans (hYA 8 (by unfold YKy; omega))) (qi_c (by decide) ((cF 5005 (by omega)).trans (hYA 5 (by unfold YKy; omega))) qi_0))))
      have hN9 := (show NDc [5060, 5006, 5008, 5005] from (nd_c (na_c (by decide) (na_c (by decide) (na_c (by decide) na_0))) (nd_c (na_c (by decide) (na_c (by decide) na_0)) (nd_c (na_c (by decide) na_0) (nd_c na_0 nd_0)))))
      have hP := bo_P (wc := [(5060, .inr (11, MO yr yi ysb ybs)), (5006, .inl (cT 3, 6, .inl (yA 6))), (5008, .inl (cT 0, 6, .inl (yA 8))), (5005, .inl (cT 0, 288, .inl (yA 5)))]) (X := [(zo, .inl (cT 1, 1, .inr (.inl (vp_updL zf 0 (Int32.toInt64 rvu2)))))]) hcd hN9 hB9 hP
      have hD := bo_D (wc := [(5060, .inr (11, MO yr yi ysb ybs)), (5006, .inl (cT 3, 6, .inl (yA 6))), (5008, .inl (cT 0, 6, .inl (yA 8))), (5005, .inl (cT 0, 288, .inl (yA 5)))]) (X := [(zo, .inl (cT 1, 1, .inr (.inl (vp_updL zf 0 (Int32.toInt64 rvu2)))))]) hcd hN9 hB9 hD
      have hP : va_P D vwCl ([(zo, .inl (cT 1, 1, .inr (.inl (vp_updL zf 0 (Int32.toInt64 rvu2))))), (ad 5060, .inr (11, MO yr yi ysb ybs)), (ad 5006, .inl (cT 3, 6, .inl (yA 6))), (ad 5008, .inl (cT 0, 6, .inl (yA 8))), (ad 5005, .inl (cT 0, 288, .inl (yA 5)))] ++ pg cds ad (upo gg7u2 [5060, 5006, 5008, 5005])) _ := hP
      have hD : va_D A ([(zo, .inl (cT 1, 1, .inr (.inl (vp_updL zf 0 (Int32.toInt64 rvu2))))), (ad 5060, .inr (11, MO yr yi ysb ybs)), (ad 5006, .inl (cT 3, 6, .inl (yA 6))), (ad 5008, .inl (cT 0, 6, .inl (yA 8))), (ad 5005, .inl (cT 0, 288, .inl (yA 5)))] ++ pg cds ad (upo gg7u2 [5060, 5006, 5008, 5005])) := hD
      have hw9 : ([(zo, .inl (cT 1, 1, .inr (.inl (vp_updL zf 0 (Int32.toInt64 rvu2))))), (ad 5060, .inr (11, MO yr yi ysb ybs)), (yr 6, .inl (cT 3, 6, .inl (yA 6))), (yr 8, .inl (cT 0, 6, .inl (yA 8))), (yr 5, .inl (cT 0, 288, .inl (yA 5)))] ++ pg cds ad (upo gg7u2 [5060, 5006, 5008, 5005])) = ([(zo, .inl (cT 1, 1, .inr (.inl (vp_updL zf 0 (Int32.toInt64 rvu2))))), (ad 5060, .inr (11, MO yr yi ysb ybs)), (ad 5006, .inl (cT 3, 6, .inl (yA 6))), (ad 5008, .inl (cT 0, 6, .inl (yA 8))), (ad 5005, .inl (cT 0, 288, .inl (yA 5)))] ++ pg cds ad (upo gg7u2 [5060, 5006, 5008, 5005])) := by rw [show yr 6 = ad 5006 from (hyr 6 (by unfold YKy; omega)).symm, show yr 8 = ad 5008 from (hyr 8 (by unfold YKy; omega)).symm, show yr 5 = ad 5005 from (hyr 5 (by unfold YKy; omega)).symm]
      have hP := vP_eq hw9 hP
      have hD := vD_eq hw9 hD
      have hP : va_P D vwCl ([(zo, .inl (cT 1, 1, .inr (.inl (vp_updL zf 0 (Int32.toInt64 rvu2))))), (ad 5060, .inr (11, MO yr yi ysb ybs)), (yr 6, .inl (cT 3, 6, .inl (yA 6))), (yr 8, .inl (cT 0, 6, .inl (yA 8))), (yr 5, .inl (cT 0, 288, .inl (yA 5)))] ++ pg cds ad (upo gg7u2 [5060, 5006, 5008, 5005])) _ := hP
      have hD : va_D A ([(zo, .inl (cT 1, 1, .inr (.inl (vp_updL zf 0 (Int32.toInt64 rvu2))))), (ad 5060, .inr (11, MO yr yi ysb ybs)), (yr 6, .inl (cT 3, 6, .inl (yA 6))), (yr 8, .inl (cT 0, 6, .inl (yA 8))), (yr 5, .inl (cT 0, 288, .inl (yA 5)))] ++ pg cds ad (upo gg7u2 [5060, 5006, 5008, 5005])) := hD
      refine hy_iQ (X := [(zo, .inl (cT 1, 1, .inr (.inl (vp_updL zf 0 (Int32.toInt64 rvu2))))), (ad 5060, .inr (11, MO yr yi ysb ybs)), (yr 6, .inl (cT 3, 6, .inl (yA 6))), (yr 8, .inl (cT 0, 6, .inl (yA 8))), (yr 5, .inl (cT 0, 288, .inl (yA 5)))]) (pl := pg cds ad (upo gg7u2 [5060, 5006, 5008, 5005])) (cx := [(ad 5060, .inr (11, MO yr yi ysb ybs)), (yr 6, .inl (cT 3, 6, .inl (yA 6))), (yr 8, .inl (cT 0, 6, .inl (yA 8))), (yr 5, .inl (cT 0, 288, .inl (yA 5)))]) (wr := [(zo, .inl (cT 1, 1, .inr (.inl (vp_updL zf 0 (Int32.toInt64 rvu2)))))]) hP hD hS hA [1, 2, 3, 4] [0] rfl rfl (by decide) (by decide) (va_runV (As := [.int (nI c0), .int 0]) (rest := []) ⟨hx, hb, hml, hown, hT⟩ (y_kinds_ok l D cT (ad 5060) yr yi ysb ybs (yA 6) (yA 8) (yA 5) c0 0 n y3 hn48 (by rw [y2]; exact hq) (by omega) (hik c0 (by omega)) (Or.inl rfl) _) ⟨callB_of 2 hT (tb_gd w1334) rfl rfl rfl (hT _ w13) (hT _ w1331) hM_kinds ⟨Nat.le_of_ble_eq_true rfl, Nat.le_of_ble_eq_true rfl⟩, (hT _ w1332), (hT _ w1333)⟩ (RW.preV (ci := 11) (q0 := 0) hZ hS (hy_free (cx := [(ad 5060, .inr (11, MO yr yi ysb ybs)), (yr 6, .inl (cT 3, 6, .inl (yA 6))), (yr 8, .inl (cT 0, 6, .inl (yA 8))), (yr 5, .inl (cT 0, 288, .inl (yA 5)))]) hD hS hA [1, 2, 3, 4] rfl) (hP.sub (ws' := [(ad 5060, .inr (11, MO yr yi ysb ybs)), (yr 6, .inl (cT 3, 6, .inl (yA 6))), (yr 8, .inl (cT 0, 6, .inl (yA 8))), (yr 5, .inl (cT 0, 288, .inl (yA 5)))]) [1, 2, 3, 4] rfl) hK (hD.sub (ws' := [(ad 5060, .inr (11, MO yr yi ysb ybs)), (yr 6, .inl (cT 3, 6, .inl (yA 6))), (yr 8, .inl (cT 0, 6, .inl (yA 8))), (yr 5, .inl (cT 0, 288, .inl (yA 5)))]) [1, 2, 3, 4] (by decide) rfl) rfl rfl) rfl rfl hl.1 rfl (lv_room (Nat.le_of_ble_eq_true rfl)) dL_law_436 ⟨(by show ((2000 + j + 3 * fm + 4 * SM mk 16) + 0) + 0 ≤ 601024; omega), (by show ((400000 + 6 * j + 42 * fm + 69 * SM mk 16) + 0) + 0 ≤ 7293034; omega)⟩) (fun ru4 u9 H locs hpu4 hP hD hS => ?_)
      have hpu4 : ru4 = (yA 6) c0 := hpu4
      have hP : va_P D vwCl ([(zo, .inl (cT 1, 1, .inr (.inl (vp_updL zf 0 (Int32.toInt64 rvu2))))), (ad 5060, .inr (11, MO yr (va_up yi 1 0) ysb ybs)), (yr 6, .inl (cT 3, 6, .inl (upd (yA 6) c0 (vp_nar .boolean 0)))), (yr 8, .inl (cT 0, 6, .inl (upd (yA 8) c0 0))), (yr 5, .inl (cT 0, 288, .inl (yA 5)))] ++ pg cds ad (upo gg7u2 [5060, 5006, 5008, 5005])) _ := hP
      have hD : va_D A ([(zo, .inl (cT 1, 1, .inr (.inl (vp_updL zf 0 (Int32.toInt64 rvu2))))), (ad 5060, .inr (11, MO yr (va_up yi 1 0) ysb ybs)), (yr 6, .inl (cT 3, 6, .inl (upd (yA 6) c0 (vp_nar .boolean 0)))), (yr 8, .inl (cT 0, 6, .inl (upd (yA 8) c0 0))), (yr 5, .inl (cT 0, 288, .inl (yA 5)))] ++ pg cds ad (upo gg7u2 [5060, 5006, 5008, 5005])) := hD
      have hw9 : ([(zo, .inl (cT 1, 1, .inr (.inl (vp_updL zf 0 (Int32.toInt64 rvu2))))), (ad 5060, .inr (11, MO yr (va_up yi 1 0) ysb ybs)), (ad 5006, .inl (cT 3, 6, .inl (upd (yA 6) c0 (vp_nar .boolean 0)))), (ad 5008, .inl (cT 0, 6, .inl (upd (yA 8) c0 0))), (ad 5005, .inl (cT 0, 288, .inl (yA 5)))] ++ pg cds ad (upo gg7u2 [5060, 5006, 5008, 5005])) = ([(zo, .inl (cT 1, 1, .inr (.inl (vp_updL zf 0 (Int32.toInt64 rvu2))))), (ad 5060, .inr (11, MO yr (va_up yi 1 0) ysb ybs)), (yr 6, .inl (cT 3, 6, .inl (upd (yA 6) c0 (vp_nar .boolean 0)))), (yr 8, .inl (cT 0, 6, .inl (upd (yA 8) c0 0))), (yr 5, .inl (cT 0, 288, .inl (yA 5)))] ++ pg cds ad (upo gg7u2 [5060, 5006, 5008, 5005])) := by rw [show ad 5006 = yr 6 from hyr 6 (by unfold YKy; omega), show ad 5008 = yr 8 from hyr 8 (by unfold YKy; omega), show ad 5005 = yr 5 from hyr 5 (by unfold YKy; omega)]
      have hP := vP_eq hw9 hP
      have hD := vD_eq hw9 hD
      have hP : va_P D vwCl ([(zo, .inl (cT 1, 1, .inr (.inl (vp_updL zf 0 (Int32.toInt64 rvu2))))), (ad 5060, .inr (11, MO yr (va_up yi 1 0) ysb ybs)), (ad 5006, .inl (cT 3, 6, .inl (upd (yA 6) c0 (vp_nar .boolean 0)))), (ad 5008, .inl (cT 0, 6, .inl (upd (yA 8) c0 0))), (ad 5005, .inl (cT 0, 288, .inl (yA 5)))] ++ pg cds ad (upo gg7u2 [5060, 5006, 5008, 5005])) _ := hP
      have hD : va_D A ([(zo, .inl (cT 1, 1, .inr (.inl (vp_updL zf 0 (Int32.toInt64 rvu2))))), (ad 5060, .inr (11, MO yr (va_up yi 1 0) ysb ybs)), (ad 5006, .inl (cT 3, 6, .inl (upd (yA 6) c0 (vp_nar .boolean 0)))), (ad 5008, .inl (cT 0, 6, .inl (upd (yA 8) c0 0))), (ad 5005, .inl (cT 0, 288, .inl (yA 5)))] ++ pg cds ad (upo gg7u2 [5060, 5006, 5008, 5005])) := hD
      have hN9 := (show NDc [5060, 5006, 5008, 5005] from (nd_c (na_c (by decide) (na_c (by decide) (na_c (by decide) na_0))) (nd_c (na_c (by decide) (na_c (by decide) na_0)) (nd_c (na_c (by decide) na_0) (nd_c na_0 nd_0)))))
      have hP := gb_P (w9 := [(5060, .inr (11, MO yr (va_up yi 1 0) ysb ybs)), (5006, .inl (cT 3, 6, .inl (upd (yA 6) c0 (vp_nar .boolean 0)))), (5008, .inl (cT 0, 6, .inl (upd (yA 8) c0 0))), (5005, .inl (cT 0, 288, .inl (yA 5)))]) (X := [(zo, .inl (cT 1, 1, .inr (.inl (vp_updL zf 0 (Int32.toInt64 rvu2)))))]) (g := gg7u2) hcd hN9 (show QB [(5060, .inr (11, MO yr (va_up yi 1 0) ysb ybs)), (5006, .inl (cT 3, 6, .inl (upd (yA 6) c0 (vp_nar .boolean 0)))), (5008, .inl (cT 0, 6, .inl (upd (yA 8) c0 0))), (5005, .inl (cT 0, 288, .inl (yA 5)))] from (qb_c (by decide) (qb_c (by decide) (qb_c (by decide) (qb_c (by decide) qb_0))))) (hP.part (cx := [(zo, .inl (cT 1, 1, .inr (.inl (vp_updL zf 0 (Int32.toInt64 rvu2))))), (ad 5060, .inr (11, MO yr (va_up yi 1 0) ysb ybs)), (ad 5006, .inl (cT 3, 6, .inl (upd (yA 6) c0 (vp_nar .boolean 0)))), (ad 5008, .inl (cT 0, 6, .inl (upd (yA 8) c0 0))), (ad 5005, .inl (cT 0, 288, .inl (yA 5)))]) [0, 1, 2, 3, 4] rfl)
      have hD := gb_D (w9 := [(5060, .inr (11, MO yr (va_up yi 1 0) ysb ybs)), (5006, .inl (cT 3, 6, .inl (upd (yA 6) c0 (vp_nar .boolean 0)))), (5008, .inl (cT 0, 6, .inl (upd (yA 8) c0 0))), (5005, .inl (cT 0, 288, .inl (yA 5)))]) (X := [(zo, .inl (cT 1, 1, .inr (.inl (vp_updL zf 0 (Int32.toInt64 rvu2)))))]) (g := gg7u2) hcd hN9 (show QB [(5060, .inr (11, MO yr (va_up yi 1 0) ysb ybs)), (5006, .inl (cT 3, 6, .inl (upd (yA 6) c0 (vp_nar .boolean 0)))), (5008, .inl (cT 0, 6, .inl (upd (yA 8) c0 0))), (5005, .inl (cT 0, 288, .inl (yA 5)))] from (qb_c (by decide) (qb_c (by decide) (qb_c (by decide) (qb_c (by decide) qb_0))))) (hD.part (cx := [(zo, .inl (cT 1, 1, .inr (.inl (vp_updL zf 0 (Int32.toInt64 rvu2))))), (ad 5060, .inr (11, MO yr (va_up yi 1 0) ysb ybs)), (ad 5006, .inl (cT 3, 6, .inl (upd (yA 6) c0 (vp_nar .boolean 0)))), (ad 5008, .inl (cT 0, 6, .inl (upd (yA 8) c0 0))), (ad 5005, .inl (cT 0, 288, .inl (yA 5)))]) [0, 1, 2, 3, 4] (by decide) rfl)
      obtain ⟨gy, hgy⟩ : ∃ q9, q9 = ups gg7u2 [(5060, .inr (11, MO yr (va_up yi 1 0) ysb ybs)), (5006, .inl (cT 3, 6, .inl (upd (yA 6) c0 (vp_nar .boolean 0)))), (5008, .inl (cT 0, 6, .inl (upd (yA 8) c0 0))), (5005, .inl (cT 0, 288, .inl (yA 5)))] := ⟨_, rfl⟩
      rw [← hgy] at hP hD
      have hP : va_P D vwCl ([(zo, .inl (cT 1, 1, .inr (.inl (vp_updL zf 0 (Int32.toInt64 rvu2)))))] ++ pg cds ad gy) _ := hP
      have hD : va_D A ([(zo, .inl (cT 1, 1, .inr (.inl (vp_updL zf 0 (Int32.toInt64 rvu2)))))] ++ pg cds ad gy) := hD
      have fgy : ∀ z8, z8 ≠ 5060 → z8 ≠ 5006 → z8 ≠ 5008 → gy z8 = gg7u2 z8 := fun z8 z1 z2 z3 => by rw [hgy]; exact ups_k (kp_n z1 (kp_n z2 (kp_n z3 (kp_s ((cF 5005 (by omega)).trans (hYA 5 (by unfold YKy; omega))) kp_0))))
      have gy_0 : gy 5060 = some (.inr (11, MO yr (va_up yi 1 0) ysb ybs)) := by rw [hgy]; exact ups_1
      have gy_1 : gy 5006 = some (.inl (cT 3, 6, .inl (upd (yA 6) c0 (vp_nar .boolean 0)))) := by rw [hgy]; exact ups_2 (by decide)
      have gy_2 : gy 5008 = some (.inl (cT 0, 6, .inl (upd (yA 8) c0 0))) := by rw [hgy]; exact ups_3 (by decide) (by decide)
      refine lv_istore hx hb dL_law_439 hl (by decide) rfl (fun ls hl => ?_)
      have hl : lv_has ls 7 [(6, .int ru4), (5, .int 0), (0, .ref b), (1, .ref (ad 0)), (2, .ref (ad 5060)), (3, .ref zo), (4, .int (nI (4 * j)))] := hl
      refine lv_aload_n hx hb dL_law_441 rfl (lv_at hl 4 rfl) ?_
      refine ro_i (va_Run.run (va_runV (As := []) (rest := []) ⟨hx, hb, hml, hown, hT⟩ (m_thrown l D cT (ad 5060) yr (va_up yi 1 0) ysb ybs) ⟨callB_of 0 hT (tb_gd w1290) rfl rfl rfl (hT _ w13) (hT _ w1287) hM_thrown ⟨Nat.le_of_ble_eq_true rfl, Nat.le_of_ble_eq_true rfl⟩, (hT _ w1288), (hT _ w1289)⟩ (RO.preV (ci := 11) (q0 := 0) hZ hS ((show va_P D vwCl [(ad 5060, .inr (11, MO yr (va_up yi 1 0) ysb ybs))] _ from (pv_c (pg_1 (x := 5060) hcd hP (by decide) gy_0) pv_0))) hK rfl rfl) rfl rfl hl.1 rfl (lv_room (Nat.le_of_ble_eq_true rfl)) dL_law_442 ⟨(by show (((2000 + j + 3 * fm + 4 * SM mk 16) + 0) + 0) + 0 ≤ 601024; omega), (by show (((400000 + 6 * j + 42 * fm + 69 * SM mk 16) + 0) + 0) + 0 ≤ 7293034; omega)⟩)) ?_
      refine lv_topi (fun y9 e9 => ?_)
      cases (show y9 = 0 from e9.trans rfl)
      refine lv_iload hx hb dL_law_445 (lv_at hl 1 rfl) ?_
      refine lv_icmp_eq (tgt := 452) hx hb dL_law_447 rfl (fun _ => ?_) (fun h5 => absurd (by decide) h5)
      refine lv_iload hx hb dL_law_452 (lv_at hl 1 rfl) ?_
      refine lv_if_ne (tgt := 476) hx hb dL_law_454 rfl (fun h6 => absurd (by decide) h6) (fun _ => ?_)
      refine lv_aload_n hx hb dL_law_457 rfl (lv_at hl 5 rfl) ?_
      refine lv_iconst (v := 0) hx hb dL_law_458 (by decide) ?_
      refine va_lald hx hb hK hP 0 1 rfl rfl (by unfold vp_in; decide) dL_law_459 ?_
      refine lv_iload hx hb dL_law_460 (lv_at hl 0 rfl) ?_
      refine lv_if_eq (tgt := 469) hx hb dL_law_462 rfl (fun h7 => ?_) (fun h7 => ?_)
      · have b62 := h7
        refine lv_lconst (v := 0) hx hb dL_law_469 (by decide) ?_
        refine W.lcmp hx hb dL_law_470 ?_
        refine lv_if_eq (tgt := 476) hx hb dL_law_471 rfl (fun _ => ?_) (fun h8 => absurd ((lg_cmp_eq _ _).mpr (pk_uLs.trans ((congrArg Int32.toInt64 (cR.trans (hpu4.symm.trans b62))).trans tl_0))) h8)
        refine lv_goto (tgt := 1690) hx hb dL_law_476 rfl ?_
        obtain ⟨yiz, hyiz⟩ : ∃ f9 : Nat → Int32, f9 = va_up yi 1 0 := ⟨_, rfl⟩
        obtain ⟨yAz, hyAz⟩ : ∃ f9 : Nat → Nat → Int32, f9 = va_up (va_up yA 6 (upd (yA 6) c0 (vp_nar .boolean 0))) 8 (upd (yA 8) c0 0) := ⟨_, rfl⟩
        have q6 : yAz 6 = upd (yA 6) c0 0 := by rw [hyAz]; exact (va_up_ne _ _ (by decide)).trans ((va_up_self _ _ _).trans (congrArg (upd (yA 6) c0) (show vp_nar .boolean 0 = 0 by decide)))
        have q8 : yAz 8 = upd (yA 8) c0 0 := by rw [hyAz]; exact va_up_self _ _ _
        have qo : ∀ k, k ≠ 6 → k ≠ 8 → yAz k = yA k := fun k h1 h2 => by rw [hyAz]; exact (va_up_ne _ _ h2).trans (va_up_ne _ _ h1)
        have hCz := CLI.up hCL (Nat.le_refl _) (fun z8 n0 n1 n3 n4 n5 n6 n7 => cF z8 (by omega)) ((cF _ (by omega)).trans hob) ((cF _ (by omega)).trans chtb) (show TGp cT gg7u2 n (yA 4) by obtain ⟨ft9, e1, e2⟩ := hTg; exact ⟨ft9, (cF _ (by omega)).trans e1, e2⟩) ((cF _ (by omega)).trans chpl) ccn (hOut.cg (fun z8 n1 n2 => cF z8 (by omega))) (⟨sa9, (cF _ (by omega)).trans hso⟩)
        have hIz : LWI cT ad gg7u2 tE T fm mk F n wd dpt lst w ru rl (va_up ne c0 0) Lo yiz ysb yAz := lwi_kin hRF hPU (Or.inl rfl) (Or.inl rfl) (fun k hk => by rw [hyiz]; exact va_up_ne _ _ hk) q6 q8 qo hCz
        have hIz := hIz.yg (g2 := gy) (fun z8 hz => fgy z8 (by omega) (by omega) (by omega))
        have hYz : YCL cT ad gy y yr yiz ysb ybs yAz yW F := by
          refine ⟨hYad, hyr, (by rw [hyiz]; exact gy_0), fun k hk => ?_⟩
          have hk2 : k = 0 ∨ (4 ≤ k ∧ k ≤ 9) ∨ (18 ≤ k ∧ k ≤ 46) ∨ k = 48 ∨ k = 49 ∨ (56 ≤ k ∧ k ≤ 59) := hk
          by_cases e6 : k = 6
          · subst e6
            rw [hyAz]; exact gy_1
          by_cases e8 : k = 8
          · subst e8
            rw [hyAz]; exact gy_2
          exact (fgy (5000 + k) (by omega) (by omega) (by omega)).trans ((cF (5000 + k) (by omega)).trans ((hYA k hk).trans (congrArg some (ycl_o (by rw [hyAz]; exact (va_up_ne _ _ e8).trans ((va_up_ne _ _ e6).trans (rfl)))).symm)))
        rw [hyiz] at hIz hYz
        rw [hyAz] at hIz hYz
        refine W.widen (k := 2000 + (j + 1) + 3 * fm + 4 * SM mk 16) (n := 400000 + 6 * (j + 1) + 42 * fm + 69 * SM mk 16) (by show ((2000 + j + 3 * fm + 4 * SM mk 16) + 0) + 0 ≤ 2000 + (j + 1) + 3 * fm + 4 * SM mk 16; omega) (by show ((400000 + 6 * j + 42 * fm + 69 * SM mk 16) + 0) + 0 ≤ 400000 + 6 * (j + 1) + 42 * fm + 69 * SM mk 16; omega) ?_
        have hl := lv_sub hl [2, 3, 4, 5, 6] rfl
        have hl : lv_has ls 7 [(0, .ref b), (1, .ref (ad 0)), (2, .ref y), (3, .ref zo), (4, .int (nI (4 * j)))] := by rw [← hYz.1]; exact hl
        exact hend ad gy T fm mk F n wd dpt lst w ru rl (va_up ne c0 0) Lo (va_up yi 1 0) ysb ybs (va_up (va_up yA 6 (upd (yA 6) c0 (vp_nar .boolean 0))) 8 (upd (yA 8) c0 0)) yW (vp_updL zf 0 (Int32.toInt64 rvu2)) _ _ ls hIz hYz hP hD hS hl
      · have b62 := h7
        refine lv_lconst (v := 1) hx hb dL_law_465 (by decide) ?_
        refine lv_goto (tgt := 470) hx hb dL_law_466 rfl ?_
        refine W.lcmp hx hb dL_law_470 ?_
        refine lv_if_eq (tgt := 476) hx hb dL_law_471 rfl (fun _ => ?_) (fun h9 => absurd ((lg_cmp_eq _ _).mpr (pk_uLs.trans ((congrArg Int32.toInt64 (cR.trans ((hik c0 (by omega)).resolve_left (fun q => b62 (hpu4.trans q))))).trans tl_1))) h9)
        refine lv_goto (tgt := 1690) hx hb dL_law_476 rfl ?_
        obtain ⟨yiz, hyiz⟩ : ∃ f9 : Nat → Int32, f9 = va_up yi 1 0 := ⟨_, rfl⟩
        obtain ⟨yAz, hyAz⟩ : ∃ f9 : Nat → Nat → Int32, f9 = va_up (va_up yA 6 (upd (yA 6) c0 (vp_nar .boolean 0))) 8 (upd (yA 8) c0 0) := ⟨_, rfl⟩
        have q6 : yAz 6 = upd (yA 6) c0 0 := by rw [hyAz]; exact (va_up_ne _ _ (by decide)).trans ((va_up_self _ _ _).trans (congrArg (upd (yA 6) c0) (show vp_nar .boolean 0 = 0 by decide)))
        have q8 : yAz 8 = upd (yA 8) c0 0 := by rw [hyAz]; exact va_up_self _ _ _
        have qo : ∀ k, k ≠ 6 → k ≠ 8 → yAz k = yA k := fun k h1 h2 => by rw [hyAz]; exact (va_up_ne _ _ h2).trans (va_up_ne _ _ h1)
        have hCz := CLI.up hCL (Nat.le_refl _) (fun z8 n0 n1 n3 n4 n5 n6 n7 => cF z8 (by omega)) ((cF _ (by omega)).trans hob) ((cF _ (by omega)).trans chtb) (show TGp cT gg7u2 n (yA 4) by obtain ⟨ft9, e1, e2⟩ := hTg; exact ⟨ft9, (cF _ (by omega)).trans e1, e2⟩) ((cF _ (by omega)).trans chpl) ccn (hOut.cg (fun z8 n1 n2 => cF z8 (by omega))) (⟨sa9, (cF _ (by omega)).trans hso⟩)
        have hIz : LWI cT ad gg7u2 tE T fm mk F n wd dpt lst w ru rl (va_up ne c0 0) Lo yiz ysb yAz := lwi_kin hRF hPU (Or.inl rfl) (Or.inl rfl) (fun k hk => by rw [hyiz]; exact va_up_ne _ _ hk) q6 q8 qo hCz
        have hIz := hIz.yg (g2 := gy) (fun z8 hz => fgy z8 (by omega) (by omega) (by omega))
        have hYz : YCL cT ad gy y yr yiz ysb ybs yAz yW F := by
          refine ⟨hYad, hyr, (by rw [hyiz]; exact gy_0), fun k hk => ?_⟩
          have hk2 : k = 0 ∨ (4 ≤ k ∧ k ≤ 9) ∨ (18 ≤ k ∧ k ≤ 46) ∨ k = 48 ∨ k = 49 ∨ (56 ≤ k ∧ k ≤ 59) := hk
          by_cases e6 : k = 6
          · subst e6
            rw [hyAz]; exact gy_1
          by_cases e8 : k = 8
          · subst e8
            rw [hyAz]; exact gy_2
          exact (fgy (5000 + k) (by omega) (by omega) (by omega)).trans ((cF (5000 + k) (by omega)).trans ((hYA k hk).trans (congrArg some (ycl_o (by rw [hyAz]; exact (va_up_ne _ _ e8).trans ((va_up_ne _ _ e6).trans (rfl)))).symm)))
        rw [hyiz] at hIz hYz
        rw [hyAz] at hIz hYz
        refine W.widen (k := 2000 + (j + 1) + 3 * fm + 4 * SM mk 16) (n := 400000 + 6 * (j + 1) + 42 * fm + 69 * SM mk 16) (by show ((2000 + j + 3 * fm + 4 * SM mk 16) + 0) + 0 ≤ 2000 + (j + 1) + 3 * fm + 4 * SM mk 16; omega) (by show ((400000 + 6 * j + 42 * fm + 69 * SM mk 16) + 0) + 0 ≤ 400000 + 6 * (j + 1) + 42 * fm + 69 * SM mk 16; omega) ?_
        have hl := lv_sub hl [2, 3, 4, 5, 6] rfl
        have hl : lv_has ls 7 [(0, .ref b), (1, .ref (ad 0)), (2, .ref y), (3, .ref zo), (4, .int (nI (4 * j)))] := by rw [← hYz.1]; exact hl
        exact hend ad gy T fm mk F n wd dpt lst w ru rl (va_up ne c0 0) Lo (va_up yi 1 0) ysb ybs (va_up (va_up yA 6 (upd (yA 6) c0 (vp_nar .boolean 0))) 8 (upd (yA 8) c0 0)) yW (vp_updL zf 0 (Int32.toInt64 rvu2)) _ _ ls hIz hYz hP hD hS hl
    · refine lv_aload_n hx hb dL_law_388 rfl (lv_at hl 1 rfl) ?_
      refine lv_aload_n hx hb dL_law_389 rfl (lv_at hl 0 rfl) ?_
      refine lv_iload hx hb dL_law_390 (lv_at hl 4 rfl) ?_
      refine lv_iconst (v := 1) hx hb dL_law_392 (by decide) ?_
      refine lv_iadd hx hb dL_law_393 ?_
      refine lv_topi (fun y9 e9 => ?_)
      cases (show y9 = nI ((4 * j) + 1) from e9.trans (nI_add (4 * j) 1))
      refine va_sld hx hb hX hbl hbA hS (vp_in_nI (n := 4 * j + 1) (N := L) (by omega) (by omega)) dL_law_394 ?_
      refine lv_topi (fun y9 e9 => ?_)
      cases (show y9 = a1 from e9.trans (by rw [nI_clamp (by omega)]; exact ha1.symm))
      refine lv_aload_n hx hb dL_law_395 rfl (lv_at hl 0 rfl) ?_
      refine lv_iload hx hb dL_law_396 (lv_at hl 4 rfl) ?_
      refine lv_iconst (v := 2) hx hb dL_law_398 (by decide) ?_
      refine lv_iadd hx hb dL_law_399 ?_
      refine lv_topi (fun y9 e9 => ?_)
      cases (show y9 = nI ((4 * j) + 2) from e9.trans (nI_add (4 * j) 2))
      refine va_sld hx hb hX hbl hbA hS (vp_in_nI (n := 4 * j + 2) (N := L) (by omega) (by omega)) dL_law_400 ?_
      refine lv_topi (fun y9 e9 => ?_)
      cases (show y9 = a2 from e9.trans (by rw [nI_clamp (by omega)]; exact ha2.symm))
      refine lv_if_eq (tgt := 408) hx hb dL_law_401 rfl (fun _ => ?_) (fun h10 => absurd hz2 h10)
      refine lv_iconst (v := 0) hx hb dL_law_408 (by decide) ?_
      refine lv_aload_n hx hb dL_law_409 rfl (lv_at hl 3 rfl) ?_
      refine hy_iP (X := [(zo, .inl (cT 1, 1, .inr (.inl zf)))]) (pl := pg cds ad gg) (cx := [(zo, .inl (cT 1, 1, .inr (.inl zf)))]) (wr := []) hP hD hS hA [0] [] rfl rfl (by decide) (by decide) (tx_runSH (As := [.ref (ad 0), .int a1, .int 0, .ref zo]) (rest := []) ⟨hx, hb, hml, hown, hT⟩ (l_kinds_no1 l D cT cds ad gg (nI T) (nI wd) (nI n) a1 0 zo zf hlt hcd hob chtb hq _) hT (tc_gd w644 w645 w0 (tb_gd w646)) rfl rfl rfl hL_kinds ⟨Nat.le_of_ble_eq_true rfl, Nat.le_of_ble_eq_true rfl⟩ (RW.preS hZ hS (va_freeP (cx := [(zo, .inl (cT 1, 1, .inr (.inl zf)))]) hD hS hA [0] rfl) (hP.part (cx := [(zo, .inl (cT 1, 1, .inr (.inl zf)))]) [0] rfl) hK (hD.part (cx := [(zo, .inl (cT 1, 1, .inr (.inl zf)))]) [0] (by decide) rfl)) rfl hl.1 rfl (Nat.le_of_ble_eq_true rfl) dL_law_410 ⟨(by show (2000 + j + 3 * fm + 4 * SM mk 16) + 1 ≤ 601024; omega), (by show (400000 + 6 * j + 42 * fm + 69 * SM mk 16) + 6 ≤ 7293034; omega)⟩) (fun ru11 u9 H locs hpu11 hP hD hS => ?_)
      have hpu11 : ru11 = 1 := hpu11
      have hP : va_P D vwCl ([(zo, .inl (cT 1, 1, .inr (.inl zf)))] ++ pg cds ad gg) _ := hP
      have hD : va_D A ([(zo, .inl (cT 1, 1, .inr (.inl zf)))] ++ pg cds ad gg) := hD
      refine lv_topi (fun y9 e9 => ?_)
      cases (show y9 = 1 from e9.trans hpu11)
      refine lv_istore hx hb dL_law_413 hl (by decide) rfl (fun ls hl => ?_)
      have hl : lv_has ls 7 [(5, .int 1), (0, .ref b), (1, .ref (ad 0)), (2, .ref (ad 5060)), (3, .ref zo), (4, .int (nI (4 * j)))] := hl
      refine lv_aload_n hx hb dL_law_415 rfl (lv_at hl 3 rfl) ?_
      refine lv_aload_n hx hb dL_law_416 rfl (lv_at hl 1 rfl) ?_
      refine lv_iload hx hb dL_law_417 (lv_at hl 5 rfl) ?_
      refine lv_iconst (v := 1) hx hb dL_law_419 (by decide) ?_
      refine lv_iadd hx hb dL_law_420 ?_
      refine lv_topi (fun y9 e9 => ?_)
      cases (show y9 = nI ((4 * j) + 1) from e9.trans (nI_add (4 * j) 1))
      refine va_sld hx hb hX hbl hbA hS (vp_in_nI (n := 4 * j + 1) (N := L) (by omega) (by omega)) dL_law_421 ?_
      refine lv_topi (fun y9 e9 => ?_)
      cases (show y9 = a1 from e9.trans (by rw [nI_clamp (by omega)]; exact ha1.symm))
      refine lv_aload_n hx hb dL_law_422 rfl (lv_at hl 1 rfl) ?_
      refine lv_iload hx hb dL_law_423 (lv_at hl 5 rfl) ?_
      refine lv_iconst (v := 2) hx hb dL_law_425 (by decide) ?_
      refine lv_iadd hx hb dL_law_426 ?_
      refine lv_topi (fun y9 e9 => ?_)
      cases (show y9 = nI ((4 * j) + 2) from e9.trans (nI_add (4 * j) 2))
      refine va_sld hx hb hX hbl hbA hS (vp_in_nI (n := 4 * j + 2) (N := L) (by omega) (by omega)) dL_law_427 ?_
      refine lv_topi (fun y9 e9 => ?_)
      cases (show y9 = a2 from e9.trans (by rw [nI_clamp (by omega)]; exact ha2.symm))
      refine lv_if_eq (tgt := 435) hx hb dL_law_428 rfl (fun _ => ?_) (fun h12 => absurd hz2 h12)
      refine lv_iconst (v := 0) hx hb dL_law_435 (by decide) ?_
      have hB9 : QI gg [(5060, .inr (11, MO yr yi ysb ybs))] := (qi_c (by decide) hYy qi_0)
      have hN9 := (show NDc [5060] from (nd_c na_0 nd_0))
      have hP := bo_P (wc := [(5060, .inr (11, MO yr yi ysb ybs))]) (X := [(zo, .inl (cT 1, 1, .inr (.inl zf)))]) hcd hN9 hB9 hP
      have hD := bo_D (wc := [(5060, .inr (11, MO yr yi ysb ybs))]) (X := [(zo, .inl (cT 1, 1, .inr (.inl zf)))]) hcd hN9 hB9 hD
      have hP : va_P D vwCl ([(zo, .inl (cT 1, 1, .inr (.inl zf))), (ad 5060, .inr (11, MO yr yi ysb ybs))] ++ pg cds ad (upo gg [5060])) _ := hP
      have hD : va_D A ([(zo, .inl (cT 1, 1, .inr (.inl zf))), (ad 5060, .inr (11, MO yr yi ysb ybs))] ++ pg cds ad (upo gg [5060])) := hD
      refine hy_iQ (X := [(zo, .inl (cT 1, 1, .inr (.inl zf))), (ad 5060, .inr (11, MO yr yi ysb ybs))]) (pl := pg cds ad (upo gg [5060])) (cx := [(ad 5060, .inr (11, MO yr yi ysb ybs))]) (wr := [(zo, .inl (cT 1, 1, .inr (.inl zf)))]) hP hD hS hA [1] [0] rfl rfl (by decide) (by decide) (va_runV (As := [.int a1, .int 0]) (rest := []) ⟨hx, hb, hml, hown, hT⟩ (y_kinds_no1 l D cT (ad 5060) yr yi ysb ybs a1 0 (by rw [y2]; exact hq) _) ⟨callB_of 2 hT (tb_gd w1334) rfl rfl rfl (hT _ w13) (hT _ w1331) hM_kinds ⟨Nat.le_of_ble_eq_true rfl, Nat.le_of_ble_eq_true rfl⟩, (hT _ w1332), (hT _ w1333)⟩ (RW.preV (ci := 11) (q0 := 0) hZ hS (hy_free (cx := [(ad 5060, .inr (11, MO yr yi ysb ybs))]) hD hS hA [1] rfl) (hP.sub (ws' := [(ad 5060, .inr (11, MO yr yi ysb ybs))]) [1] rfl) hK (hD.sub (ws' := [(ad 5060, .inr (11, MO yr yi ysb ybs))]) [1] (by decide) rfl) rfl rfl) rfl rfl hl.1 rfl (lv_room (Nat.le_of_ble_eq_true rfl)) dL_law_436 ⟨(by show ((2000 + j + 3 * fm + 4 * SM mk 16) + 1) + 0 ≤ 601024; omega), (by show ((400000 + 6 * j + 42 * fm + 69 * SM mk 16) + 6) + 0 ≤ 7293034; omega)⟩) (fun ru13 u9 H locs hpu13 hP hD hS => ?_)
      have hpu13 : ru13 = 0 := hpu13
      have hP : va_P D vwCl ([(zo, .inl (cT 1, 1, .inr (.inl zf))), (ad 5060, .inr (11, MO yr (va_up yi 1 1) ysb ybs))] ++ pg cds ad (upo gg [5060])) _ := hP
      have hD : va_D A ([(zo, .inl (cT 1, 1, .inr (.inl zf))), (ad 5060, .inr (11, MO yr (va_up yi 1 1) ysb ybs))] ++ pg cds ad (upo gg [5060])) := hD
      refine lv_topi (fun y9 e9 => ?_)
      cases (show y9 = 0 from e9.trans hpu13)
      have hN9 := (show NDc [5060] from (nd_c na_0 nd_0))
      have hP := gb_P (w9 := [(5060, .inr (11, MO yr (va_up yi 1 1) ysb ybs))]) (X := [(zo, .inl (cT 1, 1, .inr (.inl zf)))]) (g := gg) hcd hN9 (show QB [(5060, .inr (11, MO yr (va_up yi 1 1) ysb ybs))] from (qb_c (by decide) qb_0)) (hP.part (cx := [(zo, .inl (cT 1, 1, .inr (.inl zf))), (ad 5060, .inr (11, MO yr (va_up yi 1 1) ysb ybs))]) [0, 1] rfl)
      have hD := gb_D (w9 := [(5060, .inr (11, MO yr (va_up yi 1 1) ysb ybs))]) (X := [(zo, .inl (cT 1, 1, .inr (.inl zf)))]) (g := gg) hcd hN9 (show QB [(5060, .inr (11, MO yr (va_up yi 1 1) ysb ybs))] from (qb_c (by decide) qb_0)) (hD.part (cx := [(zo, .inl (cT 1, 1, .inr (.inl zf))), (ad 5060, .inr (11, MO yr (va_up yi 1 1) ysb ybs))]) [0, 1] (by decide) rfl)
      obtain ⟨gy, hgy⟩ : ∃ q9, q9 = ups gg [(5060, .inr (11, MO yr (va_up yi 1 1) ysb ybs))] := ⟨_, rfl⟩
      rw [← hgy] at hP hD
      have hP : va_P D vwCl ([(zo, .inl (cT 1, 1, .inr (.inl zf)))] ++ pg cds ad gy) _ := hP
      have hD : va_D A ([(zo, .inl (cT 1, 1, .inr (.inl zf)))] ++ pg cds ad gy) := hD
      have fgy : ∀ z8, z8 ≠ 5060 → gy z8 = gg z8 := fun z8 z1 => by rw [hgy]; exact ups_k (kp_n z1 kp_0)
      have gy_0 : gy 5060 = some (.inr (11, MO yr (va_up yi 1 1) ysb ybs)) := by rw [hgy]; exact ups_1
      refine lv_istore hx hb dL_law_439 hl (by decide) rfl (fun ls hl => ?_)
      have hl : lv_has ls 7 [(6, .int 0), (5, .int 1), (0, .ref b), (1, .ref (ad 0)), (2, .ref (ad 5060)), (3, .ref zo), (4, .int (nI (4 * j)))] := hl
      refine lv_aload_n hx hb dL_law_441 rfl (lv_at hl 4 rfl) ?_
      refine ro_i (va_Run.run (va_runV (As := []) (rest := []) ⟨hx, hb, hml, hown, hT⟩ (m_thrown l D cT (ad 5060) yr (va_up yi 1 1) ysb ybs) ⟨callB_of 0 hT (tb_gd w1290) rfl rfl rfl (hT _ w13) (hT _ w1287) hM_thrown ⟨Nat.le_of_ble_eq_true rfl, Nat.le_of_ble_eq_true rfl⟩, (hT _ w1288), (hT _ w1289)⟩ (RO.preV (ci := 11) (q0 := 0) hZ hS ((show va_P D vwCl [(ad 5060, .inr (11, MO yr (va_up yi 1 1) ysb ybs))] _ from (pv_c (pg_1 (x := 5060) hcd hP (by decide) gy_0) pv_0))) hK rfl rfl) rfl rfl hl.1 rfl (lv_room (Nat.le_of_ble_eq_true rfl)) dL_law_442 ⟨(by show (((2000 + j + 3 * fm + 4 * SM mk 16) + 1) + 0) + 0 ≤ 601024; omega), (by show (((400000 + 6 * j + 42 * fm + 69 * SM mk 16) + 6) + 0) + 0 ≤ 7293034; omega)⟩)) ?_
      refine lv_topi (fun y9 e9 => ?_)
      cases (show y9 = 1 from e9.trans rfl)
      refine lv_iload hx hb dL_law_445 (lv_at hl 1 rfl) ?_
      refine lv_icmp_eq (tgt := 452) hx hb dL_law_447 rfl (fun _ => ?_) (fun h14 => absurd (by decide) h14)
      refine lv_iload hx hb dL_law_452 (lv_at hl 1 rfl) ?_
      refine lv_if_ne (tgt := 476) hx hb dL_law_454 rfl (fun _ => ?_) (fun h15 => absurd h15 (by decide))
      refine lv_goto (tgt := 1690) hx hb dL_law_476 rfl ?_
      obtain ⟨yiz, hyiz⟩ : ∃ f9 : Nat → Int32, f9 = va_up yi 1 1 := ⟨_, rfl⟩
      have hIz : LWI cT ad gg tE T fm mk F n wd dpt lst w ru rl ne Lo yiz ysb yA := hI.sc (fun k hk => by rw [hyiz]; exact va_up_ne _ _ hk) (fun _ _ => rfl)
      have hIz := hIz.yg (g2 := gy) (fun z8 hz => fgy z8 (by omega))
      have hYz : YCL cT ad gy y yr yiz ysb ybs yA yW F := by
        refine ⟨hYad, hyr, (by rw [hyiz]; exact gy_0), fun k hk => ?_⟩
        have hk2 : k = 0 ∨ (4 ≤ k ∧ k ≤ 9) ∨ (18 ≤ k ∧ k ≤ 46) ∨ k = 48 ∨ k = 49 ∨ (56 ≤ k ∧ k ≤ 59) := hk
        exact (fgy (5000 + k) (by omega)).trans ((hYA k hk).trans (congrArg some (ycl_o rfl).symm))
      rw [hyiz] at hIz hYz
      refine W.widen (k := 2000 + (j + 1) + 3 * fm + 4 * SM mk 16) (n := 400000 + 6 * (j + 1) + 42 * fm + 69 * SM mk 16) (by show ((2000 + j + 3 * fm + 4 * SM mk 16) + 1) + 0 ≤ 2000 + (j + 1) + 3 * fm + 4 * SM mk 16; omega) (by show ((400000 + 6 * j + 42 * fm + 69 * SM mk 16) + 6) + 0 ≤ 400000 + 6 * (j + 1) + 42 * fm + 69 * SM mk 16; omega) ?_
      have hl := lv_sub hl [2, 3, 4, 5, 6] rfl
      have hl : lv_has ls 7 [(0, .ref b), (1, .ref (ad 0)), (2, .ref y), (3, .ref zo), (4, .int (nI (4 * j)))] := by rw [← hYz.1]; exact hl
      exact hend ad gy T fm mk F n wd dpt lst w ru rl ne Lo (va_up yi 1 1) ysb ybs yA yW zf _ _ ls hIz hYz hP hD hS hl
  · by_cases hq : 0 ≤ a1 ∧ a1 ≤ nI wd - 1
    · obtain ⟨c0, hc8, rfl⟩ := i_nat (n := wd) (by omega) hq
      by_cases hKA : KAL (yA 5) c0 n
      · refine lv_aload_n hx hb dL_law_388 rfl (lv_at hl 1 rfl) ?_
        refine lv_aload_n hx hb dL_law_389 rfl (lv_at hl 0 rfl) ?_
        refine lv_iload hx hb dL_law_390 (lv_at hl 4 rfl) ?_
        refine lv_iconst (v := 1) hx hb dL_law_392 (by decide) ?_
        refine lv_iadd hx hb dL_law_393 ?_
        refine lv_topi (fun y9 e9 => ?_)
        cases (show y9 = nI ((4 * j) + 1) from e9.trans (nI_add (4 * j) 1))
        refine va_sld hx hb hX hbl hbA hS (vp_in_nI (n := 4 * j + 1) (N := L) (by omega) (by omega)) dL_law_394 ?_
        refine lv_topi (fun y9 e9 => ?_)
        cases (show y9 = nI c0 from e9.trans (by rw [nI_clamp (by omega)]; exact ha1.symm))
        refine lv_aload_n hx hb dL_law_395 rfl (lv_at hl 0 rfl) ?_
        refine lv_iload hx hb dL_law_396 (lv_at hl 4 rfl) ?_
        refine lv_iconst (v := 2) hx hb dL_law_398 (by decide) ?_
        refine lv_iadd hx hb dL_law_399 ?_
        refine lv_topi (fun y9 e9 => ?_)
        cases (show y9 = nI ((4 * j) + 2) from e9.trans (nI_add (4 * j) 2))
        refine va_sld hx hb hX hbl hbA hS (vp_in_nI (n := 4 * j + 2) (N := L) (by omega) (by omega)) dL_law_400 ?_
        refine lv_topi (fun y9 e9 => ?_)
        cases (show y9 = a2 from e9.trans (by rw [nI_clamp (by omega)]; exact ha2.symm))
        refine lv_if_eq (tgt := 408) hx hb dL_law_401 rfl (fun h16 => absurd h16 hz2) (fun _ => ?_)
        refine lv_iconst (v := 1) hx hb dL_law_404 (by decide) ?_
        refine lv_goto (tgt := 409) hx hb dL_law_405 rfl ?_
        refine lv_aload_n hx hb dL_law_409 rfl (lv_at hl 3 rfl) ?_
        refine hy_iP (X := [(zo, .inl (cT 1, 1, .inr (.inl zf)))]) (pl := pg cds ad gg) (cx := [(zo, .inl (cT 1, 1, .inr (.inl zf)))]) (wr := []) hP hD hS hA [0] [] rfl rfl (by decide) (by decide) (tx_runSH (As := [.ref (ad 0), .int (nI c0), .int 1, .ref zo]) (rest := []) ⟨hx, hb, hml, hown, hT⟩ (l_kinds l D cT cds ad gg (nI T) (nI wd) (nI n) n (yA 5) (yA 9) (yA 7) (yA 6) ne c0 1 zo zf hcd hob chtb rfl hn48 chCa chCf hq (by omega) (Or.inr rfl) hne hik (Or.inr ((kaB_kal (fun _ _ => rfl)).mpr hKA)) _) hT (tc_gd w644 w645 w0 (tb_gd w646)) rfl rfl rfl hL_kinds ⟨Nat.le_of_ble_eq_true rfl, Nat.le_of_ble_eq_true rfl⟩ (RW.preS hZ hS (va_freeP (cx := [(zo, .inl (cT 1, 1, .inr (.inl zf)))]) hD hS hA [0] rfl) (hP.part (cx := [(zo, .inl (cT 1, 1, .inr (.inl zf)))]) [0] rfl) hK (hD.part (cx := [(zo, .inl (cT 1, 1, .inr (.inl zf)))]) [0] (by decide) rfl)) rfl hl.1 rfl (Nat.le_of_ble_eq_true rfl) dL_law_410 ⟨(by show (2000 + j + 3 * fm + 4 * SM mk 16) + 0 ≤ 601024; omega), (by show (400000 + 6 * j + 42 * fm + 69 * SM mk 16) + 0 ≤ 7293034; omega)⟩) (fun ru17 u9 H locs hpu17 hP hD hS => ?_)
        obtain ⟨gg7u17, rvu17⟩ := u9
        have hpu17 : ru17 = 0 ∧ rvu17 = (yA 6) c0 ∧ (∀ z8, (z8 < 10 ∨ 40 ≤ z8) → gg7u17 z8 = gg z8) ∧ COLF cT ad gg7u17 n (yA 5) (yA 9) (yA 7) (upd (yA 6) c0 1) (va_up ne c0 0) := hpu17
        have hP : va_P D vwCl ([(zo, .inl (cT 1, 1, .inr (.inl (vp_updL zf 0 (Int32.toInt64 rvu17)))))] ++ pg cds ad gg7u17) _ := hP
        have hD : va_D A ([(zo, .inl (cT 1, 1, .inr (.inl (vp_updL zf 0 (Int32.toInt64 rvu17)))))] ++ pg cds ad gg7u17) := hD
        refine lv_topi (fun y9 e9 => ?_)
        cases (show y9 = 0 from e9.trans hpu17.1)
        obtain ⟨_, cR, cF, ccn⟩ := hpu17
        refine lv_istore hx hb dL_law_413 hl (by decide) rfl (fun ls hl => ?_)
        have hl : lv_has ls 7 [(5, .int 0), (0, .ref b), (1, .ref (ad 0)), (2, .ref (ad 5060)), (3, .ref zo), (4, .int (nI (4 * j)))] := hl
        refine lv_aload_n hx hb dL_law_415 rfl (lv_at hl 3 rfl) ?_
        refine lv_aload_n hx hb dL_law_416 rfl (lv_at hl 1 rfl) ?_
        refine lv_iload hx hb dL_law_417 (lv_at hl 5 rfl) ?_
        refine lv_iconst (v := 1) hx hb dL_law_419 (by decide) ?_
        refine lv_iadd hx hb dL_law_420 ?_
        refine lv_topi (fun y9 e9 => ?_)
        cases (show y9 = nI ((4 * j) + 1) from e9.trans (nI_add (4 * j) 1))
        refine va_sld hx hb hX hbl hbA hS (vp_in_nI (n := 4 * j + 1) (N := L) (by omega) (by omega)) dL_law_421 ?_
        refine lv_topi (fun y9 e9 => ?_)
        cases (show y9 = nI c0 from e9.trans (by rw [nI_clamp (by omega)]; exact ha1.symm))
        refine lv_aload_n hx hb dL_law_422 rfl (lv_at hl 1 rfl) ?_
        refine lv_iload hx hb dL_law_423 (lv_at hl 5 rfl) ?_
        refine lv_iconst (v := 2) hx hb dL_law_425 (by decide) ?_
        refine lv_iadd hx hb dL_law_426 ?_
        refine lv_topi (fun y9 e9 => ?_)
        cases (show y9 = nI ((4 * j) + 2) from e9.trans (nI_add (4 * j) 2))
        refine va_sld hx hb hX hbl hbA hS (vp_in_nI (n := 4 * j + 2) (N := L) (by omega) (by omega)) dL_law_427 ?_
        refine lv_topi (fun y9 e9 => ?_)
        cases (show y9 = a2 from e9.trans (by rw [nI_clamp (by omega)]; exact ha2.symm))
        refine lv_if_eq (tgt := 435) hx hb dL_law_428 rfl (fun h18 => absurd h18 hz2) (fun _ => ?_)
        refine lv_iconst (v := 1) hx hb dL_law_431 (by decide) ?_
        refine lv_goto (tgt := 436) hx hb dL_law_432 rfl ?_
        have hB9 : QI gg7u17 [(5060, .inr (11, MO yr yi ysb ybs)), (5006, .inl (cT 3, 6, .inl (yA 6))), (5008, .inl (cT 0, 6, .inl (yA 8))), (5005, .inl (cT 0, 288, .inl (yA 5)))] := (qi_c (by decide) ((cF 5060 (by omega)).trans hYy) (qi_c (by decide) ((cF 5006 (by omega)).trans (hYA 6 (by unfold YKy; omega))) (qi_c (by decide) ((cF 5008 (by omega)).trans (hYA 8 (by unfold YKy; omega))) (qi_c (by decide) ((cF 5005 (by omega)).trans (hYA 5 (by unfold YKy; omega))) qi_0))))
        have hN9 := (show NDc [5060, 5006, 5008, 5005] from (nd_c (na_c (by decide) (na_c (by decide) (na_c (by decide) na_0))) (nd_c (na_c (by decide) (na_c (by decide) na_0)) (nd_c (na_c (by decide) na_0) (nd_c na_0 nd_0)))))
        have hP := bo_P (wc := [(5060, .inr (11, MO yr yi ysb ybs)), (5006, .inl (cT 3, 6, .inl (yA 6))), (5008, .inl (cT 0, 6, .inl (yA 8))), (5005, .inl (cT 0, 288, .inl (yA 5)))]) (X := [(zo, .inl (cT 1, 1, .inr (.inl (vp_updL zf 0 (Int32.toInt64 rvu17)))))]) hcd hN9 hB9 hP
        have hD := bo_D (wc := [(5060, .inr (11, MO yr yi ysb ybs)), (5006, .inl (cT 3, 6, .inl (yA 6))), (5008, .inl (cT 0, 6, .inl (yA 8))), (5005, .inl (cT 0, 288, .inl (yA 5)))]) (X := [(zo, .inl (cT 1, 1, .inr (.inl (vp_updL zf 0 (Int32.toInt64 rvu17)))))]) hcd hN9 hB9 hD
        have hP : va_P D vwCl ([(zo, .inl (cT 1, 1, .inr (.inl (vp_updL zf 0 (Int32.toInt64 rvu17))))), (ad 5060, .inr (11, MO yr yi ysb ybs)), (ad 5006, .inl (cT 3, 6, .inl (yA 6))), (ad 5008, .inl (cT 0, 6, .inl (yA 8))), (ad 5005, .inl (cT 0, 288, .inl (yA 5)))] ++ pg cds ad (upo gg7u17 [5060, 5006, 5008, 5005])) _ := hP
        have hD : va_D A ([(zo, .inl (cT 1, 1, .inr (.inl (vp_updL zf 0 (Int32.toInt64 rvu17))))), (ad 5060, .inr (11, MO yr yi ysb ybs)), (ad 5006, .inl (cT 3, 6, .inl (yA 6))), (ad 5008, .inl (cT 0, 6, .inl (yA 8))), (ad 5005, .inl (cT 0, 288, .inl (yA 5)))] ++ pg cds ad (upo gg7u17 [5060, 5006, 5008, 5005])) := hD
        have hw9 : ([(zo, .inl (cT 1, 1, .inr (.inl (vp_updL zf 0 (Int32.toInt64 rvu17))))), (ad 5060, .inr (11, MO yr yi ysb ybs)), (yr 6, .inl (cT 3, 6, .inl (yA 6))), (yr 8, .inl (cT 0, 6, .inl (yA 8))), (yr 5, .inl (cT 0, 288, .inl (yA 5)))] ++ pg cds ad (upo gg7u17 [5060, 5006, 5008, 5005])) = ([(zo, .inl (cT 1, 1, .inr (.inl (vp_updL zf 0 (Int32.toInt64 rvu17))))), (ad 5060, .inr (11, MO yr yi ysb ybs)), (ad 5006, .inl (cT 3, 6, .inl (yA 6))), (ad 5008, .inl (cT 0, 6, .inl (yA 8))), (ad 5005, .inl (cT 0, 288, .inl (yA 5)))] ++ pg cds ad (upo gg7u17 [5060, 5006, 5008, 5005])) := by rw [show yr 6 = ad 5006 from (hyr 6 (by unfold YKy; omega)).symm, show yr 8 = ad 5008 from (hyr 8 (by unfold YKy; omega)).symm, show yr 5 = ad 5005 from (hyr 5 (by unfold YKy; omega)).symm]
        have hP := vP_eq hw9 hP
        have hD := vD_eq hw9 hD
        have hP : va_P D vwCl ([(zo, .inl (cT 1, 1, .inr (.inl (vp_updL zf 0 (Int32.toInt64 rvu17))))), (ad 5060, .inr (11, MO yr yi ysb ybs)), (yr 6, .inl (cT 3, 6, .inl (yA 6))), (yr 8, .inl (cT 0, 6, .inl (yA 8))), (yr 5, .inl (cT 0, 288, .inl (yA 5)))] ++ pg cds ad (upo gg7u17 [5060, 5006, 5008, 5005])) _ := hP
        have hD : va_D A ([(zo, .inl (cT 1, 1, .inr (.inl (vp_updL zf 0 (Int32.toInt64 rvu17))))), (ad 5060, .inr (11, MO yr yi ysb ybs)), (yr 6, .inl (cT 3, 6, .inl (yA 6))), (yr 8, .inl (cT 0, 6, .inl (yA 8))), (yr 5, .inl (cT 0, 288, .inl (yA 5)))] ++ pg cds ad (upo gg7u17 [5060, 5006, 5008, 5005])) := hD
        refine hy_iQ (X := [(zo, .inl (cT 1, 1, .inr (.inl (vp_updL zf 0 (Int32.toInt64 rvu17))))), (ad 5060, .inr (11, MO yr yi ysb ybs)), (yr 6, .inl (cT 3, 6, .inl (yA 6))), (yr 8, .inl (cT 0, 6, .inl (yA 8))), (yr 5, .inl (cT 0, 288, .inl (yA 5)))]) (pl := pg cds ad (upo gg7u17 [5060, 5006, 5008, 5005])) (cx := [(ad 5060, .inr (11, MO yr yi ysb ybs)), (yr 6, .inl (cT 3, 6, .inl (yA 6))), (yr 8, .inl (cT 0, 6, .inl (yA 8))), (yr 5, .inl (cT 0, 288, .inl (yA 5)))]) (wr := [(zo, .inl (cT 1, 1, .inr (.inl (vp_updL zf 0 (Int32.toInt64 rvu17)))))]) hP hD hS hA [1, 2, 3, 4] [0] rfl rfl (by decide) (by decide) (va_runV (As := [.int (nI c0), .int 1]) (rest := []) ⟨hx, hb, hml, hown, hT⟩ (y_kinds_ok l D cT (ad 5060) yr yi ysb ybs (yA 6) (yA 8) (yA 5) c0 1 n y3 hn48 (by rw [y2]; exact hq) (by omega) (hik c0 (by omega)) (Or.inr hKA) _) ⟨callB_of 2 hT (tb_gd w1334) rfl rfl rfl (hT _ w13) (hT _ w1331) hM_kinds ⟨Nat.le_of_ble_eq_true rfl, Nat.le_of_ble_eq_true rfl⟩, (hT _ w1332), (hT _ w1333)⟩ (RW.preV (ci := 11) (q0 := 0) hZ hS (hy_free (cx := [(ad 5060, .inr (11, MO yr yi ysb ybs)), (yr 6, .inl (cT 3, 6, .inl (yA 6))), (yr 8, .inl (cT 0, 6, .inl (yA 8))), (yr 5, .inl (cT 0, 288, .inl (yA 5)))]) hD hS hA [1, 2, 3, 4] rfl) (hP.sub (ws' := [(ad 5060, .inr (11, MO yr yi ysb ybs)), (yr 6, .inl (cT 3, 6, .inl (yA 6))), (yr 8, .inl (cT 0, 6, .inl (yA 8))), (yr 5, .inl (cT 0, 288, .inl (yA 5)))]) [1, 2, 3, 4] rfl) hK (hD.sub (ws' := [(ad 5060, .inr (11, MO yr yi ysb ybs)), (yr 6, .inl (cT 3, 6, .inl (yA 6))), (yr 8, .inl (cT 0, 6, .inl (yA 8))), (yr 5, .inl (cT 0, 288, .inl (yA 5)))]) [1, 2, 3, 4] (by decide) rfl) rfl rfl) rfl rfl hl.1 rfl (lv_room (Nat.le_of_ble_eq_true rfl)) dL_law_436 ⟨(by show ((2000 + j + 3 * fm + 4 * SM mk 16) + 0) + 0 ≤ 601024; omega), (by show ((400000 + 6 * j + 42 * fm + 69 * SM mk 16) + 0) + 0 ≤ 7293034; omega)⟩) (fun ru19 u9 H locs hpu19 hP hD hS => ?_)
        have hpu19 : ru19 = (yA 6) c0 := hpu19
        have hP : va_P D vwCl ([(zo, .inl (cT 1, 1, .inr (.inl (vp_updL zf 0 (Int32.toInt64 rvu17))))), (ad 5060, .inr (11, MO yr (va_up yi 1 0) ysb ybs)), (yr 6, .inl (cT 3, 6, .inl (upd (yA 6) c0 (vp_nar .boolean 1)))), (yr 8, .inl (cT 0, 6, .inl (upd (yA 8) c0 0))), (yr 5, .inl (cT 0, 288, .inl (yA 5)))] ++ pg cds ad (upo gg7u17 [5060, 5006, 5008, 5005])) _ := hP
        have hD : va_D A ([(zo, .inl (cT 1, 1, .inr (.inl (vp_updL zf 0 (Int32.toInt64 rvu17))))), (ad 5060, .inr (11, MO yr (va_up yi 1 0) ysb ybs)), (yr 6, .inl (cT 3, 6, .inl (upd (yA 6) c0 (vp_nar .boolean 1)))), (yr 8, .inl (cT 0, 6, .inl (upd (yA 8) c0 0))), (yr 5, .inl (cT 0, 288, .inl (yA 5)))] ++ pg cds ad (upo gg7u17 [5060, 5006, 5008, 5005])) := hD
        have hw9 : ([(zo, .inl (cT 1, 1, .inr (.inl (vp_updL zf 0 (Int32.toInt64 rvu17))))), (ad 5060, .inr (11, MO yr (va_up yi 1 0) ysb ybs)), (ad 5006, .inl (cT 3, 6, .inl (upd (yA 6) c0 (vp_nar .boolean 1)))), (ad 5008, .inl (cT 0, 6, .inl (upd (yA 8) c0 0))), (ad 5005, .inl (cT 0, 288, .inl (yA 5)))] ++ pg cds ad (upo gg7u17 [5060, 5006, 5008, 5005])) = ([(zo, .inl (cT 1, 1, .inr (.inl (vp_updL zf 0 (Int32.toInt64 rvu17))))), (ad 5060, .inr (11, MO yr (va_up yi 1 0) ysb ybs)), (yr 6, .inl (cT 3, 6, .inl (upd (yA 6) c0 (vp_nar .boolean 1)))), (yr 8, .inl (cT 0, 6, .inl (upd (yA 8) c0 0))), (yr 5, .inl (cT 0, 288, .inl (yA 5)))] ++ pg cds ad (upo gg7u17 [5060, 5006, 5008, 5005])) := by rw [show ad 5006 = yr 6 from hyr 6 (by unfold YKy; omega), show ad 5008 = yr 8 from hyr 8 (by unfold YKy; omega), show ad 5005 = yr 5 from hyr 5 (by unfold YKy; omega)]
        have hP := vP_eq hw9 hP
        have hD := vD_eq hw9 hD
        have hP : va_P D vwCl ([(zo, .inl (cT 1, 1, .inr (.inl (vp_updL zf 0 (Int32.toInt64 rvu17))))), (ad 5060, .inr (11, MO yr (va_up yi 1 0) ysb ybs)), (ad 5006, .inl (cT 3, 6, .inl (upd (yA 6) c0 (vp_nar .boolean 1)))), (ad 5008, .inl (cT 0, 6, .inl (upd (yA 8) c0 0))), (ad 5005, .inl (cT 0, 288, .inl (yA 5)))] ++ pg cds ad (upo gg7u17 [5060, 5006, 5008, 5005])) _ := hP
        have hD : va_D A ([(zo, .inl (cT 1, 1, .inr (.inl (vp_updL zf 0 (Int32.toInt64 rvu17))))), (ad 5060, .inr (11, MO yr (va_up yi 1 0) ysb ybs)), (ad 5006, .inl (cT 3, 6, .inl (upd (yA 6) c0 (vp_nar .boolean 1)))), (ad 5008, .inl (cT 0, 6, .inl (upd (yA 8) c0 0))), (ad 5005, .inl (cT 0, 288, .inl (yA 5)))] ++ pg cds ad (upo gg7u17 [5060, 5006, 5008, 5005])) := hD
        have hN9 := (show NDc [5060, 5006, 5008, 5005] from (nd_c (na_c (by decide) (na_c (by decide) (na_c (by decide) na_0))) (nd_c (na_c (by decide) (na_c (by decide) na_0)) (nd_c (na_c (by decide) na_0) (nd_c na_0 nd_0)))))
        have hP := gb_P (w9 := [(5060, .inr (11, MO yr (va_up yi 1 0) ysb ybs)), (5006, .inl (cT 3, 6, .inl (upd (yA 6) c0 (vp_nar .boolean 1)))), (5008, .inl (cT 0, 6, .inl (upd (yA 8) c0 0))), (5005, .inl (cT 0, 288, .inl (yA 5)))]) (X := [(zo, .inl (cT 1, 1, .inr (.inl (vp_updL zf 0 (Int32.toInt64 rvu17)))))]) (g := gg7u17) hcd hN9 (show QB [(5060, .inr (11, MO yr (va_up yi 1 0) ysb ybs)), (5006, .inl (cT 3, 6, .inl (upd (yA 6) c0 (vp_nar .boolean 1)))), (5008, .inl (cT 0, 6, .inl (upd (yA 8) c0 0))), (5005, .inl (cT 0, 288, .inl (yA 5)))] from (qb_c (by decide) (qb_c (by decide) (qb_c (by decide) (qb_c (by decide) qb_0))))) (hP.part (cx := [(zo, .inl (cT 1, 1, .inr (.inl (vp_updL zf 0 (Int32.toInt64 rvu17))))), (ad 5060, .inr (11, MO yr (va_up yi 1 0) ysb ybs)), (ad 5006, .inl (cT 3, 6, .inl (upd (yA 6) c0 (vp_nar .boolean 1)))), (ad 5008, .inl (cT 0, 6, .inl (upd (yA 8) c0 0))), (ad 5005, .inl (cT 0, 288, .inl (yA 5)))]) [0, 1, 2, 3, 4] rfl)
        have hD := gb_D (w9 := [(5060, .inr (11, MO yr (va_up yi 1 0) ysb ybs)), (5006, .inl (cT 3, 6, .inl (upd (yA 6) c0 (vp_nar .boolean 1)))), (5008, .inl (cT 0, 6, .inl (upd (yA 8) c0 0))), (5005, .inl (cT 0, 288, .inl (yA 5)))]) (X := [(zo, .inl (cT 1, 1, .inr (.inl (vp_updL zf 0 (Int32.toInt64 rvu17)))))]) (g := gg7u17) hcd hN9 (show QB [(5060, .inr (11, MO yr (va_up yi 1 0) ysb ybs)), (5006, .inl (cT 3, 6, .inl (upd (yA 6) c0 (vp_nar .boolean 1)))), (5008, .inl (cT 0, 6, .inl (upd (yA 8) c0 0))), (5005, .inl (cT 0, 288, .inl (yA 5)))] from (qb_c (by decide) (qb_c (by decide) (qb_c (by decide) (qb_c (by decide) qb_0))))) (hD.part (cx := [(zo, .inl (cT 1, 1, .inr (.inl (vp_updL zf 0 (Int32.toInt64 rvu17))))), (ad 5060, .inr (11, MO yr (va_up yi 1 0) ysb ybs)), (ad 5006, .inl (cT 3, 6, .inl (upd (yA 6) c0 (vp_nar .boolean 1)))), (ad 5008, .inl (cT 0, 6, .inl (upd (yA 8) c0 0))), (ad 5005, .inl (cT 0, 288, .inl (yA 5)))]) [0, 1, 2, 3, 4] (by decide) rfl)
        obtain ⟨gy, hgy⟩ : ∃ q9, q9 = ups gg7u17 [(5060, .inr (11, MO yr (va_up yi 1 0) ysb ybs)), (5006, .inl (cT 3, 6, .inl (upd (yA 6) c0 (vp_nar .boolean 1)))), (5008, .inl (cT 0, 6, .inl (upd (yA 8) c0 0))), (5005, .inl (cT 0, 288, .inl (yA 5)))] := ⟨_, rfl⟩
        rw [← hgy] at hP hD
        have hP : va_P D vwCl ([(zo, .inl (cT 1, 1, .inr (.inl (vp_updL zf 0 (Int32.toInt64 rvu17)))))] ++ pg cds ad gy) _ := hP
        have hD : va_D A ([(zo, .inl (cT 1, 1, .inr (.inl (vp_updL zf 0 (Int32.toInt64 rvu17)))))] ++ pg cds ad gy) := hD
        have fgy : ∀ z8, z8 ≠ 5060 → z8 ≠ 5006 → z8 ≠ 5008 → gy z8 = gg7u17 z8 := fun z8 z1 z2 z3 => by rw [hgy]; exact ups_k (kp_n z1 (kp_n z2 (kp_n z3 (kp_s ((cF 5005 (by omega)).trans (hYA 5 (by unfold YKy; omega))) kp_0))))
        have gy_0 : gy 5060 = some (.inr (11, MO yr (va_up yi 1 0) ysb ybs)) := by rw [hgy]; exact ups_1
        have gy_1 : gy 5006 = some (.inl (cT 3, 6, .inl (upd (yA 6) c0 (vp_nar .boolean 1)))) := by rw [hgy]; exact ups_2 (by decide)
        have gy_2 : gy 5008 = some (.inl (cT 0, 6, .inl (upd (yA 8) c0 0))) := by rw [hgy]; exact ups_3 (by decide) (by decide)
        refine lv_istore hx hb dL_law_439 hl (by decide) rfl (fun ls hl => ?_)
        have hl : lv_has ls 7 [(6, .int ru19), (5, .int 0), (0, .ref b), (1, .ref (ad 0)), (2, .ref (ad 5060)), (3, .ref zo), (4, .int (nI (4 * j)))] := hl
        refine lv_aload_n hx hb dL_law_441 rfl (lv_at hl 4 rfl) ?_
        refine ro_i (va_Run.run (va_runV (As := []) (rest := []) ⟨hx, hb, hml, hown, hT⟩ (m_thrown l D cT (ad 5060) yr (va_up yi 1 0) ysb ybs) ⟨callB_of 0 hT (tb_gd w1290) rfl rfl rfl (hT _ w13) (hT _ w1287) hM_thrown ⟨Nat.le_of_ble_eq_true rfl, Nat.le_of_ble_eq_true rfl⟩, (hT _ w1288), (hT _ w1289)⟩ (RO.preV (ci := 11) (q0 := 0) hZ hS ((show va_P D vwCl [(ad 5060, .inr (11, MO yr (va_up yi 1 0) ysb ybs))] _ from (pv_c (pg_1 (x := 5060) hcd hP (by decide) gy_0) pv_0))) hK rfl rfl) rfl rfl hl.1 rfl (lv_room (Nat.le_of_ble_eq_true rfl)) dL_law_442 ⟨(by show (((2000 + j + 3 * fm + 4 * SM mk 16) + 0) + 0) + 0 ≤ 601024; omega), (by show (((400000 + 6 * j + 42 * fm + 69 * SM mk 16) + 0) + 0) + 0 ≤ 7293034; omega)⟩)) ?_
        refine lv_topi (fun y9 e9 => ?_)
        cases (show y9 = 0 from e9.trans rfl)
        refine lv_iload hx hb dL_law_445 (lv_at hl 1 rfl) ?_
        refine lv_icmp_eq (tgt := 452) hx hb dL_law_447 rfl (fun _ => ?_) (fun h20 => absurd (by decide) h20)
        refine lv_iload hx hb dL_law_452 (lv_at hl 1 rfl) ?_
        refine lv_if_ne (tgt := 476) hx hb dL_law_454 rfl (fun h21 => absurd (by decide) h21) (fun _ => ?_)
        refine lv_aload_n hx hb dL_law_457 rfl (lv_at hl 5 rfl) ?_
        refine lv_iconst (v := 0) hx hb dL_law_458 (by decide) ?_
        refine va_lald hx hb hK hP 0 1 rfl rfl (by unfold vp_in; decide) dL_law_459 ?_
        refine lv_iload hx hb dL_law_460 (lv_at hl 0 rfl) ?_
        refine lv_if_eq (tgt := 469) hx hb dL_law_462 rfl (fun h22 => ?_) (fun h22 => ?_)
        · have b62 := h22
          refine lv_lconst (v := 0) hx hb dL_law_469 (by decide) ?_
          refine W.lcmp hx hb dL_law_470 ?_
          refine lv_if_eq (tgt := 476) hx hb dL_law_471 rfl (fun _ => ?_) (fun h23 => absurd ((lg_cmp_eq _ _).mpr (pk_uLs.trans ((congrArg Int32.toInt64 (cR.trans (hpu19.symm.trans b62))).trans tl_0))) h23)
          refine lv_goto (tgt := 1690) hx hb dL_law_476 rfl ?_
          obtain ⟨yiz, hyiz⟩ : ∃ f9 : Nat → Int32, f9 = va_up yi 1 0 := ⟨_, rfl⟩
          obtain ⟨yAz, hyAz⟩ : ∃ f9 : Nat → Nat → Int32, f9 = va_up (va_up yA 6 (upd (yA 6) c0 (vp_nar .boolean 1))) 8 (upd (yA 8) c0 0) := ⟨_, rfl⟩
          have q6 : yAz 6 = upd (yA 6) c0 1 := by rw [hyAz]; exact (va_up_ne _ _ (by decide)).trans ((va_up_self _ _ _).trans (congrArg (upd (yA 6) c0) (show vp_nar .boolean 1 = 1 by decide)))
          have q8 : yAz 8 = upd (yA 8) c0 0 := by rw [hyAz]; exact va_up_self _ _ _
          have qo : ∀ k, k ≠ 6 → k ≠ 8 → yAz k = yA k := fun k h1 h2 => by rw [hyAz]; exact (va_up_ne _ _ h2).trans (va_up_ne _ _ h1)
          have hCz := CLI.up hCL (Nat.le_refl _) (fun z8 n0 n1 n3 n4 n5 n6 n7 => cF z8 (by omega)) ((cF _ (by omega)).trans hob) ((cF _ (by omega)).trans chtb) (show TGp cT gg7u17 n (yA 4) by obtain ⟨ft9, e1, e2⟩ := hTg; exact ⟨ft9, (cF _ (by omega)).trans e1, e2⟩) ((cF _ (by omega)).trans chpl) ccn (hOut.cg (fun z8 n1 n2 => cF z8 (by omega))) (⟨sa9, (cF _ (by omega)).trans hso⟩)
          have hIz : LWI cT ad gg7u17 tE T fm mk F n wd dpt lst w ru rl (va_up ne c0 0) Lo yiz ysb yAz := lwi_kin hRF hPU (Or.inr rfl) (Or.inr hKA) (fun k hk => by rw [hyiz]; exact va_up_ne _ _ hk) q6 q8 qo hCz
          have hIz := hIz.yg (g2 := gy) (fun z8 hz => fgy z8 (by omega) (by omega) (by omega))
          have hYz : YCL cT ad gy y yr yiz ysb ybs yAz yW F := by
            refine ⟨hYad, hyr, (by rw [hyiz]; exact gy_0), fun k hk => ?_⟩
            have hk2 : k = 0 ∨ (4 ≤ k ∧ k ≤ 9) ∨ (18 ≤ k ∧ k ≤ 46) ∨ k = 48 ∨ k = 49 ∨ (56 ≤ k ∧ k ≤ 59) := hk
            by_cases e6 : k = 6
            · subst e6
              rw [hyAz]; exact gy_1
            by_cases e8 : k = 8
            · subst e8
              rw [hyAz]; exact gy_2
            exact (fgy (5000 + k) (by omega) (by omega) (by omega)).trans ((cF (5000 + k) (by omega)).trans ((hYA k hk).trans (congrArg some (ycl_o (by rw [hyAz]; exact (va_up_ne _ _ e8).trans ((va_up_ne _ _ e6).trans (rfl)))).symm)))
          rw [hyiz] at hIz hYz
          rw [hyAz] at hIz hYz
          refine W.widen (k := 2000 + (j + 1) + 3 * fm + 4 * SM mk 16) (n := 400000 + 6 * (j + 1) + 42 * fm + 69 * SM mk 16) (by show ((2000 + j + 3 * fm + 4 * SM mk 16) + 0) + 0 ≤ 2000 + (j + 1) + 3 * fm + 4 * SM mk 16; omega) (by show ((400000 + 6 * j + 42 * fm + 69 * SM mk 16) + 0) + 0 ≤ 400000 + 6 * (j + 1) + 42 * fm + 69 * SM mk 16; omega) ?_
          have hl := lv_sub hl [2, 3, 4, 5, 6] rfl
          have hl : lv_has ls 7 [(0, .ref b), (1, .ref (ad 0)), (2, .ref y), (3, .ref zo), (4, .int (nI (4 * j)))] := by rw [← hYz.1]; exact hl
          exact hend ad gy T fm mk F n wd dpt lst w ru rl (va_up ne c0 0) Lo (va_up yi 1 0) ysb ybs (va_up (va_up yA 6 (upd (yA 6) c0 (vp_nar .boolean 1))) 8 (upd (yA 8) c0 0)) yW (vp_updL zf 0 (Int32.toInt64 rvu17)) _ _ ls hIz hYz hP hD hS hl
        · have b62 := h22
          refine lv_lconst (v := 1) hx hb dL_law_465 (by decide) ?_
          refine lv_goto (tgt := 470) hx hb dL_law_466 rfl ?_
          refine W.lcmp hx hb dL_law_470 ?_
          refine lv_if_eq (tgt := 476) hx hb dL_law_471 rfl (fun _ => ?_) (fun h24 => absurd ((lg_cmp_eq _ _).mpr (pk_uLs.trans ((congrArg Int32.toInt64 (cR.trans ((hik c0 (by omega)).resolve_left (fun q => b62 (hpu19.trans q))))).trans tl_1))) h24)
          refine lv_goto (tgt := 1690) hx hb dL_law_476 rfl ?_
          obtain ⟨yiz, hyiz⟩ : ∃ f9 : Nat → Int32, f9 = va_up yi 1 0 := ⟨_, rfl⟩
          obtain ⟨yAz, hyAz⟩ : ∃ f9 : Nat → Nat → Int32, f9 = va_up (va_up yA 6 (upd (yA 6) c0 (vp_nar .boolean 1))) 8 (upd (yA 8) c0 0) := ⟨_, rfl⟩
          have q6 : yAz 6 = upd (yA 6) c0 1 := by rw [hyAz]; exact (va_up_ne _ _ (by decide)).trans ((va_up_self _ _ _).trans (congrArg (upd (yA 6) c0) (show vp_nar .boolean 1 = 1 by decide)))
          have q8 : yAz 8 = upd (yA 8) c0 0 := by rw [hyAz]; exact va_up_self _ _ _
          have qo : ∀ k, k ≠ 6 → k ≠ 8 → yAz k = yA k := fun k h1 h2 => by rw [hyAz]; exact (va_up_ne _ _ h2).trans (va_up_ne _ _ h1)
          have hCz := CLI.up hCL (Nat.le_refl _) (fun z8 n0 n1 n3 n4 n5 n6 n7 => cF z8 (by omega)) ((cF _ (by omega)).trans hob) ((cF _ (by omega)).trans chtb) (show TGp cT gg7u17 n (yA 4) by obtain ⟨ft9, e1, e2⟩ := hTg; exact ⟨ft9, (cF _ (by omega)).trans e1, e2⟩) ((cF _ (by omega)).trans chpl) ccn (hOut.cg (fun z8 n1 n2 => cF z8 (by omega))) (⟨sa9, (cF _ (by omega)).trans hso⟩)
          have hIz : LWI cT ad gg7u17 tE T fm mk F n wd dpt lst w ru rl (va_up ne c0 0) Lo yiz ysb yAz := lwi_kin hRF hPU (Or.inr rfl) (Or.inr hKA) (fun k hk => by rw [hyiz]; exact va_up_ne _ _ hk) q6 q8 qo hCz
          have hIz := hIz.yg (g2 := gy) (fun z8 hz => fgy z8 (by omega) (by omega) (by omega))
          have hYz : YCL cT ad gy y yr yiz ysb ybs yAz yW F := by
            refine ⟨hYad, hyr, (by rw [hyiz]; exact gy_0), fun k hk => ?_⟩
            have hk2 : k = 0 ∨ (4 ≤ k ∧ k ≤ 9) ∨ (18 ≤ k ∧ k ≤ 46) ∨ k = 48 ∨ k = 49 ∨ (56 ≤ k ∧ k ≤ 59) := hk
            by_cases e6 : k = 6
            · subst e6
              rw [hyAz]; exact gy_1
            by_cases e8 : k = 8
            · subst e8
              rw [hyAz]; exact gy_2
            exact (fgy (5000 + k) (by omega) (by omega) (by omega)).trans ((cF (5000 + k) (by omega)).trans ((hYA k hk).trans (congrArg some (ycl_o (by rw [hyAz]; exact (va_up_ne _ _ e8).trans ((va_up_ne _ _ e6).trans (rfl)))).symm)))
          rw [hyiz] at hIz hYz
          rw [hyAz] at hIz hYz
          refine W.widen (k := 2000 + (j + 1) + 3 * fm + 4 * SM mk 16) (n := 400000 + 6 * (j + 1) + 42 * fm + 69 * SM mk 16) (by show ((2000 + j + 3 * fm + 4 * SM mk 16) + 0) + 0 ≤ 2000 + (j + 1) + 3 * fm + 4 * SM mk 16; omega) (by show ((400000 + 6 * j + 42 * fm + 69 * SM mk 16) + 0) + 0 ≤ 400000 + 6 * (j + 1) + 42 * fm + 69 * SM mk 16; omega) ?_
          have hl := lv_sub hl [2, 3, 4, 5, 6] rfl
          have hl : lv_has ls 7 [(0, .ref b), (1, .ref (ad 0)), (2, .ref y), (3, .ref zo), (4, .int (nI (4 * j)))] := by rw [← hYz.1]; exact hl
          exact hend ad gy T fm mk F n wd dpt lst w ru rl (va_up ne c0 0) Lo (va_up yi 1 0) ysb ybs (va_up (va_up yA 6 (upd (yA 6) c0 (vp_nar .boolean 1))) 8 (upd (yA 8) c0 0)) yW (vp_updL zf 0 (Int32.toInt64 rvu17)) _ _ ls hIz hYz hP hD hS hl
      · refine lv_aload_n hx hb dL_law_388 rfl (lv_at hl 1 rfl) ?_
        refine lv_aload_n hx hb dL_law_389 rfl (lv_at hl 0 rfl) ?_
        refine lv_iload hx hb dL_law_390 (lv_at hl 4 rfl) ?_
        refine lv_iconst (v := 1) hx hb dL_law_392 (by decide) ?_
        refine lv_iadd hx hb dL_law_393 ?_
        refine lv_topi (fun y9 e9 => ?_)
        cases (show y9 = nI ((4 * j) + 1) from e9.trans (nI_add (4 * j) 1))
        refine va_sld hx hb hX hbl hbA hS (vp_in_nI (n := 4 * j + 1) (N := L) (by omega) (by omega)) dL_law_394 ?_
        refine lv_topi (fun y9 e9 => ?_)
        cases (show y9 = nI c0 from e9.trans (by rw [nI_clamp (by omega)]; exact ha1.symm))
        refine lv_aload_n hx hb dL_law_395 rfl (lv_at hl 0 rfl) ?_
        refine lv_iload hx hb dL_law_396 (lv_at hl 4 rfl) ?_
        refine lv_iconst (v := 2) hx hb dL_law_398 (by decide) ?_
        refine lv_iadd hx hb dL_law_399 ?_
        refine lv_topi (fun y9 e9 => ?_)
        cases (show y9 = nI ((4 * j) + 2) from e9.trans (nI_add (4 * j) 2))
        refine va_sld hx hb hX hbl hbA hS (vp_in_nI (n := 4 * j + 2) (N := L) (by omega) (by omega)) dL_law_400 ?_
        refine lv_topi (fun y9 e9 => ?_)
        cases (show y9 = a2 from e9.trans (by rw [nI_clamp (by omega)]; exact ha2.symm))
        refine lv_if_eq (tgt := 408) hx hb dL_law_401 rfl (fun h25 => absurd h25 hz2) (fun _ => ?_)
        refine lv_iconst (v := 1) hx hb dL_law_404 (by decide) ?_
        refine lv_goto (tgt := 409) hx hb dL_law_405 rfl ?_
        refine lv_aload_n hx hb dL_law_409 rfl (lv_at hl 3 rfl) ?_
        refine hy_iP (X := [(zo, .inl (cT 1, 1, .inr (.inl zf)))]) (pl := pg cds ad gg) (cx := [(zo, .inl (cT 1, 1, .inr (.inl zf)))]) (wr := []) hP hD hS hA [0] [] rfl rfl (by decide) (by decide) (tx_runSH (As := [.ref (ad 0), .int (nI c0), .int 1, .ref zo]) (rest := []) ⟨hx, hb, hml, hown, hT⟩ (l_kinds_no2 l D cT cds ad gg (nI T) (nI wd) (nI n) n (yA 5) (yA 9) (yA 7) (yA 6) ne c0 1 zo zf hlt hcd hob chtb rfl hn48 chCa chCf hq (by omega) (Or.inr rfl) (by decide) (fun q => hKA ((kaB_kal (fun _ _ => rfl)).mp q)) _) hT (tc_gd w644 w645 w0 (tb_gd w646)) rfl rfl rfl hL_kinds ⟨Nat.le_of_ble_eq_true rfl, Nat.le_of_ble_eq_true rfl⟩ (RW.preS hZ hS (va_freeP (cx := [(zo, .inl (cT 1, 1, .inr (.inl zf)))]) hD hS hA [0] rfl) (hP.part (cx := [(zo, .inl (cT 1, 1, .inr (.inl zf)))]) [0] rfl) hK (hD.part (cx := [(zo, .inl (cT 1, 1, .inr (.inl zf)))]) [0] (by decide) rfl)) rfl hl.1 rfl (Nat.le_of_ble_eq_true rfl) dL_law_410 ⟨(by show (2000 + j + 3 * fm + 4 * SM mk 16) + 1 ≤ 601024; omega), (by show (400000 + 6 * j + 42 * fm + 69 * SM mk 16) + 6 ≤ 7293034; omega)⟩) (fun ru26 u9 H locs hpu26 hP hD hS => ?_)
        have hpu26 : ru26 = 2 := hpu26
        have hP : va_P D vwCl ([(zo, .inl (cT 1, 1, .inr (.inl zf)))] ++ pg cds ad gg) _ := hP
        have hD : va_D A ([(zo, .inl (cT 1, 1, .inr (.inl zf)))] ++ pg cds ad gg) := hD
        refine lv_topi (fun y9 e9 => ?_)
        cases (show y9 = 2 from e9.trans hpu26)
        refine lv_istore hx hb dL_law_413 hl (by decide) rfl (fun ls hl => ?_)
        have hl : lv_has ls 7 [(5, .int 2), (0, .ref b), (1, .ref (ad 0)), (2, .ref (ad 5060)), (3, .ref zo), (4, .int (nI (4 * j)))] := hl
        refine lv_aload_n hx hb dL_law_415 rfl (lv_at hl 3 rfl) ?_
        refine lv_aload_n hx hb dL_law_416 rfl (lv_at hl 1 rfl) ?_
        refine lv_iload hx hb dL_law_417 (lv_at hl 5 rfl) ?_
        refine lv_iconst (v := 1) hx hb dL_law_419 (by decide) ?_
        refine lv_iadd hx hb dL_law_420 ?_
        refine lv_topi (fun y9 e9 => ?_)
        cases (show y9 = nI ((4 * j) + 1) from e9.trans (nI_add (4 * j) 1))
        refine va_sld hx hb hX hbl hbA hS (vp_in_nI (n := 4 * j + 1) (N := L) (by omega) (by omega)) dL_law_421 ?_
        refine lv_topi (fun y9 e9 => ?_)
        cases (show y9 = nI c0 from e9.trans (by rw [nI_clamp (by omega)]; exact ha1.symm))
        refine lv_aload_n hx hb dL_law_422 rfl (lv_at hl 1 rfl) ?_
        refine lv_iload hx hb dL_law_423 (lv_at hl 5 rfl) ?_
        refine lv_iconst (v := 2) hx hb dL_law_425 (by decide) ?_
        refine lv_iadd hx hb dL_law_426 ?_
        refine lv_topi (fun y9 e9 => ?_)
        cases (show y9 = nI ((4 * j) + 2) from e9.trans (nI_add (4 * j) 2))
        refine va_sld hx hb hX hbl hbA hS (vp_in_nI (n := 4 * j + 2) (N := L) (by omega) (by omega)) dL_law_427 ?_
        refine lv_topi (fun y9 e9 => ?_)
        cases (show y9 = a2 from e9.trans (by rw [nI_clamp (by omega)]; exact ha2.symm))
        refine lv_if_eq (tgt := 435) hx hb dL_law_428 rfl (fun h27 => absurd h27 hz2) (fun _ => ?_)
        refine lv_iconst (v := 1) hx hb dL_law_431 (by decide) ?_
        refine lv_goto (tgt := 436) hx hb dL_law_432 rfl ?_
        have hB9 : QI gg [(5060, .inr (11, MO yr yi ysb ybs)), (5005, .inl (cT 0, 288, .inl (yA 5)))] := (qi_c (by decide) hYy (qi_c (by decide) (hYA 5 (by unfold YKy; omega)) qi_0))
        have hN9 := (show NDc [5060, 5005] from (nd_c (na_c (by decide) na_0) (nd_c na_0 nd_0)))
        have hP := bo_P (wc := [(5060, .inr (11, MO yr yi ysb ybs)), (5005, .inl (cT 0, 288, .inl (yA 5)))]) (X := [(zo, .inl (cT 1, 1, .inr (.inl zf)))]) hcd hN9 hB9 hP
        have hD := bo_D (wc := [(5060, .inr (11, MO yr yi ysb ybs)), (5005, .inl (cT 0, 288, .inl (yA 5)))]) (X := [(zo, .inl (cT 1, 1, .inr (.inl zf)))]) hcd hN9 hB9 hD
        have hP : va_P D vwCl ([(zo, .inl (cT 1, 1, .inr (.inl zf))), (ad 5060, .inr (11, MO yr yi ysb ybs)), (ad 5005, .inl (cT 0, 288, .inl (yA 5)))] ++ pg cds ad (upo gg [5060, 5005])) _ := hP
        have hD : va_D A ([(zo, .inl (cT 1, 1, .inr (.inl zf))), (ad 5060, .inr (11, MO yr yi ysb ybs)), (ad 5005, .inl (cT 0, 288, .inl (yA 5)))] ++ pg cds ad (upo gg [5060, 5005])) := hD
        have hw9 : ([(zo, .inl (cT 1, 1, .inr (.inl zf))), (ad 5060, .inr (11, MO yr yi ysb ybs)), (yr 5, .inl (cT 0, 288, .inl (yA 5)))] ++ pg cds ad (upo gg [5060, 5005])) = ([(zo, .inl (cT 1, 1, .inr (.inl zf))), (ad 5060, .inr (11, MO yr yi ysb ybs)), (ad 5005, .inl (cT 0, 288, .inl (yA 5)))] ++ pg cds ad (upo gg [5060, 5005])) := by rw [show yr 5 = ad 5005 from (hyr 5 (by unfold YKy; omega)).symm]
        have hP := vP_eq hw9 hP
        have hD := vD_eq hw9 hD
        have hP : va_P D vwCl ([(zo, .inl (cT 1, 1, .inr (.inl zf))), (ad 5060, .inr (11, MO yr yi ysb ybs)), (yr 5, .inl (cT 0, 288, .inl (yA 5)))] ++ pg cds ad (upo gg [5060, 5005])) _ := hP
        have hD : va_D A ([(zo, .inl (cT 1, 1, .inr (.inl zf))), (ad 5060, .inr (11, MO yr yi ysb ybs)), (yr 5, .inl (cT 0, 288, .inl (yA 5)))] ++ pg cds ad (upo gg [5060, 5005])) := hD
        refine hy_iQ (X := [(zo, .inl (cT 1, 1, .inr (.inl zf))), (ad 5060, .inr (11, MO yr yi ysb ybs)), (yr 5, .inl (cT 0, 288, .inl (yA 5)))]) (pl := pg cds ad (upo gg [5060, 5005])) (cx := [(ad 5060, .inr (11, MO yr yi ysb ybs)), (yr 5, .inl (cT 0, 288, .inl (yA 5)))]) (wr := [(zo, .inl (cT 1, 1, .inr (.inl zf)))]) hP hD hS hA [1, 2] [0] rfl rfl (by decide) (by decide) (va_runV (As := [.int (nI c0), .int 1]) (rest := []) ⟨hx, hb, hml, hown, hT⟩ (y_kinds_no2 l D cT (ad 5060) yr yi ysb ybs (yA 5) c0 1 n y3 hn48 (by rw [y2]; exact hq) (by omega) (⟨by decide, hKA⟩) _) ⟨callB_of 2 hT (tb_gd w1334) rfl rfl rfl (hT _ w13) (hT _ w1331) hM_kinds ⟨Nat.le_of_ble_eq_true rfl, Nat.le_of_ble_eq_true rfl⟩, (hT _ w1332), (hT _ w1333)⟩ (RW.preV (ci := 11) (q0 := 0) hZ hS (hy_free (cx := [(ad 5060, .inr (11, MO yr yi ysb ybs)), (yr 5, .inl (cT 0, 288, .inl (yA 5)))]) hD hS hA [1, 2] rfl) (hP.sub (ws' := [(ad 5060, .inr (11, MO yr yi ysb ybs)), (yr 5, .inl (cT 0, 288, .inl (yA 5)))]) [1, 2] rfl) hK (hD.sub (ws' := [(ad 5060, .inr (11, MO yr yi ysb ybs)), (yr 5, .inl (cT 0, 288, .inl (yA 5)))]) [1, 2] (by decide) rfl) rfl rfl) rfl rfl hl.1 rfl (lv_room (Nat.le_of_ble_eq_true rfl)) dL_law_436 ⟨(by show ((2000 + j + 3 * fm + 4 * SM mk 16) + 1) + 0 ≤ 601024; omega), (by show ((400000 + 6 * j + 42 * fm + 69 * SM mk 16) + 6) + 0 ≤ 7293034; omega)⟩) (fun ru28 u9 H locs hpu28 hP hD hS => ?_)
        have hpu28 : ru28 = 0 := hpu28
        have hP : va_P D vwCl ([(zo, .inl (cT 1, 1, .inr (.inl zf))), (ad 5060, .inr (11, MO yr (va_up yi 1 2) ysb ybs)), (yr 5, .inl (cT 0, 288, .inl (yA 5)))] ++ pg cds ad (upo gg [5060, 5005])) _ := hP
        have hD : va_D A ([(zo, .inl (cT 1, 1, .inr (.inl zf))), (ad 5060, .inr (11, MO yr (va_up yi 1 2) ysb ybs)), (yr 5, .inl (cT 0, 288, .inl (yA 5)))] ++ pg cds ad (upo gg [5060, 5005])) := hD
        refine lv_topi (fun y9 e9 => ?_)
        cases (show y9 = 0 from e9.trans hpu28)
        have hw9 : ([(zo, .inl (cT 1, 1, .inr (.inl zf))), (ad 5060, .inr (11, MO yr (va_up yi 1 2) ysb ybs)), (ad 5005, .inl (cT 0, 288, .inl (yA 5)))] ++ pg cds ad (upo gg [5060, 5005])) = ([(zo, .inl (cT 1, 1, .inr (.inl zf))), (ad 5060, .inr (11, MO yr (va_up yi 1 2) ysb ybs)), (yr 5, .inl (cT 0, 288, .inl (yA 5)))] ++ pg cds ad (upo gg [5060, 5005])) := by rw [show ad 5005 = yr 5 from hyr 5 (by unfold YKy; omega)]
        have hP := vP_eq hw9 hP
        have hD := vD_eq hw9 hD
        have hP : va_P D vwCl ([(zo, .inl (cT 1, 1, .inr (.inl zf))), (ad 5060, .inr (11, MO yr (va_up yi 1 2) ysb ybs)), (ad 5005, .inl (cT 0, 288, .inl (yA 5)))] ++ pg cds ad (upo gg [5060, 5005])) _ := hP
        have hD : va_D A ([(zo, .inl (cT 1, 1, .inr (.inl zf))), (ad 5060, .inr (11, MO yr (va_up yi 1 2) ysb ybs)), (ad 5005, .inl (cT 0, 288, .inl (yA 5)))] ++ pg cds ad (upo gg [5060, 5005])) := hD
        have hN9 := (show NDc [5060, 5005] from (nd_c (na_c (by decide) na_0) (nd_c na_0 nd_0)))
        have hP := gb_P (w9 := [(5060, .inr (11, MO yr (va_up yi 1 2) ysb ybs)), (5005, .inl (cT 0, 288, .inl (yA 5)))]) (X := [(zo, .inl (cT 1, 1, .inr (.inl zf)))]) (g := gg) hcd hN9 (show QB [(5060, .inr (11, MO yr (va_up yi 1 2) ysb ybs)), (5005, .inl (cT 0, 288, .inl (yA 5)))] from (qb_c (by decide) (qb_c (by decide) qb_0))) (hP.part (cx := [(zo, .inl (cT 1, 1, .inr (.inl zf))), (ad 5060, .inr (11, MO yr (va_up yi 1 2) ysb ybs)), (ad 5005, .inl (cT 0, 288, .inl (yA 5)))]) [0, 1, 2] rfl)
        have hD := gb_D (w9 := [(5060, .inr (11, MO yr (va_up yi 1 2) ysb ybs)), (5005, .inl (cT 0, 288, .inl (yA 5)))]) (X := [(zo, .inl (cT 1, 1, .inr (.inl zf)))]) (g := gg) hcd hN9 (show QB [(5060, .inr (11, MO yr (va_up yi 1 2) ysb ybs)), (5005, .inl (cT 0, 288, .inl (yA 5)))] from (qb_c (by decide) (qb_c (by decide) qb_0))) (hD.part (cx := [(zo, .inl (cT 1, 1, .inr (.inl zf))), (ad 5060, .inr (11, MO yr (va_up yi 1 2) ysb ybs)), (ad 5005, .inl (cT 0, 288, .inl (yA 5)))]) [0, 1, 2] (by decide) rfl)
        obtain ⟨gy, hgy⟩ : ∃ q9, q9 = ups gg [(5060, .inr (11, MO yr (va_up yi 1 2) ysb ybs)), (5005, .inl (cT 0, 288, .inl (yA 5)))] := ⟨_, rfl⟩
        rw [← hgy] at hP hD
        have hP : va_P D vwCl ([(zo, .inl (cT 1, 1, .inr (.inl zf)))] ++ pg cds ad gy) _ := hP
        have hD : va_D A ([(zo, .inl (cT 1, 1, .inr (.inl zf)))] ++ pg cds ad gy) := hD
        have fgy : ∀ z8, z8 ≠ 5060 → gy z8 = gg z8 := fun z8 z1 => by rw [hgy]; exact ups_k (kp_n z1 (kp_s (hYA 5 (by unfold YKy; omega)) kp_0))
        have gy_0 : gy 5060 = some (.inr (11, MO yr (va_up yi 1 2) ysb ybs)) := by rw [hgy]; exact ups_1
        refine lv_istore hx hb dL_law_439 hl (by decide) rfl (fun ls hl => ?_)
        have hl : lv_has ls 7 [(6, .int 0), (5, .int 2), (0, .ref b), (1, .ref (ad 0)), (2, .ref (ad 5060)), (3, .ref zo), (4, .int (nI (4 * j)))] := hl
        refine lv_aload_n hx hb dL_law_441 rfl (lv_at hl 4 rfl) ?_
        refine ro_i (va_Run.run (va_runV (As := []) (rest := []) ⟨hx, hb, hml, hown, hT⟩ (m_thrown l D cT (ad 5060) yr (va_up yi 1 2) ysb ybs) ⟨callB_of 0 hT (tb_gd w1290) rfl rfl rfl (hT _ w13) (hT _ w1287) hM_thrown ⟨Nat.le_of_ble_eq_true rfl, Nat.le_of_ble_eq_true rfl⟩, (hT _ w1288), (hT _ w1289)⟩ (RO.preV (ci := 11) (q0 := 0) hZ hS ((show va_P D vwCl [(ad 5060, .inr (11, MO yr (va_up yi 1 2) ysb ybs))] _ from (pv_c (pg_1 (x := 5060) hcd hP (by decide) gy_0) pv_0))) hK rfl rfl) rfl rfl hl.1 rfl (lv_room (Nat.le_of_ble_eq_true rfl)) dL_law_442 ⟨(by show (((2000 + j + 3 * fm + 4 * SM mk 16) + 1) + 0) + 0 ≤ 601024; omega), (by show (((400000 + 6 * j + 42 * fm + 69 * SM mk 16) + 6) + 0) + 0 ≤ 7293034; omega)⟩)) ?_
        refine lv_topi (fun y9 e9 => ?_)
        cases (show y9 = 2 from e9.trans rfl)
        refine lv_iload hx hb dL_law_445 (lv_at hl 1 rfl) ?_
        refine lv_icmp_eq (tgt := 452) hx hb dL_law_447 rfl (fun _ => ?_) (fun h29 => absurd (by decide) h29)
        refine lv_iload hx hb dL_law_452 (lv_at hl 1 rfl) ?_
        refine lv_if_ne (tgt := 476) hx hb dL_law_454 rfl (fun _ => ?_) (fun h30 => absurd h30 (by decide))
        refine lv_goto (tgt := 1690) hx hb dL_law_476 rfl ?_
        obtain ⟨yiz, hyiz⟩ : ∃ f9 : Nat → Int32, f9 = va_up yi 1 2 := ⟨_, rfl⟩
        have hIz : LWI cT ad gg tE T fm mk F n wd dpt lst w ru rl ne Lo yiz ysb yA := hI.sc (fun k hk => by rw [hyiz]; exact va_up_ne _ _ hk) (fun _ _ => rfl)
        have hIz := hIz.yg (g2 := gy) (fun z8 hz => fgy z8 (by omega))
        have hYz : YCL cT ad gy y yr yiz ysb ybs yA yW F := by
          refine ⟨hYad, hyr, (by rw [hyiz]; exact gy_0), fun k hk => ?_⟩
          have hk2 : k = 0 ∨ (4 ≤ k ∧ k ≤ 9) ∨ (18 ≤ k ∧ k ≤ 46) ∨ k = 48 ∨ k = 49 ∨ (56 ≤ k ∧ k ≤ 59) := hk
          exact (fgy (5000 + k) (by omega)).trans ((hYA k hk).trans (congrArg some (ycl_o rfl).symm))
        rw [hyiz] at hIz hYz
        refine W.widen (k := 2000 + (j + 1) + 3 * fm + 4 * SM mk 16) (n := 400000 + 6 * (j + 1) + 42 * fm + 69 * SM mk 16) (by show ((2000 + j + 3 * fm + 4 * SM mk 16) + 1) + 0 ≤ 2000 + (j + 1) + 3 * fm + 4 * SM mk 16; omega) (by show ((400000 + 6 * j + 42 * fm + 69 * SM mk 16) + 6) + 0 ≤ 400000 + 6 * (j + 1) + 42 * fm + 69 * SM mk 16; omega) ?_
        have hl := lv_sub hl [2, 3, 4, 5, 6] rfl
        have hl : lv_has ls 7 [(0, .ref b), (1, .ref (ad 0)), (2, .ref y), (3, .ref zo), (4, .int (nI (4 * j)))] := by rw [← hYz.1]; exact hl
        exact hend ad gy T fm mk F n wd dpt lst w ru rl ne Lo (va_up yi 1 2) ysb ybs yA yW zf _ _ ls hIz hYz hP hD hS hl
    · refine lv_aload_n hx hb dL_law_388 rfl (lv_at hl 1 rfl) ?_
      refine lv_aload_n hx hb dL_law_389 rfl (lv_at hl 0 rfl) ?_
      refine lv_iload hx hb dL_law_390 (lv_at hl 4 rfl) ?_
      refine lv_iconst (v := 1) hx hb dL_law_392 (by decide) ?_
      refine lv_iadd hx hb dL_law_393 ?_
      refine lv_topi (fun y9 e9 => ?_)
      cases (show y9 = nI ((4 * j) + 1) from e9.trans (nI_add (4 * j) 1))
      refine va_sld hx hb hX hbl hbA hS (vp_in_nI (n := 4 * j + 1) (N := L) (by omega) (by omega)) dL_law_394 ?_
      refine lv_topi (fun y9 e9 => ?_)
      cases (show y9 = a1 from e9.trans (by rw [nI_clamp (by omega)]; exact ha1.symm))
      refine lv_aload_n hx hb dL_law_395 rfl (lv_at hl 0 rfl) ?_
      refine lv_iload hx hb dL_law_396 (lv_at hl 4 rfl) ?_
      refine lv_iconst (v := 2) hx hb dL_law_398 (by decide) ?_
      refine lv_iadd hx hb dL_law_399 ?_
      refine lv_topi (fun y9 e9 => ?_)
      cases (show y9 = nI ((4 * j) + 2) from e9.trans (nI_add (4 * j) 2))
      refine va_sld hx hb hX hbl hbA hS (vp_in_nI (n := 4 * j + 2) (N := L) (by omega) (by omega)) dL_law_400 ?_
      refine lv_topi (fun y9 e9 => ?_)
      cases (show y9 = a2 from e9.trans (by rw [nI_clamp (by omega)]; exact ha2.symm))
      refine lv_if_eq (tgt := 408) hx hb dL_law_401 rfl (fun h31 => absurd h31 hz2) (fun _ => ?_)
      refine lv_iconst (v := 1) hx hb dL_law_404 (by decide) ?_
      refine lv_goto (tgt := 409) hx hb dL_law_405 rfl ?_
      refine lv_aload_n hx hb dL_law_409 rfl (lv_at hl 3 rfl) ?_
      refine hy_iP (X := [(zo, .inl (cT 1, 1, .inr (.inl zf)))]) (pl := pg cds ad gg) (cx := [(zo, .inl (cT 1, 1, .inr (.inl zf)))]) (wr := []) hP hD hS hA [0] [] rfl rfl (by decide) (by decide) (tx_runSH (As := [.ref (ad 0), .int a1, .int 1, .ref zo]) (rest := []) ⟨hx, hb, hml, hown, hT⟩ (l_kinds_no1 l D cT cds ad gg (nI T) (nI wd) (nI n) a1 1 zo zf hlt hcd hob chtb hq _) hT (tc_gd w644 w645 w0 (tb_gd w646)) rfl rfl rfl hL_kinds ⟨Nat.le_of_ble_eq_true rfl, Nat.le_of_ble_eq_true rfl⟩ (RW.preS hZ hS (va_freeP (cx := [(zo, .inl (cT 1, 1, .inr (.inl zf)))]) hD hS hA [0] rfl) (hP.part (cx := [(zo, .inl (cT 1, 1, .inr (.inl zf)))]) [0] rfl) hK (hD.part (cx := [(zo, .inl (cT 1, 1, .inr (.inl zf)))]) [0] (by decide) rfl)) rfl hl.1 rfl (Nat.le_of_ble_eq_true rfl) dL_law_410 ⟨(by show (2000 + j + 3 * fm + 4 * SM mk 16) + 1 ≤ 601024; omega), (by show (400000 + 6 * j + 42 * fm + 69 * SM mk 16) + 6 ≤ 7293034; omega)⟩) (fun ru32 u9 H locs hpu32 hP hD hS => ?_)
      have hpu32 : ru32 = 1 := hpu32
      have hP : va_P D vwCl ([(zo, .inl (cT 1, 1, .inr (.inl zf)))] ++ pg cds ad gg) _ := hP
      have hD : va_D A ([(zo, .inl (cT 1, 1, .inr (.inl zf)))] ++ pg cds ad gg) := hD
      refine lv_topi (fun y9 e9 => ?_)
      cases (show y9 = 1 from e9.trans hpu32)
      refine lv_istore hx hb dL_law_413 hl (by decide) rfl (fun ls hl => ?_)
      have hl : lv_has ls 7 [(5, .int 1), (0, .ref b), (1, .ref (ad 0)), (2, .ref (ad 5060)), (3, .ref zo), (4, .int (nI (4 * j)))] := hl
      refine lv_aload_n hx hb dL_law_415 rfl (lv_at hl 3 rfl) ?_
      refine lv_aload_n hx hb dL_law_416 rfl (lv_at hl 1 rfl) ?_
      refine lv_iload hx hb dL_law_417 (lv_at hl 5 rfl) ?_
      refine lv_iconst (v := 1) hx hb dL_law_419 (by decide) ?_
      refine lv_iadd hx hb dL_law_420 ?_
      refine lv_topi (fun y9 e9 => ?_)
      cases (show y9 = nI ((4 * j) + 1) from e9.trans (nI_add (4 * j) 1))
      refine va_sld hx hb hX hbl hbA hS (vp_in_nI (n := 4 * j + 1) (N := L) (by omega) (by omega)) dL_law_421 ?_
      refine lv_topi (fun y9 e9 => ?_)
      cases (show y9 = a1 from e9.trans (by rw [nI_clamp (by omega)]; exact ha1.symm))
      refine lv_aload_n hx hb dL_law_422 rfl (lv_at hl 1 rfl) ?_
      refine lv_iload hx hb dL_law_423 (lv_at hl 5 rfl) ?_
      refine lv_iconst (v := 2) hx hb dL_law_425 (by decide) ?_
      refine lv_iadd hx hb dL_law_426 ?_
      refine lv_topi (fun y9 e9 => ?_)
      cases (show y9 = nI ((4 * j) + 2) from e9.trans (nI_add (4 * j) 2))
      refine va_sld hx hb hX hbl hbA hS (vp_in_nI (n := 4 * j + 2) (N := L) (by omega) (by omega)) dL_law_427 ?_
      refine lv_topi (fun y9 e9 => ?_)
      cases (show y9 = a2 from e9.trans (by rw [nI_clamp (by omega)]; exact ha2.symm))
      refine lv_if_eq (tgt := 435) hx hb dL_law_428 rfl (fun h33 => absurd h33 hz2) (fun _ => ?_)
      refine lv_iconst (v := 1) hx hb dL_law_431 (by decide) ?_
      refine lv_goto (tgt := 436) hx hb dL_law_432 rfl ?_
      have hB9 : QI gg [(5060, .inr (11, MO yr yi ysb ybs))] := (qi_c (by decide) hYy qi_0)
      have hN9 := (show NDc [5060] from (nd_c na_0 nd_0))
      have hP := bo_P (wc := [(5060, .inr (11, MO yr yi ysb ybs))]) (X := [(zo, .inl (cT 1, 1, .inr (.inl zf)))]) hcd hN9 hB9 hP
      have hD := bo_D (wc := [(5060, .inr (11, MO yr yi ysb ybs))]) (X := [(zo, .inl (cT 1, 1, .inr (.inl zf)))]) hcd hN9 hB9 hD
      have hP : va_P D vwCl ([(zo, .inl (cT 1, 1, .inr (.inl zf))), (ad 5060, .inr (11, MO yr yi ysb ybs))] ++ pg cds ad (upo gg [5060])) _ := hP
      have hD : va_D A ([(zo, .inl (cT 1, 1, .inr (.inl zf))), (ad 5060, .inr (11, MO yr yi ysb ybs))] ++ pg cds ad (upo gg [5060])) := hD
      refine hy_iQ (X := [(zo, .inl (cT 1, 1, .inr (.inl zf))), (ad 5060, .inr (11, MO yr yi ysb ybs))]) (pl := pg cds ad (upo gg [5060])) (cx := [(ad 5060, .inr (11, MO yr yi ysb ybs))]) (wr := [(zo, .inl (cT 1, 1, .inr (.inl zf)))]) hP hD hS hA [1] [0] rfl rfl (by decide) (by decide) (va_runV (As := [.int a1, .int 1]) (rest := []) ⟨hx, hb, hml, hown, hT⟩ (y_kinds_no1 l D cT (ad 5060) yr yi ysb ybs a1 1 (by rw [y2]; exact hq) _) ⟨callB_of 2 hT (tb_gd w1334) rfl rfl rfl (hT _ w13) (hT _ w1331) hM_kinds ⟨Nat.le_of_ble_eq_true rfl, Nat.le_of_ble_eq_true rfl⟩, (hT _ w1332), (hT _ w1333)⟩ (RW.preV (ci := 11) (q0 := 0) hZ hS (hy_free (cx := [(ad 5060, .inr (11, MO yr yi ysb ybs))]) hD hS hA [1] rfl) (hP.sub (ws' := [(ad 5060, .inr (11, MO yr yi ysb ybs))]) [1] rfl) hK (hD.sub (ws' := [(ad 5060, .inr (11, MO yr yi ysb ybs))]) [1] (by decide) rfl) rfl rfl) rfl rfl hl.1 rfl (lv_room (Nat.le_of_ble_eq_true rfl)) dL_law_436 ⟨(by show ((2000 + j + 3 * fm + 4 * SM mk 16) + 1) + 0 ≤ 601024; omega), (by show ((400000 + 6 * j + 42 * fm + 69 * SM mk 16) + 6) + 0 ≤ 7293034; omega)⟩) (fun ru34 u9 H locs hpu34 hP hD hS => ?_)
      have hpu34 : ru34 = 0 := hpu34
      have hP : va_P D vwCl ([(zo, .inl (cT 1, 1, .inr (.inl zf))), (ad 5060, .inr (11, MO yr (va_up yi 1 1) ysb ybs))] ++ pg cds ad (upo gg [5060])) _ := hP
      have hD : va_D A ([(zo, .inl (cT 1, 1, .inr (.inl zf))), (ad 5060, .inr (11, MO yr (va_up yi 1 1) ysb ybs))] ++ pg cds ad (upo gg [5060])) := hD
      refine lv_topi (fun y9 e9 => ?_)
      cases (show y9 = 0 from e9.trans hpu34)
      have hN9 := (show NDc [5060] from (nd_c na_0 nd_0))
      have hP := gb_P (w9 := [(5060, .inr (11, MO yr (va_up yi 1 1) ysb ybs))]) (X := [(zo, .inl (cT 1, 1, .inr (.inl zf)))]) (g := gg) hcd hN9 (show QB [(5060, .inr (11, MO yr (va_up yi 1 1) ysb ybs))] from (qb_c (by decide) qb_0)) (hP.part (cx := [(zo, .inl (cT 1, 1, .inr (.inl zf))), (ad 5060, .inr (11, MO yr (va_up yi 1 1) ysb ybs))]) [0, 1] rfl)
      have hD := gb_D (w9 := [(5060, .inr (11, MO yr (va_up yi 1 1) ysb ybs))]) (X := [(zo, .inl (cT 1, 1, .inr (.inl zf)))]) (g := gg) hcd hN9 (show QB [(5060, .inr (11, MO yr (va_up yi 1 1) ysb ybs))] from (qb_c (by decide) qb_0)) (hD.part (cx := [(zo, .inl (cT 1, 1, .inr (.inl zf))), (ad 5060, .inr (11, MO yr (va_up yi 1 1) ysb ybs))]) [0, 1] (by decide) rfl)
      obtain ⟨gy, hgy⟩ : ∃ q9, q9 = ups gg [(5060, .inr (11, MO yr (va_up yi 1 1) ysb ybs))] := ⟨_, rfl⟩
      rw [← hgy] at hP hD
      have hP : va_P D vwCl ([(zo, .inl (cT 1, 1, .inr (.inl zf)))] ++ pg cds ad gy) _ := hP
      have hD : va_D A ([(zo, .inl (cT 1, 1, .inr (.inl zf)))] ++ pg cds ad gy) := hD
      have fgy : ∀ z8, z8 ≠ 5060 → gy z8 = gg z8 := fun z8 z1 => by rw [hgy]; exact ups_k (kp_n z1 kp_0)
      have gy_0 : gy 5060 = some (.inr (11, MO yr (va_up yi 1 1) ysb ybs)) := by rw [hgy]; exact ups_1
      refine lv_istore hx hb dL_law_439 hl (by decide) rfl (fun ls hl => ?_)
      have hl : lv_has ls 7 [(6, .int 0), (5, .int 1), (0, .ref b), (1, .ref (ad 0)), (2, .ref (ad 5060)), (3, .ref zo), (4, .int (nI (4 * j)))] := hl
      refine lv_aload_n hx hb dL_law_441 rfl (lv_at hl 4 rfl) ?_
      refine ro_i (va_Run.run (va_runV (As := []) (rest := []) ⟨hx, hb, hml, hown, hT⟩ (m_thrown l D cT (ad 5060) yr (va_up yi 1 1) ysb ybs) ⟨callB_of 0 hT (tb_gd w1290) rfl rfl rfl (hT _ w13) (hT _ w1287) hM_thrown ⟨Nat.le_of_ble_eq_true rfl, Nat.le_of_ble_eq_true rfl⟩, (hT _ w1288), (hT _ w1289)⟩ (RO.preV (ci := 11) (q0 := 0) hZ hS ((show va_P D vwCl [(ad 5060, .inr (11, MO yr (va_up yi 1 1) ysb ybs))] _ from (pv_c (pg_1 (x := 5060) hcd hP (by decide) gy_0) pv_0))) hK rfl rfl) rfl rfl hl.1 rfl (lv_room (Nat.le_of_ble_eq_true rfl)) dL_law_442 ⟨(by show (((2000 + j + 3 * fm + 4 * SM mk 16) + 1) + 0) + 0 ≤ 601024; omega), (by show (((400000 + 6 * j + 42 * fm + 69 * SM mk 16) + 6) + 0) + 0 ≤ 7293034; omega)⟩)) ?_
      refine lv_topi (fun y9 e9 => ?_)
      cases (show y9 = 1 from e9.trans rfl)
      refine lv_iload hx hb dL_law_445 (lv_at hl 1 rfl) ?_
      refine lv_icmp_eq (tgt := 452) hx hb dL_law_447 rfl (fun _ => ?_) (fun h35 => absurd (by decide) h35)
      refine lv_iload hx hb dL_law_452 (lv_at hl 1 rfl) ?_
      refine lv_if_ne (tgt := 476) hx hb dL_law_454 rfl (fun _ => ?_) (fun h36 => absurd h36 (by decide))
      refine lv_goto (tgt := 1690) hx hb dL_law_476 rfl ?_
      obtain ⟨yiz, hyiz⟩ : ∃ f9 : Nat → Int32, f9 = va_up yi 1 1 := ⟨_, rfl⟩
      have hIz : LWI cT ad gg tE T fm mk F n wd dpt lst w ru rl ne Lo yiz ysb yA := hI.sc (fun k hk => by rw [hyiz]; exact va_up_ne _ _ hk) (fun _ _ => rfl)
      have hIz := hIz.yg (g2 := gy) (fun z8 hz => fgy z8 (by omega))
      have hYz : YCL cT ad gy y yr yiz ysb ybs yA yW F := by
        refine ⟨hYad, hyr, (by rw [hyiz]; exact gy_0), fun k hk => ?_⟩
        have hk2 : k = 0 ∨ (4 ≤ k ∧ k ≤ 9) ∨ (18 ≤ k ∧ k ≤ 46) ∨ k = 48 ∨ k = 49 ∨ (56 ≤ k ∧ k ≤ 59) := hk
        exact (fgy (5000 + k) (by omega)).trans ((hYA k hk).trans (congrArg some (ycl_o rfl).symm))
      rw [hyiz] at hIz hYz
      refine W.widen (k := 2000 + (j + 1) + 3 * fm + 4 * SM mk 16) (n := 400000 + 6 * (j + 1) + 42 * fm + 69 * SM mk 16) (by show ((2000 + j + 3 * fm + 4 * SM mk 16) + 1) + 0 ≤ 2000 + (j + 1) + 3 * fm + 4 * SM mk 16; omega) (by show ((400000 + 6 * j + 42 * fm + 69 * SM mk 16) + 6) + 0 ≤ 400000 + 6 * (j + 1) + 42 * fm + 69 * SM mk 16; omega) ?_
      have hl := lv_sub hl [2, 3, 4, 5, 6] rfl
      have hl : lv_has ls 7 [(0, .ref b), (1, .ref (ad 0)), (2, .ref y), (3, .ref zo), (4, .int (nI (4 * j)))] := by rw [← hYz.1]; exact hl
      exact hend ad gy T fm mk F n wd dpt lst w ru rl ne Lo (va_up yi 1 1) ysb ybs yA yW zf _ _ ls hIz hYz hP hD hS hl
