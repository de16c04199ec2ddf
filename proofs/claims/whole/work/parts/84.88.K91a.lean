set_option maxHeartbeats 8000000 in
set_option maxRecDepth 100000 in
theorem lo_5 {p : Program} {l : Launch} {e : Env} {s : State} {m : MethodId} {args : Array Value} {below : List Frame} {meth : Method} {c : Code} {Q : State → Prop} {A : Nat → Prop} {H : Heap} {locs : List Loc} {ls : Array Slot} {b L : Nat} {xs : Nat → Int32} (D : va_G) (cT : Nat → ClassId) (cds : List Nat) (tE mE y : Nat) (yr : Nat → Nat) (zo j : Nat) (ad : Nat → Nat) (gg : Nat → Option va_E) (T : Nat) (fm : Nat) (mk : Nat → Nat) (F : TFR) (n : Nat) (wd : Nat) (dpt : Nat) (lst : Nat) (w : Nat) (ru : Nat) (rl : Nat) (ne : Nat → Nat) (Lo : Nat) (yi : Nat → Int32) (ysb : Int64) (ybs : Int64) (yA : Nat → Nat → Int32) (yW : Nat → Int64) (zf : Nat → Int64) (hlt : l.stackTraces = false) (hx : p.tables.exec = Jvm.exec) (hb : c.code = code) (hml : c.maxLocals = 7) (hown : s.vm.findClass "ResidualTreesLaw" = some m.cls) (hT : ∀ w ∈ TB, w.before args s = true) (hZ : ZZ A s s.heap) (hE0 : ZE tE mE A s s.heap) (hK : va_K D vwCl (TY cT) s) (hA : ∀ q : Nat, s.heap.size ≤ q → A q) (hX : va_X b L xs s s.heap) (hbl : b < s.heap.size) (hbA : ¬ A b) (hcd : CD cds) (hj : 4 * j + 4 ≤ L) (hL : L ≤ 2048) (hI : LWI cT ad gg tE T fm mk F n wd dpt lst w ru rl ne Lo yi ysb yA) (hYC : YCL cT ad gg y yr yi ysb ybs yA yW F) (hP : va_P D vwCl ([(zo, .inl (cT 1, 1, .inr (.inl zf)))] ++ pg cds ad gg) H) (hD : va_D A ([(zo, .inl (cT 1, 1, .inr (.inl zf)))] ++ pg cds ad gg)) (hS : va_S A s.heap H locs) (hl : lv_has ls 7 [(0, .ref b), (1, .ref (ad 0)), (2, .ref y), (3, .ref zo), (4, .int (nI (4 * j)))]) (hend : LEN2 p l e s m args below meth c Q A D cT cds tE y yr zo b j) : W p l e room_1 s m args below meth c H locs (2000 + j + 3 * fm + 4 * SM mk 16) (400000 + 6 * j + 42 * fm + 69 * SM mk 16) Q (F0 m 479 ls []) := by
  obtain ⟨a1, ha1⟩ : ∃ q9 : Int32, q9 = xs (4 * j + 1) := ⟨_, rfl⟩
  obtain ⟨a2, ha2⟩ : ∃ q9 : Int32, q9 = xs (4 * j + 2) := ⟨_, rfl⟩
  obtain ⟨a3, ha3⟩ : ∃ q9 : Int32, q9 = xs (4 * j + 3) := ⟨_, rfl⟩
  obtain ⟨hfm16, hSM⟩ := lwi_b hI
  obtain ⟨hYad, hYr0, hYy, hYA⟩ := hYC
  have hyr := hYr0
  obtain ⟨fo, hCL, hRF, hPU⟩ := id hI
  obtain ⟨hTV, hOut, ⟨sa9, hso⟩, ⟨zq9, hS1⟩, ⟨zr9, hS2⟩, ⟨z58, hS3⟩⟩ := id hCL
  obtain ⟨hob, hTg, hFT, hTs, ⟨zs0, hGB⟩, ⟨zf0, hLf⟩, ⟨zc0, hCm⟩⟩ := id hTV
  obtain ⟨chtb, chRs, chCa, chCf, chpl, chGa, chSc, chGs, ⟨cfo, chod⟩, cbb9, ctt9, cb90, cik0, chgr, chbt, chSP⟩ := id hGB
  obtain ⟨y2, y3, y10, y11, y12, y13, y14, y17, y47, y55, y8e, y18e, hRFN, hPR, hfoy⟩ := id hRF
  obtain ⟨hTf, hT16, hn48, hwd6, hdp4, hls2, hw20, hr9, hLo, hne, hik, hTOK, hS9, hVk, hVb, htg, hSEP, hSV7⟩ := id hPU
  have hl : lv_has ls 7 [(0, .ref b), (1, .ref (ad 0)), (2, .ref (ad 5060)), (3, .ref zo), (4, .int (nI (4 * j)))] := by rw [hYad]; exact hl
  by_cases hz2 : a2 = 0
  · by_cases hq : (0 ≤ a1 ∧ a1 ≤ nI wd - 1) ∧ (2 ≤ a3 ∧ a3 ≤ 12)
    · obtain ⟨c0, hc8, rfl⟩ := i_nat (n := wd) (by omega) hq.1
      obtain ⟨nn, hn1, hn2, rfl⟩ := i_btw (lo := 2) (hi := 12) (by omega) (by omega) hq.2
      by_cases hk : yA 6 c0 = 0
      · refine lv_aload_n hx hb dL_law_479 rfl (lv_at hl 1 rfl) ?_
        refine lv_aload_n hx hb dL_law_480 rfl (lv_at hl 0 rfl) ?_
        refine lv_iload hx hb dL_law_481 (lv_at hl 4 rfl) ?_
        refine lv_iconst (v := 1) hx hb dL_law_483 (by decide) ?_
        refine lv_iadd hx hb dL_law_484 ?_
        refine lv_topi (fun y9 e9 => ?_)
        cases (show y9 = nI ((4 * j) + 1) from e9.trans (nI_add (4 * j) 1))
        refine va_sld hx hb hX hbl hbA hS (vp_in_nI (n := 4 * j + 1) (N := L) (by omega) (by omega)) dL_law_485 ?_
        refine lv_topi (fun y9 e9 => ?_)
        cases (show y9 = nI c0 from e9.trans (by rw [nI_clamp (by omega)]; exact ha1.symm))
        refine lv_aload_n hx hb dL_law_486 rfl (lv_at hl 0 rfl) ?_
        refine lv_iload hx hb dL_law_487 (lv_at hl 4 rfl) ?_
        refine lv_iconst (v := 2) hx hb dL_law_489 (by decide) ?_
        refine lv_iadd hx hb dL_law_490 ?_
        refine lv_topi (fun y9 e9 => ?_)
        cases (show y9 = nI ((4 * j) + 2) from e9.trans (nI_add (4 * j) 2))
        refine va_sld hx hb hX hbl hbA hS (vp_in_nI (n := 4 * j + 2) (N := L) (by omega) (by omega)) dL_law_491 ?_
        refine lv_topi (fun y9 e9 => ?_)
        cases (show y9 = a2 from e9.trans (by rw [nI_clamp (by omega)]; exact ha2.symm))
        refine lv_if_eq (tgt := 499) hx hb dL_law_492 rfl (fun _ => ?_) (fun h1 => absurd hz2 h1)
        refine lv_iconst (v := 0) hx hb dL_law_499 (by decide) ?_
        refine lv_aload_n hx hb dL_law_500 rfl (lv_at hl 0 rfl) ?_
        refine lv_iload hx hb dL_law_501 (lv_at hl 4 rfl) ?_
        refine lv_iconst (v := 3) hx hb dL_law_503 (by decide) ?_
        refine lv_iadd hx hb dL_law_504 ?_
        refine lv_topi (fun y9 e9 => ?_)
        cases (show y9 = nI ((4 * j) + 3) from e9.trans (nI_add (4 * j) 3))
        refine va_sld hx hb hX hbl hbA hS (vp_in_nI (n := 4 * j + 3) (N := L) (by omega) (by omega)) dL_law_505 ?_
        refine lv_topi (fun y9 e9 => ?_)
        cases (show y9 = nI nn from e9.trans (by rw [nI_clamp (by omega)]; exact ha3.symm))
        refine lv_aload_n hx hb dL_law_506 rfl (lv_at hl 3 rfl) ?_
        refine hy_iP (X := [(zo, .inl (cT 1, 1, .inr (.inl zf)))]) (pl := pg cds ad gg) (cx := [(zo, .inl (cT 1, 1, .inr (.inl zf)))]) (wr := []) hP hD hS hA [0] [] rfl rfl (by decide) (by decide) (tx_runSH (As := [.ref (ad 0), .int (nI c0), .int 0, .int (nI nn), .ref zo]) (rest := []) ⟨hx, hb, hml, hown, hT⟩ (l_cut l D cT cds ad gg (nI T) (nI wd) (nI n) n (yA 5) (yA 9) (yA 7) (yA 6) ne c0 0 nn sa9 zo zf hcd hob chtb rfl hn48 chCa chCf hne hq.1 (by omega) hq.2 (⟨hn1, hn2⟩) hk hso (hVb c0 (by omega)) _) hT (tc_gd w656 w657 w0 (tb_gd w658)) rfl rfl rfl hL_cut ⟨Nat.le_of_ble_eq_true rfl, Nat.le_of_ble_eq_true rfl⟩ (RW.preS hZ hS (va_freeP (cx := [(zo, .inl (cT 1, 1, .inr (.inl zf)))]) hD hS hA [0] rfl) (hP.part (cx := [(zo, .inl (cT 1, 1, .inr (.inl zf)))]) [0] rfl) hK (hD.part (cx := [(zo, .inl (cT 1, 1, .inr (.inl zf)))]) [0] (by decide) rfl)) rfl hl.1 rfl (Nat.le_of_ble_eq_true rfl) dL_law_507 ⟨(by show (2000 + j + 3 * fm + 4 * SM mk 16) + 0 ≤ 601024; omega), (by show (400000 + 6 * j + 42 * fm + 69 * SM mk 16) + 0 ≤ 7293034; omega)⟩) (fun ru2 u9 H locs hpu2 hP hD hS => ?_)
        obtain ⟨gg7u2, rvu2⟩ := u9
        have hpu2 : ru2 = 0 ∧ rvu2 = nI (cutF 0 (yA 5) c0 n nn (yA 7)).1 ∧ (∀ z8, (z8 < 10 ∨ 40 ≤ z8) → z8 ≠ 48 → gg7u2 z8 = gg z8) ∧ (∃ sa7 : Nat → Int32, gg7u2 48 = some (eA (cT 0) 48 sa7)) ∧ COLF cT ad gg7u2 n (yA 5) (yA 9) (cutF 0 (yA 5) c0 n nn (yA 7)).2 (yA 6) (va_up ne c0 (cutF 0 (yA 5) c0 n nn (yA 7)).1) ∧ RIS (cutF 0 (yA 5) c0 n nn (yA 7)).2 (11 * c0) (cutF 0 (yA 5) c0 n nn (yA 7)).1 ∧ (cutF 0 (yA 5) c0 n nn (yA 7)).1 ≤ 11 := hpu2
        have hP : va_P D vwCl ([(zo, .inl (cT 1, 1, .inr (.inl (vp_updL zf 0 (Int32.toInt64 rvu2)))))] ++ pg cds ad gg7u2) _ := hP
        have hD : va_D A ([(zo, .inl (cT 1, 1, .inr (.inl (vp_updL zf 0 (Int32.toInt64 rvu2)))))] ++ pg cds ad gg7u2) := hD
        refine lv_topi (fun y9 e9 => ?_)
        cases (show y9 = 0 from e9.trans hpu2.1)
        obtain ⟨_, cR, cF, cS, ccn, cRS, cL⟩ := hpu2
        refine lv_istore hx hb dL_law_510 hl (by decide) rfl (fun ls hl => ?_)
        have hl : lv_has ls 7 [(5, .int 0), (0, .ref b), (1, .ref (ad 0)), (2, .ref (ad 5060)), (3, .ref zo), (4, .int (nI (4 * j)))] := hl
        refine lv_aload_n hx hb dL_law_512 rfl (lv_at hl 3 rfl) ?_
        refine lv_aload_n hx hb dL_law_513 rfl (lv_at hl 1 rfl) ?_
        refine lv_iload hx hb dL_law_514 (lv_at hl 5 rfl) ?_
        refine lv_iconst (v := 1) hx hb dL_law_516 (by decide) ?_
        refine lv_iadd hx hb dL_law_517 ?_
        refine lv_topi (fun y9 e9 => ?_)
        cases (show y9 = nI ((4 * j) + 1) from e9.trans (nI_add (4 * j) 1))
        refine va_sld hx hb hX hbl hbA hS (vp_in_nI (n := 4 * j + 1) (N := L) (by omega) (by omega)) dL_law_518 ?_
        refine lv_topi (fun y9 e9 => ?_)
        cases (show y9 = nI c0 from e9.trans (by rw [nI_clamp (by omega)]; exact ha1.symm))
        refine lv_aload_n hx hb dL_law_519 rfl (lv_at hl 1 rfl) ?_
        refine lv_iload hx hb dL_law_520 (lv_at hl 5 rfl) ?_
        refine lv_iconst (v := 2) hx hb dL_law_522 (by decide) ?_
        refine lv_iadd hx hb dL_law_523 ?_
        refine lv_topi (fun y9 e9 => ?_)
        cases (show y9 = nI ((4 * j) + 2) from e9.trans (nI_add (4 * j) 2))
        refine va_sld hx hb hX hbl hbA hS (vp_in_nI (n := 4 * j + 2) (N := L) (by omega) (by omega)) dL_law_524 ?_
        refine lv_topi (fun y9 e9 => ?_)
        cases (show y9 = a2 from e9.trans (by rw [nI_clamp (by omega)]; exact ha2.symm))
        refine lv_if_eq (tgt := 532) hx hb dL_law_525 rfl (fun _ => ?_) (fun h3 => absurd hz2 h3)
        refine lv_iconst (v := 0) hx hb dL_law_532 (by decide) ?_
        refine lv_aload_n hx hb dL_law_533 rfl (lv_at hl 1 rfl) ?_
        refine lv_iload hx hb dL_law_534 (lv_at hl 5 rfl) ?_
        refine lv_iconst (v := 3) hx hb dL_law_536 (by decide) ?_
        refine lv_iadd hx hb dL_law_537 ?_
        refine lv_topi (fun y9 e9 => ?_)
        cases (show y9 = nI ((4 * j) + 3) from e9.trans (nI_add (4 * j) 3))
        refine va_sld hx hb hX hbl hbA hS (vp_in_nI (n := 4 * j + 3) (N := L) (by omega) (by omega)) dL_law_538 ?_
        refine lv_topi (fun y9 e9 => ?_)
        cases (show y9 = nI nn from e9.trans (by rw [nI_clamp (by omega)]; exact ha3.symm))
        have hB9 : QI gg7u2 [(5060, .inr (11, MO yr yi ysb ybs)), (5006, .inl (cT 3, 6, .inl (yA 6))), (5008, .inl (cT 0, 6, .inl (yA 8))), (5007, .inl (cT 0, 66, .inl (yA 7))), (5005, .inl (cT 0, 288, .inl (yA 5)))] := (qi_c (by decide) ((cF 5060 (by omega) (by omega)).trans hYy) (qi_c (by decide) ((cF 5006 (by omega) (by omega)).trans (hYA 6 (by unfold YKy; omega))) (qi_c (by decide) ((cF 5008 (by omega) (by omega)).trans (hYA 8 (by unfold YKy; omega))) (qi_c (by decide) ((cF 5007 (by omega) (by omega)).trans (hYA 7 (by unfold YKy; omega))) (qi_c (by decide) ((cF 5005 (by omega) (by omega)).trans (hYA 5 (by unfold YKy; omega))) qi_0)))))
        have hN9 := (show NDc [5060, 5006, 5008, 5007, 5005] from (nd_c (na_c (by decide) (na_c (by decide) (na_c (by decide) (na_c (by decide) na_0)))) (nd_c (na_c (by decide) (na_c (by decide) (na_c (by decide) na_0))) (nd_c (na_c (by decide) (na_c (by decide) na_0)) (nd_c (na_c (by decide) na_0) (nd_c na_0 nd_0))))))
        have hP := bo_P (wc := [(5060, .inr (11, MO yr yi ysb ybs)), (5006, .inl (cT 3, 6, .inl (yA 6))), (5008, .inl (cT 0, 6, .inl (yA 8))), (5007, .inl (cT 0, 66, .inl (yA 7))), (5005, .inl (cT 0, 288, .inl (yA 5)))]) (X := [(zo, .inl (cT 1, 1, .inr (.inl (vp_updL zf 0 (Int32.toInt64 rvu2)))))]) hcd hN9 hB9 hP
        have hD := bo_D (wc := [(5060, .inr (11, MO yr yi ysb ybs)), (5006, .inl (cT 3, 6, .inl (yA 6))), (5008, .inl (cT 0, 6, .inl (yA 8))), (5007, .inl (cT 0, 66, .inl (yA 7))), (5005, .inl (cT 0, 288, .inl (yA 5)))]) (X := [(zo, .inl (cT 1, 1, .inr (.inl (vp_updL zf 0 (Int32.toInt64 rvu2)))))]) hcd hN9 hB9 hD
        have hP : va_P D vwCl ([(zo, .inl (cT 1, 1, .inr (.inl (vp_updL zf 0 (Int32.toInt64 rvu2))))), (ad 5060, .inr (11, MO yr yi ysb ybs)), (ad 5006, .inl (cT 3, 6, .inl (yA 6))), (ad 5008, .inl (cT 0, 6, .inl (yA 8))), (ad 5007, .inl (cT 0, 66, .inl (yA 7))), (ad 5005, .inl (cT 0, 288, .inl (yA 5)))] ++ pg cds ad (upo gg7u2 [5060, 5006, 5008, 5007, 5005])) _ := hP
        have hD : va_D A ([(zo, .inl (cT 1, 1, .inr (.inl (vp_updL zf 0 (Int32.toInt64 rvu2))))), (ad 5060, .inr (11, MO yr yi ysb ybs)), (ad 5006, .inl (cT 3, 6, .inl (yA 6))), (ad 5008, .inl (cT 0, 6, .inl (yA 8))), (ad 5007, .inl (cT 0, 66, .inl (yA 7))), (ad 5005, .inl (cT 0, 288, .inl (yA 5)))] ++ pg cds ad (upo gg7u2 [5060, 5006, 5008, 5007, 5005])) := hD
        have hw9 : ([(zo, .inl (cT 1, 1, .inr (.inl (vp_updL zf 0 (Int32.toInt64 rvu2))))), (ad 5060, .inr (11, MO yr yi ysb ybs)), (yr 6, .inl (cT 3, 6, .inl (yA 6))), (yr 8, .inl (cT 0, 6, .inl (yA 8))), (yr 7, .inl (cT 0, 66, .inl (yA 7))), (yr 5, .inl (cT 0, 288, .inl (yA 5)))] ++ pg cds ad (upo gg7u2 [5060, 5006, 5008, 5007, 5005])) = ([(zo, .inl (cT 1, 1, .inr (.inl (vp_updL zf 0 (Int32.toInt64 rvu2))))), (ad 5060, .inr (11, MO yr yi ysb ybs)), (ad 5006, .inl (cT 3, 6, .inl (yA 6))), (ad 5008, .inl (cT 0, 6, .inl (yA 8))), (ad 5007, .inl (cT 0, 66, .inl (yA 7))), (ad 5005, .inl (cT 0, 288, .inl (yA 5)))] ++ pg cds ad (upo gg7u2 [5060, 5006, 5008, 5007, 5005])) := by rw [show yr 6 = ad 5006 from (hyr 6 (by unfold YKy; omega)).symm, show yr 8 = ad 5008 from (hyr 8 (by unfold YKy; omega)).symm, show yr 7 = ad 5007 from (hyr 7 (by unfold YKy; omega)).symm, show yr 5 = ad 5005 from (hyr 5 (by unfold YKy; omega)).symm]
        have hP := vP_eq hw9 hP
        have hD := vD_eq hw9 hD
        have hP : va_P D vwCl ([(zo, .inl (cT 1, 1, .inr (.inl (vp_updL zf 0 (Int32.toInt64 rvu2))))), (ad 5060, .inr (11, MO yr yi ysb ybs)), (yr 6, .inl (cT 3, 6, .inl (yA 6))), (yr 8, .inl (cT 0, 6, .inl (yA 8))), (yr 7, .inl (cT 0, 66, .inl (yA 7))), (yr 5, .inl (cT 0, 288, .inl (yA 5)))] ++ pg cds ad (upo gg7u2 [5060, 5006, 5008, 5007, 5005])) _ := hP
        have hD : va_D A ([(zo, .inl (cT 1, 1, .inr (.inl (vp_updL zf 0 (Int32.toInt64 rvu2))))), (ad 5060, .inr (11, MO yr yi ysb ybs)), (yr 6, .inl (cT 3, 6, .inl (yA 6))), (yr 8, .inl (cT 0, 6, .inl (yA 8))), (yr 7, .inl (cT 0, 66, .inl (yA 7))), (yr 5, .inl (cT 0, 288, .inl (yA 5)))] ++ pg cds ad (upo gg7u2 [5060, 5006, 5008, 5007, 5005])) := hD
        refine hy_iQ (X := [(zo, .inl (cT 1, 1, .inr (.inl (vp_updL zf 0 (Int32.toInt64 rvu2))))), (ad 5060, .inr (11, MO yr yi ysb ybs)), (yr 6, .inl (cT 3, 6, .inl (yA 6))), (yr 8, .inl (cT 0, 6, .inl (yA 8))), (yr 7, .inl (cT 0, 66, .inl (yA 7))), (yr 5, .inl (cT 0, 288, .inl (yA 5)))]) (pl := pg cds ad (upo gg7u2 [5060, 5006, 5008, 5007, 5005])) (cx := [(ad 5060, .inr (11, MO yr yi ysb ybs)), (yr 6, .inl (cT 3, 6, .inl (yA 6))), (yr 8, .inl (cT 0, 6, .inl (yA 8))), (yr 7, .inl (cT 0, 66, .inl (yA 7))), (yr 5, .inl (cT 0, 288, .inl (yA 5)))]) (wr := [(zo, .inl (cT 1, 1, .inr (.inl (vp_updL zf 0 (Int32.toInt64 rvu2)))))]) hP hD hS hA [1, 2, 3, 4, 5] [0] rfl rfl (by decide) (by decide) (va_runV (As := [.int (nI c0), .int 0, .int (nI nn)]) (rest := []) ⟨hx, hb, hml, hown, hT⟩ (y_cut_ok l D cT (ad 5060) yr yi ysb ybs (yA 6) (yA 8) (yA 7) (yA 5) c0 0 nn n y3 hn48 (by rw [y2]; exact hq.1) (by omega) hq.2 (⟨hn1, hn2⟩) hk _) ⟨callB_of 3 hT (tb_gd w1338) rfl rfl rfl (hT _ w13) (hT _ w1335) hM_cut ⟨Nat.le_of_ble_eq_true rfl, Nat.le_of_ble_eq_true rfl⟩, (hT _ w1336), (hT _ w1337)⟩ (RW.preV (ci := 11) (q0 := 0) hZ hS (hy_free (cx := [(ad 5060, .inr (11, MO yr yi ysb ybs)), (yr 6, .inl (cT 3, 6, .inl (yA 6))), (yr 8, .inl (cT 0, 6, .inl (yA 8))), (yr 7, .inl (cT 0, 66, .inl (yA 7))), (yr 5, .inl (cT 0, 288, .inl (yA 5)))]) hD hS hA [1, 2, 3, 4, 5] rfl) (hP.sub (ws' := [(ad 5060, .inr (11, MO yr yi ysb ybs)), (yr 6, .inl (cT 3, 6, .inl (yA 6))), (yr 8, .inl (cT 0, 6, .inl (yA 8))), (yr 7, .inl (cT 0, 66, .inl (yA 7))), (yr 5, .inl (cT 0, 288, .inl (yA 5)))]) [1, 2, 3, 4, 5] rfl) hK (hD.sub (ws' := [(ad 5060, .inr (11, MO yr yi ysb ybs)), (yr 6, .inl (cT 3, 6, .inl (yA 6))), (yr 8, .inl (cT 0, 6, .inl (yA 8))), (yr 7, .inl (cT 0, 66, .inl (yA 7))), (yr 5, .inl (cT 0, 288, .inl (yA 5)))]) [1, 2, 3, 4, 5] (by decide) rfl) rfl rfl) rfl rfl hl.1 rfl (lv_room (Nat.le_of_ble_eq_true rfl)) dL_law_539 ⟨(by show ((2000 + j + 3 * fm + 4 * SM mk 16) + 0) + 0 ≤ 601024; omega), (by show ((400000 + 6 * j + 42 * fm + 69 * SM mk 16) + 0) + 0 ≤ 7293034; omega)⟩) (fun ru4 u9 H locs hpu4 hP hD hS => ?_)
        obtain ⟨m7u4, em7u4, eg7u4⟩ := u9
        have hpu4 : ru4 = nI m7u4 ∧ m7u4 ≤ 11 ∧ em7u4 c0 = nI m7u4 ∧ (∀ q8, q8 ≠ c0 → em7u4 q8 = (yA 8) q8) ∧ (m7u4, eg7u4) = cutF 0 (yA 5) c0 n nn (yA 7) := hpu4
        have hP : va_P D vwCl ([(zo, .inl (cT 1, 1, .inr (.inl (vp_updL zf 0 (Int32.toInt64 rvu2))))), (ad 5060, .inr (11, MO yr (va_up yi 1 0) ysb ybs)), (yr 6, .inl (cT 3, 6, .inl (yA 6))), (yr 8, .inl (cT 0, 6, .inl em7u4)), (yr 7, .inl (cT 0, 66, .inl eg7u4)), (yr 5, .inl (cT 0, 288, .inl (yA 5)))] ++ pg cds ad (upo gg7u2 [5060, 5006, 5008, 5007, 5005])) _ := hP
        have hD : va_D A ([(zo, .inl (cT 1, 1, .inr (.inl (vp_updL zf 0 (Int32.toInt64 rvu2))))), (ad 5060, .inr (11, MO yr (va_up yi 1 0) ysb ybs)), (yr 6, .inl (cT 3, 6, .inl (yA 6))), (yr 8, .inl (cT 0, 6, .inl em7u4)), (yr 7, .inl (cT 0, 66, .inl eg7u4)), (yr 5, .inl (cT 0, 288, .inl (yA 5)))] ++ pg cds ad (upo gg7u2 [5060, 5006, 5008, 5007, 5005])) := hD
        obtain ⟨yR, yL, yE1, yE2, yC⟩ := hpu4
        have ym : m7u4 = (cutF 0 (yA 5) c0 n nn (yA 7)).1 := congrArg Prod.fst yC
        have ye : eg7u4 = (cutF 0 (yA 5) c0 n nn (yA 7)).2 := congrArg Prod.snd yC
        have hw9 : ([(zo, .inl (cT 1, 1, .inr (.inl (vp_updL zf 0 (Int32.toInt64 rvu2))))), (ad 5060, .inr (11, MO yr (va_up yi 1 0) ysb ybs)), (ad 5006, .inl (cT 3, 6, .inl (yA 6))), (ad 5008, .inl (cT 0, 6, .inl em7u4)), (ad 5007, .inl (cT 0, 66, .inl eg7u4)), (ad 5005, .inl (cT 0, 288, .inl (yA 5)))] ++ pg cds ad (upo gg7u2 [5060, 5006, 5008, 5007, 5005])) = ([(zo, .inl (cT 1, 1, .inr (.inl (vp_updL zf 0 (Int32.toInt64 rvu2))))), (ad 5060, .inr (11, MO yr (va_up yi 1 0) ysb ybs)), (yr 6, .inl (cT 3, 6, .inl (yA 6))), (yr 8, .inl (cT 0, 6, .inl em7u4)), (yr 7, .inl (cT 0, 66, .inl eg7u4)), (yr 5, .inl (cT 0, 288, .inl (yA 5)))] ++ pg cds ad (upo gg7u2 [5060, 5006, 5008, 5007, 5005])) := by rw [show ad 5006 = yr 6 from hyr 6 (by unfold YKy; omega), show ad 5008 = yr 8 from hyr 8 (by unfold YKy; omega), show ad 5007 = yr 7 from hyr 7 (by unfold YKy; omega), show ad 5005 = yr 5 from hyr 5 (by unfold YKy; omega)]
        have hP := vP_eq hw9 hP
        have hD := vD_eq hw9 hD
        have hP : va_P D vwCl ([(zo, .inl (cT 1, 1, .inr (.inl (vp_updL zf 0 (Int32.toInt64 rvu2))))), (ad 5060, .inr (11, MO yr (va_up yi 1 0) ysb ybs)), (ad 5006, .inl (cT 3, 6, .inl (yA 6))), (ad 5008, .inl (cT 0, 6, .inl em7u4)), (ad 5007, .inl (cT 0, 66, .inl eg7u4)), (ad 5005, .inl (cT 0, 288, .inl (yA 5)))] ++ pg cds ad (upo gg7u2 [5060, 5006, 5008, 5007, 5005])) _ := hP
        have hD : va_D A ([(zo, .inl (cT 1, 1, .inr (.inl (vp_updL zf 0 (Int32.toInt64 rvu2))))), (ad 5060, .inr (11, MO yr (va_up yi 1 0) ysb ybs)), (ad 5006, .inl (cT 3, 6, .inl (yA 6))), (ad 5008, .inl (cT 0, 6, .inl em7u4)), (ad 5007, .inl (cT 0, 66, .inl eg7u4)), (ad 5005, .inl (cT 0, 288, .inl (yA 5)))] ++ pg cds ad (upo gg7u2 [5060, 5006, 5008, 5007, 5005])) := hD
        have hN9 := (show NDc [5060, 5006, 5008, 5007, 5005] from (nd_c (na_c (by decide) (na_c (by decide) (na_c (by decide) (na_c (by decide) na_0)))) (nd_c (na_c (by decide) (na_c (by decide) (na_c (by decide) na_0))) (nd_c (na_c (by decide) (na_c (by decide) na_0)) (nd_c (na_c (by decide) na_0) (nd_c na_0 nd_0))))))
        have hP := gb_P (w9 := [(5060, .inr (11, MO yr (va_up yi 1 0) ysb ybs)), (5006, .inl (cT 3, 6, .inl (yA 6))), (5008, .inl (cT 0, 6, .inl em7u4)), (5007, .inl (cT 0, 66, .inl eg7u4)), (5005, .inl (cT 0, 288, .inl (yA 5)))]) (X := [(zo, .inl (cT 1, 1, .inr (.inl (vp_updL zf 0 (Int32.toInt64 rvu2)))))]) (g := gg7u2) hcd hN9 (show QB [(5060, .inr (11, MO yr (va_up yi 1 0) ysb ybs)), (5006, .inl (cT 3, 6, .inl (yA 6))), (5008, .inl (cT 0, 6, .inl em7u4)), (5007, .inl (cT 0, 66, .inl eg7u4)), (5005, .inl (cT 0, 288, .inl (yA 5)))] from (qb_c (by decide) (qb_c (by decide) (qb_c (by decide) (qb_c (by decide) (qb_c (by decide) qb_0)))))) (hP.part (cx := [(zo, .inl (cT 1, 1, .inr (.inl (vp_updL zf 0 (Int32.toInt64 rvu2))))), (ad 5060, .inr (11, MO yr (va_up yi 1 0) ysb ybs)), (ad 5006, .inl (cT 3, 6, .inl (yA 6))), (ad 5008, .inl (cT 0, 6, .inl em7u4)), (ad 5007, .inl (cT 0, 66, .inl eg7u4)), (ad 5005, .inl (cT 0, 288, .inl (yA 5)))]) [0, 1, 2, 3, 4, 5] rfl)
        have hD := gb_D (w9 := [(5060, .inr (11, MO yr (va_up yi 1 0) ysb ybs)), (5006, .inl (cT 3, 6, .inl (yA 6))), (5008, .inl (cT 0, 6, .inl em7u4)), (5007, .inl (cT 0, 66, .inl eg7u4)), (5005, .inl (cT 0, 288, .inl (yA 5)))]) (X := [(zo, .inl (cT 1, 1, .inr (.inl (vp_updL zf 0 (Int32.toInt64 rvu2)))))]) (g := gg7u2) hcd hN9 (show QB [(5060, .inr (11, MO yr (va_up yi 1 0) ysb ybs)), (5006, .inl (cT 3, 6, .inl (yA 6))), (5008, .inl (cT 0, 6, .inl em7u4)), (5007, .inl (cT 0, 66, .inl eg7u4)), (5005, .inl (cT 0, 288, .inl (yA 5)))] from (qb_c (by decide) (qb_c (by decide) (qb_c (by decide) (qb_c (by decide) (qb_c (by decide) qb_0)))))) (hD.part (cx := [(zo, .inl (cT 1, 1, .inr (.inl (vp_updL zf 0 (Int32.toInt64 rvu2))))), (ad 5060, .inr (11, MO yr (va_up yi 1 0) ysb ybs)), (ad 5006, .inl (cT 3, 6, .inl (yA 6))), (ad 5008, .inl (cT 0, 6, .inl em7u4)), (ad 5007, .inl (cT 0, 66, .inl eg7u4)), (ad 5005, .inl (cT 0, 288, .inl (yA 5)))]) [0, 1, 2, 3, 4, 5] (by decide) rfl)
        obtain ⟨gy, hgy⟩ : ∃ q9, q9 = ups gg7u2 [(5060, .inr (11, MO yr (va_up yi 1 0) ysb ybs)), (5006, .inl (cT 3, 6, .inl (yA 6))), (5008, .inl (cT 0, 6, .inl em7u4)), (5007, .inl (cT 0, 66, .inl eg7u4)), (5005, .inl (cT 0, 288, .inl (yA 5)))] := ⟨_, rfl⟩
        rw [← hgy] at hP hD
        have hP : va_P D vwCl ([(zo, .inl (cT 1, 1, .inr (.inl (vp_updL zf 0 (Int32.toInt64 rvu2)))))] ++ pg cds ad gy) _ := hP
        have hD : va_D A ([(zo, .inl (cT 1, 1, .inr (.inl (vp_updL zf 0 (Int32.toInt64 rvu2)))))] ++ pg cds ad gy) := hD
        have fgy : ∀ z8, z8 ≠ 5060 → z8 ≠ 5008 → z8 ≠ 5007 → gy z8 = gg7u2 z8 := fun z8 z1 z3 z4 => by rw [hgy]; exact ups_k (kp_n z1 (kp_s ((cF 5006 (by omega) (by omega)).trans (hYA 6 (by unfold YKy; omega))) (kp_n z3 (kp_n z4 (kp_s ((cF 5005 (by omega) (by omega)).trans (hYA 5 (by unfold YKy; omega))) kp_0)))))
        have gy_0 : gy 5060 = some (.inr (11, MO yr (va_up yi 1 0) ysb ybs)) := by rw [hgy]; exact ups_1
        have gy_2 : gy 5008 = some (.inl (cT 0, 6, .inl em7u4)) := by rw [hgy]; exact ups_3 (by decide) (by decide)
        have gy_3 : gy 5007 = some (.inl (cT 0, 66, .inl eg7u4)) := by rw [hgy]; exact ups_4 (by decide) (by decide) (by decide)
        refine lv_istore hx hb dL_law_542 hl (by decide) rfl (fun ls hl => ?_)
        have hl : lv_has ls 7 [(6, .int ru4), (5, .int 0), (0, .ref b), (1, .ref (ad 0)), (2, .ref (ad 5060)), (3, .ref zo), (4, .int (nI (4 * j)))] := hl
        refine lv_aload_n hx hb dL_law_544 rfl (lv_at hl 4 rfl) ?_
        refine ro_i (va_Run.run (va_runV (As := []) (rest := []) ⟨hx, hb, hml, hown, hT⟩ (m_thrown l D cT (ad 5060) yr (va_up yi 1 0) ysb ybs) ⟨callB_of 0 hT (tb_gd w1290) rfl rfl rfl (hT _ w13) (hT _ w1287) hM_thrown ⟨Nat.le_of_ble_eq_true rfl, Nat.le_of_ble_eq_true rfl⟩, (hT _ w1288), (hT _ w1289)⟩ (RO.preV (ci := 11) (q0 := 0) hZ hS ((show va_P D vwCl [(ad 5060, .inr (11, MO yr (va_up yi 1 0) ysb ybs))] _ from (pv_c (pg_1 (x := 5060) hcd hP (by decide) gy_0) pv_0))) hK rfl rfl) rfl rfl hl.1 rfl (lv_room (Nat.le_of_ble_eq_true rfl)) dL_law_545 ⟨(by show (((2000 + j + 3 * fm + 4 * SM mk 16) + 0) + 0) + 0 ≤ 601024; omega), (by show (((400000 + 6 * j + 42 * fm + 69 * SM mk 16) + 0) + 0) + 0 ≤ 7293034; omega)⟩)) ?_
        refine lv_topi (fun y9 e9 => ?_)
        cases (show y9 = 0 from e9.trans rfl)
        refine lv_iload hx hb dL_law_548 (lv_at hl 1 rfl) ?_
        refine lv_icmp_eq (tgt := 555) hx hb dL_law_550 rfl (fun _ => ?_) (fun h5 => absurd (by decide) h5)
        refine lv_iload hx hb dL_law_555 (lv_at hl 1 rfl) ?_
        refine lv_if_ne (tgt := 572) hx hb dL_law_557 rfl (fun h6 => absurd (by decide) h6) (fun _ => ?_)
        refine lv_aload_n hx hb dL_law_560 rfl (lv_at hl 5 rfl) ?_
        refine lv_iconst (v := 0) hx hb dL_law_561 (by decide) ?_
        refine va_lald hx hb hK hP 0 1 rfl rfl (by unfold vp_in; decide) dL_law_562 ?_
        refine lv_iload hx hb dL_law_563 (lv_at hl 0 rfl) ?_
        refine lv_i2l hx hb dL_law_565 rfl ?_
        refine W.lcmp hx hb dL_law_566 ?_
        refine lv_if_eq (tgt := 572) hx hb dL_law_567 rfl (fun _ => ?_) (fun h7 => absurd ((lg_cmp_eq _ _).mpr (pk_uLs.trans (congrArg Int32.toInt64 (cR.trans (by rw [yR, ym]))))) h7)
        refine lv_goto (tgt := 1690) hx hb dL_law_572 rfl ?_
        obtain ⟨yiz, hyiz⟩ : ∃ f9 : Nat → Int32, f9 = va_up yi 1 0 := ⟨_, rfl⟩
        obtain ⟨yAz, hyAz⟩ : ∃ f9 : Nat → Nat → Int32, f9 = va_up (va_up yA 7 eg7u4) 8 em7u4 := ⟨_, rfl⟩
        have hIz : LWI cT ad gg7u2 tE T fm mk F n wd dpt lst w ru rl (va_up ne c0 m7u4) Lo yiz ysb yAz := (by rw [hyiz, hyAz]; exact ⟨fo, CLI.up hCL (Nat.le_refl _) (fun z8 n0 n1 n3 n4 n5 n6 n7 => cF z8 (by omega) (by omega)) ((cF _ (by omega) (by omega)).trans hob) ((cF _ (by omega) (by omega)).trans chtb) (by obtain ⟨ft9, e1, e2⟩ := hTg; exact ⟨ft9, (cF _ (by omega) (by omega)).trans e1, e2⟩) ((cF _ (by omega) (by omega)).trans chpl) (by rw [ym, ye]; exact ccn) (hOut.cg (fun z8 n1 n2 => cF z8 (by omega) (by omega))) cS, ⟨y2, y3, y10, y11, y12, y13, y14, y17, y47, y55, (kin_em y8e yE1 yE2), y18e, hRFN, hPR, hfoy⟩, ⟨hTf, hT16, hn48, hwd6, hdp4, hls2, hw20, hr9, hLo, (kin_ne hne yL), hik, hTOK, (by rw [ym, ye]; exact ris_cut hn2 cRS hne hS9), hVk, hVb, htg, hSEP, hSV7⟩⟩)
        have hIz := hIz.yg (g2 := gy) (fun z8 hz => fgy z8 (by omega) (by omega) (by omega))
        have hYz : YCL cT ad gy y yr yiz ysb ybs yAz yW F := by
          refine ⟨hYad, hyr, (by rw [hyiz]; exact gy_0), fun k hk => ?_⟩
          have hk2 : k = 0 ∨ (4 ≤ k ∧ k ≤ 9) ∨ (18 ≤ k ∧ k ≤ 46) ∨ k = 48 ∨ k = 49 ∨ (56 ≤ k ∧ k ≤ 59) := hk
          by_cases e7 : k = 7
          · subst e7
            rw [hyAz]; exact gy_3
          by_cases e8 : k = 8
          · subst e8
            rw [hyAz]; exact gy_2
          exact (fgy (5000 + k) (by omega) (by omega) (by omega)).trans ((cF (5000 + k) (by omega) (by omega)).trans ((hYA k hk).trans (congrArg some (ycl_o (by rw [hyAz]; exact (va_up_ne _ _ e8).trans ((va_up_ne _ _ e7).trans (rfl)))).symm)))
        rw [hyiz] at hIz hYz
        rw [hyAz] at hIz hYz
        refine W.widen (k := 2000 + (j + 1) + 3 * fm + 4 * SM mk 16) (n := 400000 + 6 * (j + 1) + 42 * fm + 69 * SM mk 16) (by show ((2000 + j + 3 * fm + 4 * SM mk 16) + 0) + 0 ≤ 2000 + (j + 1) + 3 * fm + 4 * SM mk 16; omega) (by show ((400000 + 6 * j + 42 * fm + 69 * SM mk 16) + 0) + 0 ≤ 400000 + 6 * (j + 1) + 42 * fm + 69 * SM mk 16; omega) ?_
        have hl := lv_sub hl [2, 3, 4, 5, 6] rfl
        have hl : lv_has ls 7 [(0, .ref b), (1, .ref (ad 0)), (2, .ref y), (3, .ref zo), (4, .int (nI (4 * j)))] := by rw [← hYz.1]; exact hl
        exact hend ad gy T fm mk F n wd dpt lst w ru rl (va_up ne c0 m7u4) Lo (va_up yi 1 0) ysb ybs (va_up (va_up yA 7 eg7u4) 8 em7u4) yW (vp_updL zf 0 (Int32.toInt64 rvu2)) _ _ ls hIz hYz hP hD hS hl
      · refine lv_aload_n hx hb dL_law_479 rfl (lv_at hl 1 rfl) ?_
        refine lv_aload_n hx hb dL_law_480 rfl (lv_at hl 0 rfl) ?_
        refine lv_iload hx hb dL_law_481 (lv_at hl 4 rfl) ?_
        refine lv_iconst (v := 1) hx hb dL_law_483 (by decide) ?_
        refine lv_iadd hx hb dL_law_484 ?_
        refine lv_topi (fun y9 e9 => ?_)
        cases (show y9 = nI ((4 * j) + 1) from e9.trans (nI_add (4 * j) 1))
        refine va_sld hx hb hX hbl hbA hS (vp_in_nI (n := 4 * j + 1) (N := L) (by omega) (by omega)) dL_law_485 ?_
        refine lv_topi (fun y9 e9 => ?_)
        cases (show y9 = nI c0 from e9.trans (by rw [nI_clamp (by omega)]; exact ha1.symm))
        refine lv_aload_n hx hb dL_law_486 rfl (lv_at hl 0 rfl) ?_
        refine lv_iload hx hb dL_law_487 (lv_at hl 4 rfl) ?_
        refine lv_iconst (v := 2) hx hb dL_law_489 (by decide) ?_
        refine lv_iadd hx hb dL_law_490 ?_
        refine lv_topi (fun y9 e9 => ?_)
        cases (show y9 = nI ((4 * j) + 2) from e9.trans (nI_add (4 * j) 2))
        refine va_sld hx hb hX hbl hbA hS (vp_in_nI (n := 4 * j + 2) (N := L) (by omega) (by omega)) dL_law_491 ?_
        refine lv_topi (fun y9 e9 => ?_)
        cases (show y9 = a2 from e9.trans (by rw [nI_clamp (by omega)]; exact ha2.symm))
        refine lv_if_eq (tgt := 499) hx hb dL_law_492 rfl (fun _ => ?_) (fun h8 => absurd hz2 h8)
        refine lv_iconst (v := 0) hx hb dL_law_499 (by decide) ?_
        refine lv_aload_n hx hb dL_law_500 rfl (lv_at hl 0 rfl) ?_
        refine lv_iload hx hb dL_law_501 (lv_at hl 4 rfl) ?_
        refine lv_iconst (v := 3) hx hb dL_law_503 (by decide) ?_
        refine lv_iadd hx hb dL_law_504 ?_
        refine lv_topi (fun y9 e9 => ?_)
        cases (show y9 = nI ((4 * j) + 3) from e9.trans (nI_add (4 * j) 3))
        refine va_sld hx hb hX hbl hbA hS (vp_in_nI (n := 4 * j + 3) (N := L) (by omega) (by omega)) dL_law_505 ?_
        refine lv_topi (fun y9 e9 => ?_)
        cases (show y9 = nI nn from e9.trans (by rw [nI_clamp (by omega)]; exact ha3.symm))
        refine lv_aload_n hx hb dL_law_506 rfl (lv_at hl 3 rfl) ?_
        refine hy_iP (X := [(zo, .inl (cT 1, 1, .inr (.inl zf)))]) (pl := pg cds ad gg) (cx := [(zo, .inl (cT 1, 1, .inr (.inl zf)))]) (wr := []) hP hD hS hA [0] [] rfl rfl (by decide) (by decide) (tx_runSH (As := [.ref (ad 0), .int (nI c0), .int 0, .int (nI nn), .ref zo]) (rest := []) ⟨hx, hb, hml, hown, hT⟩ (l_cut_no2 l D cT cds ad gg (nI T) (nI wd) (nI n) n (yA 5) (yA 9) (yA 7) (yA 6) ne c0 0 (nI nn) zo zf hlt hcd hob chtb chCa chCf hq.1 (by omega) hq.2 hk _) hT (tc_gd w656 w657 w0 (tb_gd w658)) rfl rfl rfl hL_cut ⟨Nat.le_of_ble_eq_true rfl, Nat.le_of_ble_eq_true rfl⟩ (RW.preS hZ hS (va_freeP (cx := [(zo, .inl (cT 1, 1, .inr (.inl zf)))]) hD hS hA [0] rfl) (hP.part (cx := [(zo, .inl (cT 1, 1, .inr (.inl zf)))]) [0] rfl) hK (hD.part (cx := [(zo, .inl (cT 1, 1, .inr (.inl zf)))]) [0] (by decide) rfl)) rfl hl.1 rfl (Nat.le_of_ble_eq_true rfl) dL_law_507 ⟨(by show (2000 + j + 3 * fm + 4 * SM mk 16) + 1 ≤ 601024; omega), (by show (400000 + 6 * j + 42 * fm + 69 * SM mk 16) + 6 ≤ 7293034; omega)⟩) (fun ru9 u9 H locs hpu9 hP hD hS => ?_)
        have hpu9 : ru9 = 2 := hpu9
        have hP : va_P D vwCl ([(zo, .inl (cT 1, 1, .inr (.inl zf)))] ++ pg cds ad gg) _ := hP
        have hD : va_D A ([(zo, .inl (cT 1, 1, .inr (.inl zf)))] ++ pg cds ad gg) := hD
        refine lv_topi (fun y9 e9 => ?_)
        cases (show y9 = 2 from e9.trans hpu9)
        refine lv_istore hx hb dL_law_510 hl (by decide) rfl (fun ls hl => ?_)
        have hl : lv_has ls 7 [(5, .int 2), (0, .ref b), (1, .ref (ad 0)), (2, .ref (ad 5060)), (3, .ref zo), (4, .int (nI (4 * j)))] := hl
        refine lv_aload_n hx hb dL_law_512 rfl (lv_at hl 3 rfl) ?_
        refine lv_aload_n hx hb dL_law_513 rfl (lv_at hl 1 rfl) ?_
        refine lv_iload hx hb dL_law_514 (lv_at hl 5 rfl) ?_
        refine lv_iconst (v := 1) hx hb dL_law_516 (by decide) ?_
        refine lv_iadd hx hb dL_law_517 ?_
        refine lv_topi (fun y9 e9 => ?_)
        cases (show y9 = nI ((4 * j) + 1) from e9.trans (nI_add (4 * j) 1))
        refine va_sld hx hb hX hbl hbA hS (vp_in_nI (n := 4 * j + 1) (N := L) (by omega) (by omega)) dL_law_518 ?_
        refine lv_topi (fun y9 e9 => ?_)
        cases (show y9 = nI c0 from e9.trans (by rw [nI_clamp (by omega)]; exact ha1.symm))
        refine lv_aload_n hx hb dL_law_519 rfl (lv_at hl 1 rfl) ?_
        refine lv_iload hx hb dL_law_520 (lv_at hl 5 rfl) ?_
        refine lv_iconst (v := 2) hx hb dL_law_522 (by decide) ?_
        refine lv_iadd hx hb dL_law_523 ?_
        refine lv_topi (fun y9 e9 => ?_)
        cases (show y9 = nI ((4 * j) + 2) from e9.trans (nI_add (4 * j) 2))
        refine va_sld hx hb hX hbl hbA hS (vp_in_nI (n := 4 * j + 2) (N := L) (by omega) (by omega)) dL_law_524 ?_
        refine lv_topi (fun y9 e9 => ?_)
        cases (show y9 = a2 from e9.trans (by rw [nI_clamp (by omega)]; exact ha2.symm))
        refine lv_if_eq (tgt := 532) hx hb dL_law_525 rfl (fun _ => ?_) (fun h10 => absurd hz2 h10)
        refine lv_iconst (v := 0) hx hb dL_law_532 (by decide) ?_
        refine lv_aload_n hx hb dL_law_533 rfl (lv_at hl 1 rfl) ?_
        refine lv_iload hx hb dL_law_534 (lv_at hl 5 rfl) ?_
        refine lv_iconst (v := 3) hx hb dL_law_536 (by decide) ?_
        refine lv_iadd hx hb dL_law_537 ?_
        refine lv_topi (fun y9 e9 => ?_)
        cases (show y9 = nI ((4 * j) + 3) from e9.trans (nI_add (4 * j) 3))
        refine va_sld hx hb hX hbl hbA hS (vp_in_nI (n := 4 * j + 3) (N := L) (by omega) (by omega)) dL_law_538 ?_
        refine lv_topi (fun y9 e9 => ?_)
        cases (show y9 = nI nn from e9.trans (by rw [nI_clamp (by omega)]; exact ha3.symm))
        have hB9 : QI gg [(5060, .inr (11, MO yr yi ysb ybs)), (5006, .inl (cT 3, 6, .inl (yA 6)))] := (qi_c (by decide) hYy (qi_c (by decide) (hYA 6 (by unfold YKy; omega)) qi_0))
        have hN9 := (show NDc [5060, 5006] from (nd_c (na_c (by decide) na_0) (nd_c na_0 nd_0)))
        have hP := bo_P (wc := [(5060, .inr (11, MO yr yi ysb ybs)), (5006, .inl (cT 3, 6, .inl (yA 6)))]) (X := [(zo, .inl (cT 1, 1, .inr (.inl zf)))]) hcd hN9 hB9 hP
        have hD := bo_D (wc := [(5060, .inr (11, MO yr yi ysb ybs)), (5006, .inl (cT 3, 6, .inl (yA 6)))]) (X := [(zo, .inl (cT 1, 1, .inr (.inl zf)))]) hcd hN9 hB9 hD
        have hP : va_P D vwCl ([(zo, .inl (cT 1, 1, .inr (.inl zf))), (ad 5060, .inr (11, MO yr yi ysb ybs)), (ad 5006, .inl (cT 3, 6, .inl (yA 6)))] ++ pg cds ad (upo gg [5060, 5006])) _ := hP
        have hD : va_D A ([(zo, .inl (cT 1, 1, .inr (.inl zf))), (ad 5060, .inr (11, MO yr yi ysb ybs)), (ad 5006, .inl (cT 3, 6, .inl (yA 6)))] ++ pg cds ad (upo gg [5060, 5006])) := hD
        have hw9 : ([(zo, .inl (cT 1, 1, .inr (.inl zf))), (ad 5060, .inr (11, MO yr yi ysb ybs)), (yr 6, .inl (cT 3, 6, .inl (yA 6)))] ++ pg cds ad (upo gg [5060, 5006])) = ([(zo, .inl (cT 1, 1, .inr (.inl zf))), (ad 5060, .inr (11, MO yr yi ysb ybs)), (ad 5006, .inl (cT 3, 6, .inl (yA 6)))] ++ pg cds ad (upo gg [5060, 5006])) := by rw [show yr 6 = ad 5006 from (hyr 6 (by unfold YKy; omega)).symm]
        have hP := vP_eq hw9 hP
        have hD := vD_eq hw9 hD
        have hP : va_P D vwCl ([(zo, .inl (cT 1, 1, .inr (.inl zf))), (ad 5060, .inr (11, MO yr yi ysb ybs)), (yr 6, .inl (cT 3, 6, .inl (yA 6)))] ++ pg cds ad (upo gg [5060, 5006])) _ := hP
        have hD : va_D A ([(zo, .inl (cT 1, 1, .inr (.inl zf))), (ad 5060, .inr (11, MO yr yi ysb ybs)), (yr 6, .inl (cT 3, 6, .inl (yA 6)))] ++ pg cds ad (upo gg [5060, 5006])) := hD
        refine hy_iQ (X := [(zo, .inl (cT 1, 1, .inr (.inl zf))), (ad 5060, .inr (11, MO yr yi ysb ybs)), (yr 6, .inl (cT 3, 6, .inl (yA 6)))]) (pl := pg cds ad (upo gg [5060, 5006])) (cx := [(ad 5060, .inr (11, MO yr yi ysb ybs)), (yr 6, .inl (cT 3, 6, .inl (yA 6)))]) (wr := [(zo, .inl (cT 1, 1, .inr (.inl zf)))]) hP hD hS hA [1, 2] [0] rfl rfl (by decide) (by decide) (va_runV (As := [.int (nI c0), .int 0, .int (nI nn)]) (rest := []) ⟨hx, hb, hml, hown, hT⟩ (y_cut_no2 l D cT (ad 5060) yr yi ysb ybs (yA 6) c0 0 (nI nn) (by rw [y2]; exact hq.1) (by omega) hq.2 hk _) ⟨callB_of 3 hT (tb_gd w1338) rfl rfl rfl (hT _ w13) (hT _ w1335) hM_cut ⟨Nat.le_of_ble_eq_true rfl, Nat.le_of_ble_eq_true rfl⟩, (hT _ w1336), (hT _ w1337)⟩ (RW.preV (ci := 11) (q0 := 0) hZ hS (hy_free (cx := [(ad 5060, .inr (11, MO yr yi ysb ybs)), (yr 6, .inl (cT 3, 6, .inl (yA 6)))]) hD hS hA [1, 2] rfl) (hP.sub (ws' := [(ad 5060, .inr (11, MO yr yi ysb ybs)), (yr 6, .inl (cT 3, 6, .inl (yA 6)))]) [1, 2] rfl) hK (hD.sub (ws' := [(ad 5060, .inr (11, MO yr yi ysb ybs)), (yr 6, .inl (cT 3, 6, .inl (yA 6)))]) [1, 2] (by decide) rfl) rfl rfl) rfl rfl hl.1 rfl (lv_room (Nat.le_of_ble_eq_true rfl)) dL_law_539 ⟨(by show ((2000 + j + 3 * fm + 4 * SM mk 16) + 1) + 0 ≤ 601024; omega), (by show ((400000 + 6 * j + 42 * fm + 69 * SM mk 16) + 6) + 0 ≤ 7293034; omega)⟩) (fun ru11 u9 H locs hpu11 hP hD hS => ?_)
        have hpu11 : ru11 = 0 := hpu11
        have hP : va_P D vwCl ([(zo, .inl (cT 1, 1, .inr (.inl zf))), (ad 5060, .inr (11, MO yr (va_up yi 1 2) ysb ybs)), (yr 6, .inl (cT 3, 6, .inl (yA 6)))] ++ pg cds ad (upo gg [5060, 5006])) _ := hP
        have hD : va_D A ([(zo, .inl (cT 1, 1, .inr (.inl zf))), (ad 5060, .inr (11, MO yr (va_up yi 1 2) ysb ybs)), (yr 6, .inl (cT 3, 6, .inl (yA 6)))] ++ pg cds ad (upo gg [5060, 5006])) := hD
        refine lv_topi (fun y9 e9 => ?_)
        cases (show y9 = 0 from e9.trans hpu11)
        have hw9 : ([(zo, .inl (cT 1, 1, .inr (.inl zf))), (ad 5060, .inr (11, MO yr (va_up yi 1 2) ysb ybs)), (ad 5006, .inl (cT 3, 6, .inl (yA 6)))] ++ pg cds ad (upo gg [5060, 5006])) = ([(zo, .inl (cT 1, 1, .inr (.inl zf))), (ad 5060, .inr (11, MO yr (va_up yi 1 2) ysb ybs)), (yr 6, .inl (cT 3, 6, .inl (yA 6)))] ++ pg cds ad (upo gg [5060, 5006])) := by rw [show ad 5006 = yr 6 from hyr 6 (by unfold YKy; omega)]
        have hP := vP_eq hw9 hP
        have hD := vD_eq hw9 hD
        have hP : va_P D vwCl ([(zo, .inl (cT 1, 1, .inr (.inl zf))), (ad 5060, .inr (11, MO yr (va_up yi 1 2) ysb ybs)), (ad 5006, .inl (cT 3, 6, .inl (yA 6)))] ++ pg cds ad (upo gg [5060, 5006])) _ := hP
        have hD : va_D A ([(zo, .inl (cT 1, 1, .inr (.inl zf))), (ad 5060, .inr (11, MO yr (va_up yi 1 2) ysb ybs)), (ad 5006, .inl (cT 3, 6, .inl (yA 6)))] ++ pg cds ad (upo gg [5060, 5006])) := hD
        have hN9 := (show NDc [5060, 5006] from (nd_c (na_c (by decide) na_0) (nd_c na_0 nd_0)))
        have hP := gb_P (w9 := [(5060, .inr (11, MO yr (va_up yi 1 2) ysb ybs)), (5006, .inl (cT 3, 6, .inl (yA 6)))]) (X := [(zo, .inl (cT 1, 1, .inr (.inl zf)))]) (g := gg) hcd hN9 (show QB [(5060, .inr (11, MO yr (va_up yi 1 2) ysb ybs)), (5006, .inl (cT 3, 6, .inl (yA 6)))] from (qb_c (by decide) (qb_c (by decide) qb_0))) (hP.part (cx := [(zo, .inl (cT 1, 1, .inr (.inl zf))), (ad 5060, .inr (11, MO yr (va_up yi 1 2) ysb ybs)), (ad 5006, .inl (cT 3, 6, .inl (yA 6)))]) [0, 1, 2] rfl)
        have hD := gb_D (w9 := [(5060, .inr (11, MO yr (va_up yi 1 2) ysb ybs)), (5006, .inl (cT 3, 6, .inl (yA 6)))]) (X := [(zo, .inl (cT 1, 1, .inr (.inl zf)))]) (g := gg) hcd hN9 (show QB [(5060, .inr (11, MO yr (va_up yi 1 2) ysb ybs)), (5006, .inl (cT 3, 6, .inl (yA 6)))] from (qb_c (by decide) (qb_c (by decide) qb_0))) (hD.part (cx := [(zo, .inl (cT 1, 1, .inr (.inl zf))), (ad 5060, .inr (11, MO yr (va_up yi 1 2) ysb ybs)), (ad 5006, .inl (cT 3, 6, .inl (yA 6)))]) [0, 1, 2] (by decide) rfl)
        obtain ⟨gy, hgy⟩ : ∃ q9, q9 = ups gg [(5060, .inr (11, MO yr (va_up yi 1 2) ysb ybs)), (5006, .inl (cT 3, 6, .inl (yA 6)))] := ⟨_, rfl⟩
        rw [← hgy] at hP hD
        have hP : va_P D vwCl ([(zo, .inl (cT 1, 1, .inr (.inl zf)))] ++ pg cds ad gy) _ := hP
        have hD : va_D A ([(zo, .inl (cT 1, 1, .inr (.inl zf)))] ++ pg cds ad gy) := hD
        have fgy : ∀ z8, z8 ≠ 5060 → gy z8 = gg z8 := fun z8 z1 => by rw [hgy]; exact ups_k (kp_n z1 (kp_s (hYA 6 (by unfold YKy; omega)) kp_0))
        have gy_0 : gy 5060 = some (.inr (11, MO yr (va_up yi 1 2) ysb ybs)) := by rw [hgy]; exact ups_1
        refine lv_istore hx hb dL_law_542 hl (by decide) rfl (fun ls hl => ?_)
        have hl : lv_has ls 7 [(6, .int 0), (5, .int 2), (0, .ref b), (1, .ref (ad 0)), (2, .ref (ad 5060)), (3, .ref zo), (4, .int (nI (4 * j)))] := hl
        refine lv_aload_n hx hb dL_law_544 rfl (lv_at hl 4 rfl) ?_
        refine ro_i (va_Run.run (va_runV (As := []) (rest := []) ⟨hx, hb, hml, hown, hT⟩ (m_thrown l D cT (ad 5060) yr (va_up yi 1 2) ysb ybs) ⟨callB_of 0 hT (tb_gd w1290) rfl rfl rfl (hT _ w13) (hT _ w1287) hM_thrown ⟨Nat.le_of_ble_eq_true rfl, Nat.le_of_ble_eq_true rfl⟩, (hT _ w1288), (hT _ w1289)⟩ (RO.preV (ci := 11) (q0 := 0) hZ hS ((show va_P D vwCl [(ad 5060, .inr (11, MO yr (va_up yi 1 2) ysb ybs))] _ from (pv_c (pg_1 (x := 5060) hcd hP (by decide) gy_0) pv_0))) hK rfl rfl) rfl rfl hl.1 rfl (lv_room (Nat.le_of_ble_eq_true rfl)) dL_law_545 ⟨(by show (((2000 + j + 3 * fm + 4 * SM mk 16) + 1) + 0) + 0 ≤ 601024; omega), (by show (((400000 + 6 * j + 42 * fm + 69 * SM mk 16) + 6) + 0) + 0 ≤ 7293034; omega)⟩)) ?_
        refine lv_topi (fun y9 e9 => ?_)
        cases (show y9 = 2 from e9.trans rfl)
        refine lv_iload hx hb dL_law_548 (lv_at hl 1 rfl) ?_
        refine lv_icmp_eq (tgt := 555) hx hb dL_law_550 rfl (fun _ => ?_) (fun h12 => absurd (by decide) h12)
        refine lv_iload hx hb dL_law_555 (lv_at hl 1 rfl) ?_
        refine lv_if_ne (tgt := 572) hx hb dL_law_557 rfl (fun _ => ?_) (fun h13 => absurd h13 (by decide))
        refine lv_goto (tgt := 1690) hx hb dL_law_572 rfl ?_
        obtain ⟨yiz, hyiz⟩ : ∃ f9 : Nat → Int32, f9 = va_up yi 1 2 := ⟨_, rfl⟩
        have hIz : LWI cT ad gg tE T fm mk F n wd dpt lst w ru rl ne Lo yiz ysb yA := hI.sc (fun k hk => by rw [hyiz]; exact va_up_ne _ _ hk) (fun _ _ => rfl)
        have hIz := hIz.yg (g2 := gy) (fun z8 hz => fgy z8 (by omega))
        have hYz : YCL cT ad gy y yr yiz ysb ybs yA yW F := by
          refine ⟨hYad, hyr, (by rw [hyiz]; exact gy_0), fun k hk => ?_⟩
          have hk2 : k = 0 ∨ (4 ≤ k ∧ k ≤ 9) ∨ (18 ≤ k ∧ k ≤ 46) ∨ k = 48 ∨ k = 49 ∨ (56 ≤ k ∧ k ≤ 59) := hk
          exact (fgy (5000 + k) (by omega)).trans ((hYA k hk).trans (congrArg some (ycl_o rfl).symm))
        rw [hyiz] at hIz hYz
        refine W.widen (k := 2000 + (j + 1) + 3 * fm + 4 * SM mk 16) (n := 400000 + 6 * (j + 1) + 42 * fm + 69 * SM mk 16) (by show ((2000 + j + 3 * fm + 4 * SM mk 16) + 1) + 0 ≤ 2000 + (j + 1) + 3 * fm + 4 * SM mk 16; omega) (by show ((400000 + 6 * j + 42 * fm + 69 * SM mk 16) + 6) + 0 ≤ 400000 + 6 * (j + 1) + 42 * fm + 69 * SM mk 16; omega) ?_
        have hl := lv_sub hl [2, 3, 4, 5, 6] rfl
        have hl : lv_has ls 7 [(0, .ref b), (1, .ref (ad 0)), (2, .ref y), (3, .ref zo), (4, .int (nI (4 * j)))] := by rw [← hYz.1]; exact hl
        exact hend ad gy T fm mk F n wd dpt lst w ru rl ne Lo (va_up yi 1 2) ysb ybs yA yW zf _ _ ls hIz hYz hP hD hS hl
    · refine lv_aload_n hx hb dL_law_479 rfl (lv_at hl 1 rfl) ?_
      refine lv_aload_n hx hb dL_law_480 rfl (lv_at hl 0 rfl) ?_
      refine lv_iload hx hb dL_law_481 (lv_at hl 4 rfl) ?_
      refine lv_iconst (v := 1) hx hb dL_law_483 (by decide) ?_
      refine lv_iadd hx hb dL_law_484 ?_
      refine lv_topi (fun y9 e9 => ?_)
      cases (show y9 = nI ((4 * j) + 1) from e9.trans (nI_add (4 * j) 1))
      refine va_sld hx hb hX hbl hbA hS (vp_in_nI (n := 4 * j + 1) (N := L) (by omega) (by omega)) dL_law_485 ?_
      refine lv_topi (fun y9 e9 => ?_)
      cases (show y9 = a1 from e9.trans (by rw [nI_clamp (by omega)]; exact ha1.symm))
      refine lv_aload_n hx hb dL_law_486 rfl (lv_at hl 0 rfl) ?_
      refine lv_iload hx hb dL_law_487 (lv_at hl 4 rfl) ?_
      refine lv_iconst (v := 2) hx hb dL_law_489 (by decide) ?_
      refine lv_iadd hx hb dL_law_490 ?_
      refine lv_topi (fun y9 e9 => ?_)
      cases (show y9 = nI ((4 * j) + 2) from e9.trans (nI_add (4 * j) 2))
      refine va_sld hx hb hX hbl hbA hS (vp_in_nI (n := 4 * j + 2) (N := L) (by omega) (by omega)) dL_law_491 ?_
      refine lv_topi (fun y9 e9 => ?_)
      cases (show y9 = a2 from e9.trans (by rw [nI_clamp (by omega)]; exact ha2.symm))
      refine lv_if_eq (tgt := 499) hx hb dL_law_492 rfl (fun _ => ?_) (fun h14 => absurd hz2 h14)
      refine lv_iconst (v := 0) hx hb dL_law_499 (by decide) ?_
      refine lv_aload_n hx hb dL_law_500 rfl (lv_at hl 0 rfl) ?_
      refine lv_iload hx hb dL_law_501 (lv_at hl 4 rfl) ?_
      refine lv_iconst (v := 3) hx hb dL_law_503 (by decide) ?_
      refine lv_iadd hx hb dL_law_504 ?_
      refine lv_topi (fun y9 e9 => ?_)
      cases (show y9 = nI ((4 * j) + 3) from e9.trans (nI_add (4 * j) 3))
      refine va_sld hx hb hX hbl hbA hS (vp_in_nI (n := 4 * j + 3) (N := L) (by omega) (by omega)) dL_law_505 ?_
      refine lv_topi (fun y9 e9 => ?_)
      cases (show y9 = a3 from e9.trans (by rw [nI_clamp (by omega)]; exact ha3.symm))
      refine lv_aload_n hx hb dL_law_506 rfl (lv_at hl 3 rfl) ?_
      refine hy_iP (X := [(zo, .inl (cT 1, 1, .inr (.inl zf)))]) (pl := pg cds ad gg) (cx := [(zo, .inl (cT 1, 1, .inr (.inl zf)))]) (wr := []) hP hD hS hA [0] [] rfl rfl (by decide) (by decide) (tx_runSH (As := [.ref (ad 0), .int a1, .int 0, .int a3, .ref zo]) (rest := []) ⟨hx, hb, hml, hown, hT⟩ (l_cut_no1 l D cT cds ad gg (nI T) (nI wd) (nI n) a1 0 a3 zo zf hlt hcd hob chtb hq _) hT (tc_gd w656 w657 w0 (tb_gd w658)) rfl rfl rfl hL_cut ⟨Nat.le_of_ble_eq_true rfl, Nat.le_of_ble_eq_true rfl⟩ (RW.preS hZ hS (va_freeP (cx := [(zo, .inl (cT 1, 1, .inr (.inl zf)))]) hD hS hA [0] rfl) (hP.part (cx := [(zo, .inl (cT 1, 1, .inr (.inl zf)))]) [0] rfl) hK (hD.part (cx := [(zo, .inl (cT 1, 1, .inr (.inl zf)))]) [0] (by decide) rfl)) rfl hl.1 rfl (Nat.le_of_ble_eq_true rfl) dL_law_507 ⟨(by show (2000 + j + 3 * fm + 4 * SM mk 16) + 1 ≤ 601024; omega), (by show (400000 + 6 * j + 42 * fm + 69 * SM mk 16) + 6 ≤ 7293034; omega)⟩) (fun ru15 u9 H locs hpu15 hP hD hS => ?_)
      have hpu15 : ru15 = 1 := hpu15
      have hP : va_P D vwCl ([(zo, .inl (cT 1, 1, .inr (.inl zf)))] ++ pg cds ad gg) _ := hP
      have hD : va_D A ([(zo, .inl (cT 1, 1, .inr (.inl zf)))] ++ pg cds ad gg) := hD
      refine lv_topi (fun y9 e9 => ?_)
      cases (show y9 = 1 from e9.trans hpu15)
      refine lv_istore hx hb dL_law_510 hl (by decide) rfl (fun ls hl => ?_)
      have hl : lv_has ls 7 [(5, .int 1), (0, .ref b), (1, .ref (ad 0)), (2, .ref (ad 5060)), (3, .ref zo), (4, .int (nI (4 * j)))] := hl
      refine lv_aload_n hx hb dL_law_512 rfl (lv_at hl 3 rfl) ?_
      refine lv_aload_n hx hb dL_law_513 rfl (lv_at hl 1 rfl) ?_
      refine lv_iload hx hb dL_law_514 (lv_at hl 5 rfl) ?_
      refine lv_iconst (v := 1) hx hb dL_law_516 (by decide) ?_
      refine lv_iadd hx hb dL_law_517 ?_
      refine lv_topi (fun y9 e9 => ?_)
      cases (show y9 = nI ((4 * j) + 1) from e9.trans (nI_add (4 * j) 1))
      refine va_sld hx hb hX hbl hbA hS (vp_in_nI (n := 4 * j + 1) (N := L) (by omega) (by omega)) dL_law_518 ?_
      refine lv_topi (fun y9 e9 => ?_)
      cases (show y9 = a1 from e9.trans (by rw [nI_clamp (by omega)]; exact ha1.symm))
      refine lv_aload_n hx hb dL_law_519 rfl (lv_at hl 1 rfl) ?_
      refine lv_iload hx hb dL_law_520 (lv_at hl 5 rfl) ?_
      refine lv_iconst (v := 2) hx hb dL_law_522 (by decide) ?_
      refine lv_iadd hx hb dL_law_523 ?_
      refine lv_topi (fun y9 e9 => ?_)
      cases (show y9 = nI ((4 * j) + 2) from e9.trans (nI_add (4 * j) 2))
      refine va_sld hx hb hX hbl hbA hS (vp_in_nI (n := 4 * j + 2) (N := L) (by omega) (by omega)) dL_law_524 ?_
      refine lv_topi (fun y9 e9 => ?_)
      cases (show y9 = a2 from e9.trans (by rw [nI_clamp (by omega)]; exact ha2.symm))
      refine lv_if_eq (tgt := 532) hx hb dL_law_525 rfl (fun _ => ?_) (fun h16 => absurd hz2 h16)
      refine lv_iconst (v := 0) hx hb dL_law_532 (by decide) ?_
      refine lv_aload_n hx hb dL_law_533 rfl (lv_at hl 1 rfl) ?_
      refine lv_iload hx hb dL_law_534 (lv_at hl 5 rfl) ?_
      refine lv_iconst (v := 3) hx hb dL_law_536 (by decide) ?_
      refine lv_iadd hx hb dL_law_537 ?_
      refine lv_topi (fun y9 e9 => ?_)
      cases (show y9 = nI ((4 * j) + 3) from e9.trans (nI_add (4 * j) 3))
      refine va_sld hx hb hX hbl hbA hS (vp_in_nI (n := 4 * j + 3) (N := L) (by omega) (by omega)) dL_law_538 ?_
      refine lv_topi (fun y9 e9 => ?_)
      cases (show y9 = a3 from e9.trans (by rw [nI_clamp (by omega)]; exact ha3.symm))
      have hB9 : QI gg [(5060, .inr (11, MO yr yi ysb ybs))] := (qi_c (by decide) hYy qi_0)
      have hN9 := (show NDc [5060] from (nd_c na_0 nd_0))
      have hP := bo_P (wc := [(5060, .inr (11, MO yr yi ysb ybs))]) (X := [(zo, .inl (cT 1, 1, .inr (.inl zf)))]) hcd hN9 hB9 hP
      have hD := bo_D (wc := [(5060, .inr (11, MO yr yi ysb ybs))]) (X := [(zo, .inl (cT 1, 1, .inr (.inl zf)))]) hcd hN9 hB9 hD
      have hP : va_P D vwCl ([(zo, .inl (cT 1, 1, .inr (.inl zf))), (ad 5060, .inr (11, MO yr yi ysb ybs))] ++ pg cds ad (upo gg [5060])) _ := hP
      have hD : va_D A ([(zo, .inl (cT 1, 1, .inr (.inl zf))), (ad 5060, .inr (11, MO yr yi ysb ybs))] ++ pg cds ad (upo gg [5060])) := hD
      refine hy_iQ (X := [(zo, .inl (cT 1, 1, .inr (.inl zf))), (ad 5060, .inr (11, MO yr yi ysb ybs))]) (pl := pg cds ad (upo gg [5060])) (cx := [(ad 5060, .inr (11, MO yr yi ysb ybs))]) (wr := [(zo, .inl (cT 1, 1, .inr (.inl zf)))]) hP hD hS hA [1] [0] rfl rfl (by decide) (by decide) (va_runV (As := [.int a1, .int 0, .int a3]) (rest := []) ⟨hx, hb, hml, hown, hT⟩ (y_cut_no l D cT (ad 5060) yr yi ysb ybs a1 a3 0 (by rw [y2]; exact hq) _) ⟨callB_of 3 hT (tb_gd w1338) rfl rfl rfl (hT _ w13) (hT _ w1335) hM_cut ⟨Nat.le_of_ble_eq_true rfl, Nat.le_of_ble_eq_true rfl⟩, (hT _ w1336), (hT _ w1337)⟩ (RW.preV (ci := 11) (q0 := 0) hZ hS (hy_free (cx := [(ad 5060, .inr (11, MO yr yi ysb ybs))]) hD hS hA [1] rfl) (hP.sub (ws' := [(ad 5060, .inr (11, MO yr yi ysb ybs))]) [1] rfl) hK (hD.sub (ws' := [(ad 5060, .inr (11, MO yr yi ysb ybs))]) [1] (by decide) rfl) rfl rfl) rfl rfl hl.1 rfl (lv_room (Nat.le_of_ble_eq_true rfl)) dL_law_539 ⟨(by show ((2000 + j + 3 * fm + 4 * SM mk 16) + 1) + 0 ≤ 601024; omega), (by show ((400000 + 6 * j + 42 * fm + 69 * SM mk 16) + 6) + 0 ≤ 7293034; omega)⟩) (fun ru17 u9 H locs hpu17 hP hD hS => ?_)
      have hpu17 : ru17 = 0 := hpu17
      have hP : va_P D vwCl ([(zo, .inl (cT 1, 1, .inr (.inl zf))), (ad 5060, .inr (11, MO yr (va_up yi 1 1) ysb ybs))] ++ pg cds ad (upo gg [5060])) _ := hP
      have hD : va_D A ([(zo, .inl (cT 1, 1, .inr (.inl zf))), (ad 5060, .inr (11, MO yr (va_up yi 1 1) ysb ybs))] ++ pg cds ad (upo gg [5060])) := hD
      refine lv_topi (fun y9 e9 => ?_)
      cases (show y9 = 0 from e9.trans hpu17)
      have hN9 := (show NDc [5060] from (nd_c na_0 nd_0))
      have hP := gb_P (w9 := [(5060, .inr (11, MO yr (va_up yi 1 1) ysb ybs))]) (X := [(zo, .inl (cT 1, 1, .inr (.inl zf)))]) (g := gg) hcd hN9 (show QB [(5060, .inr (11, MO yr (va_up yi 1 1) ysb ybs))] from (qb_c (by decide) qb_0)) (hP.part (cx := [(zo, .inl (cT 1, 1, .inr (.inl zf))), (ad 5060, .inr (11, MO yr (va_up yi 1 1) ysb ybs))]) [0, 1] rfl)
      have hD := gb_D (w9 := [(5060, .inr (11, MO yr (va_up yi 1 1) ysb ybs))]) (X := [(zo, .inl (cT 1, 1, .inr (.inl zf)))]) (g := gg) hcd hN9 (show QB [(5060, .inr (11, MO yr (va_up yi 1 1) ysb ybs))] from (qb_c (by decide) qb_0)) (hD.part (cx := [(zo, .inl (cT 1, 1, .inr (.inl zf))), (ad 5060, .inr (11, MO yr (va_up yi 1 1) ysb ybs))]) [0, 1] (by decide) rfl)
      obtain ⟨gy, hgy⟩ : ∃ q9, q9 = ups gg [(5060, .inr (11, MO yr (va_up yi 1 1) ysb ybs))] := ⟨_, rfl⟩
      rw [← hgy] at hP hD
      have hP : va_P D vwCl ([(zo, .inl (cT 1, 1, .inr (.inl zf)))] ++ pg cds ad gy) _ := hP
      have hD : va_D A ([(zo, .inl (cT 1, 1, .inr (.inl zf)))] ++ pg cds ad gy) := hD
      have fgy : ∀ z8, z8 ≠ 5060 → gy z8 = gg z8 := fun z8 z1 => by rw [hgy]; exact ups_k (kp_n z1 kp_0)
      have gy_0 : gy 5060 = some (.inr (11, MO yr (va_up yi 1 1) ysb ybs)) := by rw [hgy]; exact ups_1
      refine lv_istore hx hb dL_law_542 hl (by decide) rfl (fun ls hl => ?_)
      have hl : lv_has ls 7 [(6, .int 0), (5, .int 1), (0, .ref b), (1, .ref (ad 0)), (2, .ref (ad 5060)), (3, .ref zo), (4, .int (nI (4 * j)))] := hl
      refine lv_aload_n hx hb dL_law_544 rfl (lv_at hl 4 rfl) ?_
      refine ro_i (va_Run.run (va_runV (As := []) (rest := []) ⟨hx, hb, hml, hown, hT⟩ (m_thrown l D cT (ad 5060) yr (va_up yi 1 1) ysb ybs) ⟨callB_of 0 hT (tb_gd w1290) rfl rfl rfl (hT _ w13) (hT _ w1287) hM_thrown ⟨Nat.le_of_ble_eq_true rfl, Nat.le_of_ble_eq_true rfl⟩, (hT _ w1288), (hT _ w1289)⟩ (RO.preV (ci := 11) (q0 := 0) hZ hS ((show va_P D vwCl [(ad 5060, .inr (11, MO yr (va_up yi 1 1) ysb ybs))] _ from (pv_c (pg_1 (x := 5060) hcd hP (by decide) gy_0) pv_0))) hK rfl rfl) rfl rfl hl.1 rfl (lv_room (Nat.le_of_ble_eq_true rfl)) dL_law_545 ⟨(by show (((2000 + j + 3 * fm + 4 * SM mk 16) + 1) + 0) + 0 ≤ 601024; omega), (by show (((400000 + 6 * j + 42 * fm + 69 * SM mk 16) + 6) + 0) + 0 ≤ 7293034; omega)⟩)) ?_
      refine lv_topi (fun y9 e9 => ?_)
      cases (show y9 = 1 from e9.trans rfl)
      refine lv_iload hx hb dL_law_548 (lv_at hl 1 rfl) ?_
      refine lv_icmp_eq (tgt := 555) hx hb dL_law_550 rfl (fun _ => ?_) (fun h18 => absurd (by decide) h18)
      refine lv_iload hx hb dL_law_555 (lv_at hl 1 rfl) ?_
      refine lv_if_ne (tgt := 572) hx hb dL_law_557 rfl (fun _ => ?_) (fun h19 => absurd h19 (by decide))
      refine lv_goto (tgt := 1690) hx hb dL_law_572 rfl ?_
      obtain ⟨yiz, hyiz⟩ : ∃ f9 : Nat → Int32, f9 = va_up yi 1 1 := ⟨_, rfl⟩
      have hIz : LWI cT ad gg tE T fm mk F n wd dpt lst w ru rl ne Lo yiz ysb yA := hI.sc (fun k hk => by rw [hyiz]; exact va_up_ne _ _ hk) (fun _ _ => rfl)
      have hIz := hIz.yg (g2 := gy) (fun z8 hz => fgy z8 (by omega))
      have hYz : YCL cT ad gy y yr yiz ysb ybs yA yW F := by
        refine ⟨hYad, hyr, (by rw [hyiz]; exact gy_0), fun k hk => ?_⟩
        have hk2 : k = 0 ∨ (4 ≤ k ∧ k ≤ 9) ∨ (18 ≤ k ∧ k ≤ 46) ∨ k = 48 ∨ k = 49 ∨ (56 ≤ k ∧ k ≤ 59) := hk
        exact (fgy (5000 + k) (by omega)).trans ((hYA k hk).trans (congrArg some (ycl_o rfl).symm))
      rw [hyiz] at hIz hYz
      refine W.widen (k := 2000 + (j + 1) + 3 * fm + 4 * SM mk 16) (n := 400000 + 6 * (j + 1) + 42 * fm + 69 * SM mk 16) (by show ((2000 + j + 3 * fm + 4 * SM mk 16) + 1) + 0 ≤ 2000 + (j + 1) + 3 * fm + 4 * SM mk 16; omega) (by show ((400000 + 6 * j + 42 * fm + 69 * SM mk 16) + 6) + 0 ≤ 400000 + 6 * (j + 1) + 42 * fm + 69 * SM mk 16; omega) ?_
      have hl := lv_sub hl [2, 3, 4, 5, 6] rfl
      have hl : lv_has ls 7 [(0, .ref b), (1, .ref (ad 0)), (2, .ref y), (3, .ref zo), (4, .int (nI (4 * j)))] := by rw [← hYz.1]; exact hl
      exact hend ad gy T fm mk F n wd dpt lst w ru rl ne Lo (va_up yi 1 1) ysb ybs yA yW zf _ _ ls hIz hYz hP hD hS hl
  · by_cases hq : (0 ≤ a1 ∧ a1 ≤ nI wd - 1) ∧ (2 ≤ a3 ∧ a3 ≤ 12)
    · obtain ⟨c0, hc8, rfl⟩ := i_nat (n := wd) (by omega) hq.1
      obtain ⟨nn, hn1, hn2, rfl⟩ := i_btw (lo := 2) (hi := 12) (by omega) (by omega) hq.2
      by_cases hk : yA 6 c0 = 0
      · refine lv_aload_n hx hb dL_law_479 rfl (lv_at hl 1 rfl) ?_
        refine lv_aload_n hx hb dL_law_480 rfl (lv_at hl 0 rfl) ?_
        refine lv_iload hx hb dL_law_481 (lv_at hl 4 rfl) ?_
        refine lv_iconst (v := 1) hx hb dL_law_483 (by decide) ?_
        refine lv_iadd hx hb dL_law_484 ?_
        refine lv_topi (fun y9 e9 => ?_)
        cases (show y9 = nI ((4 * j) + 1) from e9.trans (nI_add (4 * j) 1))
        refine va_sld hx hb hX hbl hbA hS (vp_in_nI (n := 4 * j + 1) (N := L) (by omega) (by omega)) dL_law_485 ?_
        refine lv_topi (fun y9 e9 => ?_)
        cases (show y9 = nI c0 from e9.trans (by rw [nI_clamp (by omega)]; exact ha1.symm))
        refine lv_aload_n hx hb dL_law_486 rfl (lv_at hl 0 rfl) ?_
        refine lv_iload hx hb dL_law_487 (lv_at hl 4 rfl) ?_
        refine lv_iconst (v := 2) hx hb dL_law_489 (by decide) ?_
        refine lv_iadd hx hb dL_law_490 ?_
        refine lv_topi (fun y9 e9 => ?_)
        cases (show y9 = nI ((4 * j) + 2) from e9.trans (nI_add (4 * j) 2))
        refine va_sld hx hb hX hbl hbA hS (vp_in_nI (n := 4 * j + 2) (N := L) (by omega) (by omega)) dL_law_491 ?_
        refine lv_topi (fun y9 e9 => ?_)
        cases (show y9 = a2 from e9.trans (by rw [nI_clamp (by omega)]; exact ha2.symm))
        refine lv_if_eq (tgt := 499) hx hb dL_law_492 rfl (fun h20 => absurd h20 hz2) (fun _ => ?_)
        refine lv_iconst (v := 1) hx hb dL_law_495 (by decide) ?_
        refine lv_goto (tgt := 500) hx hb dL_law_496 rfl ?_
        refine lv_aload_n hx hb dL_law_500 rfl (lv_at hl 0 rfl) ?_
        refine lv_iload hx hb dL_law_501 (lv_at hl 4 rfl) ?_
        refine lv_iconst (v := 3) hx hb dL_law_503 (by decide) ?_
        refine lv_iadd hx hb dL_law_504 ?_
        refine lv_topi (fun y9 e9 => ?_)
        cases (show y9 = nI ((4 * j) + 3) from e9.trans (nI_add (4 * j) 3))
        refine va_sld hx hb hX hbl hbA hS (vp_in_nI (n := 4 * j + 3) (N := L) (by omega) (by omega)) dL_law_505 ?_
        refine lv_topi (fun y9 e9 => ?_)
        cases (show y9 = nI nn from e9.trans (by rw [nI_clamp (by omega)]; exact ha3.symm))
        refine lv_aload_n hx hb dL_law_506 rfl (lv_at hl 3 rfl) ?_
        refine hy_iP (X := [(zo, .inl (cT 1, 1, .inr (.inl zf)))]) (pl := pg cds ad gg) (cx := [(zo, .inl (cT 1, 1, .inr (.inl zf)))]) (wr := []) hP hD hS hA [0] [] rfl rfl (by decide) (by decide) (tx_runSH (As := [.ref (ad 0), .int (nI c0), .int 1, .int (nI nn), .ref zo]) (rest := []) ⟨hx, hb, hml, hown, hT⟩ (l_cut l D cT cds ad gg (nI T) (nI wd) (nI n) n (yA 5) (yA 9) (yA 7) (yA 6) ne c0 1 nn sa9 zo zf hcd hob chtb rfl hn48 chCa chCf hne hq.1 (by omega) hq.2 (⟨hn1, hn2⟩) hk hso (hVb c0 (by omega)) _) hT (tc_gd w656 w657 w0 (tb_gd w658)) rfl rfl rfl hL_cut ⟨Nat.le_of_ble_eq_true rfl, Nat.le_of_ble_eq_true rfl⟩ (RW.preS hZ hS (va_freeP (cx := [(zo, .inl (cT 1, 1, .inr (.inl zf)))]) hD hS hA [0] rfl) (hP.part (cx := [(zo, .inl (cT 1, 1, .inr (.inl zf)))]) [0] rfl) hK (hD.part (cx := [(zo, .inl (cT 1, 1, .inr (.inl zf)))]) [0] (by decide) rfl)) rfl hl.1 rfl (Nat.le_of_ble_eq_true rfl) dL_law_507 ⟨(by show (2000 + j + 3 * fm + 4 * SM mk 16) + 0 ≤ 601024; omega), (by show (400000 + 6 * j + 42 * fm + 69 * SM mk 16) + 0 ≤ 7293034; omega)⟩) (fun ru21 u9 H locs hpu21 hP hD hS => ?_)
        obtain ⟨gg7u21, rvu21⟩ := u9
        have hpu21 : ru21 = 0 ∧ rvu21 = nI (cutF 1 (yA 5) c0 n nn (yA 7)).1 ∧ (∀ z8, (z8 < 10 ∨ 40 ≤ z8) → z8 ≠ 48 → gg7u21 z8 = gg z8) ∧ (∃ sa7 : Nat → Int32, gg7u21 48 = some (eA (cT 0) 48 sa7)) ∧ COLF cT ad gg7u21 n (yA 5) (yA 9) (cutF 1 (yA 5) c0 n nn (yA 7)).2 (yA 6) (va_up ne c0 (cutF 1 (yA 5) c0 n nn (yA 7)).1) ∧ RIS (cutF 1 (yA 5) c0 n nn (yA 7)).2 (11 * c0) (cutF 1 (yA 5) c0 n nn (yA 7)).1 ∧ (cutF 1 (yA 5) c0 n nn (yA 7)).1 ≤ 11 := hpu21
        have hP : va_P D vwCl ([(zo, .inl (cT 1, 1, .inr (.inl (vp_updL zf 0 (Int32.toInt64 rvu21)))))] ++ pg cds ad gg7u21) _ := hP
        have hD : va_D A ([(zo, .inl (cT 1, 1, .inr (.inl (vp_updL zf 0 (Int32.toInt64 rvu21)))))] ++ pg cds ad gg7u21) := hD
        refine lv_topi (fun y9 e9 => ?_)
        cases (show y9 = 0 from e9.trans hpu21.1)
        obtain ⟨_, cR, cF, cS, ccn, cRS, cL⟩ := hpu21
        refine lv_istore hx hb dL_law_510 hl (by decide) rfl (fun ls hl => ?_)
        have hl : lv_has ls 7 [(5, .int 0), (0, .ref b), (1, .ref (ad 0)), (2, .ref (ad 5060)), (3, .ref zo), (4, .int (nI (4 * j)))] := hl
        refine lv_aload_n hx hb dL_law_512 rfl (lv_at hl 3 rfl) ?_
        refine lv_aload_n hx hb dL_law_513 rfl (lv_at hl 1 rfl) ?_
        refine lv_iload hx hb dL_law_514 (lv_at hl 5 rfl) ?_
        refine lv_iconst (v := 1) hx hb dL_law_516 (by decide) ?_
        refine lv_iadd hx hb dL_law_517 ?_
        refine lv_topi (fun y9 e9 => ?_)
        cases (show y9 = nI ((4 * j) + 1) from e9.trans (nI_add (4 * j) 1))
        refine va_sld hx hb hX hbl hbA hS (vp_in_nI (n := 4 * j + 1) (N := L) (by omega) (by omega)) dL_law_518 ?_
        refine lv_topi (fun y9 e9 => ?_)
        cases (show y9 = nI c0 from e9.trans (by rw [nI_clamp (by omega)]; exact ha1.symm))
        refine lv_aload_n hx hb dL_law_519 rfl (lv_at hl 1 rfl) ?_
        refine lv_iload hx hb dL_law_520 (lv_at hl 5 rfl) ?_
        refine lv_iconst (v := 2) hx hb dL_law_522 (by decide) ?_
        refine lv_iadd hx hb dL_law_523 ?_
        refine lv_topi (fun y9 e9 => ?_)
        cases (show y9 = nI ((4 * j) + 2) from e9.trans (nI_add (4 * j) 2))
        refine va_sld hx hb hX hbl hbA hS (vp_in_nI (n := 4 * j + 2) (N := L) (by omega) (by omega)) dL_law_524 ?_
        refine lv_topi (fun y9 e9 => ?_)
        cases (show y9 = a2 from e9.trans (by rw [nI_clamp (by omega)]; exact ha2.symm))
        refine lv_if_eq (tgt := 532) hx hb dL_law_525 rfl (fun h22 => absurd h22 hz2) (fun _ => ?_)
        refine lv_iconst (v := 1) hx hb dL_law_528 (by decide) ?_
        refine lv_goto (tgt := 533) hx hb dL_law_529 rfl ?_
        refine lv_aload_n hx hb dL_law_533 rfl (lv_at hl 1 rfl) ?_
        refine lv_iload hx hb dL_law_534 (lv_at hl 5 rfl) ?_
        refine lv_iconst (v := 3) hx hb dL_law_536 (by decide) ?_
        refine lv_iadd hx hb dL_law_537 ?_
        refine lv_topi (fun y9 e9 => ?_)
        cases (show y9 = nI ((4 * j) + 3) from e9.trans (nI_add (4 * j) 3))
        refine va_sld hx hb hX hbl hbA hS (vp_in_nI (n := 4 * j + 3) (N := L) (by omega) (by omega)) dL_law_538 ?_
        refine lv_topi (fun y9 e9 => ?_)
        cases (show y9 = nI nn from e9.trans (by rw [nI_clamp (by omega)]; exact ha3.symm))
        have hB9 : QI gg7u21 [(5060, .inr (11, MO yr yi ysb ybs)), (5006, .inl (cT 3, 6, .inl (yA 6))), (5008, .inl (cT 0, 6, .inl (yA 8))), (5007, .inl (cT 0, 66, .inl (yA 7))), (5005, .inl (cT 0, 288, .inl (yA 5)))] := (qi_c (by decide) ((cF 5060 (by omega) (by omega)).trans hYy) (qi_c (by decide) ((cF 5006 (by omega) (by omega)).trans (hYA 6 (by unfold YKy; omega))) (qi_c (by decide) ((cF 5008 (by omega) (by omega)).trans (hYA 8 (by unfold YKy; omega))) (qi_c (by decide) ((cF 5007 (by omega) (by omega)).trans (hYA 7 (by unfold YKy; omega))) (qi_c (by decide) ((cF 5005 (by omega) (by omega)).trans (hYA 5 (by unfold YKy; omega))) qi_0)))))
        have hN9 := (show NDc [5060, 5006, 5008, 5007, 5005] from (nd_c (na_c (by decide) (na_c (by decide) (na_c (by decide) (na_c (by decide) na_0)))) (nd_c (na_c (by decide) (na_c (by decide) (na_c (by decide) na_0))) (nd_c (na_c (by decide) (na_c (by decide) na_0)) (nd_c (na_c (by decide) na_0) (nd_c na_0 nd_0))))))
        have hP := bo_P (wc := [(5060, .inr (11, MO yr yi ysb ybs)), (5006, .inl (cT 3, 6, .inl (yA 6))), (5008, .inl (cT 0, 6, .inl (yA 8))), (5007, .inl (cT 0, 66, .inl (yA 7))), (5005, .inl (cT 0, 288, .inl (yA 5)))]) (X := [(zo, .inl (cT 1, 1, .inr (.inl (vp_updL zf 0 (Int32.toInt64 rvu21)))))]) hcd hN9 hB9 hP
        have hD := bo_D (wc := [(5060, .inr (11, MO yr yi ysb ybs)), (5006, .inl (cT 3, 6, .inl (yA 6))), (5008, .inl (cT 0, 6, .inl (yA 8))), (5007, .inl (cT 0, 66, .inl (yA 7))), (5005, .inl (cT 0, 288, .inl (yA 5)))]) (X := [(zo, .inl (cT 1, 1, .inr (.inl (vp_updL zf 0 (Int32.toInt64 rvu21)))))]) hcd hN9 hB9 hD
        have hP : va_P D vwCl ([(zo, .inl (cT 1, 1, .inr (.inl (vp_updL zf 0 (Int32.toInt64 rvu21))))), (ad 5060, .inr (11, MO yr yi ysb ybs)), (ad 5006, .inl (cT 3, 6, .inl (yA 6))), (ad 5008, .inl (cT 0, 6, .inl (yA 8))), (ad 5007, .inl (cT 0, 66, .inl (yA 7))), (ad 5005, .inl (cT 0, 288, .inl (yA 5)))] ++ pg cds ad (upo gg7u21 [5060, 5006, 5008, 5007, 5005])) _ := hP
        have hD : va_D A ([(zo, .inl (cT 1, 1, .inr (.inl (vp_updL zf 0 (Int32.toInt64 rvu21))))), (ad 5060, .inr (11, MO yr yi ysb ybs)), (ad 5006, .inl (cT 3, 6, .inl (yA 6))), (ad 5008, .inl (cT 0, 6, .inl (yA 8))), (ad 5007, .inl (cT 0, 66, .inl (yA 7))), (ad 5005, .inl (cT 0, 288, .inl (yA 5)))] ++ pg cds ad (upo gg7u21 [5060, 5006, 5008, 5007, 5005])) := hD
        have hw9 : ([(zo, .inl (cT 1, 1, .inr (.inl (vp_updL zf 0 (Int32.toInt64 rvu21))))), (ad 5060, .inr (11, MO yr yi ysb ybs)), (yr 6, .inl (cT 3, 6, .inl (yA 6))), (yr 8, .inl (cT 0, 6, .inl (yA 8))), (yr 7, .inl (cT 0, 66, .inl (yA 7))), (yr 5, .inl (cT 0, 288, .inl (yA 5)))] ++ pg cds ad (upo gg7u21 [5060, 5006, 5008, 5007, 5005])) = ([(zo, .inl (cT 1, 1, .inr (.inl (vp_updL zf 0 (Int32.toInt64 rvu21))))), (ad 5060, .inr (11, MO yr yi ysb ybs)), (ad 5006, .inl (cT 3, 6, .inl (yA 6))), (ad 5008, .inl (cT 0, 6, .inl (yA 8))), (ad 5007, .inl (cT 0, 66, .inl (yA 7))), (ad 5005, .inl (cT 0, 288, .inl (yA 5)))] ++ pg cds ad (upo gg7u21 [5060, 5006, 5008, 5007, 5005])) := by rw [show yr 6 = ad 5006 from (hyr 6 (by unfold YKy; omega)).symm, show yr 8 = ad 5008 from (hyr 8 (by unfold YKy; omega)).symm, show yr 7 = ad 5007 from (hyr 7 (by unfold YKy; omega)).symm, show yr 5 = ad 5005 from (hyr 5 (by unfold YKy; omega)).symm]
        have hP := vP_eq hw9 hP
        have hD := vD_eq hw9 hD
        have hP : va_P D vwCl ([(zo, .inl (cT 1, 1, .inr (.inl (vp_updL zf 0 (Int32.toInt64 rvu21))))), (ad 5060, .inr (11, MO yr yi ysb ybs)), (yr 6, .inl (cT 3, 6, .inl (yA 6))), (yr 8, .inl (cT 0, 6, .inl (yA 8))), (yr 7, .inl (cT 0, 66, .inl (yA 7))), (yr 5, .inl (cT 0, 288, .inl (yA 5)))] ++ pg cds ad (upo gg7u21 [5060, 5006, 5008, 5007, 5005])) _ := hP
        have hD : va_D A ([(zo, .inl (cT 1, 1, .inr (.inl (vp_updL zf 0 (Int32.toInt64 rvu21))))), (ad 5060, .inr (11, MO yr yi ysb ybs)), (yr 6, .inl (cT 3, 6, .inl (yA 6))), (yr 8, .inl (cT 0, 6, .inl (yA 8))), (yr 7, .inl (cT 0, 66, .inl (yA 7))), (yr 5, .inl (cT 0, 288, .inl (yA 5)))] ++ pg cds ad (upo gg7u21 [5060, 5006, 5008, 5007, 5005])) := hD
        refine hy_iQ (X := [(zo, .inl (cT 1, 1, .inr (.inl (vp_updL zf 0 (Int32.toInt64 rvu21))))), (ad 5060, .inr (11, MO yr yi ysb ybs)), (yr 6, .inl (cT 3, 6, .inl (yA 6))), (yr 8, .inl (cT 0, 6, .inl (yA 8))), (yr 7, .inl (cT 0, 66, .inl (yA 7))), (yr 5, .inl (cT 0, 288, .inl (yA 5)))]) (pl := pg cds ad (upo gg7u21 [5060, 5006, 5008, 5007, 5005])) (cx := [(ad 5060, .inr (11, MO yr yi ysb ybs)), (yr 6, .inl (cT 3, 6, .inl (yA 6))), (yr 8, .inl (cT 0, 6, .inl (yA 8))), (yr 7, .inl (cT 0, 66, .inl (yA 7))), (yr 5, .inl (cT 0, 288, .inl (yA 5)))]) (wr := [(zo, .inl (cT 1, 1, .inr (.inl (vp_updL zf 0 (Int32.toInt64 rvu21)))))]) hP hD hS hA [1, 2, 3, 4, 5] [0] rfl rfl (by decide) (by decide) (va_runV (As := [.int (nI c0), .int 1, .int (nI nn)]) (rest := []) ⟨hx, hb, hml, hown, hT⟩ (y_cut_ok l D cT (ad 5060) yr yi ysb ybs (yA 6) (yA 8) (yA 7) (yA 5) c0 1 nn n y3 hn48 (by rw [y2]; exact hq.1) (by omega) hq.2 (⟨hn1, hn2⟩) hk _) ⟨callB_of 3 hT (tb_gd w1338) rfl rfl rfl (hT _ w13) (hT _ w1335) hM_cut ⟨Nat.le_of_ble_eq_true rfl, Nat.le_of_ble_eq_true rfl⟩, (hT _ w1336), (hT _ w1337)⟩ (RW.preV (ci := 11) (q0 := 0) hZ hS (hy_free (cx := [(ad 5060, .inr (11, MO yr yi ysb ybs)), (yr 6, .inl (cT 3, 6, .inl (yA 6))), (yr 8, .inl (cT 0, 6, .inl (yA 8))), (yr 7, .inl (cT 0, 66, .inl (yA 7))), (yr 5, .inl (cT 0, 288, .inl (yA 5)))]) hD hS hA [1, 2, 3, 4, 5] rfl) (hP.sub (ws' := [(ad 5060, .inr (11, MO yr yi ysb ybs)), (yr 6, .inl (cT 3, 6, .inl (yA 6))), (yr 8, .inl (cT 0, 6, .inl (yA 8))), (yr 7, .inl (cT 0, 66, .inl (yA 7))), (yr 5, .inl (cT 0, 288, .inl (yA 5)))]) [1, 2, 3, 4, 5] rfl) hK (hD.sub (ws' := [(ad 5060, .inr (11, MO yr yi ysb ybs)), (yr 6, .inl (cT 3, 6, .inl (yA 6))), (yr 8, .inl (cT 0, 6, .inl (yA 8))), (yr 7, .inl (cT 0, 66, .inl (yA 7))), (yr 5, .inl (cT 0, 288, .inl (yA 5)))]) [1, 2, 3, 4, 5] (by decide) rfl) rfl rfl) rfl rfl hl.1 rfl (lv_room (Nat.le_of_ble_eq_true rfl)) dL_law_539 ⟨(by show ((2000 + j + 3 * fm + 4 * SM mk 16) + 0) + 0 ≤ 601024; omega), (by show ((400000 + 6 * j + 42 * fm + 69 * SM mk 16) + 0) + 0 ≤ 7293034; omega)⟩) (fun ru23 u9 H locs hpu23 hP hD hS => ?_)
        obtain ⟨m7u23, em7u23, eg7u23⟩ := u9
        have hpu23 : ru23 = nI m7u23 ∧ m7u23 ≤ 11 ∧ em7u23 c0 = nI m7u23 ∧ (∀ q8, q8 ≠ c0 → em7u23 q8 = (yA 8) q8) ∧ (m7u23, eg7u23) = cutF 1 (yA 5) c0 n nn (yA 7) := hpu23
        have hP : va_P D vwCl ([(zo, .inl (cT 1, 1, .inr (.inl (vp_updL zf 0 (Int32.toInt64 rvu21))))), (ad 5060, .inr (11, MO yr (va_up yi 1 0) ysb ybs)), (yr 6, .inl (cT 3, 6, .inl (yA 6))), (yr 8, .inl (cT 0, 6, .inl em7u23)), (yr 7, .inl (cT 0, 66, .inl eg7u23)), (yr 5, .inl (cT 0, 288, .inl (yA 5)))] ++ pg cds ad (upo gg7u21 [5060, 5006, 5008, 5007, 5005])) _ := hP
        have hD : va_D A ([(zo, .inl (cT 1, 1, .inr (.inl (vp_updL zf 0 (Int32.toInt64 rvu21))))), (ad 5060, .inr (11, MO yr (va_up yi 1 0) ysb ybs)), (yr 6, .inl (cT 3, 6, .inl (yA 6))), (yr 8, .inl (cT 0, 6, .inl em7u23)), (yr 7, .inl (cT 0, 66, .inl eg7u23)), (yr 5, .inl (cT 0, 288, .inl (yA 5)))] ++ pg cds ad (upo gg7u21 [5060, 5006, 5008, 5007, 5005])) := hD
        obtain ⟨yR, yL, yE1, yE2, yC⟩ := hpu23
        have ym : m7u23 = (cutF 1 (yA 5) c0 n nn (yA 7)).1 := congrArg Prod.fst yC
        have ye : eg7u23 = (cutF 1 (yA 5) c0 n nn (yA 7)).2 := congrArg Prod.snd yC
        have hw9 : ([(zo, .inl (cT 1, 1, .inr (.inl (vp_updL zf 0 (Int32.toInt64 rvu21))))), (ad 5060, .inr (11, MO yr (va_up yi 1 0) ysb ybs)), (ad 5006, .inl (cT 3, 6, .inl (yA 6))), (ad 5008, .inl (cT 0, 6, .inl em7u23)), (ad 5007, .inl (cT 0, 66, .inl eg7u23)), (ad 5005, .inl (cT 0, 288, .inl (yA 5)))] ++ pg cds ad (upo gg7u21 [5060, 5006, 5008, 5007, 5005])) = ([(zo, .inl (cT 1, 1, .inr (.inl (vp_updL zf 0 (Int32.toInt64 rvu21))))), (ad 5060, .inr (11, MO yr (va_up yi 1 0) ysb ybs)), (yr 6, .inl (cT 3, 6, .inl (yA 6))), (yr 8, .inl (cT 0, 6, .inl em7u23)), (yr 7, .inl (cT 0, 66, .inl eg7u23)), (yr 5, .inl (cT 0, 288, .inl (yA 5)))] ++ pg cds ad (upo gg7u21 [5060, 5006, 5008, 5007, 5005])) := by rw [show ad 5006 = yr 6 from hyr 6 (by unfold YKy; omega), show ad 5008 = yr 8 from hyr 8 (by unfold YKy; omega), show ad 5007 = yr 7 from hyr 7 (by unfold YKy; omega), show ad 5005 = yr 5 from hyr 5 (by unfold YKy; omega)]
        have hP := vP_eq hw9 hP
        have hD := vD_eq hw9 hD
        have hP : va_P D vwCl ([(zo, .inl (cT 1, 1, .inr (.inl (vp_updL zf 0 (Int32.toInt64 rvu21))))), (ad 5060, .inr (11, MO yr (va_up yi 1 0) ysb ybs)), (ad 5006, .inl (cT 3, 6, .inl (yA 6))), (ad 5008, .inl (cT 0, 6, .inl em7u23)), (ad 5007, .inl (cT 0, 66, .inl eg7u23)), (ad 5005, .inl (cT 0, 288, .inl (yA 5)))] ++ pg cds ad (upo gg7u21 [5060, 5006, 5008, 5007, 5005])) _ := hP
        have hD : va_D A ([(zo, .inl (cT 1, 1, .inr (.inl (vp_updL zf 0 (Int32.toInt64 rvu21))))), (ad 5060, .inr (11, MO yr (va_up yi 1 0) ysb ybs)), (ad 5006, .inl (cT 3, 6, .inl (yA 6))), (ad 5008, .inl (cT 0, 6, .inl em7u23)), (ad 5007, .inl (cT 0, 66, .inl eg7u23)), (ad 5005, .inl (cT 0, 288, .inl (yA 5)))] ++ pg cds ad (upo gg7u21 [5060, 5006, 5008, 5007, 5005])) := hD
        have hN9 := (show NDc [5060, 5006, 5008, 5007, 5005] from (nd_c (na_c (by decide) (na_c (by decide) (na_c (by decide) (na_c (by decide) na_0)))) (nd_c (na_c (by decide) (na_c (by decide) (na_c (by decide) na_0))) (nd_c (na_c (by decide) (na_c (by decide) na_0)) (nd_c (na_c (by decide) na_0) (nd_c na_0 nd_0))))))
        have hP := gb_P (w9 := [(5060, .inr (11, MO yr (va_up yi 1 0) ysb ybs)), (5006, .inl (cT 3, 6, .inl (yA 6))), (5008, .inl (cT 0, 6, .inl em7u23)), (5007, .inl (cT 0, 66, .inl eg7u23)), (5005, .inl (cT 0, 288, .inl (yA 5)))]) (X := [(zo, .inl (cT 1, 1, .inr (.inl (vp_updL zf 0 (Int32.toInt64 rvu21)))))]) (g := gg7u21) hcd hN9 (show QB [(5060, .inr (11, MO yr (va_up yi 1 0) ysb ybs)), (5006, .inl (cT 3, 6, .inl (yA 6))), (5008, .inl (cT 0, 6, .inl em7u23)), (5007, .inl (cT 0, 66, .inl eg7u23)), (5005, .inl (cT 0, 288, .inl (yA 5)))] from (qb_c (by decide) (qb_c (by decide) (qb_c (by decide) (qb_c (by decide) (qb_c (by decide) qb_0)))))) (hP.part (cx := [(zo, .inl (cT 1, 1, .inr (.inl (vp_updL zf 0 (Int32.toInt64 rvu21))))), (ad 5060, .inr (11, MO yr (va_up yi 1 0) ysb ybs)), (ad 5006, .inl (cT 3, 6, .inl (yA 6))), (ad 5008, .inl (cT 0, 6, .inl em7u23)), (ad 5007, .inl (cT 0, 66, .inl eg7u23)), (ad 5005, .inl (cT 0, 288, .inl (yA 5)))]) [0, 1, 2, 3, 4, 5] rfl)
        have hD := gb_D (w9 := [(5060, .inr (11, MO yr (va_up yi 1 0) ysb ybs)), (5006, .inl (cT 3, 6, .inl (yA 6))), (5008, .inl (cT 0, 6, .inl em7u23)), (5007, .inl (cT 0, 66, .inl eg7u23)), (5005, .inl (cT 0, 288, .inl (yA 5)))]) (X := [(zo, .inl (cT 1, 1, .inr (.inl (vp_updL zf 0 (Int32.toInt64 rvu21)))))]) (g := gg7u21) hcd hN9 (show QB [(5060, .inr (11, MO yr (va_up yi 1 0) ysb ybs)), (5006, .inl (cT 3, 6, .inl (yA 6))), (5008, .inl (cT 0, 6, .inl em7u23)), (5007, .inl (cT 0, 66, .inl eg7u23)), (5005, .inl (cT 0, 288, .inl (yA 5)))] from (qb_c (by decide) (qb_c (by decide) (qb_c (by decide) (qb_c (by decide) (qb_c (by decide) qb_0)))))) (hD.part (cx := [(zo, .inl (cT 1, 1, .inr (.inl (vp_updL zf 0 (Int32.toInt64 rvu21))))), (ad 5060, .inr (11, MO yr (va_up yi 1 0) ysb ybs)), (ad 5006, .inl (cT 3, 6, .inl (yA 6))), (ad 5008, .inl (cT 0, 6, .inl em7u23)), (ad 5007, .inl (cT 0, 66, .inl eg7u23)), (ad 5005, .inl (cT 0, 288, .inl (yA 5)))]) [0, 1, 2, 3, 4, 5] (by decide) rfl)
        obtain ⟨gy, hgy⟩ : ∃ q9, q9 = ups gg7u21 [(5060, .inr (11, MO yr (va_up yi 1 0) ysb ybs)), (5006, .inl (cT 3, 6, .inl (yA 6))), (5008, .inl (cT 0, 6, .inl em7u23)), (5007, .inl (cT 0, 66, .inl eg7u23)), (5005, .inl (cT 0, 288, .inl (yA 5)))] := ⟨_, rfl⟩
        rw [← hgy] at hP hD
        have hP : va_P D vwCl ([(zo, .inl (cT 1, 1, .inr (.inl (vp_updL zf 0 (Int32.toInt64 rvu21)))))] ++ pg cds ad gy) _ := hP
        have hD : va_D A ([(zo, .inl (cT 1, 1, .inr (.inl (vp_updL zf 0 (Int32.toInt64 rvu21)))))] ++ pg cds ad gy) := hD
        have fgy : ∀ z8, z8 ≠ 5060 → z8 ≠ 5008 → z8 ≠ 5007 → gy z8 = gg7u21 z8 := fun z8 z1 z3 z4 => by rw [hgy]; exact ups_k (kp_n z1 (kp_s ((cF 5006 (by omega) (by omega)).trans (hYA 6 (by unfold YKy; omega))) (kp_n z3 (kp_n z4 (kp_s ((cF 5005 (by omega) (by omega)).trans (hYA 5 (by unfold YKy; omega))) kp_0)))))
        have gy_0 : gy 5060 = some (.inr (11, MO yr (va_up yi 1 0) ysb ybs)) := by rw [hgy]; exact ups_1
        have gy_2 : gy 5008 = some (.inl (cT 0, 6, .inl em7u23)) := by rw [hgy]; exact ups_3 (by decide) (by decide)
        have gy_3 : gy 5007 = some (.inl (cT 0, 66, .inl eg7u23)) := by rw [hgy]; exact ups_4 (by decide) (by decide) (by decide)
        refine lv_istore hx hb dL_law_542 hl (by decide) rfl (fun ls hl => ?_)
        have hl : lv_has ls 7 [(6, .int ru23), (5, .int 0), (0, .ref b), (1, .ref (ad 0)), (2, .ref (ad 5060)), (3, .ref zo), (4, .int (nI (4 * j)))] := hl
        refine lv_aload_n hx hb dL_law_544 rfl (lv_at hl 4 rfl) ?_
        refine ro_i (va_Run.run (va_runV (As := []) (rest := []) ⟨hx, hb, hml, hown, hT⟩ (m_thrown l D cT (ad 5060) yr (va_up yi 1 0) ysb ybs) ⟨callB_of 0 hT (tb_gd w1290) rfl rfl rfl (hT _ w13) (hT _ w1287) hM_thrown ⟨Nat.le_of_ble_eq_true rfl, Nat.le_of_ble_eq_true rfl⟩, (hT _ w1288), (hT _ w1289)⟩ (RO.preV (ci := 11) (q0 := 0) hZ hS ((show va_P D vwCl [(ad 5060, .inr (11, MO yr (va_up yi 1 0) ysb ybs))] _ from (pv_c (pg_1 (x := 5060) hcd hP (by decide) gy_0) pv_0))) hK rfl rfl) rfl rfl hl.1 rfl (lv_room (Nat.le_of_ble_eq_true rfl)) dL_law_545 ⟨(by show (((2000 + j + 3 * fm + 4 * SM mk 16) + 0) + 0) + 0 ≤ 601024; omega), (by show (((400000 + 6 * j + 42 * fm + 69 * SM mk 16) + 0) + 0) + 0 ≤ 7293034; omega)⟩)) ?_
        refine lv_topi (fun y9 e9 => ?_)
        cases (show y9 = 0 from e9.trans rfl)
        refine lv_iload hx hb dL_law_548 (lv_at hl 1 rfl) ?_
        refine lv_icmp_eq (tgt := 555) hx hb dL_law_550 rfl (fun _ => ?_) (fun h24 => absurd (by decide) h24)
        refine lv_iload hx hb dL_law_555 (lv_at hl 1 rfl) ?_
        refine lv_if_ne (tgt := 572) hx hb dL_law_557 rfl (fun h25 => absurd (by decide) h25) (fun _ => ?_)
        refine lv_aload_n hx hb dL_law_560 rfl (lv_at hl 5 rfl) ?_
        refine lv_iconst (v := 0) hx hb dL_law_561 (by decide) ?_
        refine va_lald hx hb hK hP 0 1 rfl rfl (by unfold vp_in; decide) dL_law_562 ?_
        refine lv_iload hx hb dL_law_563 (lv_at hl 0 rfl) ?_
        refine lv_i2l hx hb dL_law_565 rfl ?_
        refine W.lcmp hx hb dL_law_566 ?_
        refine lv_if_eq (tgt := 572) hx hb dL_law_567 rfl (fun _ => ?_) (fun h26 => absurd ((lg_cmp_eq _ _).mpr (pk_uLs.trans (congrArg Int32.toInt64 (cR.trans (by rw [yR, ym]))))) h26)
        refine lv_goto (tgt := 1690) hx hb dL_law_572 rfl ?_
        obtain ⟨yiz, hyiz⟩ : ∃ f9 : Nat → Int32, f9 = va_up yi 1 0 := ⟨_, rfl⟩
        obtain ⟨yAz, hyAz⟩ : ∃ f9 : Nat → Nat → Int32, f9 = va_up (va_up yA 7 eg7u23) 8 em7u23 := ⟨_, rfl⟩
        have hIz : LWI cT ad gg7u21 tE T fm mk F n wd dpt lst w ru rl (va_up ne c0 m7u23) Lo yiz ysb yAz := (by rw [hyiz, hyAz]; exact ⟨fo, CLI.up hCL (Nat.le_refl _) (fun z8 n0 n1 n3 n4 n5 n6 n7 => cF z8 (by omega) (by omega)) ((cF _ (by omega) (by omega)).trans hob) ((cF _ (by omega) (by omega)).trans chtb) (by obtain ⟨ft9, e1, e2⟩ := hTg; exact ⟨ft9, (cF _ (by omega) (by omega)).trans e1, e2⟩) ((cF _ (by omega) (by omega)).trans chpl) (by rw [ym, ye]; exact ccn) (hOut.cg (fun z8 n1 n2 => cF z8 (by omega) (by omega))) cS, ⟨y2, y3, y10, y11, y12, y13, y14, y17, y47, y55, (kin_em y8e yE1 yE2), y18e, hRFN, hPR, hfoy⟩, ⟨hTf, hT16, hn48, hwd6, hdp4, hls2, hw20, hr9, hLo, (kin_ne hne yL), hik, hTOK, (by rw [ym, ye]; exact ris_cut hn2 cRS hne hS9), hVk, hVb, htg, hSEP, hSV7⟩⟩)
        have hIz := hIz.yg (g2 := gy) (fun z8 hz => fgy z8 (by omega) (by omega) (by omega))
        have hYz : YCL cT ad gy y yr yiz ysb ybs yAz yW F := by
          refine ⟨hYad, hyr, (by rw [hyiz]; exact gy_0), fun k hk => ?_⟩
          have hk2 : k = 0 ∨ (4 ≤ k ∧ k ≤ 9) ∨ (18 ≤ k ∧ k ≤ 46) ∨ k = 48 ∨ k = 49 ∨ (56 ≤ k ∧ k ≤ 59) := hk
          by_cases e7 : k = 7
          · subst e7
            rw [hyAz]; exact gy_3
          by_cases e8 : k = 8
          · subst e8
            rw [hyAz]; exact gy_2
          exact (fgy (5000 + k) (by omega) (by omega) (by omega)).trans ((cF (5000 + k) (by omega) (by omega)).trans ((hYA k hk).trans (congrArg some (ycl_o (by rw [hyAz]; exact (va_up_ne _ _ e8).trans ((va_up_ne _ _ e7).trans (rfl)))).symm)))
        rw [hyiz] at hIz hYz
        rw [hyAz] at hIz hYz
        refine W.widen (k := 2000 + (j + 1) + 3 * fm + 4 * SM mk 16) (n := 400000 + 6 * (j + 1) + 42 * fm + 69 * SM mk 16) (by show ((2000 + j + 3 * fm + 4 * SM mk 16) + 0) + 0 ≤ 2000 + (j + 1) + 3 * fm + 4 * SM mk 16; omega) (by show ((400000 + 6 * j + 42 * fm + 69 * SM mk 16) + 0) + 0 ≤ 400000 + 6 * (j + 1) + 42 * fm + 69 * SM mk 16; omega) ?_
        have hl := lv_sub hl [2, 3, 4, 5, 6] rfl
        have hl : lv_has ls 7 [(0, .ref b), (1, .ref (ad 0)), (2, .ref y), (3, .ref zo), (4, .int (nI (4 * j)))] := by rw [← hYz.1]; exact hl
        exact hend ad gy T fm mk F n wd dpt lst w ru rl (va_up ne c0 m7u23) Lo (va_up yi 1 0) ysb ybs (va_up (va_up yA 7 eg7u23) 8 em7u23) yW (vp_updL zf 0 (Int32.toInt64 rvu21)) _ _ ls hIz hYz hP hD hS hl
      · refine lv_aload_n hx hb dL_law_479 rfl (lv_at hl 1 rfl) ?_
        refine lv_aload_n hx hb dL_law_480 rfl (lv_at hl 0 rfl) ?_
        refine lv_iload hx hb dL_law_481 (lv_at hl 4 rfl) ?_
        refine lv_iconst (v := 1) hx hb dL_law_483 (by decide) ?_
        refine lv_iadd hx hb dL_law_484 ?_
        refine lv_topi (fun y9 e9 => ?_)
        cases (show y9 = nI ((4 * j) + 1) from e9.trans (nI_add (4 * j) 1))
        refine va_sld hx hb hX hbl hbA hS (vp_in_nI (n := 4 * j + 1) (N := L) (by omega) (by omega)) dL_law_485 ?_
        refine lv_topi (fun y9 e9 => ?_)
        cases (show y9 = nI c0 from e9.trans (by rw [nI_clamp (by omega)]; exact ha1.symm))
        refine lv_aload_n hx hb dL_law_486 rfl (lv_at hl 0 rfl) ?_
        refine lv_iload hx hb dL_law_487 (lv_at hl 4 rfl) ?_
        refine lv_iconst (v := 2) hx hb dL_law_489 (by decide) ?_
        refine lv_iadd hx hb dL_law_490 ?_
        refine lv_topi (fun y9 e9 => ?_)
        cases (show y9 = nI ((4 * j) + 2) from e9.trans (nI_add (4 * j) 2))
        refine va_sld hx hb hX hbl hbA hS (vp_in_nI (n := 4 * j + 2) (N := L) (by omega) (by omega)) dL_law_491 ?_
        refine lv_topi (fun y9 e9 => ?_)
        cases (show y9 = a2 from e9.trans (by rw [nI_clamp (by omega)]; exact ha2.symm))
        refine lv_if_eq (tgt := 499) hx hb dL_law_492 rfl (fun h27 => absurd h27 hz2) (fun _ => ?_)
        refine lv_iconst (v := 1) hx hb dL_law_495 (by decide) ?_
        refine lv_goto (tgt := 500) hx hb dL_law_496 rfl ?_
        refine lv_aload_n hx hb dL_law_500 rfl (lv_at hl 0 rfl) ?_
        refine lv_iload hx hb dL_law_501 (lv_at hl 4 rfl) ?_
        refine lv_iconst (v := 3) hx hb dL_law_503 (by decide) ?_
        refine lv_iadd hx hb dL_law_504 ?_
        refine lv_topi (fun y9 e9 => ?_)
        cases (show y9 = nI ((4 * j) + 3) from e9.trans (nI_add (4 * j) 3))
        refine va_sld hx hb hX hbl hbA hS (vp_in_nI (n := 4 * j + 3) (N := L) (by omega) (by omega)) dL_law_505 ?_
        refine lv_topi (fun y9 e9 => ?_)
        cases (show y9 = nI nn from e9.trans (by rw [nI_clamp (by omega)]; exact ha3.symm))
        refine lv_aload_n hx hb dL_law_506 rfl (lv_at hl 3 rfl) ?_
        refine hy_iP (X := [(zo, .inl (cT 1, 1, .inr (.inl zf)))]) (pl := pg cds ad gg) (cx := [(zo, .inl (cT 1, 1, .inr (.inl zf)))]) (wr := []) hP hD hS hA [0] [] rfl rfl (by decide) (by decide) (tx_runSH (As := [.ref (ad 0), .int (nI c0), .int 1, .int (nI nn), .ref zo]) (rest := []) ⟨hx, hb, hml, hown, hT⟩ (l_cut_no2 l D cT cds ad gg (nI T) (nI wd) (nI n) n (yA 5) (yA 9) (yA 7) (yA 6) ne c0 1 (nI nn) zo zf hlt hcd hob chtb chCa chCf hq.1 (by omega) hq.2 hk _) hT (tc_gd w656 w657 w0 (tb_gd w658)) rfl rfl rfl hL_cut ⟨Nat.le_of_ble_eq_true rfl, Nat.le_of_ble_eq_true rfl⟩ (RW.preS hZ hS (va_freeP (cx := [(zo, .inl (cT 1, 1, .inr (.inl zf)))]) hD hS hA [0] rfl) (hP.part (cx := [(zo, .inl (cT 1, 1, .inr (.inl zf)))]) [0] rfl) hK (hD.part (cx := [(zo, .inl (cT 1, 1, .inr (.inl zf)))]) [0] (by decide) rfl)) rfl hl.1 rfl (Nat.le_of_ble_eq_true rfl) dL_law_507 ⟨(by show (2000 + j + 3 * fm + 4 * SM mk 16) + 1 ≤ 601024; omega), (by show (400000 + 6 * j + 42 * fm + 69 * SM mk 16) + 6 ≤ 7293034; omega)⟩) (fun ru28 u9 H locs hpu28 hP hD hS => ?_)
        have hpu28 : ru28 = 2 := hpu28
        have hP : va_P D vwCl ([(zo, .inl (cT 1, 1, .inr (.inl zf)))] ++ pg cds ad gg) _ := hP
        have hD : va_D A ([(zo, .inl (cT 1, 1, .inr (.inl zf)))] ++ pg cds ad gg) := hD
        refine lv_topi (fun y9 e9 => ?_)
        cases (show y9 = 2 from e9.trans hpu28)
        refine lv_istore hx hb dL_law_510 hl (by decide) rfl (fun ls hl => ?_)
        have hl : lv_has ls 7 [(5, .int 2), (0, .ref b), (1, .ref (ad 0)), (2, .ref (ad 5060)), (3, .ref zo), (4, .int (nI (4 * j)))] := hl
        refine lv_aload_n hx hb dL_law_512 rfl (lv_at hl 3 rfl) ?_
        refine lv_aload_n hx hb dL_law_513 rfl (lv_at hl 1 rfl) ?_
        refine lv_iload hx hb dL_law_514 (lv_at hl 5 rfl) ?_
        refine lv_iconst (v := 1) hx hb dL_law_516 (by decide) ?_
        refine lv_iadd hx hb dL_law_517 ?_
        refine lv_topi (fun y9 e9 => ?_)
        cases (show y9 = nI ((4 * j) + 1) from e9.trans (nI_add (4 * j) 1))
        refine va_sld hx hb hX hbl hbA hS (vp_in_nI (n := 4 * j + 1) (N := L) (by omega) (by omega)) dL_law_518 ?_
        refine lv_topi (fun y9 e9 => ?_)
        cases (show y9 = nI c0 from e9.trans (by rw [nI_clamp (by omega)]; exact ha1.symm))
        refine lv_aload_n hx hb dL_law_519 rfl (lv_at hl 1 rfl) ?_
        refine lv_iload hx hb dL_law_520 (lv_at hl 5 rfl) ?_
        refine lv_iconst (v := 2) hx hb dL_law_522 (by decide) ?_
        refine lv_iadd hx hb dL_law_523 ?_
        refine lv_topi (fun y9 e9 => ?_)
        cases (show y9 = nI ((4 * j) + 2) from e9.trans (nI_add (4 * j) 2))
        refine va_sld hx hb hX hbl hbA hS (vp_in_nI (n := 4 * j + 2) (N := L) (by omega) (by omega)) dL_law_524 ?_
        refine lv_topi (fun y9 e9 => ?_)
        cases (show y9 = a2 from e9.trans (by rw [nI_clamp (by omega)]; exact ha2.symm))
        refine lv_if_eq (tgt := 532) hx hb dL_law_525 rfl (fun h29 => absurd h29 hz2) (fun _ => ?_)
        refine lv_iconst (v := 1) hx hb dL_law_528 (by decide) ?_
        refine lv_goto (tgt := 533) hx hb dL_law_529 rfl ?_
        refine lv_aload_n hx hb dL_law_533 rfl (lv_at hl 1 rfl) ?_
        refine lv_iload hx hb dL_law_534 (lv_at hl 5 rfl) ?_
        refine lv_iconst (v := 3) hx hb dL_law_536 (by decide) ?_
        refine lv_iadd hx hb dL_law_537 ?_
        refine lv_topi (fun y9 e9 => ?_)
        cases (show y9 = nI ((4 * j) + 3) from e9.trans (nI_add (4 * j) 3))
        refine va_sld hx hb hX hbl hbA hS (vp_in_nI (n := 4 * j + 3) (N := L) (by omega) (by omega)) dL_law_538 ?_
        refine lv_topi (fun y9 e9 => ?_)
        cases (show y9 = nI nn from e9.trans (by rw [nI_clamp (by omega)]; exact ha3.symm))
        have hB9 : QI gg [(5060, .inr (11, MO yr yi ysb ybs)), (5006, .inl (cT 3, 6, .inl (yA 6)))] := (qi_c (by decide) hYy (qi_c (by decide) (hYA 6 (by unfold YKy; omega)) qi_0))
        have hN9 := (show NDc [5060, 5006] from (nd_c (na_c (by decide) na_0) (nd_c na_0 nd_0)))
        have hP := bo_P (wc := [(5060, .inr (11, MO yr yi ysb ybs)), (5006, .inl (cT 3, 6, .inl (yA 6)))]) (X := [(zo, .inl (cT 1, 1, .inr (.inl zf)))]) hcd hN9 hB9 hP
        have hD := bo_D (wc := [(5060, .inr (11, MO yr yi ysb ybs)), (5006, .inl (cT 3, 6, .inl (yA 6)))]) (X := [(zo, .inl (cT 1, 1, .inr (.inl zf)))]) hcd hN9 hB9 hD
        have hP : va_P D vwCl ([(zo, .inl (cT 1, 1, .inr (.inl zf))), (ad 5060, .inr (11, MO yr yi ysb ybs)), (ad 5006, .inl (cT 3, 6, .inl (yA 6)))] ++ pg cds ad (upo gg [5060, 5006])) _ := hP
        have hD : va_D A ([(zo, .inl (cT 1, 1, .inr (.inl zf))), (ad 5060, .inr (11, MO yr yi ysb ybs)), (ad 5006, .inl (cT 3, 6, .inl (yA 6)))] ++ pg cds ad (upo gg [5060, 5006])) := hD
        have hw9 : ([(zo, .inl (cT 1, 1, .inr (.inl zf))), (ad 5060, .inr (11, MO yr yi ysb ybs)), (yr 6, .inl (cT 3, 6, .inl (yA 6)))] ++ pg cds ad (upo gg [5060, 5006])) = ([(zo, .inl (cT 1, 1, .inr (.inl zf))), (ad 5060, .inr (11, MO yr yi ysb ybs)), (ad 5006, .inl (cT 3, 6, .inl (yA 6)))] ++ pg cds ad (upo gg [5060, 5006])) := by rw [show yr 6 = ad 5006 from (hyr 6 (by unfold YKy; omega)).symm]
        have hP := vP_eq hw9 hP
        have hD := vD_eq hw9 hD
        have hP : va_P D vwCl ([(zo, .inl (cT 1, 1, .inr (.inl zf))), (ad 5060, .inr (11, MO yr yi ysb ybs)), (yr 6, .inl (cT 3, 6, .inl (yA 6)))] ++ pg cds ad (upo gg [5060, 5006])) _ := hP
        have hD : va_D A ([(zo, .inl (cT 1, 1, .inr (.inl zf))), (ad 5060, .inr (11, MO yr yi ysb ybs)), (yr 6, .inl (cT 3, 6, .inl (yA 6)))] ++ pg cds ad (upo gg [5060, 5006])) := hD
        refine hy_iQ (X := [(zo, .inl (cT 1, 1, .inr (.inl zf))), (ad 5060, .inr (11, MO yr yi ysb ybs)), (yr 6, .inl (cT 3, 6, .inl (yA 6)))]) (pl := pg cds ad (upo gg [5060, 5006])) (cx := [(ad 5060, .inr (11, MO yr yi ysb ybs)), (yr 6, .inl (cT 3, 6, .inl (yA 6)))]) (wr := [(zo, .inl (cT 1, 1, .inr (.inl zf)))]) hP hD hS hA [1, 2] [0] rfl rfl (by decide) (by decide) (va_runV (As := [.int (nI c0), .int 1, .int (nI nn)]) (rest := []) ⟨hx, hb, hml, hown, hT⟩ (y_cut_no2 l D cT (ad 5060) yr yi ysb ybs (yA 6) c0 1 (nI nn) (by rw [y2]; exact hq.1) (by omega) hq.2 hk _) ⟨callB_of 3 hT (tb_gd w1338) rfl rfl rfl (hT _ w13) (hT _ w1335) hM_cut ⟨Nat.le_of_ble_eq_true rfl, Nat.le_of_ble_eq_true rfl⟩, (hT _ w1336), (hT _ w1337)⟩ (RW.preV (ci := 11) (q0 := 0) hZ hS (hy_free (cx := [(ad 5060, .inr (11, MO yr yi ysb ybs)), (yr 6, .inl (cT 3, 6, .inl (yA 6)))]) hD hS hA [1, 2] rfl) (hP.sub (ws' := [(ad 5060, .inr (11, MO yr yi ysb ybs)), (yr 6, .inl (cT 3, 6, .inl (yA 6)))]) [1, 2] rfl) hK (hD.sub (ws' := [(ad 5060, .inr (11, MO yr yi ysb ybs)), (yr 6, .inl (cT 3, 6, .inl (yA 6)))]) [1, 2] (by decide) rfl) rfl rfl) rfl rfl hl.1 rfl (lv_room (Nat.le_of_ble_eq_true rfl)) dL_law_539 ⟨(by show ((2000 + j + 3 * fm + 4 * SM mk 16) + 1) + 0 ≤ 601024; omega), (by show ((400000 + 6 * j + 42 * fm + 69 * SM mk 16) + 6) + 0 ≤ 7293034; omega)⟩) (fun ru30 u9 H locs hpu30 hP hD hS => ?_)
        have hpu30 : ru30 = 0 := hpu30
        have hP : va_P D vwCl ([(zo, .inl (cT 1, 1, .inr (.inl zf))), (ad 5060, .inr (11, MO yr (va_up yi 1 2) ysb ybs)), (yr 6, .inl (cT 3, 6, .inl (yA 6)))] ++ pg cds ad (upo gg [5060, 5006])) _ := hP
        have hD : va_D A ([(zo, .inl (cT 1, 1, .inr (.inl zf))), (ad 5060, .inr (11, MO yr (va_up yi 1 2) ysb ybs)), (yr 6, .inl (cT 3, 6, .inl (yA 6)))] ++ pg cds ad (upo gg [5060, 5006])) := hD
        refine lv_topi (fun y9 e9 => ?_)
        cases (show y9 = 0 from e9.trans hpu30)
        have hw9 : ([(zo, .inl (cT 1, 1, .inr (.inl zf))), (ad 5060, .inr (11, MO yr (va_up yi 1 2) ysb ybs)), (ad 5006, .inl (cT 3, 6, .inl (yA 6)))] ++ pg cds ad (upo gg [5060, 5006])) = ([(zo, .inl (cT 1, 1, .inr (.inl zf))), (ad 5060, .inr (11, MO yr (va_up yi 1 2) ysb ybs)), (yr 6, .inl (cT 3, 6, .inl (yA 6)))] ++ pg cds ad (upo gg [5060, 5006])) := by rw [show ad 5006 = yr 6 from hyr 6 (by unfold YKy; omega)]
        have hP := vP_eq hw9 hP
        have hD := vD_eq hw9 hD
        have hP : va_P D vwCl ([(zo, .inl (cT 1, 1, .inr (.inl zf))), (ad 5060, .inr (11, MO yr (va_up yi 1 2) ysb ybs)), (ad 5006, .inl (cT 3, 6, .inl (yA 6)))] ++ pg cds ad (upo gg [5060, 5006])) _ := hP
        have hD : va_D A ([(zo, .inl (cT 1, 1, .inr (.inl zf))), (ad 5060, .inr (11, MO yr (va_up yi 1 2) ysb ybs)), (ad 5006, .inl (cT 3, 6, .inl (yA 6)))] ++ pg cds ad (upo gg [5060, 5006])) := hD
        have hN9 := (show NDc [5060, 5006] from (nd_c (na_c (by decide) na_0) (nd_c na_0 nd_0)))
        have hP := gb_P (w9 := [(5060, .inr (11, MO yr (va_up yi 1 2) ysb ybs)), (5006, .inl (cT 3, 6, .inl (yA 6)))]) (X := [(zo, .inl (cT 1, 1, .inr (.inl zf)))]) (g := gg) hcd hN9 (show QB [(5060, .inr (11, MO yr (va_up yi 1 2) ysb ybs)), (5006, .inl (cT 3, 6, .inl (yA 6)))] from (qb_c (by decide) (qb_c (by decide) qb_0))) (hP.part (cx := [(zo, .inl (cT 1, 1, .inr (.inl zf))), (ad 5060, .inr (11, MO yr (va_up yi 1 2) ysb ybs)), (ad 5006, .inl (cT 3, 6, .inl (yA 6)))]) [0, 1, 2] rfl)
        have hD := gb_D (w9 := [(5060, .inr (11, MO yr (va_up yi 1 2) ysb ybs)), (5006, .inl (cT 3, 6, .inl (yA 6)))]) (X := [(zo, .inl (cT 1, 1, .inr (.inl zf)))]) (g := gg) hcd hN9 (show QB [(5060, .inr (11, MO yr (va_up yi 1 2) ysb ybs)), (5006, .inl (cT 3, 6, .inl (yA 6)))] from (qb_c (by decide) (qb_c (by decide) qb_0))) (hD.part (cx := [(zo, .inl (cT 1, 1, .inr (.inl zf))), (ad 5060, .inr (11, MO yr (va_up yi 1 2) ysb ybs)), (ad 5006, .inl (cT 3, 6, .inl (yA 6)))]) [0, 1, 2] (by decide) rfl)
        obtain ⟨gy, hgy⟩ : ∃ q9, q9 = ups gg [(5060, .inr (11, MO yr (va_up yi 1 2) ysb ybs)), (5006, .inl (cT 3, 6, .inl (yA 6)))] := ⟨_, rfl⟩
        rw [← hgy] at hP hD
        have hP : va_P D vwCl ([(zo, .inl (cT 1, 1, .inr (.inl zf)))] ++ pg cds ad gy) _ := hP
        have hD : va_D A ([(zo, .inl (cT 1, 1, .inr (.inl zf)))] ++ pg cds ad gy) := hD
        have fgy : ∀ z8, z8 ≠ 5060 → gy z8 = gg z8 := fun z8 z1 => by rw [hgy]; exact ups_k (kp_n z1 (kp_s (hYA 6 (by unfold YKy; omega)) kp_0))
        have gy_0 : gy 5060 = some (.inr (11, MO yr (va_up yi 1 2) ysb ybs)) := by rw [hgy]; exact ups_1
        refine lv_istore hx hb dL_law_542 hl (by decide) rfl (fun ls hl => ?_)
        have hl : lv_has ls 7 [(6, .int 0), (5, .int 2), (0, .ref b), (1, .ref (ad 0)), (2, .ref (ad 5060)), (3, .ref zo), (4, .int (nI (4 * j)))] := hl
        refine lv_aload_n hx hb dL_law_544 rfl (lv_at hl 4 rfl) ?_
        refine ro_i (va_Run.run (va_runV (As := []) (rest := []) ⟨hx, hb, hml, hown, hT⟩ (m_thrown l D cT (ad 5060) yr (va_up yi 1 2) ysb ybs) ⟨callB_of 0 hT (tb_gd w1290) rfl rfl rfl (hT _ w13) (hT _ w1287) hM_thrown ⟨Nat.le_of_ble_eq_true rfl, Nat.le_of_ble_eq_true rfl⟩, (hT _ w1288), (hT _ w1289)⟩ (RO.preV (ci := 11) (q0 := 0) hZ hS ((show va_P D vwCl [(ad 5060, .inr (11, MO yr (va_up yi 1 2) ysb ybs))] _ from (pv_c (pg_1 (x := 5060) hcd hP (by decide) gy_0) pv_0))) hK rfl rfl) rfl rfl hl.1 rfl (lv_room (Nat.le_of_ble_eq_true rfl)) dL_law_545 ⟨(by show (((2000 + j + 3 * fm + 4 * SM mk 16) + 1) + 0) + 0 ≤ 601024; omega), (by show (((400000 + 6 * j + 42 * fm + 69 * SM mk 16) + 6) + 0) + 0 ≤ 7293034; omega)⟩)) ?_
        refine lv_topi (fun y9 e9 => ?_)
        cases (show y9 = 2 from e9.trans rfl)
        refine lv_iload hx hb dL_law_548 (lv_at hl 1 rfl) ?_
        refine lv_icmp_eq (tgt := 555) hx hb dL_law_550 rfl (fun _ => ?_) (fun h31 => absurd (by decide) h31)
        refine lv_iload hx hb dL_law_555 (lv_at hl 1 rfl) ?_
        refine lv_if_ne (tgt := 572) hx hb dL_law_557 rfl (fun _ => ?_) (fun h32 => absurd h32 (by decide))
        refine lv_goto (tgt := 1690) hx hb dL_law_572 rfl ?_
        obtain ⟨yiz, hyiz⟩ : ∃ f9 : Nat → Int32, f9 = va_up yi 1 2 := ⟨_, rfl⟩
        have hIz : LWI cT ad gg tE T fm mk F n wd dpt lst w ru rl ne Lo yiz ysb yA := hI.sc (fun k hk => by rw [hyiz]; exact va_up_ne _ _ hk) (fun _ _ => rfl)
        have hIz := hIz.yg (g2 := gy) (fun z8 hz => fgy z8 (by omega))
        have hYz : YCL cT ad gy y yr yiz ysb ybs yA yW F := by
          refine ⟨hYad, hyr, (by rw [hyiz]; exact gy_0), fun k hk => ?_⟩
          have hk2 : k = 0 ∨ (4 ≤ k ∧ k ≤ 9) ∨ (18 ≤ k ∧ k ≤ 46) ∨ k = 48 ∨ k = 49 ∨ (56 ≤ k ∧ k ≤ 59) := hk
          exact (fgy (5000 + k) (by omega)).trans ((hYA k hk).trans (congrArg some (ycl_o rfl).symm))
        rw [hyiz] at hIz hYz
        refine W.widen (k := 2000 + (j + 1) + 3 * fm + 4 * SM mk 16) (n := 400000 + 6 * (j + 1) + 42 * fm + 69 * SM mk 16) (by show ((2000 + j + 3 * fm + 4 * SM mk 16) + 1) + 0 ≤ 2000 + (j + 1) + 3 * fm + 4 * SM mk 16; omega) (by show ((400000 + 6 * j + 42 * fm + 69 * SM mk 16) + 6) + 0 ≤ 400000 + 6 * (j + 1) + 42 * fm + 69 * SM mk 16; omega) ?_
        have hl := lv_sub hl [2, 3, 4, 5, 6] rfl
        have hl : lv_has ls 7 [(0, .ref b), (1, .ref (ad 0)), (2, .ref y), (3, .ref zo), (4, .int (nI (4 * j)))] := by rw [← hYz.1]; exact hl
        exact hend ad gy T fm mk F n wd dpt lst w ru rl ne Lo (va_up yi 1 2) ysb ybs yA yW zf _ _ ls hIz hYz hP hD hS hl
    · refine lv_aload_n hx hb dL_law_479 rfl (lv_at hl 1 rfl) ?_
      refine lv_aload_n hx hb dL_law_480 rfl (lv_at hl 0 rfl) ?_
      refine lv_iload hx hb dL_law_481 (lv_at hl 4 rfl) ?_
      refine lv_iconst (v := 1) hx hb dL_law_483 (by decide) ?_
      refine lv_iadd hx hb dL_law_484 ?_
      refine lv_topi (fun y9 e9 => ?_)
      cases (show y9 = nI ((4 * j) + 1) from e9.trans (nI_add (4 * j) 1))
      refine va_sld hx hb hX hbl hbA hS (vp_in_nI (n := 4 * j + 1) (N := L) (by omega) (by omega)) dL_law_485 ?_
      refine lv_topi (fun y9 e9 => ?_)
      cases (show y9 = a1 from e9.trans (by rw [nI_clamp (by omega)]; exact ha1.symm))
      refine lv_aload_n hx hb dL_law_486 rfl (lv_at hl 0 rfl) ?_
      refine lv_iload hx hb dL_law_487 (lv_at hl 4 rfl) ?_
      refine lv_iconst (v := 2) hx hb dL_law_489 (by decide) ?_
      refine lv_iadd hx hb dL_law_490 ?_
      refine lv_topi (fun y9 e9 => ?_)
      cases (show y9 = nI ((4 * j) + 2) from e9.trans (nI_add (4 * j) 2))
      refine va_sld hx hb hX hbl hbA hS (vp_in_nI (n := 4 * j + 2) (N := L) (by omega) (by omega)) dL_law_491 ?_
      refine lv_topi (fun y9 e9 => ?_)
      cases (show y9 = a2 from e9.trans (by rw [nI_clamp (by omega)]; exact ha2.symm))
      refine lv_if_eq (tgt := 499) hx hb dL_law_492 rfl (fun h33 => absurd h33 hz2) (fun _ => ?_)
      refine lv_iconst (v := 1) hx hb dL_law_495 (by decide) ?_
      refine lv_goto (tgt := 500) hx hb dL_law_496 rfl ?_
      refine lv_aload_n hx hb dL_law_500 rfl (lv_at hl 0 rfl) ?_
      refine lv_iload hx hb dL_law_501 (lv_at hl 4 rfl) ?_
      refine lv_iconst (v := 3) hx hb dL_law_503 (by decide) ?_
      refine lv_iadd hx hb dL_law_504 ?_
      refine lv_topi (fun y9 e9 => ?_)
      cases (show y9 = nI ((4 * j) + 3) from e9.trans (nI_add (4 * j) 3))
      refine va_sld hx hb hX hbl hbA hS (vp_in_nI (n := 4 * j + 3) (N := L) (by omega) (by omega)) dL_law_505 ?_
      refine lv_topi (fun y9 e9 => ?_)
      cases (show y9 = a3 from e9.trans (by rw [nI_clamp (by omega)]; exact ha3.symm))
      refine lv_aload_n hx hb dL_law_506 rfl (lv_at hl 3 rfl) ?_
      refine hy_iP (X := [(zo, .inl (cT 1, 1, .inr (.inl zf)))]) (pl := pg cds ad gg) (cx := [(zo, .inl (cT 1, 1, .inr (.inl zf)))]) (wr := []) hP hD hS hA [0] [] rfl rfl (by decide) (by decide) (tx_runSH (As := [.ref (ad 0), .int a1, .int 1, .int a3, .ref zo]) (rest := []) ⟨hx, hb, hml, hown, hT⟩ (l_cut_no1 l D cT cds ad gg (nI T) (nI wd) (nI n) a1 1 a3 zo zf hlt hcd hob chtb hq _) hT (tc_gd w656 w657 w0 (tb_gd w658)) rfl rfl rfl hL_cut ⟨Nat.le_of_ble_eq_true rfl, Nat.le_of_ble_eq_true rfl⟩ (RW.preS hZ hS (va_freeP (cx := [(zo, .inl (cT 1, 1, .inr (.inl zf)))]) hD hS hA [0] rfl) (hP.part (cx := [(zo, .inl (cT 1, 1, .inr (.inl zf)))]) [0] rfl) hK (hD.part (cx := [(zo, .inl (cT 1, 1, .inr (.inl zf)))]) [0] (by decide) rfl)) rfl hl.1 rfl (Nat.le_of_ble_eq_true rfl) dL_law_507 ⟨(by show (2000 + j + 3 * fm + 4 * SM mk 16) + 1 ≤ 601024; omega), (by show (400000 + 6 * j + 42 * fm + 69 * SM mk 16) + 6 ≤ 7293034; omega)⟩) (fun ru34 u9 H locs hpu34 hP hD hS => ?_)
      have hpu34 : ru34 = 1 := hpu34
      have hP : va_P D vwCl ([(zo, .inl (cT 1, 1, .inr (.inl zf)))] ++ pg cds ad gg) _ := hP
      have hD : va_D A ([(zo, .inl (cT 1, 1, .inr (.inl zf)))] ++ pg cds ad gg) := hD
      refine lv_topi (fun y9 e9 => ?_)
      cases (show y9 = 1 from e9.trans hpu34)
      refine lv_istore hx hb dL_law_510 hl (by decide) rfl (fun ls hl => ?_)
      have hl : lv_has ls 7 [(5, .int 1), (0, .ref b), (1, .ref (ad 0)), (2, .ref (ad 5060)), (3, .ref zo), (4, .int (nI (4 * j)))] := hl
      refine lv_aload_n hx hb dL_law_512 rfl (lv_at hl 3 rfl) ?_
      refine lv_aload_n hx hb dL_law_513 rfl (lv_at hl 1 rfl) ?_
      refine lv_iload hx hb dL_law_514 (lv_at hl 5 rfl) ?_
      refine lv_iconst (v := 1) hx hb dL_law_516 (by decide) ?_
      refine lv_iadd hx hb dL_law_517 ?_
      refine lv_topi (fun y9 e9 => ?_)
      cases (show y9 = nI ((4 * j) + 1) from e9.trans (nI_add (4 * j) 1))
      refine va_sld hx hb hX hbl hbA hS (vp_in_nI (n := 4 * j + 1) (N := L) (by omega) (by omega)) dL_law_518 ?_
      refine lv_topi (fun y9 e9 => ?_)
      cases (show y9 = a1 from e9.trans (by rw [nI_clamp (by omega)]; exact ha1.symm))
      refine lv_aload_n hx hb dL_law_519 rfl (lv_at hl 1 rfl) ?_
      refine lv_iload hx hb dL_law_520 (lv_at hl 5 rfl) ?_
      refine lv_iconst (v := 2) hx hb dL_law_522 (by decide) ?_
      refine lv_iadd hx hb dL_law_523 ?_
      refine lv_topi (fun y9 e9 => ?_)
      cases (show y9 = nI ((4 * j) + 2) from e9.trans (nI_add (4 * j) 2))
      refine va_sld hx hb hX hbl hbA hS (vp_in_nI (n := 4 * j + 2) (N := L) (by omega) (by omega)) dL_law_524 ?_
      refine lv_topi (fun y9 e9 => ?_)
      cases (show y9 = a2 from e9.trans (by rw [nI_clamp (by omega)]; exact ha2.symm))
      refine lv_if_eq (tgt := 532) hx hb dL_law_525 rfl (fun h35 => absurd h35 hz2) (fun _ => ?_)
      refine lv_iconst (v := 1) hx hb dL_law_528 (by decide) ?_
      refine lv_goto (tgt := 533) hx hb dL_law_529 rfl ?_
      refine lv_aload_n hx hb dL_law_533 rfl (lv_at hl 1 rfl) ?_
      refine lv_iload hx hb dL_law_534 (lv_at hl 5 rfl) ?_
      refine lv_iconst (v := 3) hx hb dL_law_536 (by decide) ?_
      refine lv_iadd hx hb dL_law_537 ?_
      refine lv_topi (fun y9 e9 => ?_)
      cases (show y9 = nI ((4 * j) + 3) from e9.trans (nI_add (4 * j) 3))
      refine va_sld hx hb hX hbl hbA hS (vp_in_nI (n := 4 * j + 3) (N := L) (by omega) (by omega)) dL_law_538 ?_
      refine lv_topi (fun y9 e9 => ?_)
      cases (show y9 = a3 from e9.trans (by rw [nI_clamp (by omega)]; exact ha3.symm))
      have hB9 : QI gg [(5060, .inr (11, MO yr yi ysb ybs))] := (qi_c (by decide) hYy qi_0)
      have hN9 := (show NDc [5060] from (nd_c na_0 nd_0))
      have hP := bo_P (wc := [(5060, .inr (11, MO yr yi ysb ybs))]) (X := [(zo, .inl (cT 1, 1, .inr (.inl zf)))]) hcd hN9 hB9 hP
      have hD := bo_D (wc := [(5060, .inr (11, MO yr yi ysb ybs))]) (X := [(zo, .inl (cT 1, 1, .inr (.inl zf)))]) hcd hN9 hB9 hD
      have hP : va_P D vwCl ([(zo, .inl (cT 1, 1, .inr (.inl zf))), (ad 5060, .inr (11, MO yr yi ysb ybs))] ++ pg cds ad (upo gg [5060])) _ := hP
      have hD : va_D A ([(zo, .inl (cT 1, 1, .inr (.inl zf))), (ad 5060, .inr (11, MO yr yi ysb ybs))] ++ pg cds ad (upo gg [5060])) := hD
      refine hy_iQ (X := [(zo, .inl (cT 1, 1, .inr (.inl zf))), (ad 5060, .inr (11, MO yr yi ysb ybs))]) (pl := pg cds ad (upo gg [5060])) (cx := [(ad 5060, .inr (11, MO yr yi ysb ybs))]) (wr := [(zo, .inl (cT 1, 1, .inr (.inl zf)))]) hP hD hS hA [1] [0] rfl rfl (by decide) (by decide) (va_runV (As := [.int a1, .int 1, .int a3]) (rest := []) ⟨hx, hb, hml, hown, hT⟩ (y_cut_no l D cT (ad 5060) yr yi ysb ybs a1 a3 1 (by rw [y2]; exact hq) _) ⟨callB_of 3 hT (tb_gd w1338) rfl rfl rfl (hT _ w13) (hT _ w1335) hM_cut ⟨Nat.le_of_ble_eq_true rfl, Nat.le_of_ble_eq_true rfl⟩, (hT _ w1336), (hT _ w1337)⟩ (RW.preV (ci := 11) (q0 := 0) hZ hS (hy_free (cx := [(ad 5060, .inr (11, MO yr yi ysb ybs))]) hD hS hA [1] rfl) (hP.sub (ws' := [(ad 5060, .inr (11, MO yr yi ysb ybs))]) [1] rfl) hK (hD.sub (ws' := [(ad 5060, .inr (11, MO yr yi ysb ybs))]) [1] (by decide) rfl) rfl rfl) rfl rfl hl.1 rfl (lv_room (Nat.le_of_ble_eq_true rfl)) dL_law_539 ⟨(by show ((2000 + j + 3 * fm + 4 * SM mk 16) + 1) + 0 ≤ 601024; omega), (by show ((400000 + 6 * j + 42 * fm + 69 * SM mk 16) + 6) + 0 ≤ 7293034; omega)⟩) (fun ru36 u9 H locs hpu36 hP hD hS => ?_)
      have hpu36 : ru36 = 0 := hpu36
      have hP : va_P D vwCl ([(zo, .inl (cT 1, 1, .inr (.inl zf))), (ad 5060, .inr (11, MO yr (va_up yi 1 1) ysb ybs))] ++ pg cds ad (upo gg [5060])) _ := hP
      have hD : va_D A ([(zo, .inl (cT 1, 1, .inr (.inl zf))), (ad 5060, .inr (11, MO yr (va_up yi 1 1) ysb ybs))] ++ pg cds ad (upo gg [5060])) := hD
      refine lv_topi (fun y9 e9 => ?_)
      cases (show y9 = 0 from e9.trans hpu36)
      have hN9 := (show NDc [5060] from (nd_c na_0 nd_0))
      have hP := gb_P (w9 := [(5060, .inr (11, MO yr (va_up yi 1 1) ysb ybs))]) (X := [(zo, .inl (cT 1, 1, .inr (.inl zf)))]) (g := gg) hcd hN9 (show QB [(5060, .inr (11, MO yr (va_up yi 1 1) ysb ybs))] from (qb_c (by decide) qb_0)) (hP.part (cx := [(zo, .inl (cT 1, 1, .inr (.inl zf))), (ad 5060, .inr (11, MO yr (va_up yi 1 1) ysb ybs))]) [0, 1] rfl)
      have hD := gb_D (w9 := [(5060, .inr (11, MO yr (va_up yi 1 1) ysb ybs))]) (X := [(zo, .inl (cT 1, 1, .inr (.inl zf)))]) (g := gg) hcd hN9 (show QB [(5060, .inr (11, MO yr (va_up yi 1 1) ysb ybs))] from (qb_c (by decide) qb_0)) (hD.part (cx := [(zo, .inl (cT 1, 1, .inr (.inl zf))), (ad 5060, .inr (11, MO yr (va_up yi 1 1) ysb ybs))]) [0, 1] (by decide) rfl)
      obtain ⟨gy, hgy⟩ : ∃ q9, q9 = ups gg [(5060, .inr (11, MO yr (va_up yi 1 1) ysb ybs))] := ⟨_, rfl⟩
      rw [← hgy] at hP hD
      have hP : va_P D vwCl ([(zo, .inl (cT 1, 1, .inr (.inl zf)))] ++ pg cds ad gy) _ := hP
      have hD : va_D A ([(zo, .inl (cT 1, 1, .inr (.inl zf)))] ++ pg cds ad gy) := hD
      have fgy : ∀ z8, z8 ≠ 5060 → gy z8 = gg z8 := fun z8 z1 => by rw [hgy]; exact ups_k (kp_n z1 kp_0)
      have gy_0 : gy 5060 = some (.inr (11, MO yr (va_up yi 1 1) ysb ybs)) := by rw [hgy]; exact ups_1
      refine lv_istore hx hb dL_law_542 hl (by decide) rfl (fun ls hl => ?_)
      have hl : lv_has ls 7 [(6, .int 0), (5, .int 1), (0, .ref b), (1, .ref (ad 0)), (2, .ref (ad 5060)), (3, .ref zo), (4, .int (nI (4 * j)))] := hl
      refine lv_aload_n hx hb dL_law_544 rfl (lv_at hl 4 rfl) ?_
      refine ro_i (va_Run.run (va_runV (As := []) (rest := []) ⟨hx, hb, hml, hown, hT⟩ (m_thrown l D cT (ad 5060) yr (va_up yi 1 1) ysb ybs) ⟨callB_of 0 hT (tb_gd w1290) rfl rfl rfl (hT _ w13) (hT _ w1287) hM_thrown ⟨Nat.le_of_ble_eq_true rfl, Nat.le_of_ble_eq_true rfl⟩, (hT _ w1288), (hT _ w1289)⟩ (RO.preV (ci := 11) (q0 := 0) hZ hS ((show va_P D vwCl [(ad 5060, .inr (11, MO yr (va_up yi 1 1) ysb ybs))] _ from (pv_c (pg_1 (x := 5060) hcd hP (by decide) gy_0) pv_0))) hK rfl rfl) rfl rfl hl.1 rfl (lv_room (Nat.le_of_ble_eq_true rfl)) dL_law_545 ⟨(by show (((2000 + j + 3 * fm + 4 * SM mk 16) + 1) + 0) + 0 ≤ 601024; omega), (by show (((400000 + 6 * j + 42 * fm + 69 * SM mk 16) + 6) + 0) + 0 ≤ 7293034; omega)⟩)) ?_
      refine lv_topi (fun y9 e9 => ?_)
      cases (show y9 = 1 from e9.trans rfl)
      refine lv_iload hx hb dL_law_548 (lv_at hl 1 rfl) ?_
      refine lv_icmp_eq (tgt := 555) hx hb dL_law_550 rfl (fun _ => ?_) (fun h37 => absurd (by decide) h37)
      refine lv_iload hx hb dL_law_555 (lv_at hl 1 rfl) ?_
      refine lv_if_ne (tgt := 572) hx hb dL_law_557 rfl (fun _ => ?_) (fun h38 => absurd h38 (by decide))
      refine lv_goto (tgt := 1690) hx hb dL_law_572 rfl ?_
      obtain ⟨yiz, hyiz⟩ : ∃ f9 : Nat → Int32, f9 = va_up yi 1 1 := ⟨_, rfl⟩
      have hIz : LWI cT ad gg tE T fm mk F n wd dpt lst w ru rl ne Lo yiz ysb yA := hI.sc (fun k hk => by rw [hyiz]; exact va_up_ne _ _ hk) (fun _ _ => rfl)
      have hIz := hIz.yg (g2 := gy) (fun z8 hz => fgy z8 (by omega))
      have hYz : YCL cT ad gy y yr yiz ysb ybs yA yW F := by
        refine ⟨hYad, hyr, (by rw [hyiz]; exact gy_0), fun k hk => ?_⟩
        have hk2 : k = 0 ∨ (4 ≤ k ∧ k ≤ 9) ∨ (18 ≤ k ∧ k ≤ 46) ∨ k = 48 ∨ k = 49 ∨ (56 ≤ k ∧ k ≤ 59) := hk
        exact (fgy (5000 + k) (by omega)).trans ((hYA k hk).trans (congrArg some (ycl_o rfl).symm))
      rw [hyiz] at hIz hYz
      refine W.widen (k := 2000 + (j + 1) + 3 * fm + 4 * SM mk 16) (n := 400000 + 6 * (j + 1) + 42 * fm + 69 * SM mk 16) (by show ((2000 + j + 3 * fm + 4 * SM mk 16) + 1) + 0 ≤ 2000 + (j + 1) + 3 * fm + 4 * SM mk 16; omega) (by show ((400000 + 6 * j + 42 * fm + 69 * SM mk 16) + 6) + 0 ≤ 400000 + 6 * (j + 1) + 42 * fm + 69 * SM mk 16; omega) ?_
      have hl := lv_sub hl [2, 3, 4, 5, 6] rfl
      have hl : lv_has ls 7 [(0, .ref b), (1, .ref (ad 0)), (2, .ref y), (3, .ref zo), (4, .int (nI (4 * j)))] := by rw [← hYz.1]; exact hl
      exact hend ad gy T fm mk F n wd dpt lst w ru rl ne Lo (va_up yi 1 1) ysb ybs yA yW zf _ _ ls hIz hYz hP hD hS hl
