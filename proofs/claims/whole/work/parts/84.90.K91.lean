set_option maxHeartbeats 8000000 in
set_option maxRecDepth 100000 in
theorem lo_0 {p : Program} {l : Launch} {e : Env} {s : State} {m : MethodId} {args : Array Value} {below : List Frame} {meth : Method} {c : Code} {Q : State → Prop} {A : Nat → Prop} {H : Heap} {locs : List Loc} {ls : Array Slot} {b L : Nat} {xs : Nat → Int32} (D : va_G) (cT : Nat → ClassId) (cds : List Nat) (tE mE y : Nat) (yr : Nat → Nat) (zo j : Nat) (ad : Nat → Nat) (gg : Nat → Option va_E) (T : Nat) (fm : Nat) (mk : Nat → Nat) (F : TFR) (n : Nat) (wd : Nat) (dpt : Nat) (lst : Nat) (w : Nat) (ru : Nat) (rl : Nat) (ne : Nat → Nat) (Lo : Nat) (yi : Nat → Int32) (ysb : Int64) (ybs : Int64) (yA : Nat → Nat → Int32) (yW : Nat → Int64) (zf : Nat → Int64) (hlt : l.stackTraces = false) (hx : p.tables.exec = Jvm.exec) (hb : c.code = code) (hml : c.maxLocals = 7) (hown : s.vm.findClass "ResidualTreesLaw" = some m.cls) (hT : ∀ w ∈ TB, w.before args s = true) (hZ : ZZ A s s.heap) (hE0 : ZE tE mE A s s.heap) (hK : va_K D vwCl (TY cT) s) (hA : ∀ q : Nat, s.heap.size ≤ q → A q) (hX : va_X b L xs s s.heap) (hbl : b < s.heap.size) (hbA : ¬ A b) (hcd : CD cds) (hj : 4 * j + 4 ≤ L) (hL : L ≤ 2048) (hI : LWI cT ad gg tE T fm mk F n wd dpt lst w ru rl ne Lo yi ysb yA) (hYC : YCL cT ad gg y yr yi ysb ybs yA yW F) (hP : va_P D vwCl ([(zo, .inl (cT 1, 1, .inr (.inl zf)))] ++ pg cds ad gg) H) (hD : va_D A ([(zo, .inl (cT 1, 1, .inr (.inl zf)))] ++ pg cds ad gg)) (hS : va_S A s.heap H locs) (hl : lv_has ls 7 [(0, .ref b), (1, .ref (ad 0)), (2, .ref y), (3, .ref zo), (4, .int (nI (4 * j)))]) (hend : LEN2 p l e s m args below meth c Q A D cT cds tE y yr zo b j) : W p l e room_1 s m args below meth c H locs (2000 + j + 3 * fm + 4 * SM mk 16) (400000 + 6 * j + 42 * fm + 69 * SM mk 16) Q (F0 m 148 ls []) := by
  obtain ⟨a1, ha1⟩ : ∃ q9 : Int32, q9 = xs (4 * j + 1) := ⟨_, rfl⟩
  obtain ⟨a2, ha2⟩ : ∃ q9 : Int32, q9 = xs (4 * j + 2) := ⟨_, rfl⟩
  obtain ⟨a3, ha3⟩ : ∃ q9 : Int32, q9 = xs (4 * j + 3) := ⟨_, rfl⟩
  obtain ⟨hfm16, hSM⟩ := lwi_b hI
  obtain ⟨hYad, hYr0, hYy, hYA⟩ := hYC
  have hyr := hYr0
  obtain ⟨fo, hCL, hRF, hPU⟩ := id hI
  obtain ⟨hTV, hOut, ⟨sa9, hso⟩, ⟨zq9, hS1⟩, ⟨zr9, hS2⟩, ⟨z58, hS3⟩⟩ := id hCL
  obtain ⟨hob, hTg, hFT, hTs, ⟨zs0, hGB⟩, ⟨zf0, hLf⟩, ⟨zc0, hCm⟩⟩ := id hTV
  obtain ⟨chtb, chRs, chCa, chCf, chpl, chGa, chSc, chGs, ⟨cfo, chod⟩, cbb9, ctt9, cb90, cik0, chgr, chbt, chSP⟩ := id hGB
  obtain ⟨y2, y3, y10, y11, y12, y13, y14, y17, y47, y55, y8e, y18e, hRFN, hPR, hfoy⟩ := id hRF
  obtain ⟨hTf, hT16, hn48, hwd6, hdp4, hls2, hw20, hr9, hLo, hne, hik, hTOK, hS9, hVk, hVb, htg, hSEP, hSV7⟩ := id hPU
  have hl : lv_has ls 7 [(0, .ref b), (1, .ref (ad 0)), (2, .ref (ad 5060)), (3, .ref zo), (4, .int (nI (4 * j)))] := by rw [hYad]; exact hl
  by_cases hq : 1 ≤ a1 ∧ a1 ≤ 6
  · obtain ⟨k9, hk1, hk2, rfl⟩ := i_btw (lo := 1) (hi := 6) (by omega) (by omega) hq
    refine lv_aload_n hx hb dL_law_148 rfl (lv_at hl 1 rfl) ?_
    refine lv_aload_n hx hb dL_law_149 rfl (lv_at hl 0 rfl) ?_
    refine lv_iload hx hb dL_law_150 (lv_at hl 4 rfl) ?_
    refine lv_iconst (v := 1) hx hb dL_law_152 (by decide) ?_
    refine lv_iadd hx hb dL_law_153 ?_
    refine lv_topi (fun y9 e9 => ?_)
    cases (show y9 = nI ((4 * j) + 1) from e9.trans (nI_add (4 * j) 1))
    refine va_sld hx hb hX hbl hbA hS (vp_in_nI (n := 4 * j + 1) (N := L) (by omega) (by omega)) dL_law_154 ?_
    refine lv_topi (fun y9 e9 => ?_)
    cases (show y9 = nI k9 from e9.trans (by rw [nI_clamp (by omega)]; exact ha1.symm))
    refine hy_iP (X := [(zo, .inl (cT 1, 1, .inr (.inl zf)))]) (pl := pg cds ad gg) (cx := []) (wr := [(zo, .inl (cT 1, 1, .inr (.inl zf)))]) hP hD hS hA [] [0] rfl rfl (by decide) (by decide) (tx_runSH (As := [.ref (ad 0), .int (nI k9)]) (rest := []) ⟨hx, hb, hml, hown, hT⟩ (l_begin l D cT cds ad gg (nI T) (nI wd) (nI n) (nI dpt) (nI lst) (nI w) (nI ru) (nI rl) ysb (yi 16) Lo fo (nI k9) hcd hob chtb chCa (fun j9 hj9 => (by obtain ⟨fv, fe, e1, _⟩ := chCf j9 hj9; exact ⟨fv, fe, _, _, e1, hik j9 hj9⟩)) chpl (⟨hOut.1, trivial⟩) hq _) hT (tc_gd w500 w501 w0 (tb_gd w502)) rfl rfl rfl hL_begin ⟨Nat.le_of_ble_eq_true rfl, Nat.le_of_ble_eq_true rfl⟩ (RW.preS hZ hS (va_freeP (cx := []) hD hS hA [] rfl) (hP.part (cx := []) [] rfl) hK (hD.part (cx := []) [] (by decide) rfl)) rfl hl.1 rfl (Nat.le_of_ble_eq_true rfl) dL_law_155 ⟨(by show (2000 + j + 3 * fm + 4 * SM mk 16) + 0 ≤ 601024; omega), (by show (400000 + 6 * j + 42 * fm + 69 * SM mk 16) + 0 ≤ 7293034; omega)⟩) (fun ru1 u9 H locs hpu1 hP hD hS => ?_)
    obtain ⟨gg7u1, rfl⟩ : ∃ q9, q9 = u9 := ⟨_, rfl⟩
    have hpu1 : ru1 = 0 ∧ (∀ z8, z8 ≠ 0 → z8 ≠ 1 → z8 ≠ 4 → z8 ≠ 41 → (z8 < 10 ∨ 26 ≤ z8) → gg7u1 z8 = gg z8) ∧ gg7u1 0 = some (eOB ad (nI 0)) ∧ gg7u1 1 = some (eTB ad (nI k9) (nI 0)) ∧ gg7u1 4 = some (ePL 2 1 0 1 2 (-1) (-1)) ∧ (∀ j8, j8 < 6 → ∃ fv fe : Nat → Int32, COLe cT ad gg7u1 j8 0 0 fv fe ∧ (∀ r8, r8 < 0 → fv r8 = 0) ∧ fv 48 = (-2147483648) ∧ ∀ q8, q8 < 0 → fe q8 = 0) ∧ gg7u1 41 = some (.inr (8, [.ref (ad 42), .int (nI 0), .ref (ad 43), .ref (ad 46)])) := hpu1
    have hP : va_P D vwCl ([(zo, .inl (cT 1, 1, .inr (.inl zf)))] ++ pg cds ad gg7u1) _ := hP
    have hD : va_D A ([(zo, .inl (cT 1, 1, .inr (.inl zf)))] ++ pg cds ad gg7u1) := hD
    refine lv_topi (fun y9 e9 => ?_)
    cases (show y9 = 0 from e9.trans hpu1.1)
    obtain ⟨_, cF, c0n, c1n, c4n, ccn, c41n⟩ := hpu1
    refine lv_istore hx hb dL_law_158 hl (by decide) rfl (fun ls hl => ?_)
    have hl : lv_has ls 7 [(5, .int 0), (0, .ref b), (1, .ref (ad 0)), (2, .ref (ad 5060)), (3, .ref zo), (4, .int (nI (4 * j)))] := hl
    refine lv_aload_n hx hb dL_law_160 rfl (lv_at hl 3 rfl) ?_
    refine lv_aload_n hx hb dL_law_161 rfl (lv_at hl 1 rfl) ?_
    refine lv_iload hx hb dL_law_162 (lv_at hl 5 rfl) ?_
    refine lv_iconst (v := 1) hx hb dL_law_164 (by decide) ?_
    refine lv_iadd hx hb dL_law_165 ?_
    refine lv_topi (fun y9 e9 => ?_)
    cases (show y9 = nI ((4 * j) + 1) from e9.trans (nI_add (4 * j) 1))
    refine va_sld hx hb hX hbl hbA hS (vp_in_nI (n := 4 * j + 1) (N := L) (by omega) (by omega)) dL_law_166 ?_
    refine lv_topi (fun y9 e9 => ?_)
    cases (show y9 = nI k9 from e9.trans (by rw [nI_clamp (by omega)]; exact ha1.symm))
    have hB9 : QI gg7u1 [(5060, .inr (11, MO yr yi ysb ybs)), (5006, .inl (cT 3, 6, .inl (yA 6))), (5008, .inl (cT 0, 6, .inl (yA 8))), (5009, .inl (cT 0, 6, .inl (yA 9)))] := (qi_c (by decide) ((cF 5060 (by omega) (by omega) (by omega) (by omega) (by omega)).trans hYy) (qi_c (by decide) ((cF 5006 (by omega) (by omega) (by omega) (by omega) (by omega)).trans (hYA 6 (by unfold YKy; omega))) (qi_c (by decide) ((cF 5008 (by omega) (by omega) (by omega) (by omega) (by omega)).trans (hYA 8 (by unfold YKy; omega))) (qi_c (by decide) ((cF 5009 (by omega) (by omega) (by omega) (by omega) (by omega)).trans (hYA 9 (by unfold YKy; omega))) qi_0))))
    have hN9 := (show NDc [5060, 5006, 5008, 5009] from (nd_c (na_c (by decide) (na_c (by decide) (na_c (by decide) na_0))) (nd_c (na_c (by decide) (na_c (by decide) na_0)) (nd_c (na_c (by decide) na_0) (nd_c na_0 nd_0)))))
    have hP := bo_P (wc := [(5060, .inr (11, MO yr yi ysb ybs)), (5006, .inl (cT 3, 6, .inl (yA 6))), (5008, .inl (cT 0, 6, .inl (yA 8))), (5009, .inl (cT 0, 6, .inl (yA 9)))]) (X := [(zo, .inl (cT 1, 1, .inr (.inl zf)))]) hcd hN9 hB9 hP
    have hD := bo_D (wc := [(5060, .inr (11, MO yr yi ysb ybs)), (5006, .inl (cT 3, 6, .inl (yA 6))), (5008, .inl (cT 0, 6, .inl (yA 8))), (5009, .inl (cT 0, 6, .inl (yA 9)))]) (X := [(zo, .inl (cT 1, 1, .inr (.inl zf)))]) hcd hN9 hB9 hD
    have hP : va_P D vwCl ([(zo, .inl (cT 1, 1, .inr (.inl zf))), (ad 5060, .inr (11, MO yr yi ysb ybs)), (ad 5006, .inl (cT 3, 6, .inl (yA 6))), (ad 5008, .inl (cT 0, 6, .inl (yA 8))), (ad 5009, .inl (cT 0, 6, .inl (yA 9)))] ++ pg cds ad (upo gg7u1 [5060, 5006, 5008, 5009])) _ := hP
    have hD : va_D A ([(zo, .inl (cT 1, 1, .inr (.inl zf))), (ad 5060, .inr (11, MO yr yi ysb ybs)), (ad 5006, .inl (cT 3, 6, .inl (yA 6))), (ad 5008, .inl (cT 0, 6, .inl (yA 8))), (ad 5009, .inl (cT 0, 6, .inl (yA 9)))] ++ pg cds ad (upo gg7u1 [5060, 5006, 5008, 5009])) := hD
    have hw9 : ([(zo, .inl (cT 1, 1, .inr (.inl zf))), (ad 5060, .inr (11, MO yr yi ysb ybs)), (yr 6, .inl (cT 3, 6, .inl (yA 6))), (yr 8, .inl (cT 0, 6, .inl (yA 8))), (yr 9, .inl (cT 0, 6, .inl (yA 9)))] ++ pg cds ad (upo gg7u1 [5060, 5006, 5008, 5009])) = ([(zo, .inl (cT 1, 1, .inr (.inl zf))), (ad 5060, .inr (11, MO yr yi ysb ybs)), (ad 5006, .inl (cT 3, 6, .inl (yA 6))), (ad 5008, .inl (cT 0, 6, .inl (yA 8))), (ad 5009, .inl (cT 0, 6, .inl (yA 9)))] ++ pg cds ad (upo gg7u1 [5060, 5006, 5008, 5009])) := by rw [show yr 6 = ad 5006 from (hyr 6 (by unfold YKy; omega)).symm, show yr 8 = ad 5008 from (hyr 8 (by unfold YKy; omega)).symm, show yr 9 = ad 5009 from (hyr 9 (by unfold YKy; omega)).symm]
    have hP := vP_eq hw9 hP
    have hD := vD_eq hw9 hD
    have hP : va_P D vwCl ([(zo, .inl (cT 1, 1, .inr (.inl zf))), (ad 5060, .inr (11, MO yr yi ysb ybs)), (yr 6, .inl (cT 3, 6, .inl (yA 6))), (yr 8, .inl (cT 0, 6, .inl (yA 8))), (yr 9, .inl (cT 0, 6, .inl (yA 9)))] ++ pg cds ad (upo gg7u1 [5060, 5006, 5008, 5009])) _ := hP
    have hD : va_D A ([(zo, .inl (cT 1, 1, .inr (.inl zf))), (ad 5060, .inr (11, MO yr yi ysb ybs)), (yr 6, .inl (cT 3, 6, .inl (yA 6))), (yr 8, .inl (cT 0, 6, .inl (yA 8))), (yr 9, .inl (cT 0, 6, .inl (yA 9)))] ++ pg cds ad (upo gg7u1 [5060, 5006, 5008, 5009])) := hD
    refine hy_vQ (X := [(zo, .inl (cT 1, 1, .inr (.inl zf))), (ad 5060, .inr (11, MO yr yi ysb ybs)), (yr 6, .inl (cT 3, 6, .inl (yA 6))), (yr 8, .inl (cT 0, 6, .inl (yA 8))), (yr 9, .inl (cT 0, 6, .inl (yA 9)))]) (pl := pg cds ad (upo gg7u1 [5060, 5006, 5008, 5009])) (cx := [(ad 5060, .inr (11, MO yr yi ysb ybs)), (yr 6, .inl (cT 3, 6, .inl (yA 6))), (yr 8, .inl (cT 0, 6, .inl (yA 8))), (yr 9, .inl (cT 0, 6, .inl (yA 9)))]) (wr := [(zo, .inl (cT 1, 1, .inr (.inl zf)))]) hP hD hS hA [1, 2, 3, 4] [0] rfl rfl (by decide) (by decide) (va_runV (As := [.int (nI k9)]) (rest := []) ⟨hx, hb, hml, hown, hT⟩ (y_begin_ok l D cT (ad 5060) yr yi ysb ybs (yA 6) (yA 8) (yA 9) (nI k9) hq _) ⟨callB_of 1 hT (tb_gd w1294) rfl rfl rfl (hT _ w13) (hT _ w1291) hM_begin ⟨Nat.le_of_ble_eq_true rfl, Nat.le_of_ble_eq_true rfl⟩, (hT _ w1292), (hT _ w1293)⟩ (RW.preV (ci := 11) (q0 := 0) hZ hS (hy_free (cx := [(ad 5060, .inr (11, MO yr yi ysb ybs)), (yr 6, .inl (cT 3, 6, .inl (yA 6))), (yr 8, .inl (cT 0, 6, .inl (yA 8))), (yr 9, .inl (cT 0, 6, .inl (yA 9)))]) hD hS hA [1, 2, 3, 4] rfl) (hP.sub (ws' := [(ad 5060, .inr (11, MO yr yi ysb ybs)), (yr 6, .inl (cT 3, 6, .inl (yA 6))), (yr 8, .inl (cT 0, 6, .inl (yA 8))), (yr 9, .inl (cT 0, 6, .inl (yA 9)))]) [1, 2, 3, 4] rfl) hK (hD.sub (ws' := [(ad 5060, .inr (11, MO yr yi ysb ybs)), (yr 6, .inl (cT 3, 6, .inl (yA 6))), (yr 8, .inl (cT 0, 6, .inl (yA 8))), (yr 9, .inl (cT 0, 6, .inl (yA 9)))]) [1, 2, 3, 4] (by decide) rfl) rfl rfl) rfl rfl hl.1 rfl (lv_room (Nat.le_of_ble_eq_true rfl)) dL_law_167 ⟨(by show ((2000 + j + 3 * fm + 4 * SM mk 16) + 0) + 0 ≤ 601024; omega), (by show ((400000 + 6 * j + 42 * fm + 69 * SM mk 16) + 0) + 0 ≤ 7293034; omega)⟩) (fun u9 H locs hpu2 hP hD hS => ?_)
    obtain ⟨h1u2, h2u2, h3u2⟩ := u9
    have hpu2 : ∀ q8, q8 < 6 → h1u2 q8 = vp_nar .boolean 0 ∧ h2u2 q8 = 0 ∧ h3u2 q8 = (-2147483648) := hpu2
    have hP : va_P D vwCl ([(zo, .inl (cT 1, 1, .inr (.inl zf))), (ad 5060, .inr (11, MO yr (va_up (va_up (va_up (va_up (va_up (va_up (va_up (va_up (va_up (va_up (va_up yi 1 0) 2 (nI k9)) 3 0) 17 0) 47 0) 10 2) 11 1) 12 0) 13 1) 14 2) 16 (-1)) (-1) ybs)), (yr 6, .inl (cT 3, 6, .inl h1u2)), (yr 8, .inl (cT 0, 6, .inl h2u2)), (yr 9, .inl (cT 0, 6, .inl h3u2))] ++ pg cds ad (upo gg7u1 [5060, 5006, 5008, 5009])) _ := hP
    have hD : va_D A ([(zo, .inl (cT 1, 1, .inr (.inl zf))), (ad 5060, .inr (11, MO yr (va_up (va_up (va_up (va_up (va_up (va_up (va_up (va_up (va_up (va_up (va_up yi 1 0) 2 (nI k9)) 3 0) 17 0) 47 0) 10 2) 11 1) 12 0) 13 1) 14 2) 16 (-1)) (-1) ybs)), (yr 6, .inl (cT 3, 6, .inl h1u2)), (yr 8, .inl (cT 0, 6, .inl h2u2)), (yr 9, .inl (cT 0, 6, .inl h3u2))] ++ pg cds ad (upo gg7u1 [5060, 5006, 5008, 5009])) := hD
    have yH := hpu2
    have hw9 : ([(zo, .inl (cT 1, 1, .inr (.inl zf))), (ad 5060, .inr (11, MO yr (va_up (va_up (va_up (va_up (va_up (va_up (va_up (va_up (va_up (va_up (va_up yi 1 0) 2 (nI k9)) 3 0) 17 0) 47 0) 10 2) 11 1) 12 0) 13 1) 14 2) 16 (-1)) (-1) ybs)), (ad 5006, .inl (cT 3, 6, .inl h1u2)), (ad 5008, .inl (cT 0, 6, .inl h2u2)), (ad 5009, .inl (cT 0, 6, .inl h3u2))] ++ pg cds ad (upo gg7u1 [5060, 5006, 5008, 5009])) = ([(zo, .inl (cT 1, 1, .inr (.inl zf))), (ad 5060, .inr (11, MO yr (va_up (va_up (va_up (va_up (va_up (va_up (va_up (va_up (va_up (va_up (va_up yi 1 0) 2 (nI k9)) 3 0) 17 0) 47 0) 10 2) 11 1) 12 0) 13 1) 14 2) 16 (-1)) (-1) ybs)), (yr 6, .inl (cT 3, 6, .inl h1u2)), (yr 8, .inl (cT 0, 6, .inl h2u2)), (yr 9, .inl (cT 0, 6, .inl h3u2))] ++ pg cds ad (upo gg7u1 [5060, 5006, 5008, 5009])) := by rw [show ad 5006 = yr 6 from hyr 6 (by unfold YKy; omega), show ad 5008 = yr 8 from hyr 8 (by unfold YKy; omega), show ad 5009 = yr 9 from hyr 9 (by unfold YKy; omega)]
    have hP := vP_eq hw9 hP
    have hD := vD_eq hw9 hD
    have hP : va_P D vwCl ([(zo, .inl (cT 1, 1, .inr (.inl zf))), (ad 5060, .inr (11, MO yr (va_up (va_up (va_up (va_up (va_up (va_up (va_up (va_up (va_up (va_up (va_up yi 1 0) 2 (nI k9)) 3 0) 17 0) 47 0) 10 2) 11 1) 12 0) 13 1) 14 2) 16 (-1)) (-1) ybs)), (ad 5006, .inl (cT 3, 6, .inl h1u2)), (ad 5008, .inl (cT 0, 6, .inl h2u2)), (ad 5009, .inl (cT 0, 6, .inl h3u2))] ++ pg cds ad (upo gg7u1 [5060, 5006, 5008, 5009])) _ := hP
    have hD : va_D A ([(zo, .inl (cT 1, 1, .inr (.inl zf))), (ad 5060, .inr (11, MO yr (va_up (va_up (va_up (va_up (va_up (va_up (va_up (va_up (va_up (va_up (va_up yi 1 0) 2 (nI k9)) 3 0) 17 0) 47 0) 10 2) 11 1) 12 0) 13 1) 14 2) 16 (-1)) (-1) ybs)), (ad 5006, .inl (cT 3, 6, .inl h1u2)), (ad 5008, .inl (cT 0, 6, .inl h2u2)), (ad 5009, .inl (cT 0, 6, .inl h3u2))] ++ pg cds ad (upo gg7u1 [5060, 5006, 5008, 5009])) := hD
    have hN9 := (show NDc [5060, 5006, 5008, 5009] from (nd_c (na_c (by decide) (na_c (by decide) (na_c (by decide) na_0))) (nd_c (na_c (by decide) (na_c (by decide) na_0)) (nd_c (na_c (by decide) na_0) (nd_c na_0 nd_0)))))
    have hP := gb_P (w9 := [(5060, .inr (11, MO yr (va_up (va_up (va_up (va_up (va_up (va_up (va_up (va_up (va_up (va_up (va_up yi 1 0) 2 (nI k9)) 3 0) 17 0) 47 0) 10 2) 11 1) 12 0) 13 1) 14 2) 16 (-1)) (-1) ybs)), (5006, .inl (cT 3, 6, .inl h1u2)), (5008, .inl (cT 0, 6, .inl h2u2)), (5009, .inl (cT 0, 6, .inl h3u2))]) (X := [(zo, .inl (cT 1, 1, .inr (.inl zf)))]) (g := gg7u1) hcd hN9 (show QB [(5060, .inr (11, MO yr (va_up (va_up (va_up (va_up (va_up (va_up (va_up (va_up (va_up (va_up (va_up yi 1 0) 2 (nI k9)) 3 0) 17 0) 47 0) 10 2) 11 1) 12 0) 13 1) 14 2) 16 (-1)) (-1) ybs)), (5006, .inl (cT 3, 6, .inl h1u2)), (5008, .inl (cT 0, 6, .inl h2u2)), (5009, .inl (cT 0, 6, .inl h3u2))] from (qb_c (by decide) (qb_c (by decide) (qb_c (by decide) (qb_c (by decide) qb_0))))) (hP.part (cx := [(zo, .inl (cT 1, 1, .inr (.inl zf))), (ad 5060, .inr (11, MO yr (va_up (va_up (va_up (va_up (va_up (va_up (va_up (va_up (va_up (va_up (va_up yi 1 0) 2 (nI k9)) 3 0) 17 0) 47 0) 10 2) 11 1) 12 0) 13 1) 14 2) 16 (-1)) (-1) ybs)), (ad 5006, .inl (cT 3, 6, .inl h1u2)), (ad 5008, .inl (cT 0, 6, .inl h2u2)), (ad 5009, .inl (cT 0, 6, .inl h3u2))]) [0, 1, 2, 3, 4] rfl)
    have hD := gb_D (w9 := [(5060, .inr (11, MO yr (va_up (va_up (va_up (va_up (va_up (va_up (va_up (va_up (va_up (va_up (va_up yi 1 0) 2 (nI k9)) 3 0) 17 0) 47 0) 10 2) 11 1) 12 0) 13 1) 14 2) 16 (-1)) (-1) ybs)), (5006, .inl (cT 3, 6, .inl h1u2)), (5008, .inl (cT 0, 6, .inl h2u2)), (5009, .inl (cT 0, 6, .inl h3u2))]) (X := [(zo, .inl (cT 1, 1, .inr (.inl zf)))]) (g := gg7u1) hcd hN9 (show QB [(5060, .inr (11, MO yr (va_up (va_up (va_up (va_up (va_up (va_up (va_up (va_up (va_up (va_up (va_up yi 1 0) 2 (nI k9)) 3 0) 17 0) 47 0) 10 2) 11 1) 12 0) 13 1) 14 2) 16 (-1)) (-1) ybs)), (5006, .inl (cT 3, 6, .inl h1u2)), (5008, .inl (cT 0, 6, .inl h2u2)), (5009, .inl (cT 0, 6, .inl h3u2))] from (qb_c (by decide) (qb_c (by decide) (qb_c (by decide) (qb_c (by decide) qb_0))))) (hD.part (cx := [(zo, .inl (cT 1, 1, .inr (.inl zf))), (ad 5060, .inr (11, MO yr (va_up (va_up (va_up (va_up (va_up (va_up (va_up (va_up (va_up (va_up (va_up yi 1 0) 2 (nI k9)) 3 0) 17 0) 47 0) 10 2) 11 1) 12 0) 13 1) 14 2) 16 (-1)) (-1) ybs)), (ad 5006, .inl (cT 3, 6, .inl h1u2)), (ad 5008, .inl (cT 0, 6, .inl h2u2)), (ad 5009, .inl (cT 0, 6, .inl h3u2))]) [0, 1, 2, 3, 4] (by decide) rfl)
    obtain ⟨gy, hgy⟩ : ∃ q9, q9 = ups gg7u1 [(5060, .inr (11, MO yr (va_up (va_up (va_up (va_up (va_up (va_up (va_up (va_up (va_up (va_up (va_up yi 1 0) 2 (nI k9)) 3 0) 17 0) 47 0) 10 2) 11 1) 12 0) 13 1) 14 2) 16 (-1)) (-1) ybs)), (5006, .inl (cT 3, 6, .inl h1u2)), (5008, .inl (cT 0, 6, .inl h2u2)), (5009, .inl (cT 0, 6, .inl h3u2))] := ⟨_, rfl⟩
    rw [← hgy] at hP hD
    have hP : va_P D vwCl ([(zo, .inl (cT 1, 1, .inr (.inl zf)))] ++ pg cds ad gy) _ := hP
    have hD : va_D A ([(zo, .inl (cT 1, 1, .inr (.inl zf)))] ++ pg cds ad gy) := hD
    have fgy : ∀ z8, z8 ≠ 5060 → z8 ≠ 5006 → z8 ≠ 5008 → z8 ≠ 5009 → gy z8 = gg7u1 z8 := fun z8 z1 z2 z3 z4 => by rw [hgy]; exact ups_k (kp_n z1 (kp_n z2 (kp_n z3 (kp_n z4 kp_0))))
    have gy_0 : gy 5060 = some (.inr (11, MO yr (va_up (va_up (va_up (va_up (va_up (va_up (va_up (va_up (va_up (va_up (va_up yi 1 0) 2 (nI k9)) 3 0) 17 0) 47 0) 10 2) 11 1) 12 0) 13 1) 14 2) 16 (-1)) (-1) ybs)) := by rw [hgy]; exact ups_1
    have gy_1 : gy 5006 = some (.inl (cT 3, 6, .inl h1u2)) := by rw [hgy]; exact ups_2 (by decide)
    have gy_2 : gy 5008 = some (.inl (cT 0, 6, .inl h2u2)) := by rw [hgy]; exact ups_3 (by decide) (by decide)
    have gy_3 : gy 5009 = some (.inl (cT 0, 6, .inl h3u2)) := by rw [hgy]; exact ups_4 (by decide) (by decide) (by decide)
    refine lv_aload_n hx hb dL_law_170 rfl (lv_at hl 3 rfl) ?_
    refine ro_i (va_Run.run (va_runV (As := []) (rest := []) ⟨hx, hb, hml, hown, hT⟩ (m_thrown l D cT (ad 5060) yr (va_up (va_up (va_up (va_up (va_up (va_up (va_up (va_up (va_up (va_up (va_up yi 1 0) 2 (nI k9)) 3 0) 17 0) 47 0) 10 2) 11 1) 12 0) 13 1) 14 2) 16 (-1)) (-1) ybs) ⟨callB_of 0 hT (tb_gd w1290) rfl rfl rfl (hT _ w13) (hT _ w1287) hM_thrown ⟨Nat.le_of_ble_eq_true rfl, Nat.le_of_ble_eq_true rfl⟩, (hT _ w1288), (hT _ w1289)⟩ (RO.preV (ci := 11) (q0 := 0) hZ hS ((show va_P D vwCl [(ad 5060, .inr (11, MO yr (va_up (va_up (va_up (va_up (va_up (va_up (va_up (va_up (va_up (va_up (va_up yi 1 0) 2 (nI k9)) 3 0) 17 0) 47 0) 10 2) 11 1) 12 0) 13 1) 14 2) 16 (-1)) (-1) ybs))] _ from (pv_c (pg_1 (x := 5060) hcd hP (by decide) gy_0) pv_0))) hK rfl rfl) rfl rfl hl.1 rfl (lv_room (Nat.le_of_ble_eq_true rfl)) dL_law_171 ⟨(by show (((2000 + j + 3 * fm + 4 * SM mk 16) + 0) + 0) + 0 ≤ 601024; omega), (by show (((400000 + 6 * j + 42 * fm + 69 * SM mk 16) + 0) + 0) + 0 ≤ 7293034; omega)⟩)) ?_
    refine lv_topi (fun y9 e9 => ?_)
    cases (show y9 = 0 from e9.trans rfl)
    refine lv_iload hx hb dL_law_174 (lv_at hl 0 rfl) ?_
    refine lv_icmp_eq (tgt := 181) hx hb dL_law_176 rfl (fun _ => ?_) (fun h3 => absurd (by decide) h3)
    refine lv_goto (tgt := 1690) hx hb dL_law_181 rfl ?_
    obtain ⟨yiz, hyiz⟩ : ∃ f9 : Nat → Int32, f9 = va_up (va_up (va_up (va_up (va_up (va_up (va_up (va_up (va_up (va_up (va_up yi 1 0) 2 (nI k9)) 3 0) 17 0) 47 0) 10 2) 11 1) 12 0) 13 1) 14 2) 16 (-1) := ⟨_, rfl⟩
    obtain ⟨yAz, hyAz⟩ : ∃ f9 : Nat → Nat → Int32, f9 = va_up (va_up (va_up yA 6 h1u2) 8 h2u2) 9 h3u2 := ⟨_, rfl⟩
    have hIz : LWI cT ad gg7u1 tE 0 fm mk F 0 k9 2 1 0 1 2 (fun _ => 0) 0 yiz (-1) yAz := (by rw [hyiz, hyAz]; exact ⟨fo, CLI.up hCL (Nat.zero_le _) (fun z8 n0 n1 n3 n4 n5 n6 n7 => cF z8 (by omega) (by omega) (by omega) (by omega) (by omega)) c0n c1n (by obtain ⟨ft9, e1, e2, e3⟩ := hTg; exact ⟨ft9, (cF _ (by omega) (by omega) (by omega) (by omega) (by omega)).trans e1, fun i hi => absurd hi (by omega), e3⟩) c4n (col_0 ccn yH) (out_0 hOut c41n (fun x x1 x2 => cF x (by omega) (by omega) (by omega) (by omega) (by omega))) (⟨sa9, (cF _ (by omega) (by omega) (by omega) (by omega) (by omega)).trans hso⟩), ⟨rfl, rfl, rfl, rfl, rfl, rfl, rfl, rfl, rfl, y55, (fun c hc => (yH c hc).2.1), (fun t ht => absurd ht (by omega)), (fun t ht => absurd ht (by omega)), hPR, (fun i hi => absurd hi (by omega))⟩, ⟨(Nat.zero_le _), (by omega), (by omega), hk2, ⟨by omega, by omega⟩, ⟨by omega, by omega⟩, (by omega), ⟨by omega, by omega, by omega⟩, (by omega), (fun c hc => Nat.zero_le _), (fun c hc => Or.inl (yH c hc).1), ⟨hTOK.1, fun t ht => absurd ht (by omega)⟩, (fun c hc hk => ris_0), (fun c hc hk r hr => absurd hr (by omega)), (fun c hc r hr => absurd hr (by omega)), (fun i hi => absurd hi (by omega)), (fun t ht => absurd ht (by omega)), hSV7⟩⟩)
    have hIz := hIz.yg (g2 := gy) (fun z8 hz => fgy z8 (by omega) (by omega) (by omega) (by omega))
    have hYz : YCL cT ad gy y yr yiz (-1) ybs yAz yW F := by
      refine ⟨hYad, hyr, (by rw [hyiz]; exact gy_0), fun k hk => ?_⟩
      have hk2 : k = 0 ∨ (4 ≤ k ∧ k ≤ 9) ∨ (18 ≤ k ∧ k ≤ 46) ∨ k = 48 ∨ k = 49 ∨ (56 ≤ k ∧ k ≤ 59) := hk
      by_cases e6 : k = 6
      · subst e6
        rw [hyAz]; exact gy_1
      by_cases e8 : k = 8
      · subst e8
        rw [hyAz]; exact gy_2
      by_cases e9 : k = 9
      · subst e9
        rw [hyAz]; exact gy_3
      exact (fgy (5000 + k) (by omega) (by omega) (by omega) (by omega)).trans ((cF (5000 + k) (by omega) (by omega) (by omega) (by omega) (by omega)).trans ((hYA k hk).trans (congrArg some (ycl_o (by rw [hyAz]; exact (va_up_ne _ _ e9).trans ((va_up_ne _ _ e8).trans ((va_up_ne _ _ e6).trans (rfl))))).symm)))
    rw [hyiz] at hIz hYz
    rw [hyAz] at hIz hYz
    refine W.widen (k := 2000 + (j + 1) + 3 * fm + 4 * SM mk 16) (n := 400000 + 6 * (j + 1) + 42 * fm + 69 * SM mk 16) (by show ((2000 + j + 3 * fm + 4 * SM mk 16) + 0) + 0 ≤ 2000 + (j + 1) + 3 * fm + 4 * SM mk 16; omega) (by show ((400000 + 6 * j + 42 * fm + 69 * SM mk 16) + 0) + 0 ≤ 400000 + 6 * (j + 1) + 42 * fm + 69 * SM mk 16; omega) ?_
    have hl := lv_sub hl [1, 2, 3, 4, 5] rfl
    have hl : lv_has ls 7 [(0, .ref b), (1, .ref (ad 0)), (2, .ref y), (3, .ref zo), (4, .int (nI (4 * j)))] := by rw [← hYz.1]; exact hl
    exact hend ad gy 0 fm mk F 0 k9 2 1 0 1 2 (fun _ => 0) 0 (va_up (va_up (va_up (va_up (va_up (va_up (va_up (va_up (va_up (va_up (va_up yi 1 0) 2 (nI k9)) 3 0) 17 0) 47 0) 10 2) 11 1) 12 0) 13 1) 14 2) 16 (-1)) (-1) ybs (va_up (va_up (va_up yA 6 h1u2) 8 h2u2) 9 h3u2) yW zf _ _ ls hIz hYz hP hD hS hl
  · refine lv_aload_n hx hb dL_law_148 rfl (lv_at hl 1 rfl) ?_
    refine lv_aload_n hx hb dL_law_149 rfl (lv_at hl 0 rfl) ?_
    refine lv_iload hx hb dL_law_150 (lv_at hl 4 rfl) ?_
    refine lv_iconst (v := 1) hx hb dL_law_152 (by decide) ?_
    refine lv_iadd hx hb dL_law_153 ?_
    refine lv_topi (fun y9 e9 => ?_)
    cases (show y9 = nI ((4 * j) + 1) from e9.trans (nI_add (4 * j) 1))
    refine va_sld hx hb hX hbl hbA hS (vp_in_nI (n := 4 * j + 1) (N := L) (by omega) (by omega)) dL_law_154 ?_
    refine lv_topi (fun y9 e9 => ?_)
    cases (show y9 = a1 from e9.trans (by rw [nI_clamp (by omega)]; exact ha1.symm))
    refine hy_iP (X := [(zo, .inl (cT 1, 1, .inr (.inl zf)))]) (pl := pg cds ad gg) (cx := []) (wr := [(zo, .inl (cT 1, 1, .inr (.inl zf)))]) hP hD hS hA [] [0] rfl rfl (by decide) (by decide) (tx_runSH (As := [.ref (ad 0), .int a1]) (rest := []) ⟨hx, hb, hml, hown, hT⟩ (l_begin_no l D cT cds ad gg a1 (nI T) hlt hcd hob hq _) hT (tc_gd w500 w501 w0 (tb_gd w502)) rfl rfl rfl hL_begin ⟨Nat.le_of_ble_eq_true rfl, Nat.le_of_ble_eq_true rfl⟩ (RW.preS hZ hS (va_freeP (cx := []) hD hS hA [] rfl) (hP.part (cx := []) [] rfl) hK (hD.part (cx := []) [] (by decide) rfl)) rfl hl.1 rfl (Nat.le_of_ble_eq_true rfl) dL_law_155 ⟨(by show (2000 + j + 3 * fm + 4 * SM mk 16) + 1 ≤ 601024; omega), (by show (400000 + 6 * j + 42 * fm + 69 * SM mk 16) + 6 ≤ 7293034; omega)⟩) (fun ru4 u9 H locs hpu4 hP hD hS => ?_)
    have hpu4 : ru4 = 1 := hpu4
    have hP : va_P D vwCl ([(zo, .inl (cT 1, 1, .inr (.inl zf)))] ++ pg cds ad gg) _ := hP
    have hD : va_D A ([(zo, .inl (cT 1, 1, .inr (.inl zf)))] ++ pg cds ad gg) := hD
    refine lv_topi (fun y9 e9 => ?_)
    cases (show y9 = 1 from e9.trans hpu4)
    refine lv_istore hx hb dL_law_158 hl (by decide) rfl (fun ls hl => ?_)
    have hl : lv_has ls 7 [(5, .int 1), (0, .ref b), (1, .ref (ad 0)), (2, .ref (ad 5060)), (3, .ref zo), (4, .int (nI (4 * j)))] := hl
    refine lv_aload_n hx hb dL_law_160 rfl (lv_at hl 3 rfl) ?_
    refine lv_aload_n hx hb dL_law_161 rfl (lv_at hl 1 rfl) ?_
    refine lv_iload hx hb dL_law_162 (lv_at hl 5 rfl) ?_
    refine lv_iconst (v := 1) hx hb dL_law_164 (by decide) ?_
    refine lv_iadd hx hb dL_law_165 ?_
    refine lv_topi (fun y9 e9 => ?_)
    cases (show y9 = nI ((4 * j) + 1) from e9.trans (nI_add (4 * j) 1))
    refine va_sld hx hb hX hbl hbA hS (vp_in_nI (n := 4 * j + 1) (N := L) (by omega) (by omega)) dL_law_166 ?_
    refine lv_topi (fun y9 e9 => ?_)
    cases (show y9 = a1 from e9.trans (by rw [nI_clamp (by omega)]; exact ha1.symm))
    have hB9 : QI gg [(5060, .inr (11, MO yr yi ysb ybs))] := (qi_c (by decide) hYy qi_0)
    have hN9 := (show NDc [5060] from (nd_c na_0 nd_0))
    have hP := bo_P (wc := [(5060, .inr (11, MO yr yi ysb ybs))]) (X := [(zo, .inl (cT 1, 1, .inr (.inl zf)))]) hcd hN9 hB9 hP
    have hD := bo_D (wc := [(5060, .inr (11, MO yr yi ysb ybs))]) (X := [(zo, .inl (cT 1, 1, .inr (.inl zf)))]) hcd hN9 hB9 hD
    have hP : va_P D vwCl ([(zo, .inl (cT 1, 1, .inr (.inl zf))), (ad 5060, .inr (11, MO yr yi ysb ybs))] ++ pg cds ad (upo gg [5060])) _ := hP
    have hD : va_D A ([(zo, .inl (cT 1, 1, .inr (.inl zf))), (ad 5060, .inr (11, MO yr yi ysb ybs))] ++ pg cds ad (upo gg [5060])) := hD
    refine hy_vQ (X := [(zo, .inl (cT 1, 1, .inr (.inl zf))), (ad 5060, .inr (11, MO yr yi ysb ybs))]) (pl := pg cds ad (upo gg [5060])) (cx := [(ad 5060, .inr (11, MO yr yi ysb ybs))]) (wr := [(zo, .inl (cT 1, 1, .inr (.inl zf)))]) hP hD hS hA [1] [0] rfl rfl (by decide) (by decide) (va_runV (As := [.int a1]) (rest := []) ⟨hx, hb, hml, hown, hT⟩ (y_begin_no l D cT (ad 5060) yr yi ysb ybs a1 hq _) ⟨callB_of 1 hT (tb_gd w1294) rfl rfl rfl (hT _ w13) (hT _ w1291) hM_begin ⟨Nat.le_of_ble_eq_true rfl, Nat.le_of_ble_eq_true rfl⟩, (hT _ w1292), (hT _ w1293)⟩ (RW.preV (ci := 11) (q0 := 0) hZ hS (hy_free (cx := [(ad 5060, .inr (11, MO yr yi ysb ybs))]) hD hS hA [1] rfl) (hP.sub (ws' := [(ad 5060, .inr (11, MO yr yi ysb ybs))]) [1] rfl) hK (hD.sub (ws' := [(ad 5060, .inr (11, MO yr yi ysb ybs))]) [1] (by decide) rfl) rfl rfl) rfl rfl hl.1 rfl (lv_room (Nat.le_of_ble_eq_true rfl)) dL_law_167 ⟨(by show ((2000 + j + 3 * fm + 4 * SM mk 16) + 1) + 0 ≤ 601024; omega), (by show ((400000 + 6 * j + 42 * fm + 69 * SM mk 16) + 6) + 0 ≤ 7293034; omega)⟩) (fun u9 H locs hpu5 hP hD hS => ?_)
    have hpu5 : True := hpu5
    have hP : va_P D vwCl ([(zo, .inl (cT 1, 1, .inr (.inl zf))), (ad 5060, .inr (11, MO yr (va_up yi 1 1) ysb ybs))] ++ pg cds ad (upo gg [5060])) _ := hP
    have hD : va_D A ([(zo, .inl (cT 1, 1, .inr (.inl zf))), (ad 5060, .inr (11, MO yr (va_up yi 1 1) ysb ybs))] ++ pg cds ad (upo gg [5060])) := hD
    have hN9 := (show NDc [5060] from (nd_c na_0 nd_0))
    have hP := gb_P (w9 := [(5060, .inr (11, MO yr (va_up yi 1 1) ysb ybs))]) (X := [(zo, .inl (cT 1, 1, .inr (.inl zf)))]) (g := gg) hcd hN9 (show QB [(5060, .inr (11, MO yr (va_up yi 1 1) ysb ybs))] from (qb_c (by decide) qb_0)) (hP.part (cx := [(zo, .inl (cT 1, 1, .inr (.inl zf))), (ad 5060, .inr (11, MO yr (va_up yi 1 1) ysb ybs))]) [0, 1] rfl)
    have hD := gb_D (w9 := [(5060, .inr (11, MO yr (va_up yi 1 1) ysb ybs))]) (X := [(zo, .inl (cT 1, 1, .inr (.inl zf)))]) (g := gg) hcd hN9 (show QB [(5060, .inr (11, MO yr (va_up yi 1 1) ysb ybs))] from (qb_c (by decide) qb_0)) (hD.part (cx := [(zo, .inl (cT 1, 1, .inr (.inl zf))), (ad 5060, .inr (11, MO yr (va_up yi 1 1) ysb ybs))]) [0, 1] (by decide) rfl)
    obtain ⟨gy, hgy⟩ : ∃ q9, q9 = ups gg [(5060, .inr (11, MO yr (va_up yi 1 1) ysb ybs))] := ⟨_, rfl⟩
    rw [← hgy] at hP hD
    have hP : va_P D vwCl ([(zo, .inl (cT 1, 1, .inr (.inl zf)))] ++ pg cds ad gy) _ := hP
    have hD : va_D A ([(zo, .inl (cT 1, 1, .inr (.inl zf)))] ++ pg cds ad gy) := hD
    have fgy : ∀ z8, z8 ≠ 5060 → gy z8 = gg z8 := fun z8 z1 => by rw [hgy]; exact ups_k (kp_n z1 kp_0)
    have gy_0 : gy 5060 = some (.inr (11, MO yr (va_up yi 1 1) ysb ybs)) := by rw [hgy]; exact ups_1
    refine lv_aload_n hx hb dL_law_170 rfl (lv_at hl 3 rfl) ?_
    refine ro_i (va_Run.run (va_runV (As := []) (rest := []) ⟨hx, hb, hml, hown, hT⟩ (m_thrown l D cT (ad 5060) yr (va_up yi 1 1) ysb ybs) ⟨callB_of 0 hT (tb_gd w1290) rfl rfl rfl (hT _ w13) (hT _ w1287) hM_thrown ⟨Nat.le_of_ble_eq_true rfl, Nat.le_of_ble_eq_true rfl⟩, (hT _ w1288), (hT _ w1289)⟩ (RO.preV (ci := 11) (q0 := 0) hZ hS ((show va_P D vwCl [(ad 5060, .inr (11, MO yr (va_up yi 1 1) ysb ybs))] _ from (pv_c (pg_1 (x := 5060) hcd hP (by decide) gy_0) pv_0))) hK rfl rfl) rfl rfl hl.1 rfl (lv_room (Nat.le_of_ble_eq_true rfl)) dL_law_171 ⟨(by show (((2000 + j + 3 * fm + 4 * SM mk 16) + 1) + 0) + 0 ≤ 601024; omega), (by show (((400000 + 6 * j + 42 * fm + 69 * SM mk 16) + 6) + 0) + 0 ≤ 7293034; omega)⟩)) ?_
    refine lv_topi (fun y9 e9 => ?_)
    cases (show y9 = 1 from e9.trans rfl)
    refine lv_iload hx hb dL_law_174 (lv_at hl 0 rfl) ?_
    refine lv_icmp_eq (tgt := 181) hx hb dL_law_176 rfl (fun _ => ?_) (fun h6 => absurd (by decide) h6)
    refine lv_goto (tgt := 1690) hx hb dL_law_181 rfl ?_
    obtain ⟨yiz, hyiz⟩ : ∃ f9 : Nat → Int32, f9 = va_up yi 1 1 := ⟨_, rfl⟩
    have hIz : LWI cT ad gg tE T fm mk F n wd dpt lst w ru rl ne Lo yiz ysb yA := hI.sc (fun k hk => by rw [hyiz]; exact va_up_ne _ _ hk) (fun _ _ => rfl)
    have hIz := hIz.yg (g2 := gy) (fun z8 hz => fgy z8 (by omega))
    have hYz : YCL cT ad gy y yr yiz ysb ybs yA yW F := by
      refine ⟨hYad, hyr, (by rw [hyiz]; exact gy_0), fun k hk => ?_⟩
      have hk2 : k = 0 ∨ (4 ≤ k ∧ k ≤ 9) ∨ (18 ≤ k ∧ k ≤ 46) ∨ k = 48 ∨ k = 49 ∨ (56 ≤ k ∧ k ≤ 59) := hk
      exact (fgy (5000 + k) (by omega)).trans ((hYA k hk).trans (congrArg some (ycl_o rfl).symm))
    rw [hyiz] at hIz hYz
    refine W.widen (k := 2000 + (j + 1) + 3 * fm + 4 * SM mk 16) (n := 400000 + 6 * (j + 1) + 42 * fm + 69 * SM mk 16) (by show ((2000 + j + 3 * fm + 4 * SM mk 16) + 1) + 0 ≤ 2000 + (j + 1) + 3 * fm + 4 * SM mk 16; omega) (by show ((400000 + 6 * j + 42 * fm + 69 * SM mk 16) + 6) + 0 ≤ 400000 + 6 * (j + 1) + 42 * fm + 69 * SM mk 16; omega) ?_
    have hl := lv_sub hl [1, 2, 3, 4, 5] rfl
    have hl : lv_has ls 7 [(0, .ref b), (1, .ref (ad 0)), (2, .ref y), (3, .ref zo), (4, .int (nI (4 * j)))] := by rw [← hYz.1]; exact hl
    exact hend ad gy T fm mk F n wd dpt lst w ru rl ne Lo (va_up yi 1 1) ysb ybs yA yW zf _ _ ls hIz hYz hP hD hS hl
