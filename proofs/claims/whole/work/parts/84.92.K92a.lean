set_option maxHeartbeats 8000000 in
set_option maxRecDepth 100000 in
theorem lo_17 {p : Program} {l : Launch} {e : Env} {s : State} {m : MethodId} {args : Array Value} {below : List Frame} {meth : Method} {c : Code} {Q : State → Prop} {A : Nat → Prop} {H : Heap} {locs : List Loc} {ls : Array Slot} {b L : Nat} {xs : Nat → Int32} (D : va_G) (cT : Nat → ClassId) (cds : List Nat) (tE mE y : Nat) (yr : Nat → Nat) (zo j : Nat) (ad : Nat → Nat) (gg : Nat → Option va_E) (T : Nat) (fm : Nat) (mk : Nat → Nat) (F : TFR) (n : Nat) (wd : Nat) (dpt : Nat) (lst : Nat) (w : Nat) (ru : Nat) (rl : Nat) (ne : Nat → Nat) (Lo : Nat) (yi : Nat → Int32) (ysb : Int64) (ybs : Int64) (yA : Nat → Nat → Int32) (yW : Nat → Int64) (zf : Nat → Int64) (hlt : l.stackTraces = false) (hx : p.tables.exec = Jvm.exec) (hb : c.code = code) (hml : c.maxLocals = 7) (hown : s.vm.findClass "ResidualTreesLaw" = some m.cls) (hT : ∀ w ∈ TB, w.before args s = true) (hZ : ZZ A s s.heap) (hE0 : ZE tE mE A s s.heap) (hK : va_K D vwCl (TY cT) s) (hA : ∀ q : Nat, s.heap.size ≤ q → A q) (hX : va_X b L xs s s.heap) (hbl : b < s.heap.size) (hbA : ¬ A b) (hcd : CD cds) (hj : 4 * j + 4 ≤ L) (hL : L ≤ 2048) (hI : LWI cT ad gg tE T fm mk F n wd dpt lst w ru rl ne Lo yi ysb yA) (hYC : YCL cT ad gg y yr yi ysb ybs yA yW F) (hP : va_P D vwCl ([(zo, .inl (cT 1, 1, .inr (.inl zf)))] ++ pg cds ad gg) H) (hD : va_D A ([(zo, .inl (cT 1, 1, .inr (.inl zf)))] ++ pg cds ad gg)) (hS : va_S A s.heap H locs) (hl : lv_has ls 7 [(0, .ref b), (1, .ref (ad 0)), (2, .ref y), (3, .ref zo), (4, .int (nI (4 * j)))]) (hend : LEN2 p l e s m args below meth c Q A D cT cds tE y yr zo b j) : W p l e room_1 s m args below meth c H locs (2000 + j + 3 * fm + 4 * SM mk 16) (400000 + 6 * j + 42 * fm + 69 * SM mk 16) Q (F0 m 1248 ls []) := by
  obtain ⟨a1, ha1⟩ : ∃ q9 : Int32, q9 = xs (4 * j + 1) := ⟨_, rfl⟩
  obtain ⟨a2, ha2⟩ : ∃ q9 : Int32, q9 = xs (4 * j + 2) := ⟨_, rfl⟩
  obtain ⟨a3, ha3⟩ : ∃ q9 : Int32, q9 = xs (4 * j + 3) := ⟨_, rfl⟩
  obtain ⟨hfm16, hSM⟩ := lwi_b hI
  obtain ⟨hYad, hYr0, hYy, hYA⟩ := hYC
  have hyr := hYr0
  obtain ⟨fo, hCL, hRF, hPU⟩ := id hI
  obtain ⟨hTV, hOut, ⟨sa9, hso⟩, ⟨zq9, hS1⟩, ⟨zr9, hS2⟩, ⟨z58, hS3⟩⟩ := id hCL
  obtain ⟨hob, hTg, hFT, hTs, ⟨zs0, hGB⟩, ⟨zf0, hLf⟩, ⟨zc0, hCm⟩⟩ := id hTV
  obtain ⟨chtb, chRs, chCa, chCf, chpl, chGa, chSc, chGs, ⟨cfo, chod⟩, cbb9, ctt9, cb90, cik0, chgr, chbt, chSP⟩ := id hGB
  obtain ⟨y2, y3, y10, y11, y12, y13, y14, y17, y47, y55, y8e, y18e, hRFN, hPR, hfoy⟩ := id hRF
  obtain ⟨hTf, hT16, hn48, hwd6, hdp4, hls2, hw20, hr9, hLo, hne, hik, hTOK, hS9, hVk, hVb, htg, hSEP, hSV7⟩ := id hPU
  have hl : lv_has ls 7 [(0, .ref b), (1, .ref (ad 0)), (2, .ref (ad 5060)), (3, .ref zo), (4, .int (nI (4 * j)))] := by rw [hYad]; exact hl
  by_cases hq : 0 ≤ a1 ∧ a1 ≤ nI T - 1
  · obtain ⟨t, ht, rfl⟩ := i_nat (n := T) (by omega) hq
    have hm31 := (hTOK.2 t ht).1.2.1
    by_cases hr : 0 ≤ a2 ∧ a2 ≤ nI (tM F t) - 1
    · obtain ⟨k, hk, rfl⟩ := i_nat (n := tM F t) (by omega) hr
      by_cases hlf9 : tA F 0 (31 * t + k) = -1
      · refine lv_aload_n hx hb dL_law_1248 rfl (lv_at hl 1 rfl) ?_
        refine lv_aload_n hx hb dL_law_1249 rfl (lv_at hl 0 rfl) ?_
        refine lv_iload hx hb dL_law_1250 (lv_at hl 4 rfl) ?_
        refine lv_iconst (v := 1) hx hb dL_law_1252 (by decide) ?_
        refine lv_iadd hx hb dL_law_1253 ?_
        refine lv_topi (fun y9 e9 => ?_)
        cases (show y9 = nI ((4 * j) + 1) from e9.trans (nI_add (4 * j) 1))
        refine va_sld hx hb hX hbl hbA hS (vp_in_nI (n := 4 * j + 1) (N := L) (by omega) (by omega)) dL_law_1254 ?_
        refine lv_topi (fun y9 e9 => ?_)
        cases (show y9 = nI t from e9.trans (by rw [nI_clamp (by omega)]; exact ha1.symm))
        refine lv_aload_n hx hb dL_law_1255 rfl (lv_at hl 0 rfl) ?_
        refine lv_iload hx hb dL_law_1256 (lv_at hl 4 rfl) ?_
        refine lv_iconst (v := 2) hx hb dL_law_1258 (by decide) ?_
        refine lv_iadd hx hb dL_law_1259 ?_
        refine lv_topi (fun y9 e9 => ?_)
        cases (show y9 = nI ((4 * j) + 2) from e9.trans (nI_add (4 * j) 2))
        refine va_sld hx hb hX hbl hbA hS (vp_in_nI (n := 4 * j + 2) (N := L) (by omega) (by omega)) dL_law_1260 ?_
        refine lv_topi (fun y9 e9 => ?_)
        cases (show y9 = nI k from e9.trans (by rw [nI_clamp (by omega)]; exact ha2.symm))
        refine lv_aload_n hx hb dL_law_1261 rfl (lv_at hl 3 rfl) ?_
        refine hy_iP (X := [(zo, .inl (cT 1, 1, .inr (.inl zf)))]) (pl := pg cds ad gg) (cx := [(zo, .inl (cT 1, 1, .inr (.inl zf)))]) (wr := []) hP hD hS hA [0] [] rfl rfl (by decide) (by decide) (tx_runSH (As := [.ref (ad 0), .int (nI t), .int (nI k), .ref zo]) (rest := []) ⟨hx, hb, hml, hown, hT⟩ (l_tellL l D cT cds ad gg T fm F t k Lo fo zc0 zq9 (nI wd) (nI n) zo zf hcd hob hFT.1.frp hTf hTs hT16 ht hq hr hk hTOK chtb hOut hCm hS1 hlf9 _) hT (tc_gd w1031 w1032 w0 (tb_gd w1033)) rfl rfl rfl hL_tell ⟨Nat.le_of_ble_eq_true rfl, Nat.le_of_ble_eq_true rfl⟩ (RW.preS hZ hS (va_freeP (cx := [(zo, .inl (cT 1, 1, .inr (.inl zf)))]) hD hS hA [0] rfl) (hP.part (cx := [(zo, .inl (cT 1, 1, .inr (.inl zf)))]) [0] rfl) hK (hD.part (cx := [(zo, .inl (cT 1, 1, .inr (.inl zf)))]) [0] (by decide) rfl)) rfl hl.1 rfl (Nat.le_of_ble_eq_true rfl) dL_law_1262 ⟨(by show (2000 + j + 3 * fm + 4 * SM mk 16) + 0 ≤ 601024; omega), (by show (400000 + 6 * j + 42 * fm + 69 * SM mk 16) + 0 ≤ 7293034; omega)⟩) (fun ru1 u9 H locs hpu1 hP hD hS => ?_)
        obtain ⟨gg7u1, L7u1, fo7u1, z7u1, d7u1, rvu1⟩ := u9
        have hpu1 : ru1 = 0 ∧ rvu1 = nI L7u1 ∧ L7u1 ≤ 866 ∧ WRT fo7u1 L7u1 z7u1 d7u1 ∧ RDC (tS F t k * (tU F t : Int)) (Ppf F t * unr F t k) z7u1 d7u1 ∧ OUTp cT ad gg7u1 L7u1 fo7u1 ∧ (∀ z8, (z8 < 41 ∨ 47 < z8) → (z8 < 52 ∨ 55 < z8) → gg7u1 z8 = gg z8) ∧ (∃ z8, WHO cT ad gg7u1 52 53 24 z8) ∧ ∃ z8, WHO cT ad gg7u1 54 55 48 z8 := hpu1
        have hP : va_P D vwCl ([(zo, .inl (cT 1, 1, .inr (.inl (vp_updL zf 0 (Int32.toInt64 rvu1)))))] ++ pg cds ad gg7u1) _ := hP
        have hD : va_D A ([(zo, .inl (cT 1, 1, .inr (.inl (vp_updL zf 0 (Int32.toInt64 rvu1)))))] ++ pg cds ad gg7u1) := hD
        refine lv_topi (fun y9 e9 => ?_)
        cases (show y9 = 0 from e9.trans hpu1.1)
        obtain ⟨_, cR, cL, cW, cD, cO, cF, c52, c54⟩ := hpu1
        refine lv_istore hx hb dL_law_1265 hl (by decide) rfl (fun ls hl => ?_)
        have hl : lv_has ls 7 [(5, .int 0), (0, .ref b), (1, .ref (ad 0)), (2, .ref (ad 5060)), (3, .ref zo), (4, .int (nI (4 * j)))] := hl
        refine lv_aload_n hx hb dL_law_1267 rfl (lv_at hl 3 rfl) ?_
        refine lv_aload_n hx hb dL_law_1268 rfl (lv_at hl 1 rfl) ?_
        refine lv_iload hx hb dL_law_1269 (lv_at hl 5 rfl) ?_
        refine lv_iconst (v := 1) hx hb dL_law_1271 (by decide) ?_
        refine lv_iadd hx hb dL_law_1272 ?_
        refine lv_topi (fun y9 e9 => ?_)
        cases (show y9 = nI ((4 * j) + 1) from e9.trans (nI_add (4 * j) 1))
        refine va_sld hx hb hX hbl hbA hS (vp_in_nI (n := 4 * j + 1) (N := L) (by omega) (by omega)) dL_law_1273 ?_
        refine lv_topi (fun y9 e9 => ?_)
        cases (show y9 = nI t from e9.trans (by rw [nI_clamp (by omega)]; exact ha1.symm))
        refine lv_aload_n hx hb dL_law_1274 rfl (lv_at hl 1 rfl) ?_
        refine lv_iload hx hb dL_law_1275 (lv_at hl 5 rfl) ?_
        refine lv_iconst (v := 2) hx hb dL_law_1277 (by decide) ?_
        refine lv_iadd hx hb dL_law_1278 ?_
        refine lv_topi (fun y9 e9 => ?_)
        cases (show y9 = nI ((4 * j) + 2) from e9.trans (nI_add (4 * j) 2))
        refine va_sld hx hb hX hbl hbA hS (vp_in_nI (n := 4 * j + 2) (N := L) (by omega) (by omega)) dL_law_1279 ?_
        refine lv_topi (fun y9 e9 => ?_)
        cases (show y9 = nI k from e9.trans (by rw [nI_clamp (by omega)]; exact ha2.symm))
        have hB9 : QI gg7u1 [(5060, .inr (11, MO yr yi ysb ybs)), (5000, .inl (cT 0, 19, .inl (yA 0))), (5018, .inl (cT 0, 16, .inl (yA 18))), (5027, .inl (cT 0, 65472, .inl (yA 27))), (5028, .inl (cT 0, 9424, .inl (yA 28))), (5030, .inl (cT 0, 302, .inl (yA 30))), (5041, .inl (cT 0, 19, .inl (yA 41))), (5048, .inl (cT 2, 6000, .inl (yA 48))), (5049, .inl (cT 2, 3000, .inl (yA 49))), (5031, .inl (cT 0, 302, .inl (yA 31)))] := (qi_c (by decide) ((cF 5060 (by omega) (by omega)).trans hYy) (qi_c (by decide) ((cF 5000 (by omega) (by omega)).trans (hYA 0 (by unfold YKy; omega))) (qi_c (by decide) ((cF 5018 (by omega) (by omega)).trans (hYA 18 (by unfold YKy; omega))) (qi_c (by decide) ((cF 5027 (by omega) (by omega)).trans (hYA 27 (by unfold YKy; omega))) (qi_c (by decide) ((cF 5028 (by omega) (by omega)).trans (hYA 28 (by unfold YKy; omega))) (qi_c (by decide) ((cF 5030 (by omega) (by omega)).trans (hYA 30 (by unfold YKy; omega))) (qi_c (by decide) ((cF 5041 (by omega) (by omega)).trans (hYA 41 (by unfold YKy; omega))) (qi_c (by decide) ((cF 5048 (by omega) (by omega)).trans (hYA 48 (by unfold YKy; omega))) (qi_c (by decide) ((cF 5049 (by omega) (by omega)).trans (hYA 49 (by unfold YKy; omega))) (qi_c (by decide) ((cF 5031 (by omega) (by omega)).trans (hYA 31 (by unfold YKy; omega))) qi_0))))))))))
        have hN9 := (show NDc [5060, 5000, 5018, 5027, 5028, 5030, 5041, 5048, 5049, 5031] from (nd_c (na_c (by decide) (na_c (by decide) (na_c (by decide) (na_c (by decide) (na_c (by decide) (na_c (by decide) (na_c (by decide) (na_c (by decide) (na_c (by decide) na_0))))))))) (nd_c (na_c (by decide) (na_c (by decide) (na_c (by decide) (na_c (by decide) (na_c (by decide) (na_c (by decide) (na_c (by decide) (na_c (by decide) na_0)))))))) (nd_c (na_c (by decide) (na_c (by decide) (na_c (by decide) (na_c (by decide) (na_c (by decide) (na_c (by decide) (na_c (by decide) na_0))))))) (nd_c (na_c (by decide) (na_c (by decide) (na_c (by decide) (na_c (by decide) (na_c (by decide) (na_c (by decide) na_0)))))) (nd_c (na_c (by decide) (na_c (by decide) (na_c (by decide) (na_c (by decide) (na_c (by decide) na_0))))) (nd_c (na_c (by decide) (na_c (by decide) (na_c (by decide) (na_c (by decide) na_0)))) (nd_c (na_c (by decide) (na_c (by decide) (na_c (by decide) na_0))) (nd_c (na_c (by decide) (na_c (by decide) na_0)) (nd_c (na_c (by decide) na_0) (nd_c na_0 nd_0)))))))))))
        have hP := bo_P (wc := [(5060, .inr (11, MO yr yi ysb ybs)), (5000, .inl (cT 0, 19, .inl (yA 0))), (5018, .inl (cT 0, 16, .inl (yA 18))), (5027, .inl (cT 0, 65472, .inl (yA 27))), (5028, .inl (cT 0, 9424, .inl (yA 28))), (5030, .inl (cT 0, 302, .inl (yA 30))), (5041, .inl (cT 0, 19, .inl (yA 41))), (5048, .inl (cT 2, 6000, .inl (yA 48))), (5049, .inl (cT 2, 3000, .inl (yA 49))), (5031, .inl (cT 0, 302, .inl (yA 31)))]) (X := [(zo, .inl (cT 1, 1, .inr (.inl (vp_updL zf 0 (Int32.toInt64 rvu1)))))]) hcd hN9 hB9 hP
        have hD := bo_D (wc := [(5060, .inr (11, MO yr yi ysb ybs)), (5000, .inl (cT 0, 19, .inl (yA 0))), (5018, .inl (cT 0, 16, .inl (yA 18))), (5027, .inl (cT 0, 65472, .inl (yA 27))), (5028, .inl (cT 0, 9424, .inl (yA 28))), (5030, .inl (cT 0, 302, .inl (yA 30))), (5041, .inl (cT 0, 19, .inl (yA 41))), (5048, .inl (cT 2, 6000, .inl (yA 48))), (5049, .inl (cT 2, 3000, .inl (yA 49))), (5031, .inl (cT 0, 302, .inl (yA 31)))]) (X := [(zo, .inl (cT 1, 1, .inr (.inl (vp_updL zf 0 (Int32.toInt64 rvu1)))))]) hcd hN9 hB9 hD
        have hP : va_P D vwCl ([(zo, .inl (cT 1, 1, .inr (.inl (vp_updL zf 0 (Int32.toInt64 rvu1))))), (ad 5060, .inr (11, MO yr yi ysb ybs)), (ad 5000, .inl (cT 0, 19, .inl (yA 0))), (ad 5018, .inl (cT 0, 16, .inl (yA 18))), (ad 5027, .inl (cT 0, 65472, .inl (yA 27))), (ad 5028, .inl (cT 0, 9424, .inl (yA 28))), (ad 5030, .inl (cT 0, 302, .inl (yA 30))), (ad 5041, .inl (cT 0, 19, .inl (yA 41))), (ad 5048, .inl (cT 2, 6000, .inl (yA 48))), (ad 5049, .inl (cT 2, 3000, .inl (yA 49))), (ad 5031, .inl (cT 0, 302, .inl (yA 31)))] ++ pg cds ad (upo gg7u1 [5060, 5000, 5018, 5027, 5028, 5030, 5041, 5048, 5049, 5031])) _ := hP
        have hD : va_D A ([(zo, .inl (cT 1, 1, .inr (.inl (vp_updL zf 0 (Int32.toInt64 rvu1))))), (ad 5060, .inr (11, MO yr yi ysb ybs)), (ad 5000, .inl (cT 0, 19, .inl (yA 0))), (ad 5018, .inl (cT 0, 16, .inl (yA 18))), (ad 5027, .inl (cT 0, 65472, .inl (yA 27))), (ad 5028, .inl (cT 0, 9424, .inl (yA 28))), (ad 5030, .inl (cT 0, 302, .inl (yA 30))), (ad 5041, .inl (cT 0, 19, .inl (yA 41))), (ad 5048, .inl (cT 2, 6000, .inl (yA 48))), (ad 5049, .inl (cT 2, 3000, .inl (yA 49))), (ad 5031, .inl (cT 0, 302, .inl (yA 31)))] ++ pg cds ad (upo gg7u1 [5060, 5000, 5018, 5027, 5028, 5030, 5041, 5048, 5049, 5031])) := hD
        have hw9 : ([(zo, .inl (cT 1, 1, .inr (.inl (vp_updL zf 0 (Int32.toInt64 rvu1))))), (ad 5060, .inr (11, MO yr yi ysb ybs)), (yr 0, .inl (cT 0, 19, .inl (yA 0))), (yr 18, .inl (cT 0, 16, .inl (yA 18))), (yr 27, .inl (cT 0, 65472, .inl (yA 27))), (yr 28, .inl (cT 0, 9424, .inl (yA 28))), (yr 30, .inl (cT 0, 302, .inl (yA 30))), (yr 41, .inl (cT 0, 19, .inl (yA 41))), (yr 48, .inl (cT 2, 6000, .inl (yA 48))), (yr 49, .inl (cT 2, 3000, .inl (yA 49))), (yr 31, .inl (cT 0, 302, .inl (yA 31)))] ++ pg cds ad (upo gg7u1 [5060, 5000, 5018, 5027, 5028, 5030, 5041, 5048, 5049, 5031])) = ([(zo, .inl (cT 1, 1, .inr (.inl (vp_updL zf 0 (Int32.toInt64 rvu1))))), (ad 5060, .inr (11, MO yr yi ysb ybs)), (ad 5000, .inl (cT 0, 19, .inl (yA 0))), (ad 5018, .inl (cT 0, 16, .inl (yA 18))), (ad 5027, .inl (cT 0, 65472, .inl (yA 27))), (ad 5028, .inl (cT 0, 9424, .inl (yA 28))), (ad 5030, .inl (cT 0, 302, .inl (yA 30))), (ad 5041, .inl (cT 0, 19, .inl (yA 41))), (ad 5048, .inl (cT 2, 6000, .inl (yA 48))), (ad 5049, .inl (cT 2, 3000, .inl (yA 49))), (ad 5031, .inl (cT 0, 302, .inl (yA 31)))] ++ pg cds ad (upo gg7u1 [5060, 5000, 5018, 5027, 5028, 5030, 5041, 5048, 5049, 5031])) := by rw [show yr 0 = ad 5000 from (hyr 0 (by unfold YKy; omega)).symm, show yr 18 = ad 5018 from (hyr 18 (by unfold YKy; omega)).symm, show yr 27 = ad 5027 from (hyr 27 (by unfold YKy; omega)).symm, show yr 28 = ad 5028 from (hyr 28 (by unfold YKy; omega)).symm, show yr 30 = ad 5030 from (hyr 30 (by unfold YKy; omega)).symm, show yr 41 = ad 5041 from (hyr 41 (by unfold YKy; omega)).symm, show yr 48 = ad 5048 from (hyr 48 (by unfold YKy; omega)).symm, show yr 49 = ad 5049 from (hyr 49 (by unfold YKy; omega)).symm, show yr 31 = ad 5031 from (hyr 31 (by unfold YKy; omega)).symm]
        have hP := vP_eq hw9 hP
        have hD := vD_eq hw9 hD
        have hP : va_P D vwCl ([(zo, .inl (cT 1, 1, .inr (.inl (vp_updL zf 0 (Int32.toInt64 rvu1))))), (ad 5060, .inr (11, MO yr yi ysb ybs)), (yr 0, .inl (cT 0, 19, .inl (yA 0))), (yr 18, .inl (cT 0, 16, .inl (yA 18))), (yr 27, .inl (cT 0, 65472, .inl (yA 27))), (yr 28, .inl (cT 0, 9424, .inl (yA 28))), (yr 30, .inl (cT 0, 302, .inl (yA 30))), (yr 41, .inl (cT 0, 19, .inl (yA 41))), (yr 48, .inl (cT 2, 6000, .inl (yA 48))), (yr 49, .inl (cT 2, 3000, .inl (yA 49))), (yr 31, .inl (cT 0, 302, .inl (yA 31)))] ++ pg cds ad (upo gg7u1 [5060, 5000, 5018, 5027, 5028, 5030, 5041, 5048, 5049, 5031])) _ := hP
        have hD : va_D A ([(zo, .inl (cT 1, 1, .inr (.inl (vp_updL zf 0 (Int32.toInt64 rvu1))))), (ad 5060, .inr (11, MO yr yi ysb ybs)), (yr 0, .inl (cT 0, 19, .inl (yA 0))), (yr 18, .inl (cT 0, 16, .inl (yA 18))), (yr 27, .inl (cT 0, 65472, .inl (yA 27))), (yr 28, .inl (cT 0, 9424, .inl (yA 28))), (yr 30, .inl (cT 0, 302, .inl (yA 30))), (yr 41, .inl (cT 0, 19, .inl (yA 41))), (yr 48, .inl (cT 2, 6000, .inl (yA 48))), (yr 49, .inl (cT 2, 3000, .inl (yA 49))), (yr 31, .inl (cT 0, 302, .inl (yA 31)))] ++ pg cds ad (upo gg7u1 [5060, 5000, 5018, 5027, 5028, 5030, 5041, 5048, 5049, 5031])) := hD
        refine hy_iQ (X := [(zo, .inl (cT 1, 1, .inr (.inl (vp_updL zf 0 (Int32.toInt64 rvu1))))), (ad 5060, .inr (11, MO yr yi ysb ybs)), (yr 0, .inl (cT 0, 19, .inl (yA 0))), (yr 18, .inl (cT 0, 16, .inl (yA 18))), (yr 27, .inl (cT 0, 65472, .inl (yA 27))), (yr 28, .inl (cT 0, 9424, .inl (yA 28))), (yr 30, .inl (cT 0, 302, .inl (yA 30))), (yr 41, .inl (cT 0, 19, .inl (yA 41))), (yr 48, .inl (cT 2, 6000, .inl (yA 48))), (yr 49, .inl (cT 2, 3000, .inl (yA 49))), (yr 31, .inl (cT 0, 302, .inl (yA 31)))]) (pl := pg cds ad (upo gg7u1 [5060, 5000, 5018, 5027, 5028, 5030, 5041, 5048, 5049, 5031])) (cx := [(ad 5060, .inr (11, MO yr yi ysb ybs)), (yr 0, .inl (cT 0, 19, .inl (yA 0))), (yr 18, .inl (cT 0, 16, .inl (yA 18))), (yr 27, .inl (cT 0, 65472, .inl (yA 27))), (yr 28, .inl (cT 0, 9424, .inl (yA 28))), (yr 30, .inl (cT 0, 302, .inl (yA 30))), (yr 41, .inl (cT 0, 19, .inl (yA 41))), (yr 48, .inl (cT 2, 6000, .inl (yA 48))), (yr 49, .inl (cT 2, 3000, .inl (yA 49))), (yr 31, .inl (cT 0, 302, .inl (yA 31)))]) (wr := [(zo, .inl (cT 1, 1, .inr (.inl (vp_updL zf 0 (Int32.toInt64 rvu1)))))]) hP hD hS hA [1, 2, 3, 4, 5, 6, 7, 8, 9, 10] [0] rfl rfl (by decide) (by decide) (va_runV (As := [.int (nI t), .int (nI k)]) (rest := []) ⟨hx, hb, hml, hown, hT⟩ (y_tell_ok l D cT (ad 5060) yr yi ysb ybs (yA 0) (yA 18) (yA 27) (yA 28) (yA 30) (yA 41) (yA 48) (yA 49) (yA 31) t k (tM F t) 4096 (nvX F t k) (nvD F t k) hPR (by rw [y17]; exact hq) (by omega) (y18e t ht) hm31 hk (by decide) (hRFN t ht k hk) ((nvD_b hTOK hT16 ht hk).1) (nvX_b hTOK hT16 ht hk) (Nat.lt_trans (nvD_b hTOK hT16 ht hk).2 xbc_7.2.2) _) ⟨callB_of 2 hT (tb_gd w1555) rfl rfl rfl (hT _ w13) (hT _ w1552) hM_tell ⟨Nat.le_of_ble_eq_true rfl, Nat.le_of_ble_eq_true rfl⟩, (hT _ w1553), (hT _ w1554)⟩ (RW.preV (ci := 11) (q0 := 0) hZ hS (hy_free (cx := [(ad 5060, .inr (11, MO yr yi ysb ybs)), (yr 0, .inl (cT 0, 19, .inl (yA 0))), (yr 18, .inl (cT 0, 16, .inl (yA 18))), (yr 27, .inl (cT 0, 65472, .inl (yA 27))), (yr 28, .inl (cT 0, 9424, .inl (yA 28))), (yr 30, .inl (cT 0, 302, .inl (yA 30))), (yr 41, .inl (cT 0, 19, .inl (yA 41))), (yr 48, .inl (cT 2, 6000, .inl (yA 48))), (yr 49, .inl (cT 2, 3000, .inl (yA 49))), (yr 31, .inl (cT 0, 302, .inl (yA 31)))]) hD hS hA [1, 2, 3, 4, 5, 6, 7, 8, 9, 10] rfl) (hP.sub (ws' := [(ad 5060, .inr (11, MO yr yi ysb ybs)), (yr 0, .inl (cT 0, 19, .inl (yA 0))), (yr 18, .inl (cT 0, 16, .inl (yA 18))), (yr 27, .inl (cT 0, 65472, .inl (yA 27))), (yr 28, .inl (cT 0, 9424, .inl (yA 28))), (yr 30, .inl (cT 0, 302, .inl (yA 30))), (yr 41, .inl (cT 0, 19, .inl (yA 41))), (yr 48, .inl (cT 2, 6000, .inl (yA 48))), (yr 49, .inl (cT 2, 3000, .inl (yA 49))), (yr 31, .inl (cT 0, 302, .inl (yA 31)))]) [1, 2, 3, 4, 5, 6, 7, 8, 9, 10] rfl) hK (hD.sub (ws' := [(ad 5060, .inr (11, MO yr yi ysb ybs)), (yr 0, .inl (cT 0, 19, .inl (yA 0))), (yr 18, .inl (cT 0, 16, .inl (yA 18))), (yr 27, .inl (cT 0, 65472, .inl (yA 27))), (yr 28, .inl (cT 0, 9424, .inl (yA 28))), (yr 30, .inl (cT 0, 302, .inl (yA 30))), (yr 41, .inl (cT 0, 19, .inl (yA 41))), (yr 48, .inl (cT 2, 6000, .inl (yA 48))), (yr 49, .inl (cT 2, 3000, .inl (yA 49))), (yr 31, .inl (cT 0, 302, .inl (yA 31)))]) [1, 2, 3, 4, 5, 6, 7, 8, 9, 10] (by decide) rfl) rfl rfl) rfl rfl hl.1 rfl (lv_room (Nat.le_of_ble_eq_true rfl)) dL_law_1280 ⟨(by show ((2000 + j + 3 * fm + 4 * SM mk 16) + 0) + 0 ≤ 601024; omega), (by show ((400000 + 6 * j + 42 * fm + 69 * SM mk 16) + 0) + 0 ≤ 7293034; omega)⟩) (fun ru2 u9 H locs hpu2 hP hD hS => ?_)
        obtain ⟨L7u2, z7u2, d7u2, yi7u2, fo7u2, fd7u2, f37u2, f8u2, g8u2⟩ := u9
        have hpu2 : ru2 = nI L7u2 ∧ L7u2 ≤ 5000 ∧ yi7u2 47 = nI L7u2 ∧ yi7u2 1 = 0 ∧ YK2 yi yi7u2 ∧ RDC ((nvX F t k)) ((nvD F t k)) z7u2 d7u2 ∧ WRT fo7u2 L7u2 z7u2 d7u2 := hpu2
        have hP : va_P D vwCl ([(zo, .inl (cT 1, 1, .inr (.inl (vp_updL zf 0 (Int32.toInt64 rvu1))))), (ad 5060, .inr (11, MO yr yi7u2 ysb ybs)), (yr 0, .inl (cT 0, 19, .inl (yA 0))), (yr 18, .inl (cT 0, 16, .inl (yA 18))), (yr 27, .inl (cT 0, 65472, .inl (yA 27))), (yr 28, .inl (cT 0, 9424, .inl (yA 28))), (yr 30, .inl (cT 0, 302, .inl f8u2)), (yr 41, .inl (cT 0, 19, .inl g8u2)), (yr 48, .inl (cT 2, 6000, .inl fo7u2)), (yr 49, .inl (cT 2, 3000, .inl fd7u2)), (yr 31, .inl (cT 0, 302, .inl f37u2))] ++ pg cds ad (upo gg7u1 [5060, 5000, 5018, 5027, 5028, 5030, 5041, 5048, 5049, 5031])) _ := hP
        have hD : va_D A ([(zo, .inl (cT 1, 1, .inr (.inl (vp_updL zf 0 (Int32.toInt64 rvu1))))), (ad 5060, .inr (11, MO yr yi7u2 ysb ybs)), (yr 0, .inl (cT 0, 19, .inl (yA 0))), (yr 18, .inl (cT 0, 16, .inl (yA 18))), (yr 27, .inl (cT 0, 65472, .inl (yA 27))), (yr 28, .inl (cT 0, 9424, .inl (yA 28))), (yr 30, .inl (cT 0, 302, .inl f8u2)), (yr 41, .inl (cT 0, 19, .inl g8u2)), (yr 48, .inl (cT 2, 6000, .inl fo7u2)), (yr 49, .inl (cT 2, 3000, .inl fd7u2)), (yr 31, .inl (cT 0, 302, .inl f37u2))] ++ pg cds ad (upo gg7u1 [5060, 5000, 5018, 5027, 5028, 5030, 5041, 5048, 5049, 5031])) := hD
        obtain ⟨yR, yL, y47n, yTh, yK, yD, yW9⟩ := hpu2
        rw [(nvD_leaf hlf9).1, (nvD_leaf hlf9).2] at yD
        obtain ⟨eLL, eFF⟩ := out_eq (by rw [← (nvD_leaf hlf9).2]; exact (nvD_b hTOK hT16 ht hk).1) cD yD cW yW9
        have hw9 : ([(zo, .inl (cT 1, 1, .inr (.inl (vp_updL zf 0 (Int32.toInt64 rvu1))))), (ad 5060, .inr (11, MO yr yi7u2 ysb ybs)), (ad 5000, .inl (cT 0, 19, .inl (yA 0))), (ad 5018, .inl (cT 0, 16, .inl (yA 18))), (ad 5027, .inl (cT 0, 65472, .inl (yA 27))), (ad 5028, .inl (cT 0, 9424, .inl (yA 28))), (ad 5030, .inl (cT 0, 302, .inl f8u2)), (ad 5041, .inl (cT 0, 19, .inl g8u2)), (ad 5048, .inl (cT 2, 6000, .inl fo7u2)), (ad 5049, .inl (cT 2, 3000, .inl fd7u2)), (ad 5031, .inl (cT 0, 302, .inl f37u2))] ++ pg cds ad (upo gg7u1 [5060, 5000, 5018, 5027, 5028, 5030, 5041, 5048, 5049, 5031])) = ([(zo, .inl (cT 1, 1, .inr (.inl (vp_updL zf 0 (Int32.toInt64 rvu1))))), (ad 5060, .inr (11, MO yr yi7u2 ysb ybs)), (yr 0, .inl (cT 0, 19, .inl (yA 0))), (yr 18, .inl (cT 0, 16, .inl (yA 18))), (yr 27, .inl (cT 0, 65472, .inl (yA 27))), (yr 28, .inl (cT 0, 9424, .inl (yA 28))), (yr 30, .inl (cT 0, 302, .inl f8u2)), (yr 41, .inl (cT 0, 19, .inl g8u2)), (yr 48, .inl (cT 2, 6000, .inl fo7u2)), (yr 49, .inl (cT 2, 3000, .inl fd7u2)), (yr 31, .inl (cT 0, 302, .inl f37u2))] ++ pg cds ad (upo gg7u1 [5060, 5000, 5018, 5027, 5028, 5030, 5041, 5048, 5049, 5031])) := by rw [show ad 5000 = yr 0 from hyr 0 (by unfold YKy; omega), show ad 5018 = yr 18 from hyr 18 (by unfold YKy; omega), show ad 5027 = yr 27 from hyr 27 (by unfold YKy; omega), show ad 5028 = yr 28 from hyr 28 (by unfold YKy; omega), show ad 5030 = yr 30 from hyr 30 (by unfold YKy; omega), show ad 5041 = yr 41 from hyr 41 (by unfold YKy; omega), show ad 5048 = yr 48 from hyr 48 (by unfold YKy; omega), show ad 5049 = yr 49 from hyr 49 (by unfold YKy; omega), show ad 5031 = yr 31 from hyr 31 (by unfold YKy; omega)]
        have hP := vP_eq hw9 hP
        have hD := vD_eq hw9 hD
        have hP : va_P D vwCl ([(zo, .inl (cT 1, 1, .inr (.inl (vp_updL zf 0 (Int32.toInt64 rvu1))))), (ad 5060, .inr (11, MO yr yi7u2 ysb ybs)), (ad 5000, .inl (cT 0, 19, .inl (yA 0))), (ad 5018, .inl (cT 0, 16, .inl (yA 18))), (ad 5027, .inl (cT 0, 65472, .inl (yA 27))), (ad 5028, .inl (cT 0, 9424, .inl (yA 28))), (ad 5030, .inl (cT 0, 302, .inl f8u2)), (ad 5041, .inl (cT 0, 19, .inl g8u2)), (ad 5048, .inl (cT 2, 6000, .inl fo7u2)), (ad 5049, .inl (cT 2, 3000, .inl fd7u2)), (ad 5031, .inl (cT 0, 302, .inl f37u2))] ++ pg cds ad (upo gg7u1 [5060, 5000, 5018, 5027, 5028, 5030, 5041, 5048, 5049, 5031])) _ := hP
        have hD : va_D A ([(zo, .inl (cT 1, 1, .inr (.inl (vp_updL zf 0 (Int32.toInt64 rvu1))))), (ad 5060, .inr (11, MO yr yi7u2 ysb ybs)), (ad 5000, .inl (cT 0, 19, .inl (yA 0))), (ad 5018, .inl (cT 0, 16, .inl (yA 18))), (ad 5027, .inl (cT 0, 65472, .inl (yA 27))), (ad 5028, .inl (cT 0, 9424, .inl (yA 28))), (ad 5030, .inl (cT 0, 302, .inl f8u2)), (ad 5041, .inl (cT 0, 19, .inl g8u2)), (ad 5048, .inl (cT 2, 6000, .inl fo7u2)), (ad 5049, .inl (cT 2, 3000, .inl fd7u2)), (ad 5031, .inl (cT 0, 302, .inl f37u2))] ++ pg cds ad (upo gg7u1 [5060, 5000, 5018, 5027, 5028, 5030, 5041, 5048, 5049, 5031])) := hD
        have hN9 := (show NDc [5060, 5000, 5018, 5027, 5028, 5030, 5041, 5048, 5049, 5031] from (nd_c (na_c (by decide) (na_c (by decide) (na_c (by decide) (na_c (by decide) (na_c (by decide) (na_c (by decide) (na_c (by decide) (na_c (by decide) (na_c (by decide) na_0))))))))) (nd_c (na_c (by decide) (na_c (by decide) (na_c (by decide) (na_c (by decide) (na_c (by decide) (na_c (by decide) (na_c (by decide) (na_c (by decide) na_0)))))))) (nd_c (na_c (by decide) (na_c (by decide) (na_c (by decide) (na_c (by decide) (na_c (by decide) (na_c (by decide) (na_c (by decide) na_0))))))) (nd_c (na_c (by decide) (na_c (by decide) (na_c (by decide) (na_c (by decide) (na_c (by decide) (na_c (by decide) na_0)))))) (nd_c (na_c (by decide) (na_c (by decide) (na_c (by decide) (na_c (by decide) (na_c (by decide) na_0))))) (nd_c (na_c (by decide) (na_c (by decide) (na_c (by decide) (na_c (by decide) na_0)))) (nd_c (na_c (by decide) (na_c (by decide) (na_c (by decide) na_0))) (nd_c (na_c (by decide) (na_c (by decide) na_0)) (nd_c (na_c (by decide) na_0) (nd_c na_0 nd_0)))))))))))
        have hP := gb_P (w9 := [(5060, .inr (11, MO yr yi7u2 ysb ybs)), (5000, .inl (cT 0, 19, .inl (yA 0))), (5018, .inl (cT 0, 16, .inl (yA 18))), (5027, .inl (cT 0, 65472, .inl (yA 27))), (5028, .inl (cT 0, 9424, .inl (yA 28))), (5030, .inl (cT 0, 302, .inl f8u2)), (5041, .inl (cT 0, 19, .inl g8u2)), (5048, .inl (cT 2, 6000, .inl fo7u2)), (5049, .inl (cT 2, 3000, .inl fd7u2)), (5031, .inl (cT 0, 302, .inl f37u2))]) (X := [(zo, .inl (cT 1, 1, .inr (.inl (vp_updL zf 0 (Int32.toInt64 rvu1)))))]) (g := gg7u1) hcd hN9 (show QB [(5060, .inr (11, MO yr yi7u2 ysb ybs)), (5000, .inl (cT 0, 19, .inl (yA 0))), (5018, .inl (cT 0, 16, .inl (yA 18))), (5027, .inl (cT 0, 65472, .inl (yA 27))), (5028, .inl (cT 0, 9424, .inl (yA 28))), (5030, .inl (cT 0, 302, .inl f8u2)), (5041, .inl (cT 0, 19, .inl g8u2)), (5048, .inl (cT 2, 6000, .inl fo7u2)), (5049, .inl (cT 2, 3000, .inl fd7u2)), (5031, .inl (cT 0, 302, .inl f37u2))] from (qb_c (by decide) (qb_c (by decide) (qb_c (by decide) (qb_c (by decide) (qb_c (by decide) (qb_c (by decide) (qb_c (by decide) (qb_c (by decide) (qb_c (by decide) (qb_c (by decide) qb_0))))))))))) (hP.part (cx := [(zo, .inl (cT 1, 1, .inr (.inl (vp_updL zf 0 (Int32.toInt64 rvu1))))), (ad 5060, .inr (11, MO yr yi7u2 ysb ybs)), (ad 5000, .inl (cT 0, 19, .inl (yA 0))), (ad 5018, .inl (cT 0, 16, .inl (yA 18))), (ad 5027, .inl (cT 0, 65472, .inl (yA 27))), (ad 5028, .inl (cT 0, 9424, .inl (yA 28))), (ad 5030, .inl (cT 0, 302, .inl f8u2)), (ad 5041, .inl (cT 0, 19, .inl g8u2)), (ad 5048, .inl (cT 2, 6000, .inl fo7u2)), (ad 5049, .inl (cT 2, 3000, .inl fd7u2)), (ad 5031, .inl (cT 0, 302, .inl f37u2))]) [0, 1, 2, 3, 4, 5, 6, 7, 8, 9, 10] rfl)
        have hD := gb_D (w9 := [(5060, .inr (11, MO yr yi7u2 ysb ybs)), (5000, .inl (cT 0, 19, .inl (yA 0))), (5018, .inl (cT 0, 16, .inl (yA 18))), (5027, .inl (cT 0, 65472, .inl (yA 27))), (5028, .inl (cT 0, 9424, .inl (yA 28))), (5030, .inl (cT 0, 302, .inl f8u2)), (5041, .inl (cT 0, 19, .inl g8u2)), (5048, .inl (cT 2, 6000, .inl fo7u2)), (5049, .inl (cT 2, 3000, .inl fd7u2)), (5031, .inl (cT 0, 302, .inl f37u2))]) (X := [(zo, .inl (cT 1, 1, .inr (.inl (vp_updL zf 0 (Int32.toInt64 rvu1)))))]) (g := gg7u1) hcd hN9 (show QB [(5060, .inr (11, MO yr yi7u2 ysb ybs)), (5000, .inl (cT 0, 19, .inl (yA 0))), (5018, .inl (cT 0, 16, .inl (yA 18))), (5027, .inl (cT 0, 65472, .inl (yA 27))), (5028, .inl (cT 0, 9424, .inl (yA 28))), (5030, .inl (cT 0, 302, .inl f8u2)), (5041, .inl (cT 0, 19, .inl g8u2)), (5048, .inl (cT 2, 6000, .inl fo7u2)), (5049, .inl (cT 2, 3000, .inl fd7u2)), (5031, .inl (cT 0, 302, .inl f37u2))] from (qb_c (by decide) (qb_c (by decide) (qb_c (by decide) (qb_c (by decide) (qb_c (by decide) (qb_c (by decide) (qb_c (by decide) (qb_c (by decide) (qb_c (by decide) (qb_c (by decide) qb_0))))))))))) (hD.part (cx := [(zo, .inl (cT 1, 1, .inr (.inl (vp_updL zf 0 (Int32.toInt64 rvu1))))), (ad 5060, .inr (11, MO yr yi7u2 ysb ybs)), (ad 5000, .inl (cT 0, 19, .inl (yA 0))), (ad 5018, .inl (cT 0, 16, .inl (yA 18))), (ad 5027, .inl (cT 0, 65472, .inl (yA 27))), (ad 5028, .inl (cT 0, 9424, .inl (yA 28))), (ad 5030, .inl (cT 0, 302, .inl f8u2)), (ad 5041, .inl (cT 0, 19, .inl g8u2)), (ad 5048, .inl (cT 2, 6000, .inl fo7u2)), (ad 5049, .inl (cT 2, 3000, .inl fd7u2)), (ad 5031, .inl (cT 0, 302, .inl f37u2))]) [0, 1, 2, 3, 4, 5, 6, 7, 8, 9, 10] (by decide) rfl)
        obtain ⟨gy, hgy⟩ : ∃ q9, q9 = ups gg7u1 [(5060, .inr (11, MO yr yi7u2 ysb ybs)), (5000, .inl (cT 0, 19, .inl (yA 0))), (5018, .inl (cT 0, 16, .inl (yA 18))), (5027, .inl (cT 0, 65472, .inl (yA 27))), (5028, .inl (cT 0, 9424, .inl (yA 28))), (5030, .inl (cT 0, 302, .inl f8u2)), (5041, .inl (cT 0, 19, .inl g8u2)), (5048, .inl (cT 2, 6000, .inl fo7u2)), (5049, .inl (cT 2, 3000, .inl fd7u2)), (5031, .inl (cT 0, 302, .inl f37u2))] := ⟨_, rfl⟩
        rw [← hgy] at hP hD
        have hP : va_P D vwCl ([(zo, .inl (cT 1, 1, .inr (.inl (vp_updL zf 0 (Int32.toInt64 rvu1)))))] ++ pg cds ad gy) _ := hP
        have hD : va_D A ([(zo, .inl (cT 1, 1, .inr (.inl (vp_updL zf 0 (Int32.toInt64 rvu1)))))] ++ pg cds ad gy) := hD
        have fgy : ∀ z8, z8 ≠ 5060 → z8 ≠ 5030 → z8 ≠ 5041 → z8 ≠ 5048 → z8 ≠ 5049 → z8 ≠ 5031 → gy z8 = gg7u1 z8 := fun z8 z1 z6 z7 z8 z9 z10 => by rw [hgy]; exact ups_k (kp_n z1 (kp_s ((cF 5000 (by omega) (by omega)).trans (hYA 0 (by unfold YKy; omega))) (kp_s ((cF 5018 (by omega) (by omega)).trans (hYA 18 (by unfold YKy; omega))) (kp_s ((cF 5027 (by omega) (by omega)).trans (hYA 27 (by unfold YKy; omega))) (kp_s ((cF 5028 (by omega) (by omega)).trans (hYA 28 (by unfold YKy; omega))) (kp_n z6 (kp_n z7 (kp_n z8 (kp_n z9 (kp_n z10 kp_0))))))))))
        have gy_0 : gy 5060 = some (.inr (11, MO yr yi7u2 ysb ybs)) := by rw [hgy]; exact ups_i (q := (5060, .inr (11, MO yr yi7u2 ysb ybs))) (ndc hN9) (.head _)
        have gy_1 : gy 5000 = some (.inl (cT 0, 19, .inl (yA 0))) := by rw [hgy]; exact ups_i (q := (5000, .inl (cT 0, 19, .inl (yA 0)))) (ndc hN9) (.tail _ (.head _))
        have gy_2 : gy 5018 = some (.inl (cT 0, 16, .inl (yA 18))) := by rw [hgy]; exact ups_i (q := (5018, .inl (cT 0, 16, .inl (yA 18)))) (ndc hN9) (.tail _ (.tail _ (.head _)))
        have gy_3 : gy 5027 = some (.inl (cT 0, 65472, .inl (yA 27))) := by rw [hgy]; exact ups_i (q := (5027, .inl (cT 0, 65472, .inl (yA 27)))) (ndc hN9) (.tail _ (.tail _ (.tail _ (.head _))))
        have gy_4 : gy 5028 = some (.inl (cT 0, 9424, .inl (yA 28))) := by rw [hgy]; exact ups_i (q := (5028, .inl (cT 0, 9424, .inl (yA 28)))) (ndc hN9) (.tail _ (.tail _ (.tail _ (.tail _ (.head _)))))
        have gy_5 : gy 5030 = some (.inl (cT 0, 302, .inl f8u2)) := by rw [hgy]; exact ups_i (q := (5030, .inl (cT 0, 302, .inl f8u2))) (ndc hN9) (.tail _ (.tail _ (.tail _ (.tail _ (.tail _ (.head _))))))
        have gy_6 : gy 5041 = some (.inl (cT 0, 19, .inl g8u2)) := by rw [hgy]; exact ups_i (q := (5041, .inl (cT 0, 19, .inl g8u2))) (ndc hN9) (.tail _ (.tail _ (.tail _ (.tail _ (.tail _ (.tail _ (.head _)))))))
        have gy_7 : gy 5048 = some (.inl (cT 2, 6000, .inl fo7u2)) := by rw [hgy]; exact ups_i (q := (5048, .inl (cT 2, 6000, .inl fo7u2))) (ndc hN9) (.tail _ (.tail _ (.tail _ (.tail _ (.tail _ (.tail _ (.tail _ (.head _))))))))
        have gy_8 : gy 5049 = some (.inl (cT 2, 3000, .inl fd7u2)) := by rw [hgy]; exact ups_i (q := (5049, .inl (cT 2, 3000, .inl fd7u2))) (ndc hN9) (.tail _ (.tail _ (.tail _ (.tail _ (.tail _ (.tail _ (.tail _ (.tail _ (.head _)))))))))
        have gy_9 : gy 5031 = some (.inl (cT 0, 302, .inl f37u2)) := by rw [hgy]; exact ups_i (q := (5031, .inl (cT 0, 302, .inl f37u2))) (ndc hN9) (.tail _ (.tail _ (.tail _ (.tail _ (.tail _ (.tail _ (.tail _ (.tail _ (.tail _ (.head _))))))))))
        refine lv_istore hx hb dL_law_1283 hl (by decide) rfl (fun ls hl => ?_)
        have hl : lv_has ls 7 [(6, .int ru2), (5, .int 0), (0, .ref b), (1, .ref (ad 0)), (2, .ref (ad 5060)), (3, .ref zo), (4, .int (nI (4 * j)))] := hl
        refine lv_aload_n hx hb dL_law_1285 rfl (lv_at hl 4 rfl) ?_
        refine ro_i (va_Run.run (va_runV (As := []) (rest := []) ⟨hx, hb, hml, hown, hT⟩ (m_thrown l D cT (ad 5060) yr yi7u2 ysb ybs) ⟨callB_of 0 hT (tb_gd w1290) rfl rfl rfl (hT _ w13) (hT _ w1287) hM_thrown ⟨Nat.le_of_ble_eq_true rfl, Nat.le_of_ble_eq_true rfl⟩, (hT _ w1288), (hT _ w1289)⟩ (RO.preV (ci := 11) (q0 := 0) hZ hS ((show va_P D vwCl [(ad 5060, .inr (11, MO yr yi7u2 ysb ybs))] _ from (pv_c (pg_1 (x := 5060) hcd hP (by decide) gy_0) pv_0))) hK rfl rfl) rfl rfl hl.1 rfl (lv_room (Nat.le_of_ble_eq_true rfl)) dL_law_1286 ⟨(by show (((2000 + j + 3 * fm + 4 * SM mk 16) + 0) + 0) + 0 ≤ 601024; omega), (by show (((400000 + 6 * j + 42 * fm + 69 * SM mk 16) + 0) + 0) + 0 ≤ 7293034; omega)⟩)) ?_
        refine lv_topi (fun y9 e9 => ?_)
        cases (show y9 = 0 from e9.trans yTh)
        refine lv_iload hx hb dL_law_1289 (lv_at hl 1 rfl) ?_
        refine lv_icmp_eq (tgt := 1296) hx hb dL_law_1291 rfl (fun _ => ?_) (fun h3 => absurd (by decide) h3)
        refine lv_iload hx hb dL_law_1296 (lv_at hl 1 rfl) ?_
        refine lv_if_ne (tgt := 1313) hx hb dL_law_1298 rfl (fun h4 => absurd (by decide) h4) (fun _ => ?_)
        refine lv_aload_n hx hb dL_law_1301 rfl (lv_at hl 5 rfl) ?_
        refine lv_iconst (v := 0) hx hb dL_law_1302 (by decide) ?_
        refine va_lald hx hb hK hP 0 1 rfl rfl (by unfold vp_in; decide) dL_law_1303 ?_
        refine lv_iload hx hb dL_law_1304 (lv_at hl 0 rfl) ?_
        refine lv_i2l hx hb dL_law_1306 rfl ?_
        refine W.lcmp hx hb dL_law_1307 ?_
        refine lv_if_eq (tgt := 1313) hx hb dL_law_1308 rfl (fun _ => ?_) (fun h5 => absurd ((lg_cmp_eq _ _).mpr (pk_uLs.trans (congrArg Int32.toInt64 (cR.trans ((congrArg nI eLL).trans yR.symm))))) h5)
        refine lv_goto (tgt := 1690) hx hb dL_law_1313 rfl ?_
        obtain ⟨yiz, hyiz⟩ : ∃ f9 : Nat → Int32, f9 = yi7u2 := ⟨_, rfl⟩
        obtain ⟨yAz, hyAz⟩ : ∃ f9 : Nat → Nat → Int32, f9 = va_up (va_up (va_up (va_up (va_up yA 30 f8u2) 31 f37u2) 41 g8u2) 48 fo7u2) 49 fd7u2 := ⟨_, rfl⟩
        have hIz : LWI cT ad gg7u1 tE T fm mk F n wd dpt lst w ru rl ne L7u1 yiz ysb yAz := LWI.out hI (fo2 := fo7u1) (CLI.sc hCL (fun z8 n1 => cF z8 (by omega) (by omega)) cO (⟨sa9, (cF _ (by omega) (by omega)).trans hso⟩) (⟨zs0, chRs.cg (cF _ (by omega) (by omega)) (fun z8 n1 n2 => cF z8 (by omega) (by omega))⟩) (⟨_, hLf.cg (cF _ (by omega) (by omega)) (cF _ (by omega) (by omega))⟩) c52 c54 (⟨_, hS2.cg (cF _ (by omega) (by omega)) (cF _ (by omega) (by omega))⟩) (⟨_, hS3.cg (cF _ (by omega) (by omega)) (cF _ (by omega) (by omega))⟩)) (by rw [hyiz]; exact yK) (by rw [hyiz, eLL]; exact y47n) (fun k h1 h2 => by have h3 : k = 0 ∨ (4 ≤ k ∧ k ≤ 9) ∨ k = 18 ∨ k = 27 ∨ k = 28 ∨ k = 48 := h1; rw [hyAz]; exact (va_up_ne _ _ (by omega)).trans ((va_up_ne _ _ (by omega)).trans ((va_up_ne _ _ (by omega)).trans ((va_up_ne _ _ (by omega)).trans ((va_up_ne _ _ (by omega)).trans (rfl)))))) (by rw [hyAz]; exact eFF) cL
        have hIz := hIz.yg (g2 := gy) (fun z8 hz => fgy z8 (by omega) (by omega) (by omega) (by omega) (by omega) (by omega))
        have hYz : YCL cT ad gy y yr yiz ysb ybs yAz yW F := by
          refine ⟨hYad, hyr, (by rw [hyiz]; exact gy_0), fun k hk => ?_⟩
          have hk2 : k = 0 ∨ (4 ≤ k ∧ k ≤ 9) ∨ (18 ≤ k ∧ k ≤ 46) ∨ k = 48 ∨ k = 49 ∨ (56 ≤ k ∧ k ≤ 59) := hk
          by_cases e30 : k = 30
          · subst e30
            rw [hyAz]; exact gy_5
          by_cases e31 : k = 31
          · subst e31
            rw [hyAz]; exact gy_9
          by_cases e41 : k = 41
          · subst e41
            rw [hyAz]; exact gy_6
          by_cases e48 : k = 48
          · subst e48
            rw [hyAz]; exact gy_7
          by_cases e49 : k = 49
          · subst e49
            rw [hyAz]; exact gy_8
          exact (fgy (5000 + k) (by omega) (by omega) (by omega) (by omega) (by omega) (by omega)).trans ((cF (5000 + k) (by omega) (by omega)).trans ((hYA k hk).trans (congrArg some (ycl_o (by rw [hyAz]; exact (va_up_ne _ _ e49).trans ((va_up_ne _ _ e48).trans ((va_up_ne _ _ e41).trans ((va_up_ne _ _ e31).trans ((va_up_ne _ _ e30).trans (rfl))))))).symm)))
        rw [hyiz] at hIz hYz
        rw [hyAz] at hIz hYz
        refine W.widen (k := 2000 + (j + 1) + 3 * fm + 4 * SM mk 16) (n := 400000 + 6 * (j + 1) + 42 * fm + 69 * SM mk 16) (by show ((2000 + j + 3 * fm + 4 * SM mk 16) + 0) + 0 ≤ 2000 + (j + 1) + 3 * fm + 4 * SM mk 16; omega) (by show ((400000 + 6 * j + 42 * fm + 69 * SM mk 16) + 0) + 0 ≤ 400000 + 6 * (j + 1) + 42 * fm + 69 * SM mk 16; omega) ?_
        have hl := lv_sub hl [2, 3, 4, 5, 6] rfl
        have hl : lv_has ls 7 [(0, .ref b), (1, .ref (ad 0)), (2, .ref y), (3, .ref zo), (4, .int (nI (4 * j)))] := by rw [← hYz.1]; exact hl
        exact hend ad gy T fm mk F n wd dpt lst w ru rl ne L7u1 yi7u2 ysb ybs (va_up (va_up (va_up (va_up (va_up yA 30 f8u2) 31 f37u2) 41 g8u2) 48 fo7u2) 49 fd7u2) yW (vp_updL zf 0 (Int32.toInt64 rvu1)) _ _ ls hIz hYz hP hD hS hl
      · refine lv_aload_n hx hb dL_law_1248 rfl (lv_at hl 1 rfl) ?_
        refine lv_aload_n hx hb dL_law_1249 rfl (lv_at hl 0 rfl) ?_
        refine lv_iload hx hb dL_law_1250 (lv_at hl 4 rfl) ?_
        refine lv_iconst (v := 1) hx hb dL_law_1252 (by decide) ?_
        refine lv_iadd hx hb dL_law_1253 ?_
        refine lv_topi (fun y9 e9 => ?_)
        cases (show y9 = nI ((4 * j) + 1) from e9.trans (nI_add (4 * j) 1))
        refine va_sld hx hb hX hbl hbA hS (vp_in_nI (n := 4 * j + 1) (N := L) (by omega) (by omega)) dL_law_1254 ?_
        refine lv_topi (fun y9 e9 => ?_)
        cases (show y9 = nI t from e9.trans (by rw [nI_clamp (by omega)]; exact ha1.symm))
        refine lv_aload_n hx hb dL_law_1255 rfl (lv_at hl 0 rfl) ?_
        refine lv_iload hx hb dL_law_1256 (lv_at hl 4 rfl) ?_
        refine lv_iconst (v := 2) hx hb dL_law_1258 (by decide) ?_
        refine lv_iadd hx hb dL_law_1259 ?_
        refine lv_topi (fun y9 e9 => ?_)
        cases (show y9 = nI ((4 * j) + 2) from e9.trans (nI_add (4 * j) 2))
        refine va_sld hx hb hX hbl hbA hS (vp_in_nI (n := 4 * j + 2) (N := L) (by omega) (by omega)) dL_law_1260 ?_
        refine lv_topi (fun y9 e9 => ?_)
        cases (show y9 = nI k from e9.trans (by rw [nI_clamp (by omega)]; exact ha2.symm))
        refine lv_aload_n hx hb dL_law_1261 rfl (lv_at hl 3 rfl) ?_
        refine hy_iP (X := [(zo, .inl (cT 1, 1, .inr (.inl zf)))]) (pl := pg cds ad gg) (cx := [(zo, .inl (cT 1, 1, .inr (.inl zf)))]) (wr := []) hP hD hS hA [0] [] rfl rfl (by decide) (by decide) (tx_runSH (As := [.ref (ad 0), .int (nI t), .int (nI k), .ref zo]) (rest := []) ⟨hx, hb, hml, hown, hT⟩ (l_tellS l D cT cds ad gg T fm F t k Lo fo zc0 zq9 (nI wd) (nI n) zo zf hcd hob hFT.1.frp hTf hTs hT16 ht hq hr hk hTOK chtb hOut hCm hS1 hlf9 (hSEP t ht k hk hlf9) _) hT (tc_gd w1031 w1032 w0 (tb_gd w1033)) rfl rfl rfl hL_tell ⟨Nat.le_of_ble_eq_true rfl, Nat.le_of_ble_eq_true rfl⟩ (RW.preS hZ hS (va_freeP (cx := [(zo, .inl (cT 1, 1, .inr (.inl zf)))]) hD hS hA [0] rfl) (hP.part (cx := [(zo, .inl (cT 1, 1, .inr (.inl zf)))]) [0] rfl) hK (hD.part (cx := [(zo, .inl (cT 1, 1, .inr (.inl zf)))]) [0] (by decide) rfl)) rfl hl.1 rfl (Nat.le_of_ble_eq_true rfl) dL_law_1262 ⟨(by show (2000 + j + 3 * fm + 4 * SM mk 16) + 0 ≤ 601024; omega), (by show (400000 + 6 * j + 42 * fm + 69 * SM mk 16) + 0 ≤ 7293034; omega)⟩) (fun ru6 u9 H locs hpu6 hP hD hS => ?_)
        obtain ⟨gg7u6, L7u6, fo7u6, z7u6, d7u6, rvu6⟩ := u9
        have hpu6 : ru6 = 0 ∧ rvu6 = nI L7u6 ∧ L7u6 ≤ 866 ∧ WRT fo7u6 L7u6 z7u6 d7u6 ∧ RDC (gZ (tS F t (dg (tA F 3) (31 * t + k))) (tS F t (dg (tA F 4) (31 * t + k))) (nR F t (dg (tA F 3) (31 * t + k)) + tW F t) (nR F t (dg (tA F 4) (31 * t + k)) + tW F t) (nR F t k + tW F t)) (Ppf F t * Ppf F t * ((nR F t (dg (tA F 3) (31 * t + k)) + tW F t) * (nR F t (dg (tA F 4) (31 * t + k)) + tW F t) * (nR F t k + tW F t))) z7u6 d7u6 ∧ OUTp cT ad gg7u6 L7u6 fo7u6 ∧ (∀ z8, (z8 < 41 ∨ 47 < z8) → (z8 < 52 ∨ 55 < z8) → gg7u6 z8 = gg z8) ∧ (∃ z8, WHO cT ad gg7u6 52 53 24 z8) ∧ ∃ z8, WHO cT ad gg7u6 54 55 48 z8 := hpu6
        have hP : va_P D vwCl ([(zo, .inl (cT 1, 1, .inr (.inl (vp_updL zf 0 (Int32.toInt64 rvu6)))))] ++ pg cds ad gg7u6) _ := hP
        have hD : va_D A ([(zo, .inl (cT 1, 1, .inr (.inl (vp_updL zf 0 (Int32.toInt64 rvu6)))))] ++ pg cds ad gg7u6) := hD
        refine lv_topi (fun y9 e9 => ?_)
        cases (show y9 = 0 from e9.trans hpu6.1)
        obtain ⟨_, cR, cL, cW, cD, cO, cF, c52, c54⟩ := hpu6
        refine lv_istore hx hb dL_law_1265 hl (by decide) rfl (fun ls hl => ?_)
        have hl : lv_has ls 7 [(5, .int 0), (0, .ref b), (1, .ref (ad 0)), (2, .ref (ad 5060)), (3, .ref zo), (4, .int (nI (4 * j)))] := hl
        refine lv_aload_n hx hb dL_law_1267 rfl (lv_at hl 3 rfl) ?_
        refine lv_aload_n hx hb dL_law_1268 rfl (lv_at hl 1 rfl) ?_
        refine lv_iload hx hb dL_law_1269 (lv_at hl 5 rfl) ?_
        refine lv_iconst (v := 1) hx hb dL_law_1271 (by decide) ?_
        refine lv_iadd hx hb dL_law_1272 ?_
        refine lv_topi (fun y9 e9 => ?_)
        cases (show y9 = nI ((4 * j) + 1) from e9.trans (nI_add (4 * j) 1))
        refine va_sld hx hb hX hbl hbA hS (vp_in_nI (n := 4 * j + 1) (N := L) (by omega) (by omega)) dL_law_1273 ?_
        refine lv_topi (fun y9 e9 => ?_)
        cases (show y9 = nI t from e9.trans (by rw [nI_clamp (by omega)]; exact ha1.symm))
        refine lv_aload_n hx hb dL_law_1274 rfl (lv_at hl 1 rfl) ?_
        refine lv_iload hx hb dL_law_1275 (lv_at hl 5 rfl) ?_
        refine lv_iconst (v := 2) hx hb dL_law_1277 (by decide) ?_
        refine lv_iadd hx hb dL_law_1278 ?_
        refine lv_topi (fun y9 e9 => ?_)
        cases (show y9 = nI ((4 * j) + 2) from e9.trans (nI_add (4 * j) 2))
        refine va_sld hx hb hX hbl hbA hS (vp_in_nI (n := 4 * j + 2) (N := L) (by omega) (by omega)) dL_law_1279 ?_
        refine lv_topi (fun y9 e9 => ?_)
        cases (show y9 = nI k from e9.trans (by rw [nI_clamp (by omega)]; exact ha2.symm))
        have hB9 : QI gg7u6 [(5060, .inr (11, MO yr yi ysb ybs)), (5000, .inl (cT 0, 19, .inl (yA 0))), (5018, .inl (cT 0, 16, .inl (yA 18))), (5027, .inl (cT 0, 65472, .inl (yA 27))), (5028, .inl (cT 0, 9424, .inl (yA 28))), (5030, .inl (cT 0, 302, .inl (yA 30))), (5041, .inl (cT 0, 19, .inl (yA 41))), (5048, .inl (cT 2, 6000, .inl (yA 48))), (5049, .inl (cT 2, 3000, .inl (yA 49))), (5031, .inl (cT 0, 302, .inl (yA 31)))] := (qi_c (by decide) ((cF 5060 (by omega) (by omega)).trans hYy) (qi_c (by decide) ((cF 5000 (by omega) (by omega)).trans (hYA 0 (by unfold YKy; omega))) (qi_c (by decide) ((cF 5018 (by omega) (by omega)).trans (hYA 18 (by unfold YKy; omega))) (qi_c (by decide) ((cF 5027 (by omega) (by omega)).trans (hYA 27 (by unfold YKy; omega))) (qi_c (by decide) ((cF 5028 (by omega) (by omega)).trans (hYA 28 (by unfold YKy; omega))) (qi_c (by decide) ((cF 5030 (by omega) (by omega)).trans (hYA 30 (by unfold YKy; omega))) (qi_c (by decide) ((cF 5041 (by omega) (by omega)).trans (hYA 41 (by unfold YKy; omega))) (qi_c (by decide) ((cF 5048 (by omega) (by omega)).trans (hYA 48 (by unfold YKy; omega))) (qi_c (by decide) ((cF 5049 (by omega) (by omega)).trans (hYA 49 (by unfold YKy; omega))) (qi_c (by decide) ((cF 5031 (by omega) (by omega)).trans (hYA 31 (by unfold YKy; omega))) qi_0))))))))))
        have hN9 := (show NDc [5060, 5000, 5018, 5027, 5028, 5030, 5041, 5048, 5049, 5031] from (nd_c (na_c (by decide) (na_c (by decide) (na_c (by decide) (na_c (by decide) (na_c (by decide) (na_c (by decide) (na_c (by decide) (na_c (by decide) (na_c (by decide) na_0))))))))) (nd_c (na_c (by decide) (na_c (by decide) (na_c (by decide) (na_c (by decide) (na_c (by decide) (na_c (by decide) (na_c (by decide) (na_c (by decide) na_0)))))))) (nd_c (na_c (by decide) (na_c (by decide) (na_c (by decide) (na_c (by decide) (na_c (by decide) (na_c (by decide) (na_c (by decide) na_0))))))) (nd_c (na_c (by decide) (na_c (by decide) (na_c (by decide) (na_c (by decide) (na_c (by decide) (na_c (by decide) na_0)))))) (nd_c (na_c (by decide) (na_c (by decide) (na_c (by decide) (na_c (by decide) (na_c (by decide) na_0))))) (nd_c (na_c (by decide) (na_c (by decide) (na_c (by decide) (na_c (by decide) na_0)))) (nd_c (na_c (by decide) (na_c (by decide) (na_c (by decide) na_0))) (nd_c (na_c (by decide) (na_c (by decide) na_0)) (nd_c (na_c (by decide) na_0) (nd_c na_0 nd_0)))))))))))
        have hP := bo_P (wc := [(5060, .inr (11, MO yr yi ysb ybs)), (5000, .inl (cT 0, 19, .inl (yA 0))), (5018, .inl (cT 0, 16, .inl (yA 18))), (5027, .inl (cT 0, 65472, .inl (yA 27))), (5028, .inl (cT 0, 9424, .inl (yA 28))), (5030, .inl (cT 0, 302, .inl (yA 30))), (5041, .inl (cT 0, 19, .inl (yA 41))), (5048, .inl (cT 2, 6000, .inl (yA 48))), (5049, .inl (cT 2, 3000, .inl (yA 49))), (5031, .inl (cT 0, 302, .inl (yA 31)))]) (X := [(zo, .inl (cT 1, 1, .inr (.inl (vp_updL zf 0 (Int32.toInt64 rvu6)))))]) hcd hN9 hB9 hP
        have hD := bo_D (wc := [(5060, .inr (11, MO yr yi ysb ybs)), (5000, .inl (cT 0, 19, .inl (yA 0))), (5018, .inl (cT 0, 16, .inl (yA 18))), (5027, .inl (cT 0, 65472, .inl (yA 27))), (5028, .inl (cT 0, 9424, .inl (yA 28))), (5030, .inl (cT 0, 302, .inl (yA 30))), (5041, .inl (cT 0, 19, .inl (yA 41))), (5048, .inl (cT 2, 6000, .inl (yA 48))), (5049, .inl (cT 2, 3000, .inl (yA 49))), (5031, .inl (cT 0, 302, .inl (yA 31)))]) (X := [(zo, .inl (cT 1, 1, .inr (.inl (vp_updL zf 0 (Int32.toInt64 rvu6)))))]) hcd hN9 hB9 hD
        have hP : va_P D vwCl ([(zo, .inl (cT 1, 1, .inr (.inl (vp_updL zf 0 (Int32.toInt64 rvu6))))), (ad 5060, .inr (11, MO yr yi ysb ybs)), (ad 5000, .inl (cT 0, 19, .inl (yA 0))), (ad 5018, .inl (cT 0, 16, .inl (yA 18))), (ad 5027, .inl (cT 0, 65472, .inl (yA 27))), (ad 5028, .inl (cT 0, 9424, .inl (yA 28))), (ad 5030, .inl (cT 0, 302, .inl (yA 30))), (ad 5041, .inl (cT 0, 19, .inl (yA 41))), (ad 5048, .inl (cT 2, 6000, .inl (yA 48))), (ad 5049, .inl (cT 2, 3000, .inl (yA 49))), (ad 5031, .inl (cT 0, 302, .inl (yA 31)))] ++ pg cds ad (upo gg7u6 [5060, 5000, 5018, 5027, 5028, 5030, 5041, 5048, 5049, 5031])) _ := hP
        have hD : va_D A ([(zo, .inl (cT 1, 1, .inr (.inl (vp_updL zf 0 (Int32.toInt64 rvu6))))), (ad 5060, .inr (11, MO yr yi ysb ybs)), (ad 5000, .inl (cT 0, 19, .inl (yA 0))), (ad 5018, .inl (cT 0, 16, .inl (yA 18))), (ad 5027, .inl (cT 0, 65472, .inl (yA 27))), (ad 5028, .inl (cT 0, 9424, .inl (yA 28))), (ad 5030, .inl (cT 0, 302, .inl (yA 30))), (ad 5041, .inl (cT 0, 19, .inl (yA 41))), (ad 5048, .inl (cT 2, 6000, .inl (yA 48))), (ad 5049, .inl (cT 2, 3000, .inl (yA 49))), (ad 5031, .inl (cT 0, 302, .inl (yA 31)))] ++ pg cds ad (upo gg7u6 [5060, 5000, 5018, 5027, 5028, 5030, 5041, 5048, 5049, 5031])) := hD
        have hw9 : ([(zo, .inl (cT 1, 1, .inr (.inl (vp_updL zf 0 (Int32.toInt64 rvu6))))), (ad 5060, .inr (11, MO yr yi ysb ybs)), (yr 0, .inl (cT 0, 19, .inl (yA 0))), (yr 18, .inl (cT 0, 16, .inl (yA 18))), (yr 27, .inl (cT 0, 65472, .inl (yA 27))), (yr 28, .inl (cT 0, 9424, .inl (yA 28))), (yr 30, .inl (cT 0, 302, .inl (yA 30))), (yr 41, .inl (cT 0, 19, .inl (yA 41))), (yr 48, .inl (cT 2, 6000, .inl (yA 48))), (yr 49, .inl (cT 2, 3000, .inl (yA 49))), (yr 31, .inl (cT 0, 302, .inl (yA 31)))] ++ pg cds ad (upo gg7u6 [5060, 5000, 5018, 5027, 5028, 5030, 5041, 5048, 5049, 5031])) = ([(zo, .inl (cT 1, 1, .inr (.inl (vp_updL zf 0 (Int32.toInt64 rvu6))))), (ad 5060, .inr (11, MO yr yi ysb ybs)), (ad 5000, .inl (cT 0, 19, .inl (yA 0))), (ad 5018, .inl (cT 0, 16, .inl (yA 18))), (ad 5027, .inl (cT 0, 65472, .inl (yA 27))), (ad 5028, .inl (cT 0, 9424, .inl (yA 28))), (ad 5030, .inl (cT 0, 302, .inl (yA 30))), (ad 5041, .inl (cT 0, 19, .inl (yA 41))), (ad 5048, .inl (cT 2, 6000, .inl (yA 48))), (ad 5049, .inl (cT 2, 3000, .inl (yA 49))), (ad 5031, .inl (cT 0, 302, .inl (yA 31)))] ++ pg cds ad (upo gg7u6 [5060, 5000, 5018, 5027, 5028, 5030, 5041, 5048, 5049, 5031])) := by rw [show yr 0 = ad 5000 from (hyr 0 (by unfold YKy; omega)).symm, show yr 18 = ad 5018 from (hyr 18 (by unfold YKy; omega)).symm, show yr 27 = ad 5027 from (hyr 27 (by unfold YKy; omega)).symm, show yr 28 = ad 5028 from (hyr 28 (by unfold YKy; omega)).symm, show yr 30 = ad 5030 from (hyr 30 (by unfold YKy; omega)).symm, show yr 41 = ad 5041 from (hyr 41 (by unfold YKy; omega)).symm, show yr 48 = ad 5048 from (hyr 48 (by unfold YKy; omega)).symm, show yr 49 = ad 5049 from (hyr 49 (by unfold YKy; omega)).symm, show yr 31 = ad 5031 from (hyr 31 (by unfold YKy; omega)).symm]
        have hP := vP_eq hw9 hP
        have hD := vD_eq hw9 hD
        have hP : va_P D vwCl ([(zo, .inl (cT 1, 1, .inr (.inl (vp_updL zf 0 (Int32.toInt64 rvu6))))), (ad 5060, .inr (11, MO yr yi ysb ybs)), (yr 0, .inl (cT 0, 19, .inl (yA 0))), (yr 18, .inl (cT 0, 16, .inl (yA 18))), (yr 27, .inl (cT 0, 65472, .inl (yA 27))), (yr 28, .inl (cT 0, 9424, .inl (yA 28))), (yr 30, .inl (cT 0, 302, .inl (yA 30))), (yr 41, .inl (cT 0, 19, .inl (yA 41))), (yr 48, .inl (cT 2, 6000, .inl (yA 48))), (yr 49, .inl (cT 2, 3000, .inl (yA 49))), (yr 31, .inl (cT 0, 302, .inl (yA 31)))] ++ pg cds ad (upo gg7u6 [5060, 5000, 5018, 5027, 5028, 5030, 5041, 5048, 5049, 5031])) _ := hP
        have hD : va_D A ([(zo, .inl (cT 1, 1, .inr (.inl (vp_updL zf 0 (Int32.toInt64 rvu6))))), (ad 5060, .inr (11, MO yr yi ysb ybs)), (yr 0, .inl (cT 0, 19, .inl (yA 0))), (yr 18, .inl (cT 0, 16, .inl (yA 18))), (yr 27, .inl (cT 0, 65472, .inl (yA 27))), (yr 28, .inl (cT 0, 9424, .inl (yA 28))), (yr 30, .inl (cT 0, 302, .inl (yA 30))), (yr 41, .inl (cT 0, 19, .inl (yA 41))), (yr 48, .inl (cT 2, 6000, .inl (yA 48))), (yr 49, .inl (cT 2, 3000, .inl (yA 49))), (yr 31, .inl (cT 0, 302, .inl (yA 31)))] ++ pg cds ad (upo gg7u6 [5060, 5000, 5018, 5027, 5028, 5030, 5041, 5048, 5049, 5031])) := hD
        refine hy_iQ (X := [(zo, .inl (cT 1, 1, .inr (.inl (vp_updL zf 0 (Int32.toInt64 rvu6))))), (ad 5060, .inr (11, MO yr yi ysb ybs)), (yr 0, .inl (cT 0, 19, .inl (yA 0))), (yr 18, .inl (cT 0, 16, .inl (yA 18))), (yr 27, .inl (cT 0, 65472, .inl (yA 27))), (yr 28, .inl (cT 0, 9424, .inl (yA 28))), (yr 30, .inl (cT 0, 302, .inl (yA 30))), (yr 41, .inl (cT 0, 19, .inl (yA 41))), (yr 48, .inl (cT 2, 6000, .inl (yA 48))), (yr 49, .inl (cT 2, 3000, .inl (yA 49))), (yr 31, .inl (cT 0, 302, .inl (yA 31)))]) (pl := pg cds ad (upo gg7u6 [5060, 5000, 5018, 5027, 5028, 5030, 5041, 5048, 5049, 5031])) (cx := [(ad 5060, .inr (11, MO yr yi ysb ybs)), (yr 0, .inl (cT 0, 19, .inl (yA 0))), (yr 18, .inl (cT 0, 16, .inl (yA 18))), (yr 27, .inl (cT 0, 65472, .inl (yA 27))), (yr 28, .inl (cT 0, 9424, .inl (yA 28))), (yr 30, .inl (cT 0, 302, .inl (yA 30))), (yr 41, .inl (cT 0, 19, .inl (yA 41))), (yr 48, .inl (cT 2, 6000, .inl (yA 48))), (yr 49, .inl (cT 2, 3000, .inl (yA 49))), (yr 31, .inl (cT 0, 302, .inl (yA 31)))]) (wr := [(zo, .inl (cT 1, 1, .inr (.inl (vp_updL zf 0 (Int32.toInt64 rvu6)))))]) hP hD hS hA [1, 2, 3, 4, 5, 6, 7, 8, 9, 10] [0] rfl rfl (by decide) (by decide) (va_runV (As := [.int (nI t), .int (nI k)]) (rest := []) ⟨hx, hb, hml, hown, hT⟩ (y_tell_ok l D cT (ad 5060) yr yi ysb ybs (yA 0) (yA 18) (yA 27) (yA 28) (yA 30) (yA 41) (yA 48) (yA 49) (yA 31) t k (tM F t) 4096 (nvX F t k) (nvD F t k) hPR (by rw [y17]; exact hq) (by omega) (y18e t ht) hm31 hk (by decide) (hRFN t ht k hk) ((nvD_b hTOK hT16 ht hk).1) (nvX_b hTOK hT16 ht hk) (Nat.lt_trans (nvD_b hTOK hT16 ht hk).2 xbc_7.2.2) _) ⟨callB_of 2 hT (tb_gd w1555) rfl rfl rfl (hT _ w13) (hT _ w1552) hM_tell ⟨Nat.le_of_ble_eq_true rfl, Nat.le_of_ble_eq_true rfl⟩, (hT _ w1553), (hT _ w1554)⟩ (RW.preV (ci := 11) (q0 := 0) hZ hS (hy_free (cx := [(ad 5060, .inr (11, MO yr yi ysb ybs)), (yr 0, .inl (cT 0, 19, .inl (yA 0))), (yr 18, .inl (cT 0, 16, .inl (yA 18))), (yr 27, .inl (cT 0, 65472, .inl (yA 27))), (yr 28, .inl (cT 0, 9424, .inl (yA 28))), (yr 30, .inl (cT 0, 302, .inl (yA 30))), (yr 41, .inl (cT 0, 19, .inl (yA 41))), (yr 48, .inl (cT 2, 6000, .inl (yA 48))), (yr 49, .inl (cT 2, 3000, .inl (yA 49))), (yr 31, .inl (cT 0, 302, .inl (yA 31)))]) hD hS hA [1, 2, 3, 4, 5, 6, 7, 8, 9, 10] rfl) (hP.sub (ws' := [(ad 5060, .inr (11, MO yr yi ysb ybs)), (yr 0, .inl (cT 0, 19, .inl (yA 0))), (yr 18, .inl (cT 0, 16, .inl (yA 18))), (yr 27, .inl (cT 0, 65472, .inl (yA 27))), (yr 28, .inl (cT 0, 9424, .inl (yA 28))), (yr 30, .inl (cT 0, 302, .inl (yA 30))), (yr 41, .inl (cT 0, 19, .inl (yA 41))), (yr 48, .inl (cT 2, 6000, .inl (yA 48))), (yr 49, .inl (cT 2, 3000, .inl (yA 49))), (yr 31, .inl (cT 0, 302, .inl (yA 31)))]) [1, 2, 3, 4, 5, 6, 7, 8, 9, 10] rfl) hK (hD.sub (ws' := [(ad 5060, .inr (11, MO yr yi ysb ybs)), (yr 0, .inl (cT 0, 19, .inl (yA 0))), (yr 18, .inl (cT 0, 16, .inl (yA 18))), (yr 27, .inl (cT 0, 65472, .inl (yA 27))), (yr 28, .inl (cT 0, 9424, .inl (yA 28))), (yr 30, .inl (cT 0, 302, .inl (yA 30))), (yr 41, .inl (cT 0, 19, .inl (yA 41))), (yr 48, .inl (cT 2, 6000, .inl (yA 48))), (yr 49, .inl (cT 2, 3000, .inl (yA 49))), (yr 31, .inl (cT 0, 302, .inl (yA 31)))]) [1, 2, 3, 4, 5, 6, 7, 8, 9, 10] (by decide) rfl) rfl rfl) rfl rfl hl.1 rfl (lv_room (Nat.le_of_ble_eq_true rfl)) dL_law_1280 ⟨(by show ((2000 + j + 3 * fm + 4 * SM mk 16) + 0) + 0 ≤ 601024; omega), (by show ((400000 + 6 * j + 42 * fm + 69 * SM mk 16) + 0) + 0 ≤ 7293034; omega)⟩) (fun ru7 u9 H locs hpu7 hP hD hS => ?_)
        obtain ⟨L7u7, z7u7, d7u7, yi7u7, fo7u7, fd7u7, f37u7, f8u7, g8u7⟩ := u9
        have hpu7 : ru7 = nI L7u7 ∧ L7u7 ≤ 5000 ∧ yi7u7 47 = nI L7u7 ∧ yi7u7 1 = 0 ∧ YK2 yi yi7u7 ∧ RDC ((nvX F t k)) ((nvD F t k)) z7u7 d7u7 ∧ WRT fo7u7 L7u7 z7u7 d7u7 := hpu7
        have hP : va_P D vwCl ([(zo, .inl (cT 1, 1, .inr (.inl (vp_updL zf 0 (Int32.toInt64 rvu6))))), (ad 5060, .inr (11, MO yr yi7u7 ysb ybs)), (yr 0, .inl (cT 0, 19, .inl (yA 0))), (yr 18, .inl (cT 0, 16, .inl (yA 18))), (yr 27, .inl (cT 0, 65472, .inl (yA 27))), (yr 28, .inl (cT 0, 9424, .inl (yA 28))), (yr 30, .inl (cT 0, 302, .inl f8u7)), (yr 41, .inl (cT 0, 19, .inl g8u7)), (yr 48, .inl (cT 2, 6000, .inl fo7u7)), (yr 49, .inl (cT 2, 3000, .inl fd7u7)), (yr 31, .inl (cT 0, 302, .inl f37u7))] ++ pg cds ad (upo gg7u6 [5060, 5000, 5018, 5027, 5028, 5030, 5041, 5048, 5049, 5031])) _ := hP
        have hD : va_D A ([(zo, .inl (cT 1, 1, .inr (.inl (vp_updL zf 0 (Int32.toInt64 rvu6))))), (ad 5060, .inr (11, MO yr yi7u7 ysb ybs)), (yr 0, .inl (cT 0, 19, .inl (yA 0))), (yr 18, .inl (cT 0, 16, .inl (yA 18))), (yr 27, .inl (cT 0, 65472, .inl (yA 27))), (yr 28, .inl (cT 0, 9424, .inl (yA 28))), (yr 30, .inl (cT 0, 302, .inl f8u7)), (yr 41, .inl (cT 0, 19, .inl g8u7)), (yr 48, .inl (cT 2, 6000, .inl fo7u7)), (yr 49, .inl (cT 2, 3000, .inl fd7u7)), (yr 31, .inl (cT 0, 302, .inl f37u7))] ++ pg cds ad (upo gg7u6 [5060, 5000, 5018, 5027, 5028, 5030, 5041, 5048, 5049, 5031])) := hD
        obtain ⟨yR, yL, y47n, yTh, yK, yD, yW9⟩ := hpu7
        rw [(nvX_s hTOK ht hk hlf9).1, (nvX_s hTOK ht hk hlf9).2] at yD
        obtain ⟨eLL, eFF⟩ := out_eq (by rw [← (nvX_s hTOK ht hk hlf9).2]; exact (nvD_b hTOK hT16 ht hk).1) cD yD cW yW9
        have hw9 : ([(zo, .inl (cT 1, 1, .inr (.inl (vp_updL zf 0 (Int32.toInt64 rvu6))))), (ad 5060, .inr (11, MO yr yi7u7 ysb ybs)), (ad 5000, .inl (cT 0, 19, .inl (yA 0))), (ad 5018, .inl (cT 0, 16, .inl (yA 18))), (ad 5027, .inl (cT 0, 65472, .inl (yA 27))), (ad 5028, .inl (cT 0, 9424, .inl (yA 28))), (ad 5030, .inl (cT 0, 302, .inl f8u7)), (ad 5041, .inl (cT 0, 19, .inl g8u7)), (ad 5048, .inl (cT 2, 6000, .inl fo7u7)), (ad 5049, .inl (cT 2, 3000, .inl fd7u7)), (ad 5031, .inl (cT 0, 302, .inl f37u7))] ++ pg cds ad (upo gg7u6 [5060, 5000, 5018, 5027, 5028, 5030, 5041, 5048, 5049, 5031])) = ([(zo, .inl (cT 1, 1, .inr (.inl (vp_updL zf 0 (Int32.toInt64 rvu6))))), (ad 5060, .inr (11, MO yr yi7u7 ysb ybs)), (yr 0, .inl (cT 0, 19, .inl (yA 0))), (yr 18, .inl (cT 0, 16, .inl (yA 18))), (yr 27, .inl (cT 0, 65472, .inl (yA 27))), (yr 28, .inl (cT 0, 9424, .inl (yA 28))), (yr 30, .inl (cT 0, 302, .inl f8u7)), (yr 41, .inl (cT 0, 19, .inl g8u7)), (yr 48, .inl (cT 2, 6000, .inl fo7u7)), (yr 49, .inl (cT 2, 3000, .inl fd7u7)), (yr 31, .inl (cT 0, 302, .inl f37u7))] ++ pg cds ad (upo gg7u6 [5060, 5000, 5018, 5027, 5028, 5030, 5041, 5048, 5049, 5031])) := by rw [show ad 5000 = yr 0 from hyr 0 (by unfold YKy; omega), show ad 5018 = yr 18 from hyr 18 (by unfold YKy; omega), show ad 5027 = yr 27 from hyr 27 (by unfold YKy; omega), show ad 5028 = yr 28 from hyr 28 (by unfold YKy; omega), show ad 5030 = yr 30 from hyr 30 (by unfold YKy; omega), show ad 5041 = yr 41 from hyr 41 (by unfold YKy; omega), show ad 5048 = yr 48 from hyr 48 (by unfold YKy; omega), show ad 5049 = yr 49 from hyr 49 (by unfold YKy; omega), show ad 5031 = yr 31 from hyr 31 (by unfold YKy; omega)]
        have hP := vP_eq hw9 hP
        have hD := vD_eq hw9 hD
        have hP : va_P D vwCl ([(zo, .inl (cT 1, 1, .inr (.inl (vp_updL zf 0 (Int32.toInt64 rvu6))))), (ad 5060, .inr (11, MO yr yi7u7 ysb ybs)), (ad 5000, .inl (cT 0, 19, .inl (yA 0))), (ad 5018, .inl (cT 0, 16, .inl (yA 18))), (ad 5027, .inl (cT 0, 65472, .inl (yA 27))), (ad 5028, .inl (cT 0, 9424, .inl (yA 28))), (ad 5030, .inl (cT 0, 302, .inl f8u7)), (ad 5041, .inl (cT 0, 19, .inl g8u7)), (ad 5048, .inl (cT 2, 6000, .inl fo7u7)), (ad 5049, .inl (cT 2, 3000, .inl fd7u7)), (ad 5031, .inl (cT 0, 302, .inl f37u7))] ++ pg cds ad (upo gg7u6 [5060, 5000, 5018, 5027, 5028, 5030, 5041, 5048, 5049, 5031])) _ := hP
        have hD : va_D A ([(zo, .inl (cT 1, 1, .inr (.inl (vp_updL zf 0 (Int32.toInt64 rvu6))))), (ad 5060, .inr (11, MO yr yi7u7 ysb ybs)), (ad 5000, .inl (cT 0, 19, .inl (yA 0))), (ad 5018, .inl (cT 0, 16, .inl (yA 18))), (ad 5027, .inl (cT 0, 65472, .inl (yA 27))), (ad 5028, .inl (cT 0, 9424, .inl (yA 28))), (ad 5030, .inl (cT 0, 302, .inl f8u7)), (ad 5041, .inl (cT 0, 19, .inl g8u7)), (ad 5048, .inl (cT 2, 6000, .inl fo7u7)), (ad 5049, .inl (cT 2, 3000, .inl fd7u7)), (ad 5031, .inl (cT 0, 302, .inl f37u7))] ++ pg cds ad (upo gg7u6 [5060, 5000, 5018, 5027, 5028, 5030, 5041, 5048, 5049, 5031])) := hD
        have hN9 := (show NDc [5060, 5000, 5018, 5027, 5028, 5030, 5041, 5048, 5049, 5031] from (nd_c (na_c (by decide) (na_c (by decide) (na_c (by decide) (na_c (by decide) (na_c (by decide) (na_c (by decide) (na_c (by decide) (na_c (by decide) (na_c (by decide) na_0))))))))) (nd_c (na_c (by decide) (na_c (by decide) (na_c (by decide) (na_c (by decide) (na_c (by decide) (na_c (by decide) (na_c (by decide) (na_c (by decide) na_0)))))))) (nd_c (na_c (by decide) (na_c (by decide) (na_c (by decide) (na_c (by decide) (na_c (by decide) (na_c (by decide) (na_c (by decide) na_0))))))) (nd_c (na_c (by decide) (na_c (by decide) (na_c (by decide) (na_c (by decide) (na_c (by decide) (na_c (by decide) na_0)))))) (nd_c (na_c (by decide) (na_c (by decide) (na_c (by decide) (na_c (by decide) (na_c (by decide) na_0))))) (nd_c (na_c (by decide) (na_c (by decide) (na_c (by decide) (na_c (by decide) na_0)))) (nd_c (na_c (by decide) (na_c (by decide) (na_c (by decide) na_0))) (nd_c (na_c (by decide) (na_c (by decide) na_0)) (nd_c (na_c (by decide) na_0) (nd_c na_0 nd_0)))))))))))
        have hP := gb_P (w9 := [(5060, .inr (11, MO yr yi7u7 ysb ybs)), (5000, .inl (cT 0, 19, .inl (yA 0))), (5018, .inl (cT 0, 16, .inl (yA 18))), (5027, .inl (cT 0, 65472, .inl (yA 27))), (5028, .inl (cT 0, 9424, .inl (yA 28))), (5030, .inl (cT 0, 302, .inl f8u7)), (5041, .inl (cT 0, 19, .inl g8u7)), (5048, .inl (cT 2, 6000, .inl fo7u7)), (5049, .inl (cT 2, 3000, .inl fd7u7)), (5031, .inl (cT 0, 302, .inl f37u7))]) (X := [(zo, .inl (cT 1, 1, .inr (.inl (vp_updL zf 0 (Int32.toInt64 rvu6)))))]) (g := gg7u6) hcd hN9 (show QB [(5060, .inr (11, MO yr yi7u7 ysb ybs)), (5000, .inl (cT 0, 19, .inl (yA 0))), (5018, .inl (cT 0, 16, .inl (yA 18))), (5027, .inl (cT 0, 65472, .inl (yA 27))), (5028, .inl (cT 0, 9424, .inl (yA 28))), (5030, .inl (cT 0, 302, .inl f8u7)), (5041, .inl (cT 0, 19, .inl g8u7)), (5048, .inl (cT 2, 6000, .inl fo7u7)), (5049, .inl (cT 2, 3000, .inl fd7u7)), (5031, .inl (cT 0, 302, .inl f37u7))] from (qb_c (by decide) (qb_c (by decide) (qb_c (by decide) (qb_c (by decide) (qb_c (by decide) (qb_c (by decide) (qb_c (by decide) (qb_c (by decide) (qb_c (by decide) (qb_c (by decide) qb_0))))))))))) (hP.part (cx := [(zo, .inl (cT 1, 1, .inr (.inl (vp_updL zf 0 (Int32.toInt64 rvu6))))), (ad 5060, .inr (11, MO yr yi7u7 ysb ybs)), (ad 5000, .inl (cT 0, 19, .inl (yA 0))), (ad 5018, .inl (cT 0, 16, .inl (yA 18))), (ad 5027, .inl (cT 0, 65472, .inl (yA 27))), (ad 5028, .inl (cT 0, 9424, .inl (yA 28))), (ad 5030, .inl (cT 0, 302, .inl f8u7)), (ad 5041, .inl (cT 0, 19, .inl g8u7)), (ad 5048, .inl (cT 2, 6000, .inl fo7u7)), (ad 5049, .inl (cT 2, 3000, .inl fd7u7)), (ad 5031, .inl (cT 0, 302, .inl f37u7))]) [0, 1, 2, 3, 4, 5, 6, 7, 8, 9, 10] rfl)
        have hD := gb_D (w9 := [(5060, .inr (11, MO yr yi7u7 ysb ybs)), (5000, .inl (cT 0, 19, .inl (yA 0))), (5018, .inl (cT 0, 16, .inl (yA 18))), (5027, .inl (cT 0, 65472, .inl (yA 27))), (5028, .inl (cT 0, 9424, .inl (yA 28))), (5030, .inl (cT 0, 302, .inl f8u7)), (5041, .inl (cT 0, 19, .inl g8u7)), (5048, .inl (cT 2, 6000, .inl fo7u7)), (5049, .inl (cT 2, 3000, .inl fd7u7)), (5031, .inl (cT 0, 302, .inl f37u7))]) (X := [(zo, .inl (cT 1, 1, .inr (.inl (vp_updL zf 0 (Int32.toInt64 rvu6)))))]) (g := gg7u6) hcd hN9 (show QB [(5060, .inr (11, MO yr yi7u7 ysb ybs)), (5000, .inl (cT 0, 19, .inl (yA 0))), (5018, .inl (cT 0, 16, .inl (yA 18))), (5027, .inl (cT 0, 65472, .inl (yA 27))), (5028, .inl (cT 0, 9424, .inl (yA 28))), (5030, .inl (cT 0, 302, .inl f8u7)), (5041, .inl (cT 0, 19, .inl g8u7)), (5048, .inl (cT 2, 6000, .inl fo7u7)), (5049, .inl (cT 2, 3000, .inl fd7u7)), (5031, .inl (cT 0, 302, .inl f37u7))] from (qb_c (by decide) (qb_c (by decide) (qb_c (by decide) (qb_c (by decide) (qb_c (by decide) (qb_c (by decide) (qb_c (by decide) (qb_c (by decide) (qb_c (by decide) (qb_c (by decide) qb_0))))))))))) (hD.part (cx := [(zo, .inl (cT 1, 1, .inr (.inl (vp_updL zf 0 (Int32.toInt64 rvu6))))), (ad 5060, .inr (11, MO yr yi7u7 ysb ybs)), (ad 5000, .inl (cT 0, 19, .inl (yA 0))), (ad 5018, .inl (cT 0, 16, .inl (yA 18))), (ad 5027, .inl (cT 0, 65472, .inl (yA 27))), (ad 5028, .inl (cT 0, 9424, .inl (yA 28))), (ad 5030, .inl (cT 0, 302, .inl f8u7)), (ad 5041, .inl (cT 0, 19, .inl g8u7)), (ad 5048, .inl (cT 2, 6000, .inl fo7u7)), (ad 5049, .inl (cT 2, 3000, .inl fd7u7)), (ad 5031, .inl (cT 0, 302, .inl f37u7))]) [0, 1, 2, 3, 4, 5, 6, 7, 8, 9, 10] (by decide) rfl)
        obtain ⟨gy, hgy⟩ : ∃ q9, q9 = ups gg7u6 [(5060, .inr (11, MO yr yi7u7 ysb ybs)), (5000, .inl (cT 0, 19, .inl (yA 0))), (5018, .inl (cT 0, 16, .inl (yA 18))), (5027, .inl (cT 0, 65472, .inl (yA 27))), (5028, .inl (cT 0, 9424, .inl (yA 28))), (5030, .inl (cT 0, 302, .inl f8u7)), (5041, .inl (cT 0, 19, .inl g8u7)), (5048, .inl (cT 2, 6000, .inl fo7u7)), (5049, .inl (cT 2, 3000, .inl fd7u7)), (5031, .inl (cT 0, 302, .inl f37u7))] := ⟨_, rfl⟩
        rw [← hgy] at hP hD
        have hP : va_P D vwCl ([(zo, .inl (cT 1, 1, .inr (.inl (vp_updL zf 0 (Int32.toInt64 rvu6)))))] ++ pg cds ad gy) _ := hP
        have hD : va_D A ([(zo, .inl (cT 1, 1, .inr (.inl (vp_updL zf 0 (Int32.toInt64 rvu6)))))] ++ pg cds ad gy) := hD
        have fgy : ∀ z8, z8 ≠ 5060 → z8 ≠ 5030 → z8 ≠ 5041 → z8 ≠ 5048 → z8 ≠ 5049 → z8 ≠ 5031 → gy z8 = gg7u6 z8 := fun z8 z1 z6 z7 z8 z9 z10 => by rw [hgy]; exact ups_k (kp_n z1 (kp_s ((cF 5000 (by omega) (by omega)).trans (hYA 0 (by unfold YKy; omega))) (kp_s ((cF 5018 (by omega) (by omega)).trans (hYA 18 (by unfold YKy; omega))) (kp_s ((cF 5027 (by omega) (by omega)).trans (hYA 27 (by unfold YKy; omega))) (kp_s ((cF 5028 (by omega) (by omega)).trans (hYA 28 (by unfold YKy; omega))) (kp_n z6 (kp_n z7 (kp_n z8 (kp_n z9 (kp_n z10 kp_0))))))))))
        have gy_0 : gy 5060 = some (.inr (11, MO yr yi7u7 ysb ybs)) := by rw [hgy]; exact ups_i (q := (5060, .inr (11, MO yr yi7u7 ysb ybs))) (ndc hN9) (.head _)
        have gy_1 : gy 5000 = some (.inl (cT 0, 19, .inl (yA 0))) := by rw [hgy]; exact ups_i (q := (5000, .inl (cT 0, 19, .inl (yA 0)))) (ndc hN9) (.tail _ (.head _))
        have gy_2 : gy 5018 = some (.inl (cT 0, 16, .inl (yA 18))) := by rw [hgy]; exact ups_i (q := (5018, .inl (cT 0, 16, .inl (yA 18)))) (ndc hN9) (.tail _ (.tail _ (.head _)))
        have gy_3 : gy 5027 = some (.inl (cT 0, 65472, .inl (yA 27))) := by rw [hgy]; exact ups_i (q := (5027, .inl (cT 0, 65472, .inl (yA 27)))) (ndc hN9) (.tail _ (.tail _ (.tail _ (.head _))))
        have gy_4 : gy 5028 = some (.inl (cT 0, 9424, .inl (yA 28))) := by rw [hgy]; exact ups_i (q := (5028, .inl (cT 0, 9424, .inl (yA 28)))) (ndc hN9) (.tail _ (.tail _ (.tail _ (.tail _ (.head _)))))
        have gy_5 : gy 5030 = some (.inl (cT 0, 302, .inl f8u7)) := by rw [hgy]; exact ups_i (q := (5030, .inl (cT 0, 302, .inl f8u7))) (ndc hN9) (.tail _ (.tail _ (.tail _ (.tail _ (.tail _ (.head _))))))
        have gy_6 : gy 5041 = some (.inl (cT 0, 19, .inl g8u7)) := by rw [hgy]; exact ups_i (q := (5041, .inl (cT 0, 19, .inl g8u7))) (ndc hN9) (.tail _ (.tail _ (.tail _ (.tail _ (.tail _ (.tail _ (.head _)))))))
        have gy_7 : gy 5048 = some (.inl (cT 2, 6000, .inl fo7u7)) := by rw [hgy]; exact ups_i (q := (5048, .inl (cT 2, 6000, .inl fo7u7))) (ndc hN9) (.tail _ (.tail _ (.tail _ (.tail _ (.tail _ (.tail _ (.tail _ (.head _))))))))
        have gy_8 : gy 5049 = some (.inl (cT 2, 3000, .inl fd7u7)) := by rw [hgy]; exact ups_i (q := (5049, .inl (cT 2, 3000, .inl fd7u7))) (ndc hN9) (.tail _ (.tail _ (.tail _ (.tail _ (.tail _ (.tail _ (.tail _ (.tail _ (.head _)))))))))
        have gy_9 : gy 5031 = some (.inl (cT 0, 302, .inl f37u7)) := by rw [hgy]; exact ups_i (q := (5031, .inl (cT 0, 302, .inl f37u7))) (ndc hN9) (.tail _ (.tail _ (.tail _ (.tail _ (.tail _ (.tail _ (.tail _ (.tail _ (.tail _ (.head _))))))))))
        refine lv_istore hx hb dL_law_1283 hl (by decide) rfl (fun ls hl => ?_)
        have hl : lv_has ls 7 [(6, .int ru7), (5, .int 0), (0, .ref b), (1, .ref (ad 0)), (2, .ref (ad 5060)), (3, .ref zo), (4, .int (nI (4 * j)))] := hl
        refine lv_aload_n hx hb dL_law_1285 rfl (lv_at hl 4 rfl) ?_
        refine ro_i (va_Run.run (va_runV (As := []) (rest := []) ⟨hx, hb, hml, hown, hT⟩ (m_thrown l D cT (ad 5060) yr yi7u7 ysb ybs) ⟨callB_of 0 hT (tb_gd w1290) rfl rfl rfl (hT _ w13) (hT _ w1287) hM_thrown ⟨Nat.le_of_ble_eq_true rfl, Nat.le_of_ble_eq_true rfl⟩, (hT _ w1288), (hT _ w1289)⟩ (RO.preV (ci := 11) (q0 := 0) hZ hS ((show va_P D vwCl [(ad 5060, .inr (11, MO yr yi7u7 ysb ybs))] _ from (pv_c (pg_1 (x := 5060) hcd hP (by decide) gy_0) pv_0))) hK rfl rfl) rfl rfl hl.1 rfl (lv_room (Nat.le_of_ble_eq_true rfl)) dL_law_1286 ⟨(by show (((2000 + j + 3 * fm + 4 * SM mk 16) + 0) + 0) + 0 ≤ 601024; omega), (by show (((400000 + 6 * j + 42 * fm + 69 * SM mk 16) + 0) + 0) + 0 ≤ 7293034; omega)⟩)) ?_
        refine lv_topi (fun y9 e9 => ?_)
        cases (show y9 = 0 from e9.trans yTh)
        refine lv_iload hx hb dL_law_1289 (lv_at hl 1 rfl) ?_
        refine lv_icmp_eq (tgt := 1296) hx hb dL_law_1291 rfl (fun _ => ?_) (fun h8 => absurd (by decide) h8)
        refine lv_iload hx hb dL_law_1296 (lv_at hl 1 rfl) ?_
        refine lv_if_ne (tgt := 1313) hx hb dL_law_1298 rfl (fun h9 => absurd (by decide) h9) (fun _ => ?_)
        refine lv_aload_n hx hb dL_law_1301 rfl (lv_at hl 5 rfl) ?_
        refine lv_iconst (v := 0) hx hb dL_law_1302 (by decide) ?_
        refine va_lald hx hb hK hP 0 1 rfl rfl (by unfold vp_in; decide) dL_law_1303 ?_
        refine lv_iload hx hb dL_law_1304 (lv_at hl 0 rfl) ?_
        refine lv_i2l hx hb dL_law_1306 rfl ?_
        refine W.lcmp hx hb dL_law_1307 ?_
        refine lv_if_eq (tgt := 1313) hx hb dL_law_1308 rfl (fun _ => ?_) (fun h10 => absurd ((lg_cmp_eq _ _).mpr (pk_uLs.trans (congrArg Int32.toInt64 (cR.trans ((congrArg nI eLL).trans yR.symm))))) h10)
        refine lv_goto (tgt := 1690) hx hb dL_law_1313 rfl ?_
        obtain ⟨yiz, hyiz⟩ : ∃ f9 : Nat → Int32, f9 = yi7u7 := ⟨_, rfl⟩
        obtain ⟨yAz, hyAz⟩ : ∃ f9 : Nat → Nat → Int32, f9 = va_up (va_up (va_up (va_up (va_up yA 30 f8u7) 31 f37u7) 41 g8u7) 48 fo7u7) 49 fd7u7 := ⟨_, rfl⟩
        have hIz : LWI cT ad gg7u6 tE T fm mk F n wd dpt lst w ru rl ne L7u6 yiz ysb yAz := LWI.out hI (fo2 := fo7u6) (CLI.sc hCL (fun z8 n1 => cF z8 (by omega) (by omega)) cO (⟨sa9, (cF _ (by omega) (by omega)).trans hso⟩) (⟨zs0, chRs.cg (cF _ (by omega) (by omega)) (fun z8 n1 n2 => cF z8 (by omega) (by omega))⟩) (⟨_, hLf.cg (cF _ (by omega) (by omega)) (cF _ (by omega) (by omega))⟩) c52 c54 (⟨_, hS2.cg (cF _ (by omega) (by omega)) (cF _ (by omega) (by omega))⟩) (⟨_, hS3.cg (cF _ (by omega) (by omega)) (cF _ (by omega) (by omega))⟩)) (by rw [hyiz]; exact yK) (by rw [hyiz, eLL]; exact y47n) (fun k h1 h2 => by have h3 : k = 0 ∨ (4 ≤ k ∧ k ≤ 9) ∨ k = 18 ∨ k = 27 ∨ k = 28 ∨ k = 48 := h1; rw [hyAz]; exact (va_up_ne _ _ (by omega)).trans ((va_up_ne _ _ (by omega)).trans ((va_up_ne _ _ (by omega)).trans ((va_up_ne _ _ (by omega)).trans ((va_up_ne _ _ (by omega)).trans (rfl)))))) (by rw [hyAz]; exact eFF) cL
        have hIz := hIz.yg (g2 := gy) (fun z8 hz => fgy z8 (by omega) (by omega) (by omega) (by omega) (by omega) (by omega))
        have hYz : YCL cT ad gy y yr yiz ysb ybs yAz yW F := by
          refine ⟨hYad, hyr, (by rw [hyiz]; exact gy_0), fun k hk => ?_⟩
          have hk2 : k = 0 ∨ (4 ≤ k ∧ k ≤ 9) ∨ (18 ≤ k ∧ k ≤ 46) ∨ k = 48 ∨ k = 49 ∨ (56 ≤ k ∧ k ≤ 59) := hk
          by_cases e30 : k = 30
          · subst e30
            rw [hyAz]; exact gy_5
          by_cases e31 : k = 31
          · subst e31
            rw [hyAz]; exact gy_9
          by_cases e41 : k = 41
          · subst e41
            rw [hyAz]; exact gy_6
          by_cases e48 : k = 48
          · subst e48
            rw [hyAz]; exact gy_7
          by_cases e49 : k = 49
          · subst e49
            rw [hyAz]; exact gy_8
          exact (fgy (5000 + k) (by omega) (by omega) (by omega) (by omega) (by omega) (by omega)).trans ((cF (5000 + k) (by omega) (by omega)).trans ((hYA k hk).trans (congrArg some (ycl_o (by rw [hyAz]; exact (va_up_ne _ _ e49).trans ((va_up_ne _ _ e48).trans ((va_up_ne _ _ e41).trans ((va_up_ne _ _ e31).trans ((va_up_ne _ _ e30).trans (rfl))))))).symm)))
        rw [hyiz] at hIz hYz
        rw [hyAz] at hIz hYz
        refine W.widen (k := 2000 + (j + 1) + 3 * fm + 4 * SM mk 16) (n := 400000 + 6 * (j + 1) + 42 * fm + 69 * SM mk 16) (by show ((2000 + j + 3 * fm + 4 * SM mk 16) + 0) + 0 ≤ 2000 + (j + 1) + 3 * fm + 4 * SM mk 16; omega) (by show ((400000 + 6 * j + 42 * fm + 69 * SM mk 16) + 0) + 0 ≤ 400000 + 6 * (j + 1) + 42 * fm + 69 * SM mk 16; omega) ?_
        have hl := lv_sub hl [2, 3, 4, 5, 6] rfl
        have hl : lv_has ls 7 [(0, .ref b), (1, .ref (ad 0)), (2, .ref y), (3, .ref zo), (4, .int (nI (4 * j)))] := by rw [← hYz.1]; exact hl
        exact hend ad gy T fm mk F n wd dpt lst w ru rl ne L7u6 yi7u7 ysb ybs (va_up (va_up (va_up (va_up (va_up yA 30 f8u7) 31 f37u7) 41 g8u7) 48 fo7u7) 49 fd7u7) yW (vp_updL zf 0 (Int32.toInt64 rvu6)) _ _ ls hIz hYz hP hD hS hl
    · refine lv_aload_n hx hb dL_law_1248 rfl (lv_at hl 1 rfl) ?_
      refine lv_aload_n hx hb dL_law_1249 rfl (lv_at hl 0 rfl) ?_
      refine lv_iload hx hb dL_law_1250 (lv_at hl 4 rfl) ?_
      refine lv_iconst (v := 1) hx hb dL_law_1252 (by decide) ?_
      refine lv_iadd hx hb dL_law_1253 ?_
      refine lv_topi (fun y9 e9 => ?_)
      cases (show y9 = nI ((4 * j) + 1) from e9.trans (nI_add (4 * j) 1))
      refine va_sld hx hb hX hbl hbA hS (vp_in_nI (n := 4 * j + 1) (N := L) (by omega) (by omega)) dL_law_1254 ?_
      refine lv_topi (fun y9 e9 => ?_)
      cases (show y9 = nI t from e9.trans (by rw [nI_clamp (by omega)]; exact ha1.symm))
      refine lv_aload_n hx hb dL_law_1255 rfl (lv_at hl 0 rfl) ?_
      refine lv_iload hx hb dL_law_1256 (lv_at hl 4 rfl) ?_
      refine lv_iconst (v := 2) hx hb dL_law_1258 (by decide) ?_
      refine lv_iadd hx hb dL_law_1259 ?_
      refine lv_topi (fun y9 e9 => ?_)
      cases (show y9 = nI ((4 * j) + 2) from e9.trans (nI_add (4 * j) 2))
      refine va_sld hx hb hX hbl hbA hS (vp_in_nI (n := 4 * j + 2) (N := L) (by omega) (by omega)) dL_law_1260 ?_
      refine lv_topi (fun y9 e9 => ?_)
      cases (show y9 = a2 from e9.trans (by rw [nI_clamp (by omega)]; exact ha2.symm))
      refine lv_aload_n hx hb dL_law_1261 rfl (lv_at hl 3 rfl) ?_
      refine hy_iP (X := [(zo, .inl (cT 1, 1, .inr (.inl zf)))]) (pl := pg cds ad gg) (cx := [(zo, .inl (cT 1, 1, .inr (.inl zf)))]) (wr := []) hP hD hS hA [0] [] rfl rfl (by decide) (by decide) (tx_runSH (As := [.ref (ad 0), .int (nI t), .int a2, .ref zo]) (rest := []) ⟨hx, hb, hml, hown, hT⟩ (l_tell_nok l D cT cds ad gg T fm F t a2 zo zf hlt hcd hob hFT.1.frp hTf hTs hT16 ht hq hr _) hT (tc_gd w1031 w1032 w0 (tb_gd w1033)) rfl rfl rfl hL_tell ⟨Nat.le_of_ble_eq_true rfl, Nat.le_of_ble_eq_true rfl⟩ (RW.preS hZ hS (va_freeP (cx := [(zo, .inl (cT 1, 1, .inr (.inl zf)))]) hD hS hA [0] rfl) (hP.part (cx := [(zo, .inl (cT 1, 1, .inr (.inl zf)))]) [0] rfl) hK (hD.part (cx := [(zo, .inl (cT 1, 1, .inr (.inl zf)))]) [0] (by decide) rfl)) rfl hl.1 rfl (Nat.le_of_ble_eq_true rfl) dL_law_1262 ⟨(by show (2000 + j + 3 * fm + 4 * SM mk 16) + 1 ≤ 601024; omega), (by show (400000 + 6 * j + 42 * fm + 69 * SM mk 16) + 6 ≤ 7293034; omega)⟩) (fun ru11 u9 H locs hpu11 hP hD hS => ?_)
      have hpu11 : ru11 = 1 := hpu11
      have hP : va_P D vwCl ([(zo, .inl (cT 1, 1, .inr (.inl zf)))] ++ pg cds ad gg) _ := hP
      have hD : va_D A ([(zo, .inl (cT 1, 1, .inr (.inl zf)))] ++ pg cds ad gg) := hD
      refine lv_topi (fun y9 e9 => ?_)
      cases (show y9 = 1 from e9.trans hpu11)
      refine lv_istore hx hb dL_law_1265 hl (by decide) rfl (fun ls hl => ?_)
      have hl : lv_has ls 7 [(5, .int 1), (0, .ref b), (1, .ref (ad 0)), (2, .ref (ad 5060)), (3, .ref zo), (4, .int (nI (4 * j)))] := hl
      refine lv_aload_n hx hb dL_law_1267 rfl (lv_at hl 3 rfl) ?_
      refine lv_aload_n hx hb dL_law_1268 rfl (lv_at hl 1 rfl) ?_
      refine lv_iload hx hb dL_law_1269 (lv_at hl 5 rfl) ?_
      refine lv_iconst (v := 1) hx hb dL_law_1271 (by decide) ?_
      refine lv_iadd hx hb dL_law_1272 ?_
      refine lv_topi (fun y9 e9 => ?_)
      cases (show y9 = nI ((4 * j) + 1) from e9.trans (nI_add (4 * j) 1))
      refine va_sld hx hb hX hbl hbA hS (vp_in_nI (n := 4 * j + 1) (N := L) (by omega) (by omega)) dL_law_1273 ?_
      refine lv_topi (fun y9 e9 => ?_)
      cases (show y9 = nI t from e9.trans (by rw [nI_clamp (by omega)]; exact ha1.symm))
      refine lv_aload_n hx hb dL_law_1274 rfl (lv_at hl 1 rfl) ?_
      refine lv_iload hx hb dL_law_1275 (lv_at hl 5 rfl) ?_
      refine lv_iconst (v := 2) hx hb dL_law_1277 (by decide) ?_
      refine lv_iadd hx hb dL_law_1278 ?_
      refine lv_topi (fun y9 e9 => ?_)
      cases (show y9 = nI ((4 * j) + 2) from e9.trans (nI_add (4 * j) 2))
      refine va_sld hx hb hX hbl hbA hS (vp_in_nI (n := 4 * j + 2) (N := L) (by omega) (by omega)) dL_law_1279 ?_
      refine lv_topi (fun y9 e9 => ?_)
      cases (show y9 = a2 from e9.trans (by rw [nI_clamp (by omega)]; exact ha2.symm))
      have hB9 : QI gg [(5060, .inr (11, MO yr yi ysb ybs)), (5018, .inl (cT 0, 16, .inl (yA 18)))] := (qi_c (by decide) hYy (qi_c (by decide) (hYA 18 (by unfold YKy; omega)) qi_0))
      have hN9 := (show NDc [5060, 5018] from (nd_c (na_c (by decide) na_0) (nd_c na_0 nd_0)))
      have hP := bo_P (wc := [(5060, .inr (11, MO yr yi ysb ybs)), (5018, .inl (cT 0, 16, .inl (yA 18)))]) (X := [(zo, .inl (cT 1, 1, .inr (.inl zf)))]) hcd hN9 hB9 hP
      have hD := bo_D (wc := [(5060, .inr (11, MO yr yi ysb ybs)), (5018, .inl (cT 0, 16, .inl (yA 18)))]) (X := [(zo, .inl (cT 1, 1, .inr (.inl zf)))]) hcd hN9 hB9 hD
      have hP : va_P D vwCl ([(zo, .inl (cT 1, 1, .inr (.inl zf))), (ad 5060, .inr (11, MO yr yi ysb ybs)), (ad 5018, .inl (cT 0, 16, .inl (yA 18)))] ++ pg cds ad (upo gg [5060, 5018])) _ := hP
      have hD : va_D A ([(zo, .inl (cT 1, 1, .inr (.inl zf))), (ad 5060, .inr (11, MO yr yi ysb ybs)), (ad 5018, .inl (cT 0, 16, .inl (yA 18)))] ++ pg cds ad (upo gg [5060, 5018])) := hD
      have hw9 : ([(zo, .inl (cT 1, 1, .inr (.inl zf))), (ad 5060, .inr (11, MO yr yi ysb ybs)), (yr 18, .inl (cT 0, 16, .inl (yA 18)))] ++ pg cds ad (upo gg [5060, 5018])) = ([(zo, .inl (cT 1, 1, .inr (.inl zf))), (ad 5060, .inr (11, MO yr yi ysb ybs)), (ad 5018, .inl (cT 0, 16, .inl (yA 18)))] ++ pg cds ad (upo gg [5060, 5018])) := by rw [show yr 18 = ad 5018 from (hyr 18 (by unfold YKy; omega)).symm]
      have hP := vP_eq hw9 hP
      have hD := vD_eq hw9 hD
      have hP : va_P D vwCl ([(zo, .inl (cT 1, 1, .inr (.inl zf))), (ad 5060, .inr (11, MO yr yi ysb ybs)), (yr 18, .inl (cT 0, 16, .inl (yA 18)))] ++ pg cds ad (upo gg [5060, 5018])) _ := hP
      have hD : va_D A ([(zo, .inl (cT 1, 1, .inr (.inl zf))), (ad 5060, .inr (11, MO yr yi ysb ybs)), (yr 18, .inl (cT 0, 16, .inl (yA 18)))] ++ pg cds ad (upo gg [5060, 5018])) := hD
      refine hy_iQ (X := [(zo, .inl (cT 1, 1, .inr (.inl zf))), (ad 5060, .inr (11, MO yr yi ysb ybs)), (yr 18, .inl (cT 0, 16, .inl (yA 18)))]) (pl := pg cds ad (upo gg [5060, 5018])) (cx := [(ad 5060, .inr (11, MO yr yi ysb ybs)), (yr 18, .inl (cT 0, 16, .inl (yA 18)))]) (wr := [(zo, .inl (cT 1, 1, .inr (.inl zf)))]) hP hD hS hA [1, 2] [0] rfl rfl (by decide) (by decide) (va_runV (As := [.int (nI t), .int a2]) (rest := []) ⟨hx, hb, hml, hown, hT⟩ (y_tell_nok l D cT (ad 5060) yr yi ysb ybs (yA 18) t a2 (by rw [y17]; exact hq) (by omega) (by rw [y18e t ht]; exact hr) _) ⟨callB_of 2 hT (tb_gd w1555) rfl rfl rfl (hT _ w13) (hT _ w1552) hM_tell ⟨Nat.le_of_ble_eq_true rfl, Nat.le_of_ble_eq_true rfl⟩, (hT _ w1553), (hT _ w1554)⟩ (RW.preV (ci := 11) (q0 := 0) hZ hS (hy_free (cx := [(ad 5060, .inr (11, MO yr yi ysb ybs)), (yr 18, .inl (cT 0, 16, .inl (yA 18)))]) hD hS hA [1, 2] rfl) (hP.sub (ws' := [(ad 5060, .inr (11, MO yr yi ysb ybs)), (yr 18, .inl (cT 0, 16, .inl (yA 18)))]) [1, 2] rfl) hK (hD.sub (ws' := [(ad 5060, .inr (11, MO yr yi ysb ybs)), (yr 18, .inl (cT 0, 16, .inl (yA 18)))]) [1, 2] (by decide) rfl) rfl rfl) rfl rfl hl.1 rfl (lv_room (Nat.le_of_ble_eq_true rfl)) dL_law_1280 ⟨(by show ((2000 + j + 3 * fm + 4 * SM mk 16) + 1) + 0 ≤ 601024; omega), (by show ((400000 + 6 * j + 42 * fm + 69 * SM mk 16) + 6) + 0 ≤ 7293034; omega)⟩) (fun ru12 u9 H locs hpu12 hP hD hS => ?_)
      have hpu12 : ru12 = 0 := hpu12
      have hP : va_P D vwCl ([(zo, .inl (cT 1, 1, .inr (.inl zf))), (ad 5060, .inr (11, MO yr (va_up yi 1 1) ysb ybs)), (yr 18, .inl (cT 0, 16, .inl (yA 18)))] ++ pg cds ad (upo gg [5060, 5018])) _ := hP
      have hD : va_D A ([(zo, .inl (cT 1, 1, .inr (.inl zf))), (ad 5060, .inr (11, MO yr (va_up yi 1 1) ysb ybs)), (yr 18, .inl (cT 0, 16, .inl (yA 18)))] ++ pg cds ad (upo gg [5060, 5018])) := hD
      refine lv_topi (fun y9 e9 => ?_)
      cases (show y9 = 0 from e9.trans hpu12)
      have hw9 : ([(zo, .inl (cT 1, 1, .inr (.inl zf))), (ad 5060, .inr (11, MO yr (va_up yi 1 1) ysb ybs)), (ad 5018, .inl (cT 0, 16, .inl (yA 18)))] ++ pg cds ad (upo gg [5060, 5018])) = ([(zo, .inl (cT 1, 1, .inr (.inl zf))), (ad 5060, .inr (11, MO yr (va_up yi 1 1) ysb ybs)), (yr 18, .inl (cT 0, 16, .inl (yA 18)))] ++ pg cds ad (upo gg [5060, 5018])) := by rw [show ad 5018 = yr 18 from hyr 18 (by unfold YKy; omega)]
      have hP := vP_eq hw9 hP
      have hD := vD_eq hw9 hD
      have hP : va_P D vwCl ([(zo, .inl (cT 1, 1, .inr (.inl zf))), (ad 5060, .inr (11, MO yr (va_up yi 1 1) ysb ybs)), (ad 5018, .inl (cT 0, 16, .inl (yA 18)))] ++ pg cds ad (upo gg [5060, 5018])) _ := hP
      have hD : va_D A ([(zo, .inl (cT 1, 1, .inr (.inl zf))), (ad 5060, .inr (11, MO yr (va_up yi 1 1) ysb ybs)), (ad 5018, .inl (cT 0, 16, .inl (yA 18)))] ++ pg cds ad (upo gg [5060, 5018])) := hD
      have hN9 := (show NDc [5060, 5018] from (nd_c (na_c (by decide) na_0) (nd_c na_0 nd_0)))
      have hP := gb_P (w9 := [(5060, .inr (11, MO yr (va_up yi 1 1) ysb ybs)), (5018, .inl (cT 0, 16, .inl (yA 18)))]) (X := [(zo, .inl (cT 1, 1, .inr (.inl zf)))]) (g := gg) hcd hN9 (show QB [(5060, .inr (11, MO yr (va_up yi 1 1) ysb ybs)), (5018, .inl (cT 0, 16, .inl (yA 18)))] from (qb_c (by decide) (qb_c (by decide) qb_0))) (hP.part (cx := [(zo, .inl (cT 1, 1, .inr (.inl zf))), (ad 5060, .inr (11, MO yr (va_up yi 1 1) ysb ybs)), (ad 5018, .inl (cT 0, 16, .inl (yA 18)))]) [0, 1, 2] rfl)
      have hD := gb_D (w9 := [(5060, .inr (11, MO yr (va_up yi 1 1) ysb ybs)), (5018, .inl (cT 0, 16, .inl (yA 18)))]) (X := [(zo, .inl (cT 1, 1, .inr (.inl zf)))]) (g := gg) hcd hN9 (show QB [(5060, .inr (11, MO yr (va_up yi 1 1) ysb ybs)), (5018, .inl (cT 0, 16, .inl (yA 18)))] from (qb_c (by decide) (qb_c (by decide) qb_0))) (hD.part (cx := [(zo, .inl (cT 1, 1, .inr (.inl zf))), (ad 5060, .inr (11, MO yr (va_up yi 1 1) ysb ybs)), (ad 5018, .inl (cT 0, 16, .inl (yA 18)))]) [0, 1, 2] (by decide) rfl)
      obtain ⟨gy, hgy⟩ : ∃ q9, q9 = ups gg [(5060, .inr (11, MO yr (va_up yi 1 1) ysb ybs)), (5018, .inl (cT 0, 16, .inl (yA 18)))] := ⟨_, rfl⟩
      rw [← hgy] at hP hD
      have hP : va_P D vwCl ([(zo, .inl (cT 1, 1, .inr (.inl zf)))] ++ pg cds ad gy) _ := hP
      have hD : va_D A ([(zo, .inl (cT 1, 1, .inr (.inl zf)))] ++ pg cds ad gy) := hD
      have fgy : ∀ z8, z8 ≠ 5060 → gy z8 = gg z8 := fun z8 z1 => by rw [hgy]; exact ups_k (kp_n z1 (kp_s (hYA 18 (by unfold YKy; omega)) kp_0))
      have gy_0 : gy 5060 = some (.inr (11, MO yr (va_up yi 1 1) ysb ybs)) := by rw [hgy]; exact ups_1
      refine lv_istore hx hb dL_law_1283 hl (by decide) rfl (fun ls hl => ?_)
      have hl : lv_has ls 7 [(6, .int 0), (5, .int 1), (0, .ref b), (1, .ref (ad 0)), (2, .ref (ad 5060)), (3, .ref zo), (4, .int (nI (4 * j)))] := hl
      refine lv_aload_n hx hb dL_law_1285 rfl (lv_at hl 4 rfl) ?_
      refine ro_i (va_Run.run (va_runV (As := []) (rest := []) ⟨hx, hb, hml, hown, hT⟩ (m_thrown l D cT (ad 5060) yr (va_up yi 1 1) ysb ybs) ⟨callB_of 0 hT (tb_gd w1290) rfl rfl rfl (hT _ w13) (hT _ w1287) hM_thrown ⟨Nat.le_of_ble_eq_true rfl, Nat.le_of_ble_eq_true rfl⟩, (hT _ w1288), (hT _ w1289)⟩ (RO.preV (ci := 11) (q0 := 0) hZ hS ((show va_P D vwCl [(ad 5060, .inr (11, MO yr (va_up yi 1 1) ysb ybs))] _ from (pv_c (pg_1 (x := 5060) hcd hP (by decide) gy_0) pv_0))) hK rfl rfl) rfl rfl hl.1 rfl (lv_room (Nat.le_of_ble_eq_true rfl)) dL_law_1286 ⟨(by show (((2000 + j + 3 * fm + 4 * SM mk 16) + 1) + 0) + 0 ≤ 601024; omega), (by show (((400000 + 6 * j + 42 * fm + 69 * SM mk 16) + 6) + 0) + 0 ≤ 7293034; omega)⟩)) ?_
      refine lv_topi (fun y9 e9 => ?_)
      cases (show y9 = 1 from e9.trans rfl)
      refine lv_iload hx hb dL_law_1289 (lv_at hl 1 rfl) ?_
      refine lv_icmp_eq (tgt := 1296) hx hb dL_law_1291 rfl (fun _ => ?_) (fun h13 => absurd (by decide) h13)
      refine lv_iload hx hb dL_law_1296 (lv_at hl 1 rfl) ?_
      refine lv_if_ne (tgt := 1313) hx hb dL_law_1298 rfl (fun _ => ?_) (fun h14 => absurd h14 (by decide))
      refine lv_goto (tgt := 1690) hx hb dL_law_1313 rfl ?_
      obtain ⟨yiz, hyiz⟩ : ∃ f9 : Nat → Int32, f9 = va_up yi 1 1 := ⟨_, rfl⟩
      have hIz : LWI cT ad gg tE T fm mk F n wd dpt lst w ru rl ne Lo yiz ysb yA := hI.sc (fun k hk => by rw [hyiz]; exact va_up_ne _ _ hk) (fun _ _ => rfl)
      have hIz := hIz.yg (g2 := gy) (fun z8 hz => fgy z8 (by omega))
      have hYz : YCL cT ad gy y yr yiz ysb ybs yA yW F := by
        refine ⟨hYad, hyr, (by rw [hyiz]; exact gy_0), fun k hk => ?_⟩
        have hk2 : k = 0 ∨ (4 ≤ k ∧ k ≤ 9) ∨ (18 ≤ k ∧ k ≤ 46) ∨ k = 48 ∨ k = 49 ∨ (56 ≤ k ∧ k ≤ 59) := hk
        exact (fgy (5000 + k) (by omega)).trans ((hYA k hk).trans (congrArg some (ycl_o rfl).symm))
      rw [hyiz] at hIz hYz
      refine W.widen (k := 2000 + (j + 1) + 3 * fm + 4 * SM mk 16) (n := 400000 + 6 * (j + 1) + 42 * fm + 69 * SM mk 16) (by show ((2000 + j + 3 * fm + 4 * SM mk 16) + 1) + 0 ≤ 2000 + (j + 1) + 3 * fm + 4 * SM mk 16; omega) (by show ((400000 + 6 * j + 42 * fm + 69 * SM mk 16) + 6) + 0 ≤ 400000 + 6 * (j + 1) + 42 * fm + 69 * SM mk 16; omega) ?_
      have hl := lv_sub hl [2, 3, 4, 5, 6] rfl
      have hl : lv_has ls 7 [(0, .ref b), (1, .ref (ad 0)), (2, .ref y), (3, .ref zo), (4, .int (nI (4 * j)))] := by rw [← hYz.1]; exact hl
      exact hend ad gy T fm mk F n wd dpt lst w ru rl ne Lo (va_up yi 1 1) ysb ybs yA yW zf _ _ ls hIz hYz hP hD hS hl
  · refine lv_aload_n hx hb dL_law_1248 rfl (lv_at hl 1 rfl) ?_
    refine lv_aload_n hx hb dL_law_1249 rfl (lv_at hl 0 rfl) ?_
    refine lv_iload hx hb dL_law_1250 (lv_at hl 4 rfl) ?_
    refine lv_iconst (v := 1) hx hb dL_law_1252 (by decide) ?_
    refine lv_iadd hx hb dL_law_1253 ?_
    refine lv_topi (fun y9 e9 => ?_)
    cases (show y9 = nI ((4 * j) + 1) from e9.trans (nI_add (4 * j) 1))
    refine va_sld hx hb hX hbl hbA hS (vp_in_nI (n := 4 * j + 1) (N := L) (by omega) (by omega)) dL_law_1254 ?_
    refine lv_topi (fun y9 e9 => ?_)
    cases (show y9 = a1 from e9.trans (by rw [nI_clamp (by omega)]; exact ha1.symm))
    refine lv_aload_n hx hb dL_law_1255 rfl (lv_at hl 0 rfl) ?_
    refine lv_iload hx hb dL_law_1256 (lv_at hl 4 rfl) ?_
    refine lv_iconst (v := 2) hx hb dL_law_1258 (by decide) ?_
    refine lv_iadd hx hb dL_law_1259 ?_
    refine lv_topi (fun y9 e9 => ?_)
    cases (show y9 = nI ((4 * j) + 2) from e9.trans (nI_add (4 * j) 2))
    refine va_sld hx hb hX hbl hbA hS (vp_in_nI (n := 4 * j + 2) (N := L) (by omega) (by omega)) dL_law_1260 ?_
    refine lv_topi (fun y9 e9 => ?_)
    cases (show y9 = a2 from e9.trans (by rw [nI_clamp (by omega)]; exact ha2.symm))
    refine lv_aload_n hx hb dL_law_1261 rfl (lv_at hl 3 rfl) ?_
    refine hy_iP (X := [(zo, .inl (cT 1, 1, .inr (.inl zf)))]) (pl := pg cds ad gg) (cx := [(zo, .inl (cT 1, 1, .inr (.inl zf)))]) (wr := []) hP hD hS hA [0] [] rfl rfl (by decide) (by decide) (tx_runSH (As := [.ref (ad 0), .int a1, .int a2, .ref zo]) (rest := []) ⟨hx, hb, hml, hown, hT⟩ (l_tell_not l D cT cds ad gg T fm F a1 a2 zo zf hlt hcd hob hFT.1.frp hTf hTs hT16 hq _) hT (tc_gd w1031 w1032 w0 (tb_gd w1033)) rfl rfl rfl hL_tell ⟨Nat.le_of_ble_eq_true rfl, Nat.le_of_ble_eq_true rfl⟩ (RW.preS hZ hS (va_freeP (cx := [(zo, .inl (cT 1, 1, .inr (.inl zf)))]) hD hS hA [0] rfl) (hP.part (cx := [(zo, .inl (cT 1, 1, .inr (.inl zf)))]) [0] rfl) hK (hD.part (cx := [(zo, .inl (cT 1, 1, .inr (.inl zf)))]) [0] (by decide) rfl)) rfl hl.1 rfl (Nat.le_of_ble_eq_true rfl) dL_law_1262 ⟨(by show (2000 + j + 3 * fm + 4 * SM mk 16) + 1 ≤ 601024; omega), (by show (400000 + 6 * j + 42 * fm + 69 * SM mk 16) + 6 ≤ 7293034; omega)⟩) (fun ru15 u9 H locs hpu15 hP hD hS => ?_)
    have hpu15 : ru15 = 1 := hpu15
    have hP : va_P D vwCl ([(zo, .inl (cT 1, 1, .inr (.inl zf)))] ++ pg cds ad gg) _ := hP
    have hD : va_D A ([(zo, .inl (cT 1, 1, .inr (.inl zf)))] ++ pg cds ad gg) := hD
    refine lv_topi (fun y9 e9 => ?_)
    cases (show y9 = 1 from e9.trans hpu15)
    refine lv_istore hx hb dL_law_1265 hl (by decide) rfl (fun ls hl => ?_)
    have hl : lv_has ls 7 [(5, .int 1), (0, .ref b), (1, .ref (ad 0)), (2, .ref (ad 5060)), (3, .ref zo), (4, .int (nI (4 * j)))] := hl
    refine lv_aload_n hx hb dL_law_1267 rfl (lv_at hl 3 rfl) ?_
    refine lv_aload_n hx hb dL_law_1268 rfl (lv_at hl 1 rfl) ?_
    refine lv_iload hx hb dL_law_1269 (lv_at hl 5 rfl) ?_
    refine lv_iconst (v := 1) hx hb dL_law_1271 (by decide) ?_
    refine lv_iadd hx hb dL_law_1272 ?_
    refine lv_topi (fun y9 e9 => ?_)
    cases (show y9 = nI ((4 * j) + 1) from e9.trans (nI_add (4 * j) 1))
    refine va_sld hx hb hX hbl hbA hS (vp_in_nI (n := 4 * j + 1) (N := L) (by omega) (by omega)) dL_law_1273 ?_
    refine lv_topi (fun y9 e9 => ?_)
    cases (show y9 = a1 from e9.trans (by rw [nI_clamp (by omega)]; exact ha1.symm))
    refine lv_aload_n hx hb dL_law_1274 rfl (lv_at hl 1 rfl) ?_
    refine lv_iload hx hb dL_law_1275 (lv_at hl 5 rfl) ?_
    refine lv_iconst (v := 2) hx hb dL_law_1277 (by decide) ?_
    refine lv_iadd hx hb dL_law_1278 ?_
    refine lv_topi (fun y9 e9 => ?_)
    cases (show y9 = nI ((4 * j) + 2) from e9.trans (nI_add (4 * j) 2))
    refine va_sld hx hb hX hbl hbA hS (vp_in_nI (n := 4 * j + 2) (N := L) (by omega) (by omega)) dL_law_1279 ?_
    refine lv_topi (fun y9 e9 => ?_)
    cases (show y9 = a2 from e9.trans (by rw [nI_clamp (by omega)]; exact ha2.symm))
    have hB9 : QI gg [(5060, .inr (11, MO yr yi ysb ybs))] := (qi_c (by decide) hYy qi_0)
    have hN9 := (show NDc [5060] from (nd_c na_0 nd_0))
    have hP := bo_P (wc := [(5060, .inr (11, MO yr yi ysb ybs))]) (X := [(zo, .inl (cT 1, 1, .inr (.inl zf)))]) hcd hN9 hB9 hP
    have hD := bo_D (wc := [(5060, .inr (11, MO yr yi ysb ybs))]) (X := [(zo, .inl (cT 1, 1, .inr (.inl zf)))]) hcd hN9 hB9 hD
    have hP : va_P D vwCl ([(zo, .inl (cT 1, 1, .inr (.inl zf))), (ad 5060, .inr (11, MO yr yi ysb ybs))] ++ pg cds ad (upo gg [5060])) _ := hP
    have hD : va_D A ([(zo, .inl (cT 1, 1, .inr (.inl zf))), (ad 5060, .inr (11, MO yr yi ysb ybs))] ++ pg cds ad (upo gg [5060])) := hD
    refine hy_iQ (X := [(zo, .inl (cT 1, 1, .inr (.inl zf))), (ad 5060, .inr (11, MO yr yi ysb ybs))]) (pl := pg cds ad (upo gg [5060])) (cx := [(ad 5060, .inr (11, MO yr yi ysb ybs))]) (wr := [(zo, .inl (cT 1, 1, .inr (.inl zf)))]) hP hD hS hA [1] [0] rfl rfl (by decide) (by decide) (va_runV (As := [.int a1, .int a2]) (rest := []) ⟨hx, hb, hml, hown, hT⟩ (y_tell_not l D cT (ad 5060) yr yi ysb ybs a1 a2 (by rw [y17]; exact hq) _) ⟨callB_of 2 hT (tb_gd w1555) rfl rfl rfl (hT _ w13) (hT _ w1552) hM_tell ⟨Nat.le_of_ble_eq_true rfl, Nat.le_of_ble_eq_true rfl⟩, (hT _ w1553), (hT _ w1554)⟩ (RW.preV (ci := 11) (q0 := 0) hZ hS (hy_free (cx := [(ad 5060, .inr (11, MO yr yi ysb ybs))]) hD hS hA [1] rfl) (hP.sub (ws' := [(ad 5060, .inr (11, MO yr yi ysb ybs))]) [1] rfl) hK (hD.sub (ws' := [(ad 5060, .inr (11, MO yr yi ysb ybs))]) [1] (by decide) rfl) rfl rfl) rfl rfl hl.1 rfl (lv_room (Nat.le_of_ble_eq_true rfl)) dL_law_1280 ⟨(by show ((2000 + j + 3 * fm + 4 * SM mk 16) + 1) + 0 ≤ 601024; omega), (by show ((400000 + 6 * j + 42 * fm + 69 * SM mk 16) + 6) + 0 ≤ 7293034; omega)⟩) (fun ru16 u9 H locs hpu16 hP hD hS => ?_)
    have hpu16 : ru16 = 0 := hpu16
    have hP : va_P D vwCl ([(zo, .inl (cT 1, 1, .inr (.inl zf))), (ad 5060, .inr (11, MO yr (va_up yi 1 1) ysb ybs))] ++ pg cds ad (upo gg [5060])) _ := hP
    have hD : va_D A ([(zo, .inl (cT 1, 1, .inr (.inl zf))), (ad 5060, .inr (11, MO yr (va_up yi 1 1) ysb ybs))] ++ pg cds ad (upo gg [5060])) := hD
    refine lv_topi (fun y9 e9 => ?_)
    cases (show y9 = 0 from e9.trans hpu16)
    have hN9 := (show NDc [5060] from (nd_c na_0 nd_0))
    have hP := gb_P (w9 := [(5060, .inr (11, MO yr (va_up yi 1 1) ysb ybs))]) (X := [(zo, .inl (cT 1, 1, .inr (.inl zf)))]) (g := gg) hcd hN9 (show QB [(5060, .inr (11, MO yr (va_up yi 1 1) ysb ybs))] from (qb_c (by decide) qb_0)) (hP.part (cx := [(zo, .inl (cT 1, 1, .inr (.inl zf))), (ad 5060, .inr (11, MO yr (va_up yi 1 1) ysb ybs))]) [0, 1] rfl)
    have hD := gb_D (w9 := [(5060, .inr (11, MO yr (va_up yi 1 1) ysb ybs))]) (X := [(zo, .inl (cT 1, 1, .inr (.inl zf)))]) (g := gg) hcd hN9 (show QB [(5060, .inr (11, MO yr (va_up yi 1 1) ysb ybs))] from (qb_c (by decide) qb_0)) (hD.part (cx := [(zo, .inl (cT 1, 1, .inr (.inl zf))), (ad 5060, .inr (11, MO yr (va_up yi 1 1) ysb ybs))]) [0, 1] (by decide) rfl)
    obtain ⟨gy, hgy⟩ : ∃ q9, q9 = ups gg [(5060, .inr (11, MO yr (va_up yi 1 1) ysb ybs))] := ⟨_, rfl⟩
    rw [← hgy] at hP hD
    have hP : va_P D vwCl ([(zo, .inl (cT 1, 1, .inr (.inl zf)))] ++ pg cds ad gy) _ := hP
    have hD : va_D A ([(zo, .inl (cT 1, 1, .inr (.inl zf)))] ++ pg cds ad gy) := hD
    have fgy : ∀ z8, z8 ≠ 5060 → gy z8 = gg z8 := fun z8 z1 => by rw [hgy]; exact ups_k (kp_n z1 kp_0)
    have gy_0 : gy 5060 = some (.inr (11, MO yr (va_up yi 1 1) ysb ybs)) := by rw [hgy]; exact ups_1
    refine lv_istore hx hb dL_law_1283 hl (by decide) rfl (fun ls hl => ?_)
    have hl : lv_has ls 7 [(6, .int 0), (5, .int 1), (0, .ref b), (1, .ref (ad 0)), (2, .ref (ad 5060)), (3, .ref zo), (4, .int (nI (4 * j)))] := hl
    refine lv_aload_n hx hb dL_law_1285 rfl (lv_at hl 4 rfl) ?_
    refine ro_i (va_Run.run (va_runV (As := []) (rest := []) ⟨hx, hb, hml, hown, hT⟩ (m_thrown l D cT (ad 5060) yr (va_up yi 1 1) ysb ybs) ⟨callB_of 0 hT (tb_gd w1290) rfl rfl rfl (hT _ w13) (hT _ w1287) hM_thrown ⟨Nat.le_of_ble_eq_true rfl, Nat.le_of_ble_eq_true rfl⟩, (hT _ w1288), (hT _ w1289)⟩ (RO.preV (ci := 11) (q0 := 0) hZ hS ((show va_P D vwCl [(ad 5060, .inr (11, MO yr (va_up yi 1 1) ysb ybs))] _ from (pv_c (pg_1 (x := 5060) hcd hP (by decide) gy_0) pv_0))) hK rfl rfl) rfl rfl hl.1 rfl (lv_room (Nat.le_of_ble_eq_true rfl)) dL_law_1286 ⟨(by show (((2000 + j + 3 * fm + 4 * SM mk 16) + 1) + 0) + 0 ≤ 601024; omega), (by show (((400000 + 6 * j + 42 * fm + 69 * SM mk 16) + 6) + 0) + 0 ≤ 7293034; omega)⟩)) ?_
    refine lv_topi (fun y9 e9 => ?_)
    cases (show y9 = 1 from e9.trans rfl)
    refine lv_iload hx hb dL_law_1289 (lv_at hl 1 rfl) ?_
    refine lv_icmp_eq (tgt := 1296) hx hb dL_law_1291 rfl (fun _ => ?_) (fun h17 => absurd (by decide) h17)
    refine lv_iload hx hb dL_law_1296 (lv_at hl 1 rfl) ?_
    refine lv_if_ne (tgt := 1313) hx hb dL_law_1298 rfl (fun _ => ?_) (fun h18 => absurd h18 (by decide))
    refine lv_goto (tgt := 1690) hx hb dL_law_1313 rfl ?_
    obtain ⟨yiz, hyiz⟩ : ∃ f9 : Nat → Int32, f9 = va_up yi 1 1 := ⟨_, rfl⟩
    have hIz : LWI cT ad gg tE T fm mk F n wd dpt lst w ru rl ne Lo yiz ysb yA := hI.sc (fun k hk => by rw [hyiz]; exact va_up_ne _ _ hk) (fun _ _ => rfl)
    have hIz := hIz.yg (g2 := gy) (fun z8 hz => fgy z8 (by omega))
    have hYz : YCL cT ad gy y yr yiz ysb ybs yA yW F := by
      refine ⟨hYad, hyr, (by rw [hyiz]; exact gy_0), fun k hk => ?_⟩
      have hk2 : k = 0 ∨ (4 ≤ k ∧ k ≤ 9) ∨ (18 ≤ k ∧ k ≤ 46) ∨ k = 48 ∨ k = 49 ∨ (56 ≤ k ∧ k ≤ 59) := hk
      exact (fgy (5000 + k) (by omega)).trans ((hYA k hk).trans (congrArg some (ycl_o rfl).symm))
    rw [hyiz] at hIz hYz
    refine W.widen (k := 2000 + (j + 1) + 3 * fm + 4 * SM mk 16) (n := 400000 + 6 * (j + 1) + 42 * fm + 69 * SM mk 16) (by show ((2000 + j + 3 * fm + 4 * SM mk 16) + 1) + 0 ≤ 2000 + (j + 1) + 3 * fm + 4 * SM mk 16; omega) (by show ((400000 + 6 * j + 42 * fm + 69 * SM mk 16) + 6) + 0 ≤ 400000 + 6 * (j + 1) + 42 * fm + 69 * SM mk 16; omega) ?_
    have hl := lv_sub hl [2, 3, 4, 5, 6] rfl
    have hl : lv_has ls 7 [(0, .ref b), (1, .ref (ad 0)), (2, .ref y), (3, .ref zo), (4, .int (nI (4 * j)))] := by rw [← hYz.1]; exact hl
    exact hend ad gy T fm mk F n wd dpt lst w ru rl ne Lo (va_up yi 1 1) ysb ybs yA yW zf _ _ ls hIz hYz hP hD hS hl
