set_option maxHeartbeats 8000000 in
set_option maxRecDepth 100000 in
theorem lo_12 {p : Program} {l : Launch} {e : Env} {s : State} {m : MethodId} {args : Array Value} {below : List Frame} {meth : Method} {c : Code} {Q : State → Prop} {A : Nat → Prop} {H : Heap} {locs : List Loc} {ls : Array Slot} {b L : Nat} {xs : Nat → Int32} (D : va_G) (cT : Nat → ClassId) (cds : List Nat) (tE mE y : Nat) (yr : Nat → Nat) (zo j : Nat) (ad : Nat → Nat) (gg : Nat → Option va_E) (T : Nat) (fm : Nat) (mk : Nat → Nat) (F : TFR) (n : Nat) (wd : Nat) (dpt : Nat) (lst : Nat) (w : Nat) (ru : Nat) (rl : Nat) (ne : Nat → Nat) (Lo : Nat) (yi : Nat → Int32) (ysb : Int64) (ybs : Int64) (yA : Nat → Nat → Int32) (yW : Nat → Int64) (zf : Nat → Int64) (hlt : l.stackTraces = false) (hx : p.tables.exec = Jvm.exec) (hb : c.code = code) (hml : c.maxLocals = 7) (hown : s.vm.findClass "ResidualTreesLaw" = some m.cls) (hT : ∀ w ∈ TB, w.before args s = true) (hZ : ZZ A s s.heap) (hE0 : ZE tE mE A s s.heap) (hK : va_K D vwCl (TY cT) s) (hA : ∀ q : Nat, s.heap.size ≤ q → A q) (hX : va_X b L xs s s.heap) (hbl : b < s.heap.size) (hbA : ¬ A b) (hcd : CD cds) (hj : 4 * j + 4 ≤ L) (hL : L ≤ 2048) (hI : LWI cT ad gg tE T fm mk F n wd dpt lst w ru rl ne Lo yi ysb yA) (hYC : YCL cT ad gg y yr yi ysb ybs yA yW F) (hP : va_P D vwCl ([(zo, .inl (cT 1, 1, .inr (.inl zf)))] ++ pg cds ad gg) H) (hD : va_D A ([(zo, .inl (cT 1, 1, .inr (.inl zf)))] ++ pg cds ad gg)) (hS : va_S A s.heap H locs) (hl : lv_has ls 7 [(0, .ref b), (1, .ref (ad 0)), (2, .ref y), (3, .ref zo), (4, .int (nI (4 * j)))]) (hend : LEN2 p l e s m args below meth c Q A D cT cds tE y yr zo b j) : W p l e room_1 s m args below meth c H locs (2000 + j + 3 * fm + 4 * SM mk 16) (400000 + 6 * j + 42 * fm + 69 * SM mk 16) Q (F0 m 944 ls []) := by
  obtain ⟨a1, ha1⟩ : ∃ q9 : Int32, q9 = xs (4 * j + 1) := ⟨_, rfl⟩
  obtain ⟨a2, ha2⟩ : ∃ q9 : Int32, q9 = xs (4 * j + 2) := ⟨_, rfl⟩
  obtain ⟨a3, ha3⟩ : ∃ q9 : Int32, q9 = xs (4 * j + 3) := ⟨_, rfl⟩
  obtain ⟨hfm16, hSM⟩ := lwi_b hI
  obtain ⟨hYad, hYr0, hYy, hYA⟩ := hYC
  have hyr := hYr0
  obtain ⟨fo, hCL, hRF, hPU⟩ := id hI
  obtain ⟨hTV, hOut, ⟨sa9, hso⟩, ⟨zq9, hS1⟩, ⟨zr9, hS2⟩, ⟨z58, hS3⟩⟩ := id hCL
  obtain ⟨hob, hTg, hFT, hTs, ⟨zs0, hGB⟩, ⟨zf0, hLf⟩, ⟨zc0, hCm⟩⟩ := id hTV
  obtain ⟨chtb, chRs, chCa, chCf, chpl, chGa, chSc, chGs, ⟨cfo, chod⟩, cbb9, ctt9, cb90, cik0, chgr, chbt, chSP⟩ := id hGB
  obtain ⟨y2, y3, y10, y11, y12, y13, y14, y17, y47, y55, y8e, y18e, hRFN, hPR, hfoy⟩ := id hRF
  obtain ⟨hTf, hT16, hn48, hwd6, hdp4, hls2, hw20, hr9, hLo, hne, hik, hTOK, hS9, hVk, hVb, htg, hSEP, hSV7⟩ := id hPU
  have hl : lv_has ls 7 [(0, .ref b), (1, .ref (ad 0)), (2, .ref (ad 5060)), (3, .ref zo), (4, .int (nI (4 * j)))] := by rw [hYad]; exact hl
  by_cases hq : 0 ≤ a1 ∧ a1 ≤ nI T
  · obtain ⟨k9, hk1, hk2, rfl⟩ := i_btw (lo := 0) (hi := T) (by omega) (by omega) hq
    refine lv_aload_n hx hb dL_law_944 rfl (lv_at hl 1 rfl) ?_
    refine lv_aload_n hx hb dL_law_945 rfl (lv_at hl 0 rfl) ?_
    refine lv_iload hx hb dL_law_946 (lv_at hl 4 rfl) ?_
    refine lv_iconst (v := 1) hx hb dL_law_948 (by decide) ?_
    refine lv_iadd hx hb dL_law_949 ?_
    refine lv_topi (fun y9 e9 => ?_)
    cases (show y9 = nI ((4 * j) + 1) from e9.trans (nI_add (4 * j) 1))
    refine va_sld hx hb hX hbl hbA hS (vp_in_nI (n := 4 * j + 1) (N := L) (by omega) (by omega)) dL_law_950 ?_
    refine lv_topi (fun y9 e9 => ?_)
    cases (show y9 = nI k9 from e9.trans (by rw [nI_clamp (by omega)]; exact ha1.symm))
    refine lv_aload_n hx hb dL_law_951 rfl (lv_at hl 3 rfl) ?_
    refine hy_iP (X := [(zo, .inl (cT 1, 1, .inr (.inl zf)))]) (pl := pg cds ad gg) (cx := [(zo, .inl (cT 1, 1, .inr (.inl zf)))]) (wr := []) hP hD hS hA [0] [] rfl rfl (by decide) (by decide) (tx_runSH (As := [.ref (ad 0), .int (nI k9), .ref zo]) (rest := []) ⟨hx, hb, hml, hown, hT⟩ (l_drop l D cT cds ad gg T k9 zo zf hcd hob hq hk2 _) hT (tc_gd w987 w988 w0 (tb_gd w989)) rfl rfl rfl hL_drop ⟨Nat.le_of_ble_eq_true rfl, Nat.le_of_ble_eq_true rfl⟩ (RW.preS hZ hS (va_freeP (cx := [(zo, .inl (cT 1, 1, .inr (.inl zf)))]) hD hS hA [0] rfl) (hP.part (cx := [(zo, .inl (cT 1, 1, .inr (.inl zf)))]) [0] rfl) hK (hD.part (cx := [(zo, .inl (cT 1, 1, .inr (.inl zf)))]) [0] (by decide) rfl)) rfl hl.1 rfl (Nat.le_of_ble_eq_true rfl) dL_law_952 ⟨(by show (2000 + j + 3 * fm + 4 * SM mk 16) + 0 ≤ 601024; omega), (by show (400000 + 6 * j + 42 * fm + 69 * SM mk 16) + 0 ≤ 7293034; omega)⟩) (fun ru1 u9 H locs hpu1 hP hD hS => ?_)
    obtain ⟨gg7u1, rvu1⟩ := u9
    have hpu1 : ru1 = 0 ∧ rvu1 = nI (T - k9) ∧ (∀ z8, z8 ≠ 0 → gg7u1 z8 = gg z8) ∧ gg7u1 0 = some (eOB ad (nI k9)) := hpu1
    have hP : va_P D vwCl ([(zo, .inl (cT 1, 1, .inr (.inl (vp_updL zf 0 (Int32.toInt64 rvu1)))))] ++ pg cds ad gg7u1) _ := hP
    have hD : va_D A ([(zo, .inl (cT 1, 1, .inr (.inl (vp_updL zf 0 (Int32.toInt64 rvu1)))))] ++ pg cds ad gg7u1) := hD
    refine lv_topi (fun y9 e9 => ?_)
    cases (show y9 = 0 from e9.trans hpu1.1)
    obtain ⟨_, cR, cF, c0n⟩ := hpu1
    refine lv_istore hx hb dL_law_955 hl (by decide) rfl (fun ls hl => ?_)
    have hl : lv_has ls 7 [(5, .int 0), (0, .ref b), (1, .ref (ad 0)), (2, .ref (ad 5060)), (3, .ref zo), (4, .int (nI (4 * j)))] := hl
    refine lv_aload_n hx hb dL_law_957 rfl (lv_at hl 3 rfl) ?_
    refine lv_aload_n hx hb dL_law_958 rfl (lv_at hl 1 rfl) ?_
    refine lv_iload hx hb dL_law_959 (lv_at hl 5 rfl) ?_
    refine lv_iconst (v := 1) hx hb dL_law_961 (by decide) ?_
    refine lv_iadd hx hb dL_law_962 ?_
    refine lv_topi (fun y9 e9 => ?_)
    cases (show y9 = nI ((4 * j) + 1) from e9.trans (nI_add (4 * j) 1))
    refine va_sld hx hb hX hbl hbA hS (vp_in_nI (n := 4 * j + 1) (N := L) (by omega) (by omega)) dL_law_963 ?_
    refine lv_topi (fun y9 e9 => ?_)
    cases (show y9 = nI k9 from e9.trans (by rw [nI_clamp (by omega)]; exact ha1.symm))
    have hB9 : QI gg7u1 [(5060, .inr (11, MO yr yi ysb ybs))] := (qi_c (by decide) ((cF 5060 (by omega)).trans hYy) qi_0)
    have hN9 := (show NDc [5060] from (nd_c na_0 nd_0))
    have hP := bo_P (wc := [(5060, .inr (11, MO yr yi ysb ybs))]) (X := [(zo, .inl (cT 1, 1, .inr (.inl (vp_updL zf 0 (Int32.toInt64 rvu1)))))]) hcd hN9 hB9 hP
    have hD := bo_D (wc := [(5060, .inr (11, MO yr yi ysb ybs))]) (X := [(zo, .inl (cT 1, 1, .inr (.inl (vp_updL zf 0 (Int32.toInt64 rvu1)))))]) hcd hN9 hB9 hD
    have hP : va_P D vwCl ([(zo, .inl (cT 1, 1, .inr (.inl (vp_updL zf 0 (Int32.toInt64 rvu1))))), (ad 5060, .inr (11, MO yr yi ysb ybs))] ++ pg cds ad (upo gg7u1 [5060])) _ := hP
    have hD : va_D A ([(zo, .inl (cT 1, 1, .inr (.inl (vp_updL zf 0 (Int32.toInt64 rvu1))))), (ad 5060, .inr (11, MO yr yi ysb ybs))] ++ pg cds ad (upo gg7u1 [5060])) := hD
    refine hy_iQ (X := [(zo, .inl (cT 1, 1, .inr (.inl (vp_updL zf 0 (Int32.toInt64 rvu1))))), (ad 5060, .inr (11, MO yr yi ysb ybs))]) (pl := pg cds ad (upo gg7u1 [5060])) (cx := [(ad 5060, .inr (11, MO yr yi ysb ybs))]) (wr := [(zo, .inl (cT 1, 1, .inr (.inl (vp_updL zf 0 (Int32.toInt64 rvu1)))))]) hP hD hS hA [1] [0] rfl rfl (by decide) (by decide) (va_runV (As := [.int (nI k9)]) (rest := []) ⟨hx, hb, hml, hown, hT⟩ (y_drop_ok l D cT (ad 5060) yr yi ysb ybs (nI k9) (by rw [y17]; exact hq) _) ⟨callB_of 1 hT (tb_gd w1527) rfl rfl rfl (hT _ w13) (hT _ w1524) hM_drop ⟨Nat.le_of_ble_eq_true rfl, Nat.le_of_ble_eq_true rfl⟩, (hT _ w1525), (hT _ w1526)⟩ (RW.preV (ci := 11) (q0 := 0) hZ hS (hy_free (cx := [(ad 5060, .inr (11, MO yr yi ysb ybs))]) hD hS hA [1] rfl) (hP.sub (ws' := [(ad 5060, .inr (11, MO yr yi ysb ybs))]) [1] rfl) hK (hD.sub (ws' := [(ad 5060, .inr (11, MO yr yi ysb ybs))]) [1] (by decide) rfl) rfl rfl) rfl rfl hl.1 rfl (lv_room (Nat.le_of_ble_eq_true rfl)) dL_law_964 ⟨(by show ((2000 + j + 3 * fm + 4 * SM mk 16) + 0) + 0 ≤ 601024; omega), (by show ((400000 + 6 * j + 42 * fm + 69 * SM mk 16) + 0) + 0 ≤ 7293034; omega)⟩) (fun ru2 u9 H locs hpu2 hP hD hS => ?_)
    have hpu2 : ru2 = yi 17 - (nI k9) := hpu2
    have hP : va_P D vwCl ([(zo, .inl (cT 1, 1, .inr (.inl (vp_updL zf 0 (Int32.toInt64 rvu1))))), (ad 5060, .inr (11, MO yr (va_up (va_up yi 1 0) 17 (nI k9)) ysb ybs))] ++ pg cds ad (upo gg7u1 [5060])) _ := hP
    have hD : va_D A ([(zo, .inl (cT 1, 1, .inr (.inl (vp_updL zf 0 (Int32.toInt64 rvu1))))), (ad 5060, .inr (11, MO yr (va_up (va_up yi 1 0) 17 (nI k9)) ysb ybs))] ++ pg cds ad (upo gg7u1 [5060])) := hD
    have hN9 := (show NDc [5060] from (nd_c na_0 nd_0))
    have hP := gb_P (w9 := [(5060, .inr (11, MO yr (va_up (va_up yi 1 0) 17 (nI k9)) ysb ybs))]) (X := [(zo, .inl (cT 1, 1, .inr (.inl (vp_updL zf 0 (Int32.toInt64 rvu1)))))]) (g := gg7u1) hcd hN9 (show QB [(5060, .inr (11, MO yr (va_up (va_up yi 1 0) 17 (nI k9)) ysb ybs))] from (qb_c (by decide) qb_0)) (hP.part (cx := [(zo, .inl (cT 1, 1, .inr (.inl (vp_updL zf 0 (Int32.toInt64 rvu1))))), (ad 5060, .inr (11, MO yr (va_up (va_up yi 1 0) 17 (nI k9)) ysb ybs))]) [0, 1] rfl)
    have hD := gb_D (w9 := [(5060, .inr (11, MO yr (va_up (va_up yi 1 0) 17 (nI k9)) ysb ybs))]) (X := [(zo, .inl (cT 1, 1, .inr (.inl (vp_updL zf 0 (Int32.toInt64 rvu1)))))]) (g := gg7u1) hcd hN9 (show QB [(5060, .inr (11, MO yr (va_up (va_up yi 1 0) 17 (nI k9)) ysb ybs))] from (qb_c (by decide) qb_0)) (hD.part (cx := [(zo, .inl (cT 1, 1, .inr (.inl (vp_updL zf 0 (Int32.toInt64 rvu1))))), (ad 5060, .inr (11, MO yr (va_up (va_up yi 1 0) 17 (nI k9)) ysb ybs))]) [0, 1] (by decide) rfl)
    obtain ⟨gy, hgy⟩ : ∃ q9, q9 = ups gg7u1 [(5060, .inr (11, MO yr (va_up (va_up yi 1 0) 17 (nI k9)) ysb ybs))] := ⟨_, rfl⟩
    rw [← hgy] at hP hD
    have hP : va_P D vwCl ([(zo, .inl (cT 1, 1, .inr (.inl (vp_updL zf 0 (Int32.toInt64 rvu1)))))] ++ pg cds ad gy) _ := hP
    have hD : va_D A ([(zo, .inl (cT 1, 1, .inr (.inl (vp_updL zf 0 (Int32.toInt64 rvu1)))))] ++ pg cds ad gy) := hD
    have fgy : ∀ z8, z8 ≠ 5060 → gy z8 = gg7u1 z8 := fun z8 z1 => by rw [hgy]; exact ups_k (kp_n z1 kp_0)
    have gy_0 : gy 5060 = some (.inr (11, MO yr (va_up (va_up yi 1 0) 17 (nI k9)) ysb ybs)) := by rw [hgy]; exact ups_1
    refine lv_istore hx hb dL_law_967 hl (by decide) rfl (fun ls hl => ?_)
    have hl : lv_has ls 7 [(6, .int ru2), (5, .int 0), (0, .ref b), (1, .ref (ad 0)), (2, .ref (ad 5060)), (3, .ref zo), (4, .int (nI (4 * j)))] := hl
    refine lv_aload_n hx hb dL_law_969 rfl (lv_at hl 4 rfl) ?_
    refine ro_i (va_Run.run (va_runV (As := []) (rest := []) ⟨hx, hb, hml, hown, hT⟩ (m_thrown l D cT (ad 5060) yr (va_up (va_up yi 1 0) 17 (nI k9)) ysb ybs) ⟨callB_of 0 hT (tb_gd w1290) rfl rfl rfl (hT _ w13) (hT _ w1287) hM_thrown ⟨Nat.le_of_ble_eq_true rfl, Nat.le_of_ble_eq_true rfl⟩, (hT _ w1288), (hT _ w1289)⟩ (RO.preV (ci := 11) (q0 := 0) hZ hS ((show va_P D vwCl [(ad 5060, .inr (11, MO yr (va_up (va_up yi 1 0) 17 (nI k9)) ysb ybs))] _ from (pv_c (pg_1 (x := 5060) hcd hP (by decide) gy_0) pv_0))) hK rfl rfl) rfl rfl hl.1 rfl (lv_room (Nat.le_of_ble_eq_true rfl)) dL_law_970 ⟨(by show (((2000 + j + 3 * fm + 4 * SM mk 16) + 0) + 0) + 0 ≤ 601024; omega), (by show (((400000 + 6 * j + 42 * fm + 69 * SM mk 16) + 0) + 0) + 0 ≤ 7293034; omega)⟩)) ?_
    refine lv_topi (fun y9 e9 => ?_)
    cases (show y9 = 0 from e9.trans rfl)
    refine lv_iload hx hb dL_law_973 (lv_at hl 1 rfl) ?_
    refine lv_icmp_eq (tgt := 980) hx hb dL_law_975 rfl (fun _ => ?_) (fun h3 => absurd (by decide) h3)
    refine lv_iload hx hb dL_law_980 (lv_at hl 1 rfl) ?_
    refine lv_if_ne (tgt := 997) hx hb dL_law_982 rfl (fun h4 => absurd (by decide) h4) (fun _ => ?_)
    refine lv_aload_n hx hb dL_law_985 rfl (lv_at hl 5 rfl) ?_
    refine lv_iconst (v := 0) hx hb dL_law_986 (by decide) ?_
    refine va_lald hx hb hK hP 0 1 rfl rfl (by unfold vp_in; decide) dL_law_987 ?_
    refine lv_iload hx hb dL_law_988 (lv_at hl 0 rfl) ?_
    refine lv_i2l hx hb dL_law_990 rfl ?_
    refine W.lcmp hx hb dL_law_991 ?_
    refine lv_if_eq (tgt := 997) hx hb dL_law_992 rfl (fun _ => ?_) (fun h5 => absurd ((lg_cmp_eq _ _).mpr (pk_uLs.trans (congrArg Int32.toInt64 (cR.trans (by rw [hpu2, y17]; exact (pk_sub (a := T) (b := k9) hk2).symm))))) h5)
    refine lv_goto (tgt := 1690) hx hb dL_law_997 rfl ?_
    obtain ⟨yiz, hyiz⟩ : ∃ f9 : Nat → Int32, f9 = va_up (va_up yi 1 0) 17 (nI k9) := ⟨_, rfl⟩
    have hIz : LWI cT ad gg7u1 tE k9 fm mk F n wd dpt lst w ru rl ne Lo yiz ysb yA := (by rw [hyiz]; exact ⟨fo, CLI.up hCL hk2 (fun z8 n0 n1 n3 n4 n5 n6 n7 => cF z8 (by omega)) c0n ((cF _ (by omega)).trans chtb) (by obtain ⟨ft9, e1, e2⟩ := hTg; exact ⟨ft9, (cF _ (by omega)).trans e1, e2⟩) ((cF _ (by omega)).trans chpl) (chCf.cg (fun z8 n1 n2 => cF z8 (by omega))) (hOut.cg (fun z8 n1 n2 => cF z8 (by omega))) (⟨sa9, (cF _ (by omega)).trans hso⟩), ⟨y2, y3, y10, y11, y12, y13, y14, rfl, y47, y55, y8e, (fun t ht => y18e t (by omega)), (fun t ht => hRFN t (by omega)), hPR, hfoy⟩, ⟨(by omega), (by omega), hn48, hwd6, hdp4, hls2, hw20, hr9, hLo, hne, hik, ⟨hTOK.1, fun t ht => hTOK.2 t (by omega)⟩, hS9, hVk, hVb, htg, (fun t ht => hSEP t (by omega)), hSV7⟩⟩)
    have hIz := hIz.yg (g2 := gy) (fun z8 hz => fgy z8 (by omega))
    have hYz : YCL cT ad gy y yr yiz ysb ybs yA yW F := by
      refine ⟨hYad, hyr, (by rw [hyiz]; exact gy_0), fun k hk => ?_⟩
      have hk2 : k = 0 ∨ (4 ≤ k ∧ k ≤ 9) ∨ (18 ≤ k ∧ k ≤ 46) ∨ k = 48 ∨ k = 49 ∨ (56 ≤ k ∧ k ≤ 59) := hk
      exact (fgy (5000 + k) (by omega)).trans ((cF (5000 + k) (by omega)).trans ((hYA k hk).trans (congrArg some (ycl_o rfl).symm)))
    rw [hyiz] at hIz hYz
    refine W.widen (k := 2000 + (j + 1) + 3 * fm + 4 * SM mk 16) (n := 400000 + 6 * (j + 1) + 42 * fm + 69 * SM mk 16) (by show ((2000 + j + 3 * fm + 4 * SM mk 16) + 0) + 0 ≤ 2000 + (j + 1) + 3 * fm + 4 * SM mk 16; omega) (by show ((400000 + 6 * j + 42 * fm + 69 * SM mk 16) + 0) + 0 ≤ 400000 + 6 * (j + 1) + 42 * fm + 69 * SM mk 16; omega) ?_
    have hl := lv_sub hl [2, 3, 4, 5, 6] rfl
    have hl : lv_has ls 7 [(0, .ref b), (1, .ref (ad 0)), (2, .ref y), (3, .ref zo), (4, .int (nI (4 * j)))] := by rw [← hYz.1]; exact hl
    exact hend ad gy k9 fm mk F n wd dpt lst w ru rl ne Lo (va_up (va_up yi 1 0) 17 (nI k9)) ysb ybs yA yW (vp_updL zf 0 (Int32.toInt64 rvu1)) _ _ ls hIz hYz hP hD hS hl
  · refine lv_aload_n hx hb dL_law_944 rfl (lv_at hl 1 rfl) ?_
    refine lv_aload_n hx hb dL_law_945 rfl (lv_at hl 0 rfl) ?_
    refine lv_iload hx hb dL_law_946 (lv_at hl 4 rfl) ?_
    refine lv_iconst (v := 1) hx hb dL_law_948 (by decide) ?_
    refine lv_iadd hx hb dL_law_949 ?_
    refine lv_topi (fun y9 e9 => ?_)
    cases (show y9 = nI ((4 * j) + 1) from e9.trans (nI_add (4 * j) 1))
    refine va_sld hx hb hX hbl hbA hS (vp_in_nI (n := 4 * j + 1) (N := L) (by omega) (by omega)) dL_law_950 ?_
    refine lv_topi (fun y9 e9 => ?_)
    cases (show y9 = a1 from e9.trans (by rw [nI_clamp (by omega)]; exact ha1.symm))
    refine lv_aload_n hx hb dL_law_951 rfl (lv_at hl 3 rfl) ?_
    refine hy_iP (X := [(zo, .inl (cT 1, 1, .inr (.inl zf)))]) (pl := pg cds ad gg) (cx := [(zo, .inl (cT 1, 1, .inr (.inl zf)))]) (wr := []) hP hD hS hA [0] [] rfl rfl (by decide) (by decide) (tx_runSH (As := [.ref (ad 0), .int a1, .ref zo]) (rest := []) ⟨hx, hb, hml, hown, hT⟩ (l_drop_no l D cT cds ad gg T a1 zo zf hlt hcd hob hq _) hT (tc_gd w987 w988 w0 (tb_gd w989)) rfl rfl rfl hL_drop ⟨Nat.le_of_ble_eq_true rfl, Nat.le_of_ble_eq_true rfl⟩ (RW.preS hZ hS (va_freeP (cx := [(zo, .inl (cT 1, 1, .inr (.inl zf)))]) hD hS hA [0] rfl) (hP.part (cx := [(zo, .inl (cT 1, 1, .inr (.inl zf)))]) [0] rfl) hK (hD.part (cx := [(zo, .inl (cT 1, 1, .inr (.inl zf)))]) [0] (by decide) rfl)) rfl hl.1 rfl (Nat.le_of_ble_eq_true rfl) dL_law_952 ⟨(by show (2000 + j + 3 * fm + 4 * SM mk 16) + 1 ≤ 601024; omega), (by show (400000 + 6 * j + 42 * fm + 69 * SM mk 16) + 6 ≤ 7293034; omega)⟩) (fun ru6 u9 H locs hpu6 hP hD hS => ?_)
    have hpu6 : ru6 = 1 := hpu6
    have hP : va_P D vwCl ([(zo, .inl (cT 1, 1, .inr (.inl zf)))] ++ pg cds ad gg) _ := hP
    have hD : va_D A ([(zo, .inl (cT 1, 1, .inr (.inl zf)))] ++ pg cds ad gg) := hD
    refine lv_topi (fun y9 e9 => ?_)
    cases (show y9 = 1 from e9.trans hpu6)
    refine lv_istore hx hb dL_law_955 hl (by decide) rfl (fun ls hl => ?_)
    have hl : lv_has ls 7 [(5, .int 1), (0, .ref b), (1, .ref (ad 0)), (2, .ref (ad 5060)), (3, .ref zo), (4, .int (nI (4 * j)))] := hl
    refine lv_aload_n hx hb dL_law_957 rfl (lv_at hl 3 rfl) ?_
    refine lv_aload_n hx hb dL_law_958 rfl (lv_at hl 1 rfl) ?_
    refine lv_iload hx hb dL_law_959 (lv_at hl 5 rfl) ?_
    refine lv_iconst (v := 1) hx hb dL_law_961 (by decide) ?_
    refine lv_iadd hx hb dL_law_962 ?_
    refine lv_topi (fun y9 e9 => ?_)
    cases (show y9 = nI ((4 * j) + 1) from e9.trans (nI_add (4 * j) 1))
    refine va_sld hx hb hX hbl hbA hS (vp_in_nI (n := 4 * j + 1) (N := L) (by omega) (by omega)) dL_law_963 ?_
    refine lv_topi (fun y9 e9 => ?_)
    cases (show y9 = a1 from e9.trans (by rw [nI_clamp (by omega)]; exact ha1.symm))
    have hB9 : QI gg [(5060, .inr (11, MO yr yi ysb ybs))] := (qi_c (by decide) hYy qi_0)
    have hN9 := (show NDc [5060] from (nd_c na_0 nd_0))
    have hP := bo_P (wc := [(5060, .inr (11, MO yr yi ysb ybs))]) (X := [(zo, .inl (cT 1, 1, .inr (.inl zf)))]) hcd hN9 hB9 hP
    have hD := bo_D (wc := [(5060, .inr (11, MO yr yi ysb ybs))]) (X := [(zo, .inl (cT 1, 1, .inr (.inl zf)))]) hcd hN9 hB9 hD
    have hP : va_P D vwCl ([(zo, .inl (cT 1, 1, .inr (.inl zf))), (ad 5060, .inr (11, MO yr yi ysb ybs))] ++ pg cds ad (upo gg [5060])) _ := hP
    have hD : va_D A ([(zo, .inl (cT 1, 1, .inr (.inl zf))), (ad 5060, .inr (11, MO yr yi ysb ybs))] ++ pg cds ad (upo gg [5060])) := hD
    refine hy_iQ (X := [(zo, .inl (cT 1, 1, .inr (.inl zf))), (ad 5060, .inr (11, MO yr yi ysb ybs))]) (pl := pg cds ad (upo gg [5060])) (cx := [(ad 5060, .inr (11, MO yr yi ysb ybs))]) (wr := [(zo, .inl (cT 1, 1, .inr (.inl zf)))]) hP hD hS hA [1] [0] rfl rfl (by decide) (by decide) (va_runV (As := [.int a1]) (rest := []) ⟨hx, hb, hml, hown, hT⟩ (y_drop_no l D cT (ad 5060) yr yi ysb ybs a1 (by rw [y17]; exact hq) _) ⟨callB_of 1 hT (tb_gd w1527) rfl rfl rfl (hT _ w13) (hT _ w1524) hM_drop ⟨Nat.le_of_ble_eq_true rfl, Nat.le_of_ble_eq_true rfl⟩, (hT _ w1525), (hT _ w1526)⟩ (RW.preV (ci := 11) (q0 := 0) hZ hS (hy_free (cx := [(ad 5060, .inr (11, MO yr yi ysb ybs))]) hD hS hA [1] rfl) (hP.sub (ws' := [(ad 5060, .inr (11, MO yr yi ysb ybs))]) [1] rfl) hK (hD.sub (ws' := [(ad 5060, .inr (11, MO yr yi ysb ybs))]) [1] (by decide) rfl) rfl rfl) rfl rfl hl.1 rfl (lv_room (Nat.le_of_ble_eq_true rfl)) dL_law_964 ⟨(by show ((2000 + j + 3 * fm + 4 * SM mk 16) + 1) + 0 ≤ 601024; omega), (by show ((400000 + 6 * j + 42 * fm + 69 * SM mk 16) + 6) + 0 ≤ 7293034; omega)⟩) (fun ru7 u9 H locs hpu7 hP hD hS => ?_)
    have hpu7 : ru7 = 0 := hpu7
    have hP : va_P D vwCl ([(zo, .inl (cT 1, 1, .inr (.inl zf))), (ad 5060, .inr (11, MO yr (va_up yi 1 1) ysb ybs))] ++ pg cds ad (upo gg [5060])) _ := hP
    have hD : va_D A ([(zo, .inl (cT 1, 1, .inr (.inl zf))), (ad 5060, .inr (11, MO yr (va_up yi 1 1) ysb ybs))] ++ pg cds ad (upo gg [5060])) := hD
    refine lv_topi (fun y9 e9 => ?_)
    cases (show y9 = 0 from e9.trans hpu7)
    have hN9 := (show NDc [5060] from (nd_c na_0 nd_0))
    have hP := gb_P (w9 := [(5060, .inr (11, MO yr (va_up yi 1 1) ysb ybs))]) (X := [(zo, .inl (cT 1, 1, .inr (.inl zf)))]) (g := gg) hcd hN9 (show QB [(5060, .inr (11, MO yr (va_up yi 1 1) ysb ybs))] from (qb_c (by decide) qb_0)) (hP.part (cx := [(zo, .inl (cT 1, 1, .inr (.inl zf))), (ad 5060, .inr (11, MO yr (va_up yi 1 1) ysb ybs))]) [0, 1] rfl)
    have hD := gb_D (w9 := [(5060, .inr (11, MO yr (va_up yi 1 1) ysb ybs))]) (X := [(zo, .inl (cT 1, 1, .inr (.inl zf)))]) (g := gg) hcd hN9 (show QB [(5060, .inr (11, MO yr (va_up yi 1 1) ysb ybs))] from (qb_c (by decide) qb_0)) (hD.part (cx := [(zo, .inl (cT 1, 1, .inr (.inl zf))), (ad 5060, .inr (11, MO yr (va_up yi 1 1) ysb ybs))]) [0, 1] (by decide) rfl)
    obtain ⟨gy, hgy⟩ : ∃ q9, q9 = ups gg [(5060, .inr (11, MO yr (va_up yi 1 1) ysb ybs))] := ⟨_, rfl⟩
    rw [← hgy] at hP hD
    have hP : va_P D vwCl ([(zo, .inl (cT 1, 1, .inr (.inl zf)))] ++ pg cds ad gy) _ := hP
    have hD : va_D A ([(zo, .inl (cT 1, 1, .inr (.inl zf)))] ++ pg cds ad gy) := hD
    have fgy : ∀ z8, z8 ≠ 5060 → gy z8 = gg z8 := fun z8 z1 => by rw [hgy]; exact ups_k (kp_n z1 kp_0)
    have gy_0 : gy 5060 = some (.inr (11, MO yr (va_up yi 1 1) ysb ybs)) := by rw [hgy]; exact ups_1
    refine lv_istore hx hb dL_law_967 hl (by decide) rfl (fun ls hl => ?_)
    have hl : lv_has ls 7 [(6, .int 0), (5, .int 1), (0, .ref b), (1, .ref (ad 0)), (2, .ref (ad 5060)), (3, .ref zo), (4, .int (nI (4 * j)))] := hl
    refine lv_aload_n hx hb dL_law_969 rfl (lv_at hl 4 rfl) ?_
    refine ro_i (va_Run.run (va_runV (As := []) (rest := []) ⟨hx, hb, hml, hown, hT⟩ (m_thrown l D cT (ad 5060) yr (va_up yi 1 1) ysb ybs) ⟨callB_of 0 hT (tb_gd w1290) rfl rfl rfl (hT _ w13) (hT _ w1287) hM_thrown ⟨Nat.le_of_ble_eq_true rfl, Nat.le_of_ble_eq_true rfl⟩, (hT _ w1288), (hT _ w1289)⟩ (RO.preV (ci := 11) (q0 := 0) hZ hS ((show va_P D vwCl [(ad 5060, .inr (11, MO yr (va_up yi 1 1) ysb ybs))] _ from (pv_c (pg_1 (x := 5060) hcd hP (by decide) gy_0) pv_0))) hK rfl rfl) rfl rfl hl.1 rfl (lv_room (Nat.le_of_ble_eq_true rfl)) dL_law_970 ⟨(by show (((2000 + j + 3 * fm + 4 * SM mk 16) + 1) + 0) + 0 ≤ 601024; omega), (by show (((400000 + 6 * j + 42 * fm + 69 * SM mk 16) + 6) + 0) + 0 ≤ 7293034; omega)⟩)) ?_
    refine lv_topi (fun y9 e9 => ?_)
    cases (show y9 = 1 from e9.trans rfl)
    refine lv_iload hx hb dL_law_973 (lv_at hl 1 rfl) ?_
    refine lv_icmp_eq (tgt := 980) hx hb dL_law_975 rfl (fun _ => ?_) (fun h8 => absurd (by decide) h8)
    refine lv_iload hx hb dL_law_980 (lv_at hl 1 rfl) ?_
    refine lv_if_ne (tgt := 997) hx hb dL_law_982 rfl (fun _ => ?_) (fun h9 => absurd h9 (by decide))
    refine lv_goto (tgt := 1690) hx hb dL_law_997 rfl ?_
    obtain ⟨yiz, hyiz⟩ : ∃ f9 : Nat → Int32, f9 = va_up yi 1 1 := ⟨_, rfl⟩
    have hIz : LWI cT ad gg tE T fm mk F n wd dpt lst w ru rl ne Lo yiz ysb yA := hI.sc (fun k hk => by rw [hyiz]; exact va_up_ne _ _ hk) (fun _ _ => rfl)
    have hIz := hIz.yg (g2 := gy) (fun z8 hz => fgy z8 (by omega))
    have hYz : YCL cT ad gy y yr yiz ysb ybs yA yW F := by
      refine ⟨hYad, hyr, (by rw [hyiz]; exact gy_0), fun k hk => ?_⟩
      have hk2 : k = 0 ∨ (4 ≤ k ∧ k ≤ 9) ∨ (18 ≤ k ∧ k ≤ 46) ∨ k = 48 ∨ k = 49 ∨ (56 ≤ k ∧ k ≤ 59) := hk
      exact (fgy (5000 + k) (by omega)).trans ((hYA k hk).trans (congrArg some (ycl_o rfl).symm))
    rw [hyiz] at hIz hYz
    refine W.widen (k := 2000 + (j + 1) + 3 * fm + 4 * SM mk 16) (n := 400000 + 6 * (j + 1) + 42 * fm + 69 * SM mk 16) (by show ((2000 + j + 3 * fm + 4 * SM mk 16) + 1) + 0 ≤ 2000 + (j + 1) + 3 * fm + 4 * SM mk 16; omega) (by show ((400000 + 6 * j + 42 * fm + 69 * SM mk 16) + 6) + 0 ≤ 400000 + 6 * (j + 1) + 42 * fm + 69 * SM mk 16; omega) ?_
    have hl := lv_sub hl [2, 3, 4, 5, 6] rfl
    have hl : lv_has ls 7 [(0, .ref b), (1, .ref (ad 0)), (2, .ref y), (3, .ref zo), (4, .int (nI (4 * j)))] := by rw [← hYz.1]; exact hl
    exact hend ad gy T fm mk F n wd dpt lst w ru rl ne Lo (va_up yi 1 1) ysb ybs yA yW zf _ _ ls hIz hYz hP hD hS hl
set_option maxHeartbeats 8000000 in
set_option maxRecDepth 100000 in
theorem lo_3 {p : Program} {l : Launch} {e : Env} {s : State} {m : MethodId} {args : Array Value} {below : List Frame} {meth : Method} {c : Code} {Q : State → Prop} {A : Nat → Prop} {H : Heap} {locs : List Loc} {ls : Array Slot} {b L : Nat} {xs : Nat → Int32} (D : va_G) (cT : Nat → ClassId) (cds : List Nat) (tE mE y : Nat) (yr : Nat → Nat) (zo j : Nat) (ad : Nat → Nat) (gg : Nat → Option va_E) (T : Nat) (fm : Nat) (mk : Nat → Nat) (F : TFR) (n : Nat) (wd : Nat) (dpt : Nat) (lst : Nat) (w : Nat) (ru : Nat) (rl : Nat) (ne : Nat → Nat) (Lo : Nat) (yi : Nat → Int32) (ysb : Int64) (ybs : Int64) (yA : Nat → Nat → Int32) (yW : Nat → Int64) (zf : Nat → Int64) (hlt : l.stackTraces = false) (hx : p.tables.exec = Jvm.exec) (hb : c.code = code) (hml : c.maxLocals = 7) (hown : s.vm.findClass "ResidualTreesLaw" = some m.cls) (hT : ∀ w ∈ TB, w.before args s = true) (hZ : ZZ A s s.heap) (hE0 : ZE tE mE A s s.heap) (hK : va_K D vwCl (TY cT) s) (hA : ∀ q : Nat, s.heap.size ≤ q → A q) (hX : va_X b L xs s s.heap) (hbl : b < s.heap.size) (hbA : ¬ A b) (hcd : CD cds) (hj : 4 * j + 4 ≤ L) (hL : L ≤ 2048) (hI : LWI cT ad gg tE T fm mk F n wd dpt lst w ru rl ne Lo yi ysb yA) (hYC : YCL cT ad gg y yr yi ysb ybs yA yW F) (hP : va_P D vwCl ([(zo, .inl (cT 1, 1, .inr (.inl zf)))] ++ pg cds ad gg) H) (hD : va_D A ([(zo, .inl (cT 1, 1, .inr (.inl zf)))] ++ pg cds ad gg)) (hS : va_S A s.heap H locs) (hl : lv_has ls 7 [(0, .ref b), (1, .ref (ad 0)), (2, .ref y), (3, .ref zo), (4, .int (nI (4 * j)))]) (hend : LEN2 p l e s m args below meth c Q A D cT cds tE y yr zo b j) : W p l e room_1 s m args below meth c H locs (2000 + j + 3 * fm + 4 * SM mk 16) (400000 + 6 * j + 42 * fm + 69 * SM mk 16) Q (F0 m 320 ls []) := by
  obtain ⟨a1, ha1⟩ : ∃ q9 : Int32, q9 = xs (4 * j + 1) := ⟨_, rfl⟩
  obtain ⟨a2, ha2⟩ : ∃ q9 : Int32, q9 = xs (4 * j + 2) := ⟨_, rfl⟩
  obtain ⟨a3, ha3⟩ : ∃ q9 : Int32, q9 = xs (4 * j + 3) := ⟨_, rfl⟩
  obtain ⟨hfm16, hSM⟩ := lwi_b hI
  obtain ⟨hYad, hYr0, hYy, hYA⟩ := hYC
  have hyr := hYr0
  obtain ⟨fo, hCL, hRF, hPU⟩ := id hI
  obtain ⟨hTV, hOut, ⟨sa9, hso⟩, ⟨zq9, hS1⟩, ⟨zr9, hS2⟩, ⟨z58, hS3⟩⟩ := id hCL
  obtain ⟨hob, hTg, hFT, hTs, ⟨zs0, hGB⟩, ⟨zf0, hLf⟩, ⟨zc0, hCm⟩⟩ := id hTV
  obtain ⟨chtb, chRs, chCa, chCf, chpl, chGa, chSc, chGs, ⟨cfo, chod⟩, cbb9, ctt9, cb90, cik0, chgr, chbt, chSP⟩ := id hGB
  obtain ⟨y2, y3, y10, y11, y12, y13, y14, y17, y47, y55, y8e, y18e, hRFN, hPR, hfoy⟩ := id hRF
  obtain ⟨hTf, hT16, hn48, hwd6, hdp4, hls2, hw20, hr9, hLo, hne, hik, hTOK, hS9, hVk, hVb, htg, hSEP, hSV7⟩ := id hPU
  have hl : lv_has ls 7 [(0, .ref b), (1, .ref (ad 0)), (2, .ref (ad 5060)), (3, .ref zo), (4, .int (nI (4 * j)))] := by rw [hYad]; exact hl
  by_cases hq : (0 ≤ a1 ∧ a1 ≤ nI n - 1) ∧ ((-1000) ≤ a2 ∧ a2 ≤ 1000)
  · obtain ⟨r8, hr8, rfl⟩ := i_nat (n := n) (by omega) hq.1
    refine lv_aload_n hx hb dL_law_320 rfl (lv_at hl 1 rfl) ?_
    refine lv_aload_n hx hb dL_law_321 rfl (lv_at hl 0 rfl) ?_
    refine lv_iload hx hb dL_law_322 (lv_at hl 4 rfl) ?_
    refine lv_iconst (v := 1) hx hb dL_law_324 (by decide) ?_
    refine lv_iadd hx hb dL_law_325 ?_
    refine lv_topi (fun y9 e9 => ?_)
    cases (show y9 = nI ((4 * j) + 1) from e9.trans (nI_add (4 * j) 1))
    refine va_sld hx hb hX hbl hbA hS (vp_in_nI (n := 4 * j + 1) (N := L) (by omega) (by omega)) dL_law_326 ?_
    refine lv_topi (fun y9 e9 => ?_)
    cases (show y9 = nI r8 from e9.trans (by rw [nI_clamp (by omega)]; exact ha1.symm))
    refine lv_aload_n hx hb dL_law_327 rfl (lv_at hl 0 rfl) ?_
    refine lv_iload hx hb dL_law_328 (lv_at hl 4 rfl) ?_
    refine lv_iconst (v := 2) hx hb dL_law_330 (by decide) ?_
    refine lv_iadd hx hb dL_law_331 ?_
    refine lv_topi (fun y9 e9 => ?_)
    cases (show y9 = nI ((4 * j) + 2) from e9.trans (nI_add (4 * j) 2))
    refine va_sld hx hb hX hbl hbA hS (vp_in_nI (n := 4 * j + 2) (N := L) (by omega) (by omega)) dL_law_332 ?_
    refine lv_topi (fun y9 e9 => ?_)
    cases (show y9 = a2 from e9.trans (by rw [nI_clamp (by omega)]; exact ha2.symm))
    refine lv_aload_n hx hb dL_law_333 rfl (lv_at hl 3 rfl) ?_
    refine hy_iP (X := [(zo, .inl (cT 1, 1, .inr (.inl zf)))]) (pl := pg cds ad gg) (cx := [(zo, .inl (cT 1, 1, .inr (.inl zf)))]) (wr := []) hP hD hS hA [0] [] rfl rfl (by decide) (by decide) (tx_runSH (As := [.ref (ad 0), .int (nI r8), .int a2, .ref zo]) (rest := []) ⟨hx, hb, hml, hown, hT⟩ (l_target l D cT cds ad gg (nI T) (nI wd) (nI n) n (yA 4) r8 a2 zo zf hcd hob chtb hTg hn48 hq.1 hr8 hq.2 _) hT (tc_gd w637 w638 w0 (tb_gd w639)) rfl rfl rfl hL_target ⟨Nat.le_of_ble_eq_true rfl, Nat.le_of_ble_eq_true rfl⟩ (RW.preS hZ hS (va_freeP (cx := [(zo, .inl (cT 1, 1, .inr (.inl zf)))]) hD hS hA [0] rfl) (hP.part (cx := [(zo, .inl (cT 1, 1, .inr (.inl zf)))]) [0] rfl) hK (hD.part (cx := [(zo, .inl (cT 1, 1, .inr (.inl zf)))]) [0] (by decide) rfl)) rfl hl.1 rfl (Nat.le_of_ble_eq_true rfl) dL_law_334 ⟨(by show (2000 + j + 3 * fm + 4 * SM mk 16) + 0 ≤ 601024; omega), (by show (400000 + 6 * j + 42 * fm + 69 * SM mk 16) + 0 ≤ 7293034; omega)⟩) (fun ru1 u9 H locs hpu1 hP hD hS => ?_)
    obtain ⟨gg7u1, rvu1⟩ := u9
    have hpu1 : ru1 = 0 ∧ rvu1 = (yA 4) r8 ∧ (∀ z8, z8 ≠ 3 → gg7u1 z8 = gg z8) ∧ TGp cT gg7u1 n (upd (yA 4) r8 a2) := hpu1
    have hP : va_P D vwCl ([(zo, .inl (cT 1, 1, .inr (.inl (vp_updL zf 0 (Int32.toInt64 rvu1)))))] ++ pg cds ad gg7u1) _ := hP
    have hD : va_D A ([(zo, .inl (cT 1, 1, .inr (.inl (vp_updL zf 0 (Int32.toInt64 rvu1)))))] ++ pg cds ad gg7u1) := hD
    refine lv_topi (fun y9 e9 => ?_)
    cases (show y9 = 0 from e9.trans hpu1.1)
    obtain ⟨_, cR, cF, c3n⟩ := hpu1
    refine lv_istore hx hb dL_law_337 hl (by decide) rfl (fun ls hl => ?_)
    have hl : lv_has ls 7 [(5, .int 0), (0, .ref b), (1, .ref (ad 0)), (2, .ref (ad 5060)), (3, .ref zo), (4, .int (nI (4 * j)))] := hl
    refine lv_aload_n hx hb dL_law_339 rfl (lv_at hl 3 rfl) ?_
    refine lv_aload_n hx hb dL_law_340 rfl (lv_at hl 1 rfl) ?_
    refine lv_iload hx hb dL_law_341 (lv_at hl 5 rfl) ?_
    refine lv_iconst (v := 1) hx hb dL_law_343 (by decide) ?_
    refine lv_iadd hx hb dL_law_344 ?_
    refine lv_topi (fun y9 e9 => ?_)
    cases (show y9 = nI ((4 * j) + 1) from e9.trans (nI_add (4 * j) 1))
    refine va_sld hx hb hX hbl hbA hS (vp_in_nI (n := 4 * j + 1) (N := L) (by omega) (by omega)) dL_law_345 ?_
    refine lv_topi (fun y9 e9 => ?_)
    cases (show y9 = nI r8 from e9.trans (by rw [nI_clamp (by omega)]; exact ha1.symm))
    refine lv_aload_n hx hb dL_law_346 rfl (lv_at hl 1 rfl) ?_
    refine lv_iload hx hb dL_law_347 (lv_at hl 5 rfl) ?_
    refine lv_iconst (v := 2) hx hb dL_law_349 (by decide) ?_
    refine lv_iadd hx hb dL_law_350 ?_
    refine lv_topi (fun y9 e9 => ?_)
    cases (show y9 = nI ((4 * j) + 2) from e9.trans (nI_add (4 * j) 2))
    refine va_sld hx hb hX hbl hbA hS (vp_in_nI (n := 4 * j + 2) (N := L) (by omega) (by omega)) dL_law_351 ?_
    refine lv_topi (fun y9 e9 => ?_)
    cases (show y9 = a2 from e9.trans (by rw [nI_clamp (by omega)]; exact ha2.symm))
    have hB9 : QI gg7u1 [(5060, .inr (11, MO yr yi ysb ybs)), (5004, .inl (cT 0, 48, .inl (yA 4)))] := (qi_c (by decide) ((cF 5060 (by omega)).trans hYy) (qi_c (by decide) ((cF 5004 (by omega)).trans (hYA 4 (by unfold YKy; omega))) qi_0))
    have hN9 := (show NDc [5060, 5004] from (nd_c (na_c (by decide) na_0) (nd_c na_0 nd_0)))
    have hP := bo_P (wc := [(5060, .inr (11, MO yr yi ysb ybs)), (5004, .inl (cT 0, 48, .inl (yA 4)))]) (X := [(zo, .inl (cT 1, 1, .inr (.inl (vp_updL zf 0 (Int32.toInt64 rvu1)))))]) hcd hN9 hB9 hP
    have hD := bo_D (wc := [(5060, .inr (11, MO yr yi ysb ybs)), (5004, .inl (cT 0, 48, .inl (yA 4)))]) (X := [(zo, .inl (cT 1, 1, .inr (.inl (vp_updL zf 0 (Int32.toInt64 rvu1)))))]) hcd hN9 hB9 hD
    have hP : va_P D vwCl ([(zo, .inl (cT 1, 1, .inr (.inl (vp_updL zf 0 (Int32.toInt64 rvu1))))), (ad 5060, .inr (11, MO yr yi ysb ybs)), (ad 5004, .inl (cT 0, 48, .inl (yA 4)))] ++ pg cds ad (upo gg7u1 [5060, 5004])) _ := hP
    have hD : va_D A ([(zo, .inl (cT 1, 1, .inr (.inl (vp_updL zf 0 (Int32.toInt64 rvu1))))), (ad 5060, .inr (11, MO yr yi ysb ybs)), (ad 5004, .inl (cT 0, 48, .inl (yA 4)))] ++ pg cds ad (upo gg7u1 [5060, 5004])) := hD
    have hw9 : ([(zo, .inl (cT 1, 1, .inr (.inl (vp_updL zf 0 (Int32.toInt64 rvu1))))), (ad 5060, .inr (11, MO yr yi ysb ybs)), (yr 4, .inl (cT 0, 48, .inl (yA 4)))] ++ pg cds ad (upo gg7u1 [5060, 5004])) = ([(zo, .inl (cT 1, 1, .inr (.inl (vp_updL zf 0 (Int32.toInt64 rvu1))))), (ad 5060, .inr (11, MO yr yi ysb ybs)), (ad 5004, .inl (cT 0, 48, .inl (yA 4)))] ++ pg cds ad (upo gg7u1 [5060, 5004])) := by rw [show yr 4 = ad 5004 from (hyr 4 (by unfold YKy; omega)).symm]
    have hP := vP_eq hw9 hP
    have hD := vD_eq hw9 hD
    have hP : va_P D vwCl ([(zo, .inl (cT 1, 1, .inr (.inl (vp_updL zf 0 (Int32.toInt64 rvu1))))), (ad 5060, .inr (11, MO yr yi ysb ybs)), (yr 4, .inl (cT 0, 48, .inl (yA 4)))] ++ pg cds ad (upo gg7u1 [5060, 5004])) _ := hP
    have hD : va_D A ([(zo, .inl (cT 1, 1, .inr (.inl (vp_updL zf 0 (Int32.toInt64 rvu1))))), (ad 5060, .inr (11, MO yr yi ysb ybs)), (yr 4, .inl (cT 0, 48, .inl (yA 4)))] ++ pg cds ad (upo gg7u1 [5060, 5004])) := hD
    refine hy_iQ (X := [(zo, .inl (cT 1, 1, .inr (.inl (vp_updL zf 0 (Int32.toInt64 rvu1))))), (ad 5060, .inr (11, MO yr yi ysb ybs)), (yr 4, .inl (cT 0, 48, .inl (yA 4)))]) (pl := pg cds ad (upo gg7u1 [5060, 5004])) (cx := [(ad 5060, .inr (11, MO yr yi ysb ybs)), (yr 4, .inl (cT 0, 48, .inl (yA 4)))]) (wr := [(zo, .inl (cT 1, 1, .inr (.inl (vp_updL zf 0 (Int32.toInt64 rvu1)))))]) hP hD hS hA [1, 2] [0] rfl rfl (by decide) (by decide) (va_runV (As := [.int (nI r8), .int a2]) (rest := []) ⟨hx, hb, hml, hown, hT⟩ (y_target_ok l D cT (ad 5060) yr yi ysb ybs (yA 4) r8 a2 (by rw [y3]; exact hq.1) hq.2 (by omega) _) ⟨callB_of 2 hT (tb_gd w1330) rfl rfl rfl (hT _ w13) (hT _ w1327) hM_target ⟨Nat.le_of_ble_eq_true rfl, Nat.le_of_ble_eq_true rfl⟩, (hT _ w1328), (hT _ w1329)⟩ (RW.preV (ci := 11) (q0 := 0) hZ hS (hy_free (cx := [(ad 5060, .inr (11, MO yr yi ysb ybs)), (yr 4, .inl (cT 0, 48, .inl (yA 4)))]) hD hS hA [1, 2] rfl) (hP.sub (ws' := [(ad 5060, .inr (11, MO yr yi ysb ybs)), (yr 4, .inl (cT 0, 48, .inl (yA 4)))]) [1, 2] rfl) hK (hD.sub (ws' := [(ad 5060, .inr (11, MO yr yi ysb ybs)), (yr 4, .inl (cT 0, 48, .inl (yA 4)))]) [1, 2] (by decide) rfl) rfl rfl) rfl rfl hl.1 rfl (lv_room (Nat.le_of_ble_eq_true rfl)) dL_law_352 ⟨(by show ((2000 + j + 3 * fm + 4 * SM mk 16) + 0) + 0 ≤ 601024; omega), (by show ((400000 + 6 * j + 42 * fm + 69 * SM mk 16) + 0) + 0 ≤ 7293034; omega)⟩) (fun ru2 u9 H locs hpu2 hP hD hS => ?_)
    have hpu2 : ru2 = (yA 4) r8 := hpu2
    have hP : va_P D vwCl ([(zo, .inl (cT 1, 1, .inr (.inl (vp_updL zf 0 (Int32.toInt64 rvu1))))), (ad 5060, .inr (11, MO yr (va_up yi 1 0) ysb ybs)), (yr 4, .inl (cT 0, 48, .inl (upd (yA 4) r8 a2)))] ++ pg cds ad (upo gg7u1 [5060, 5004])) _ := hP
    have hD : va_D A ([(zo, .inl (cT 1, 1, .inr (.inl (vp_updL zf 0 (Int32.toInt64 rvu1))))), (ad 5060, .inr (11, MO yr (va_up yi 1 0) ysb ybs)), (yr 4, .inl (cT 0, 48, .inl (upd (yA 4) r8 a2)))] ++ pg cds ad (upo gg7u1 [5060, 5004])) := hD
    have hw9 : ([(zo, .inl (cT 1, 1, .inr (.inl (vp_updL zf 0 (Int32.toInt64 rvu1))))), (ad 5060, .inr (11, MO yr (va_up yi 1 0) ysb ybs)), (ad 5004, .inl (cT 0, 48, .inl (upd (yA 4) r8 a2)))] ++ pg cds ad (upo gg7u1 [5060, 5004])) = ([(zo, .inl (cT 1, 1, .inr (.inl (vp_updL zf 0 (Int32.toInt64 rvu1))))), (ad 5060, .inr (11, MO yr (va_up yi 1 0) ysb ybs)), (yr 4, .inl (cT 0, 48, .inl (upd (yA 4) r8 a2)))] ++ pg cds ad (upo gg7u1 [5060, 5004])) := by rw [show ad 5004 = yr 4 from hyr 4 (by unfold YKy; omega)]
    have hP := vP_eq hw9 hP
    have hD := vD_eq hw9 hD
    have hP : va_P D vwCl ([(zo, .inl (cT 1, 1, .inr (.inl (vp_updL zf 0 (Int32.toInt64 rvu1))))), (ad 5060, .inr (11, MO yr (va_up yi 1 0) ysb ybs)), (ad 5004, .inl (cT 0, 48, .inl (upd (yA 4) r8 a2)))] ++ pg cds ad (upo gg7u1 [5060, 5004])) _ := hP
    have hD : va_D A ([(zo, .inl (cT 1, 1, .inr (.inl (vp_updL zf 0 (Int32.toInt64 rvu1))))), (ad 5060, .inr (11, MO yr (va_up yi 1 0) ysb ybs)), (ad 5004, .inl (cT 0, 48, .inl (upd (yA 4) r8 a2)))] ++ pg cds ad (upo gg7u1 [5060, 5004])) := hD
    have hN9 := (show NDc [5060, 5004] from (nd_c (na_c (by decide) na_0) (nd_c na_0 nd_0)))
    have hP := gb_P (w9 := [(5060, .inr (11, MO yr (va_up yi 1 0) ysb ybs)), (5004, .inl (cT 0, 48, .inl (upd (yA 4) r8 a2)))]) (X := [(zo, .inl (cT 1, 1, .inr (.inl (vp_updL zf 0 (Int32.toInt64 rvu1)))))]) (g := gg7u1) hcd hN9 (show QB [(5060, .inr (11, MO yr (va_up yi 1 0) ysb ybs)), (5004, .inl (cT 0, 48, .inl (upd (yA 4) r8 a2)))] from (qb_c (by decide) (qb_c (by decide) qb_0))) (hP.part (cx := [(zo, .inl (cT 1, 1, .inr (.inl (vp_updL zf 0 (Int32.toInt64 rvu1))))), (ad 5060, .inr (11, MO yr (va_up yi 1 0) ysb ybs)), (ad 5004, .inl (cT 0, 48, .inl (upd (yA 4) r8 a2)))]) [0, 1, 2] rfl)
    have hD := gb_D (w9 := [(5060, .inr (11, MO yr (va_up yi 1 0) ysb ybs)), (5004, .inl (cT 0, 48, .inl (upd (yA 4) r8 a2)))]) (X := [(zo, .inl (cT 1, 1, .inr (.inl (vp_updL zf 0 (Int32.toInt64 rvu1)))))]) (g := gg7u1) hcd hN9 (show QB [(5060, .inr (11, MO yr (va_up yi 1 0) ysb ybs)), (5004, .inl (cT 0, 48, .inl (upd (yA 4) r8 a2)))] from (qb_c (by decide) (qb_c (by decide) qb_0))) (hD.part (cx := [(zo, .inl (cT 1, 1, .inr (.inl (vp_updL zf 0 (Int32.toInt64 rvu1))))), (ad 5060, .inr (11, MO yr (va_up yi 1 0) ysb ybs)), (ad 5004, .inl (cT 0, 48, .inl (upd (yA 4) r8 a2)))]) [0, 1, 2] (by decide) rfl)
    obtain ⟨gy, hgy⟩ : ∃ q9, q9 = ups gg7u1 [(5060, .inr (11, MO yr (va_up yi 1 0) ysb ybs)), (5004, .inl (cT 0, 48, .inl (upd (yA 4) r8 a2)))] := ⟨_, rfl⟩
    rw [← hgy] at hP hD
    have hP : va_P D vwCl ([(zo, .inl (cT 1, 1, .inr (.inl (vp_updL zf 0 (Int32.toInt64 rvu1)))))] ++ pg cds ad gy) _ := hP
    have hD : va_D A ([(zo, .inl (cT 1, 1, .inr (.inl (vp_updL zf 0 (Int32.toInt64 rvu1)))))] ++ pg cds ad gy) := hD
    have fgy : ∀ z8, z8 ≠ 5060 → z8 ≠ 5004 → gy z8 = gg7u1 z8 := fun z8 z1 z2 => by rw [hgy]; exact ups_k (kp_n z1 (kp_n z2 kp_0))
    have gy_0 : gy 5060 = some (.inr (11, MO yr (va_up yi 1 0) ysb ybs)) := by rw [hgy]; exact ups_1
    have gy_1 : gy 5004 = some (.inl (cT 0, 48, .inl (upd (yA 4) r8 a2))) := by rw [hgy]; exact ups_2 (by decide)
    refine lv_istore hx hb dL_law_355 hl (by decide) rfl (fun ls hl => ?_)
    have hl : lv_has ls 7 [(6, .int ru2), (5, .int 0), (0, .ref b), (1, .ref (ad 0)), (2, .ref (ad 5060)), (3, .ref zo), (4, .int (nI (4 * j)))] := hl
    refine lv_aload_n hx hb dL_law_357 rfl (lv_at hl 4 rfl) ?_
    refine ro_i (va_Run.run (va_runV (As := []) (rest := []) ⟨hx, hb, hml, hown, hT⟩ (m_thrown l D cT (ad 5060) yr (va_up yi 1 0) ysb ybs) ⟨callB_of 0 hT (tb_gd w1290) rfl rfl rfl (hT _ w13) (hT _ w1287) hM_thrown ⟨Nat.le_of_ble_eq_true rfl, Nat.le_of_ble_eq_true rfl⟩, (hT _ w1288), (hT _ w1289)⟩ (RO.preV (ci := 11) (q0 := 0) hZ hS ((show va_P D vwCl [(ad 5060, .inr (11, MO yr (va_up yi 1 0) ysb ybs))] _ from (pv_c (pg_1 (x := 5060) hcd hP (by decide) gy_0) pv_0))) hK rfl rfl) rfl rfl hl.1 rfl (lv_room (Nat.le_of_ble_eq_true rfl)) dL_law_358 ⟨(by show (((2000 + j + 3 * fm + 4 * SM mk 16) + 0) + 0) + 0 ≤ 601024; omega), (by show (((400000 + 6 * j + 42 * fm + 69 * SM mk 16) + 0) + 0) + 0 ≤ 7293034; omega)⟩)) ?_
    refine lv_topi (fun y9 e9 => ?_)
    cases (show y9 = 0 from e9.trans rfl)
    refine lv_iload hx hb dL_law_361 (lv_at hl 1 rfl) ?_
    refine lv_icmp_eq (tgt := 368) hx hb dL_law_363 rfl (fun _ => ?_) (fun h3 => absurd (by decide) h3)
    refine lv_iload hx hb dL_law_368 (lv_at hl 1 rfl) ?_
    refine lv_if_ne (tgt := 385) hx hb dL_law_370 rfl (fun h4 => absurd (by decide) h4) (fun _ => ?_)
    refine lv_aload_n hx hb dL_law_373 rfl (lv_at hl 5 rfl) ?_
    refine lv_iconst (v := 0) hx hb dL_law_374 (by decide) ?_
    refine va_lald hx hb hK hP 0 1 rfl rfl (by unfold vp_in; decide) dL_law_375 ?_
    refine lv_iload hx hb dL_law_376 (lv_at hl 0 rfl) ?_
    refine lv_i2l hx hb dL_law_378 rfl ?_
    refine W.lcmp hx hb dL_law_379 ?_
    refine lv_if_eq (tgt := 385) hx hb dL_law_380 rfl (fun _ => ?_) (fun h5 => absurd ((lg_cmp_eq _ _).mpr (pk_uLs.trans (congrArg Int32.toInt64 (cR.trans hpu2.symm)))) h5)
    refine lv_goto (tgt := 1690) hx hb dL_law_385 rfl ?_
    obtain ⟨yiz, hyiz⟩ : ∃ f9 : Nat → Int32, f9 = va_up yi 1 0 := ⟨_, rfl⟩
    obtain ⟨yAz, hyAz⟩ : ∃ f9 : Nat → Nat → Int32, f9 = va_up yA 4 (upd (yA 4) r8 a2) := ⟨_, rfl⟩
    have hIz : LWI cT ad gg7u1 tE T fm mk F n wd dpt lst w ru rl ne Lo yiz ysb yAz := (by rw [hyiz, hyAz]; exact ⟨fo, CLI.up hCL (Nat.le_refl _) (fun z8 n0 n1 n3 n4 n5 n6 n7 => cF z8 (by omega)) ((cF _ (by omega)).trans hob) ((cF _ (by omega)).trans chtb) c3n ((cF _ (by omega)).trans chpl) (chCf.cg (fun z8 n1 n2 => cF z8 (by omega))) (hOut.cg (fun z8 n1 n2 => cF z8 (by omega))) (⟨sa9, (cF _ (by omega)).trans hso⟩), ⟨y2, y3, y10, y11, y12, y13, y14, y17, y47, y55, y8e, y18e, hRFN, hPR, hfoy⟩, ⟨hTf, hT16, hn48, hwd6, hdp4, hls2, hw20, hr9, hLo, hne, hik, hTOK, hS9, hVk, hVb, (tg_up htg hq.2 (fun i hi => Or.inr hi)), hSEP, hSV7⟩⟩)
    have hIz := hIz.yg (g2 := gy) (fun z8 hz => fgy z8 (by omega) (by omega))
    have hYz : YCL cT ad gy y yr yiz ysb ybs yAz yW F := by
      refine ⟨hYad, hyr, (by rw [hyiz]; exact gy_0), fun k hk => ?_⟩
      have hk2 : k = 0 ∨ (4 ≤ k ∧ k ≤ 9) ∨ (18 ≤ k ∧ k ≤ 46) ∨ k = 48 ∨ k = 49 ∨ (56 ≤ k ∧ k ≤ 59) := hk
      by_cases e4 : k = 4
      · subst e4
        rw [hyAz]; exact gy_1
      exact (fgy (5000 + k) (by omega) (by omega)).trans ((cF (5000 + k) (by omega)).trans ((hYA k hk).trans (congrArg some (ycl_o (by rw [hyAz]; exact (va_up_ne _ _ e4).trans (rfl))).symm)))
    rw [hyiz] at hIz hYz
    rw [hyAz] at hIz hYz
    refine W.widen (k := 2000 + (j + 1) + 3 * fm + 4 * SM mk 16) (n := 400000 + 6 * (j + 1) + 42 * fm + 69 * SM mk 16) (by show ((2000 + j + 3 * fm + 4 * SM mk 16) + 0) + 0 ≤ 2000 + (j + 1) + 3 * fm + 4 * SM mk 16; omega) (by show ((400000 + 6 * j + 42 * fm + 69 * SM mk 16) + 0) + 0 ≤ 400000 + 6 * (j + 1) + 42 * fm + 69 * SM mk 16; omega) ?_
    have hl := lv_sub hl [2, 3, 4, 5, 6] rfl
    have hl : lv_has ls 7 [(0, .ref b), (1, .ref (ad 0)), (2, .ref y), (3, .ref zo), (4, .int (nI (4 * j)))] := by rw [← hYz.1]; exact hl
    exact hend ad gy T fm mk F n wd dpt lst w ru rl ne Lo (va_up yi 1 0) ysb ybs (va_up yA 4 (upd (yA 4) r8 a2)) yW (vp_updL zf 0 (Int32.toInt64 rvu1)) _ _ ls hIz hYz hP hD hS hl
  · refine lv_aload_n hx hb dL_law_320 rfl (lv_at hl 1 rfl) ?_
    refine lv_aload_n hx hb dL_law_321 rfl (lv_at hl 0 rfl) ?_
    refine lv_iload hx hb dL_law_322 (lv_at hl 4 rfl) ?_
    refine lv_iconst (v := 1) hx hb dL_law_324 (by decide) ?_
    refine lv_iadd hx hb dL_law_325 ?_
    refine lv_topi (fun y9 e9 => ?_)
    cases (show y9 = nI ((4 * j) + 1) from e9.trans (nI_add (4 * j) 1))
    refine va_sld hx hb hX hbl hbA hS (vp_in_nI (n := 4 * j + 1) (N := L) (by omega) (by omega)) dL_law_326 ?_
    refine lv_topi (fun y9 e9 => ?_)
    cases (show y9 = a1 from e9.trans (by rw [nI_clamp (by omega)]; exact ha1.symm))
    refine lv_aload_n hx hb dL_law_327 rfl (lv_at hl 0 rfl) ?_
    refine lv_iload hx hb dL_law_328 (lv_at hl 4 rfl) ?_
    refine lv_iconst (v := 2) hx hb dL_law_330 (by decide) ?_
    refine lv_iadd hx hb dL_law_331 ?_
    refine lv_topi (fun y9 e9 => ?_)
    cases (show y9 = nI ((4 * j) + 2) from e9.trans (nI_add (4 * j) 2))
    refine va_sld hx hb hX hbl hbA hS (vp_in_nI (n := 4 * j + 2) (N := L) (by omega) (by omega)) dL_law_332 ?_
    refine lv_topi (fun y9 e9 => ?_)
    cases (show y9 = a2 from e9.trans (by rw [nI_clamp (by omega)]; exact ha2.symm))
    refine lv_aload_n hx hb dL_law_333 rfl (lv_at hl 3 rfl) ?_
    refine hy_iP (X := [(zo, .inl (cT 1, 1, .inr (.inl zf)))]) (pl := pg cds ad gg) (cx := [(zo, .inl (cT 1, 1, .inr (.inl zf)))]) (wr := []) hP hD hS hA [0] [] rfl rfl (by decide) (by decide) (tx_runSH (As := [.ref (ad 0), .int a1, .int a2, .ref zo]) (rest := []) ⟨hx, hb, hml, hown, hT⟩ (l_target_no l D cT cds ad gg (nI T) (nI wd) (nI n) a1 a2 zo zf hlt hcd hob chtb hq _) hT (tc_gd w637 w638 w0 (tb_gd w639)) rfl rfl rfl hL_target ⟨Nat.le_of_ble_eq_true rfl, Nat.le_of_ble_eq_true rfl⟩ (RW.preS hZ hS (va_freeP (cx := [(zo, .inl (cT 1, 1, .inr (.inl zf)))]) hD hS hA [0] rfl) (hP.part (cx := [(zo, .inl (cT 1, 1, .inr (.inl zf)))]) [0] rfl) hK (hD.part (cx := [(zo, .inl (cT 1, 1, .inr (.inl zf)))]) [0] (by decide) rfl)) rfl hl.1 rfl (Nat.le_of_ble_eq_true rfl) dL_law_334 ⟨(by show (2000 + j + 3 * fm + 4 * SM mk 16) + 1 ≤ 601024; omega), (by show (400000 + 6 * j + 42 * fm + 69 * SM mk 16) + 6 ≤ 7293034; omega)⟩) (fun ru6 u9 H locs hpu6 hP hD hS => ?_)
    have hpu6 : ru6 = 1 := hpu6
    have hP : va_P D vwCl ([(zo, .inl (cT 1, 1, .inr (.inl zf)))] ++ pg cds ad gg) _ := hP
    have hD : va_D A ([(zo, .inl (cT 1, 1, .inr (.inl zf)))] ++ pg cds ad gg) := hD
    refine lv_topi (fun y9 e9 => ?_)
    cases (show y9 = 1 from e9.trans hpu6)
    refine lv_istore hx hb dL_law_337 hl (by decide) rfl (fun ls hl => ?_)
    have hl : lv_has ls 7 [(5, .int 1), (0, .ref b), (1, .ref (ad 0)), (2, .ref (ad 5060)), (3, .ref zo), (4, .int (nI (4 * j)))] := hl
    refine lv_aload_n hx hb dL_law_339 rfl (lv_at hl 3 rfl) ?_
    refine lv_aload_n hx hb dL_law_340 rfl (lv_at hl 1 rfl) ?_
    refine lv_iload hx hb dL_law_341 (lv_at hl 5 rfl) ?_
    refine lv_iconst (v := 1) hx hb dL_law_343 (by decide) ?_
    refine lv_iadd hx hb dL_law_344 ?_
    refine lv_topi (fun y9 e9 => ?_)
    cases (show y9 = nI ((4 * j) + 1) from e9.trans (nI_add (4 * j) 1))
    refine va_sld hx hb hX hbl hbA hS (vp_in_nI (n := 4 * j + 1) (N := L) (by omega) (by omega)) dL_law_345 ?_
    refine lv_topi (fun y9 e9 => ?_)
    cases (show y9 = a1 from e9.trans (by rw [nI_clamp (by omega)]; exact ha1.symm))
    refine lv_aload_n hx hb dL_law_346 rfl (lv_at hl 1 rfl) ?_
    refine lv_iload hx hb dL_law_347 (lv_at hl 5 rfl) ?_
    refine lv_iconst (v := 2) hx hb dL_law_349 (by decide) ?_
    refine lv_iadd hx hb dL_law_350 ?_
    refine lv_topi (fun y9 e9 => ?_)
    cases (show y9 = nI ((4 * j) + 2) from e9.trans (nI_add (4 * j) 2))
    refine va_sld hx hb hX hbl hbA hS (vp_in_nI (n := 4 * j + 2) (N := L) (by omega) (by omega)) dL_law_351 ?_
    refine lv_topi (fun y9 e9 => ?_)
    cases (show y9 = a2 from e9.trans (by rw [nI_clamp (by omega)]; exact ha2.symm))
    have hB9 : QI gg [(5060, .inr (11, MO yr yi ysb ybs))] := (qi_c (by decide) hYy qi_0)
    have hN9 := (show NDc [5060] from (nd_c na_0 nd_0))
    have hP := bo_P (wc := [(5060, .inr (11, MO yr yi ysb ybs))]) (X := [(zo, .inl (cT 1, 1, .inr (.inl zf)))]) hcd hN9 hB9 hP
    have hD := bo_D (wc := [(5060, .inr (11, MO yr yi ysb ybs))]) (X := [(zo, .inl (cT 1, 1, .inr (.inl zf)))]) hcd hN9 hB9 hD
    have hP : va_P D vwCl ([(zo, .inl (cT 1, 1, .inr (.inl zf))), (ad 5060, .inr (11, MO yr yi ysb ybs))] ++ pg cds ad (upo gg [5060])) _ := hP
    have hD : va_D A ([(zo, .inl (cT 1, 1, .inr (.inl zf))), (ad 5060, .inr (11, MO yr yi ysb ybs))] ++ pg cds ad (upo gg [5060])) := hD
    refine hy_iQ (X := [(zo, .inl (cT 1, 1, .inr (.inl zf))), (ad 5060, .inr (11, MO yr yi ysb ybs))]) (pl := pg cds ad (upo gg [5060])) (cx := [(ad 5060, .inr (11, MO yr yi ysb ybs))]) (wr := [(zo, .inl (cT 1, 1, .inr (.inl zf)))]) hP hD hS hA [1] [0] rfl rfl (by decide) (by decide) (va_runV (As := [.int a1, .int a2]) (rest := []) ⟨hx, hb, hml, hown, hT⟩ (y_target_no l D cT (ad 5060) yr yi ysb ybs a1 a2 (by rw [y3]; exact hq) _) ⟨callB_of 2 hT (tb_gd w1330) rfl rfl rfl (hT _ w13) (hT _ w1327) hM_target ⟨Nat.le_of_ble_eq_true rfl, Nat.le_of_ble_eq_true rfl⟩, (hT _ w1328), (hT _ w1329)⟩ (RW.preV (ci := 11) (q0 := 0) hZ hS (hy_free (cx := [(ad 5060, .inr (11, MO yr yi ysb ybs))]) hD hS hA [1] rfl) (hP.sub (ws' := [(ad 5060, .inr (11, MO yr yi ysb ybs))]) [1] rfl) hK (hD.sub (ws' := [(ad 5060, .inr (11, MO yr yi ysb ybs))]) [1] (by decide) rfl) rfl rfl) rfl rfl hl.1 rfl (lv_room (Nat.le_of_ble_eq_true rfl)) dL_law_352 ⟨(by show ((2000 + j + 3 * fm + 4 * SM mk 16) + 1) + 0 ≤ 601024; omega), (by show ((400000 + 6 * j + 42 * fm + 69 * SM mk 16) + 6) + 0 ≤ 7293034; omega)⟩) (fun ru7 u9 H locs hpu7 hP hD hS => ?_)
    have hpu7 : ru7 = 0 := hpu7
    have hP : va_P D vwCl ([(zo, .inl (cT 1, 1, .inr (.inl zf))), (ad 5060, .inr (11, MO yr (va_up yi 1 1) ysb ybs))] ++ pg cds ad (upo gg [5060])) _ := hP
    have hD : va_D A ([(zo, .inl (cT 1, 1, .inr (.inl zf))), (ad 5060, .inr (11, MO yr (va_up yi 1 1) ysb ybs))] ++ pg cds ad (upo gg [5060])) := hD
    refine lv_topi (fun y9 e9 => ?_)
    cases (show y9 = 0 from e9.trans hpu7)
    have hN9 := (show NDc [5060] from (nd_c na_0 nd_0))
    have hP := gb_P (w9 := [(5060, .inr (11, MO yr (va_up yi 1 1) ysb ybs))]) (X := [(zo, .inl (cT 1, 1, .inr (.inl zf)))]) (g := gg) hcd hN9 (show QB [(5060, .inr (11, MO yr (va_up yi 1 1) ysb ybs))] from (qb_c (by decide) qb_0)) (hP.part (cx := [(zo, .inl (cT 1, 1, .inr (.inl zf))), (ad 5060, .inr (11, MO yr (va_up yi 1 1) ysb ybs))]) [0, 1] rfl)
    have hD := gb_D (w9 := [(5060, .inr (11, MO yr (va_up yi 1 1) ysb ybs))]) (X := [(zo, .inl (cT 1, 1, .inr (.inl zf)))]) (g := gg) hcd hN9 (show QB [(5060, .inr (11, MO yr (va_up yi 1 1) ysb ybs))] from (qb_c (by decide) qb_0)) (hD.part (cx := [(zo, .inl (cT 1, 1, .inr (.inl zf))), (ad 5060, .inr (11, MO yr (va_up yi 1 1) ysb ybs))]) [0, 1] (by decide) rfl)
    obtain ⟨gy, hgy⟩ : ∃ q9, q9 = ups gg [(5060, .inr (11, MO yr (va_up yi 1 1) ysb ybs))] := ⟨_, rfl⟩
    rw [← hgy] at hP hD
    have hP : va_P D vwCl ([(zo, .inl (cT 1, 1, .inr (.inl zf)))] ++ pg cds ad gy) _ := hP
    have hD : va_D A ([(zo, .inl (cT 1, 1, .inr (.inl zf)))] ++ pg cds ad gy) := hD
    have fgy : ∀ z8, z8 ≠ 5060 → gy z8 = gg z8 := fun z8 z1 => by rw [hgy]; exact ups_k (kp_n z1 kp_0)
    have gy_0 : gy 5060 = some (.inr (11, MO yr (va_up yi 1 1) ysb ybs)) := by rw [hgy]; exact ups_1
    refine lv_istore hx hb dL_law_355 hl (by decide) rfl (fun ls hl => ?_)
    have hl : lv_has ls 7 [(6, .int 0), (5, .int 1), (0, .ref b), (1, .ref (ad 0)), (2, .ref (ad 5060)), (3, .ref zo), (4, .int (nI (4 * j)))] := hl
    refine lv_aload_n hx hb dL_law_357 rfl (lv_at hl 4 rfl) ?_
    refine ro_i (va_Run.run (va_runV (As := []) (rest := []) ⟨hx, hb, hml, hown, hT⟩ (m_thrown l D cT (ad 5060) yr (va_up yi 1 1) ysb ybs) ⟨callB_of 0 hT (tb_gd w1290) rfl rfl rfl (hT _ w13) (hT _ w1287) hM_thrown ⟨Nat.le_of_ble_eq_true rfl, Nat.le_of_ble_eq_true rfl⟩, (hT _ w1288), (hT _ w1289)⟩ (RO.preV (ci := 11) (q0 := 0) hZ hS ((show va_P D vwCl [(ad 5060, .inr (11, MO yr (va_up yi 1 1) ysb ybs))] _ from (pv_c (pg_1 (x := 5060) hcd hP (by decide) gy_0) pv_0))) hK rfl rfl) rfl rfl hl.1 rfl (lv_room (Nat.le_of_ble_eq_true rfl)) dL_law_358 ⟨(by show (((2000 + j + 3 * fm + 4 * SM mk 16) + 1) + 0) + 0 ≤ 601024; omega), (by show (((400000 + 6 * j + 42 * fm + 69 * SM mk 16) + 6) + 0) + 0 ≤ 7293034; omega)⟩)) ?_
    refine lv_topi (fun y9 e9 => ?_)
    cases (show y9 = 1 from e9.trans rfl)
    refine lv_iload hx hb dL_law_361 (lv_at hl 1 rfl) ?_
    refine lv_icmp_eq (tgt := 368) hx hb dL_law_363 rfl (fun _ => ?_) (fun h8 => absurd (by decide) h8)
    refine lv_iload hx hb dL_law_368 (lv_at hl 1 rfl) ?_
    refine lv_if_ne (tgt := 385) hx hb dL_law_370 rfl (fun _ => ?_) (fun h9 => absurd h9 (by decide))
    refine lv_goto (tgt := 1690) hx hb dL_law_385 rfl ?_
    obtain ⟨yiz, hyiz⟩ : ∃ f9 : Nat → Int32, f9 = va_up yi 1 1 := ⟨_, rfl⟩
    have hIz : LWI cT ad gg tE T fm mk F n wd dpt lst w ru rl ne Lo yiz ysb yA := hI.sc (fun k hk => by rw [hyiz]; exact va_up_ne _ _ hk) (fun _ _ => rfl)
    have hIz := hIz.yg (g2 := gy) (fun z8 hz => fgy z8 (by omega))
    have hYz : YCL cT ad gy y yr yiz ysb ybs yA yW F := by
      refine ⟨hYad, hyr, (by rw [hyiz]; exact gy_0), fun k hk => ?_⟩
      have hk2 : k = 0 ∨ (4 ≤ k ∧ k ≤ 9) ∨ (18 ≤ k ∧ k ≤ 46) ∨ k = 48 ∨ k = 49 ∨ (56 ≤ k ∧ k ≤ 59) := hk
      exact (fgy (5000 + k) (by omega)).trans ((hYA k hk).trans (congrArg some (ycl_o rfl).symm))
    rw [hyiz] at hIz hYz
    refine W.widen (k := 2000 + (j + 1) + 3 * fm + 4 * SM mk 16) (n := 400000 + 6 * (j + 1) + 42 * fm + 69 * SM mk 16) (by show ((2000 + j + 3 * fm + 4 * SM mk 16) + 1) + 0 ≤ 2000 + (j + 1) + 3 * fm + 4 * SM mk 16; omega) (by show ((400000 + 6 * j + 42 * fm + 69 * SM mk 16) + 6) + 0 ≤ 400000 + 6 * (j + 1) + 42 * fm + 69 * SM mk 16; omega) ?_
    have hl := lv_sub hl [2, 3, 4, 5, 6] rfl
    have hl : lv_has ls 7 [(0, .ref b), (1, .ref (ad 0)), (2, .ref y), (3, .ref zo), (4, .int (nI (4 * j)))] := by rw [← hYz.1]; exact hl
    exact hend ad gy T fm mk F n wd dpt lst w ru rl ne Lo (va_up yi 1 1) ysb ybs yA yW zf _ _ ls hIz hYz hP hD hS hl
