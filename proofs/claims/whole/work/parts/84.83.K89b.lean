set_option maxHeartbeats 8000000 in
set_option maxRecDepth 100000 in
theorem lo_9 {p : Program} {l : Launch} {e : Env} {s : State} {m : MethodId} {args : Array Value} {below : List Frame} {meth : Method} {c : Code} {Q : State → Prop} {A : Nat → Prop} {H : Heap} {locs : List Loc} {ls : Array Slot} {b L : Nat} {xs : Nat → Int32} (D : va_G) (cT : Nat → ClassId) (cds : List Nat) (tE mE y : Nat) (yr : Nat → Nat) (zo j : Nat) (ad : Nat → Nat) (gg : Nat → Option va_E) (T : Nat) (fm : Nat) (mk : Nat → Nat) (F : TFR) (n : Nat) (wd : Nat) (dpt : Nat) (lst : Nat) (w : Nat) (ru : Nat) (rl : Nat) (ne : Nat → Nat) (Lo : Nat) (yi : Nat → Int32) (ysb : Int64) (ybs : Int64) (yA : Nat → Nat → Int32) (yW : Nat → Int64) (zf : Nat → Int64) (hlt : l.stackTraces = false) (hx : p.tables.exec = Jvm.exec) (hb : c.code = code) (hml : c.maxLocals = 7) (hown : s.vm.findClass "ResidualTreesLaw" = some m.cls) (hT : ∀ w ∈ TB, w.before args s = true) (hZ : ZZ A s s.heap) (hE0 : ZE tE mE A s s.heap) (hK : va_K D vwCl (TY cT) s) (hA : ∀ q : Nat, s.heap.size ≤ q → A q) (hX : va_X b L xs s s.heap) (hbl : b < s.heap.size) (hbA : ¬ A b) (hcd : CD cds) (hj : 4 * j + 4 ≤ L) (hL : L ≤ 2048) (hI : LWI cT ad gg tE T fm mk F n wd dpt lst w ru rl ne Lo yi ysb yA) (hYC : YCL cT ad gg y yr yi ysb ybs yA yW F) (hP : va_P D vwCl ([(zo, .inl (cT 1, 1, .inr (.inl zf)))] ++ pg cds ad gg) H) (hD : va_D A ([(zo, .inl (cT 1, 1, .inr (.inl zf)))] ++ pg cds ad gg)) (hS : va_S A s.heap H locs) (hl : lv_has ls 7 [(0, .ref b), (1, .ref (ad 0)), (2, .ref y), (3, .ref zo), (4, .int (nI (4 * j)))]) (hend : LEN2 p l e s m args below meth c Q A D cT cds tE y yr zo b j) : W p l e room_1 s m args below meth c H locs (2000 + j + 3 * fm + 4 * SM mk 16) (400000 + 6 * j + 42 * fm + 69 * SM mk 16) Q (F0 m 771 ls []) := by
  obtain ⟨a1, ha1⟩ : ∃ q9 : Int32, q9 = xs (4 * j + 1) := ⟨_, rfl⟩
  obtain ⟨a2, ha2⟩ : ∃ q9 : Int32, q9 = xs (4 * j + 2) := ⟨_, rfl⟩
  obtain ⟨a3, ha3⟩ : ∃ q9 : Int32, q9 = xs (4 * j + 3) := ⟨_, rfl⟩
  obtain ⟨hfm16, hSM⟩ := lwi_b hI
  obtain ⟨hYad, hYr0, hYy, hYA⟩ := hYC
  have hyr := hYr0
  obtain ⟨fo, hCL, hRF, hPU⟩ := id hI
  obtain ⟨hTV, hOut, ⟨sa9, hso⟩, ⟨zq9, hS1⟩, ⟨zr9, hS2⟩, ⟨z58, hS3⟩⟩ := id hCL
  obtain ⟨hob, hTg, hFT, hTs, ⟨zs0, hGB⟩, ⟨zf0, hLf⟩, ⟨zc0, hCm⟩⟩ := id hTV
  obtain ⟨chtb, chRs, chCa, chCf, chpl, chGa, chSc, chGs, ⟨cfo, chod⟩, cbb9, ctt9, cb90, cik0, chgr, chbt, chSP⟩ := id hGB
  obtain ⟨y2, y3, y10, y11, y12, y13, y14, y17, y47, y55, y8e, y18e, hRFN, hPR, hfoy⟩ := id hRF
  obtain ⟨hTf, hT16, hn48, hwd6, hdp4, hls2, hw20, hr9, hLo, hne, hik, hTOK, hS9, hVk, hVb, htg, hSEP, hSV7⟩ := id hPU
  have hl : lv_has ls 7 [(0, .ref b), (1, .ref (ad 0)), (2, .ref (ad 5060)), (3, .ref zo), (4, .int (nI (4 * j)))] := by rw [hYad]; exact hl
  by_cases hq : (1 ≤ a2 ∧ a2 ≤ 16) ∧ (1 ≤ a1 ∧ a1 ≤ a2)
  · obtain ⟨rq, hq1, hq2, rfl⟩ := i_btw (lo := 1) (hi := 16) (by omega) (by omega) hq.1
    obtain ⟨rp, hp1, hp2, rfl⟩ := i_btw (lo := 1) (hi := rq) (by omega) (by omega) hq.2
    refine lv_aload_n hx hb dL_law_771 rfl (lv_at hl 1 rfl) ?_
    refine lv_aload_n hx hb dL_law_772 rfl (lv_at hl 0 rfl) ?_
    refine lv_iload hx hb dL_law_773 (lv_at hl 4 rfl) ?_
    refine lv_iconst (v := 1) hx hb dL_law_775 (by decide) ?_
    refine lv_iadd hx hb dL_law_776 ?_
    refine lv_topi (fun y9 e9 => ?_)
    cases (show y9 = nI ((4 * j) + 1) from e9.trans (nI_add (4 * j) 1))
    refine va_sld hx hb hX hbl hbA hS (vp_in_nI (n := 4 * j + 1) (N := L) (by omega) (by omega)) dL_law_777 ?_
    refine lv_topi (fun y9 e9 => ?_)
    cases (show y9 = nI rp from e9.trans (by rw [nI_clamp (by omega)]; exact ha1.symm))
    refine lv_aload_n hx hb dL_law_778 rfl (lv_at hl 0 rfl) ?_
    refine lv_iload hx hb dL_law_779 (lv_at hl 4 rfl) ?_
    refine lv_iconst (v := 2) hx hb dL_law_781 (by decide) ?_
    refine lv_iadd hx hb dL_law_782 ?_
    refine lv_topi (fun y9 e9 => ?_)
    cases (show y9 = nI ((4 * j) + 2) from e9.trans (nI_add (4 * j) 2))
    refine va_sld hx hb hX hbl hbA hS (vp_in_nI (n := 4 * j + 2) (N := L) (by omega) (by omega)) dL_law_783 ?_
    refine lv_topi (fun y9 e9 => ?_)
    cases (show y9 = nI rq from e9.trans (by rw [nI_clamp (by omega)]; exact ha2.symm))
    refine hy_iP (X := [(zo, .inl (cT 1, 1, .inr (.inl zf)))]) (pl := pg cds ad gg) (cx := []) (wr := [(zo, .inl (cT 1, 1, .inr (.inl zf)))]) hP hD hS hA [] [0] rfl rfl (by decide) (by decide) (tx_runSH (As := [.ref (ad 0), .int (nI rp), .int (nI rq)]) (rest := []) ⟨hx, hb, hml, hown, hT⟩ (l_rate l D cT cds ad gg (nI T) (nI dpt) (nI lst) (nI w) (nI ru) (nI rl) ysb (yi 16) (nI rp) (nI rq) hcd hob chpl hq.1 hq.2 _) hT (tc_gd w697 w698 w0 (tb_gd w699)) rfl rfl rfl hL_rate ⟨Nat.le_of_ble_eq_true rfl, Nat.le_of_ble_eq_true rfl⟩ (RW.preS hZ hS (va_freeP (cx := []) hD hS hA [] rfl) (hP.part (cx := []) [] rfl) hK (hD.part (cx := []) [] (by decide) rfl)) rfl hl.1 rfl (Nat.le_of_ble_eq_true rfl) dL_law_784 ⟨(by show (2000 + j + 3 * fm + 4 * SM mk 16) + 0 ≤ 601024; omega), (by show (400000 + 6 * j + 42 * fm + 69 * SM mk 16) + 0 ≤ 7293034; omega)⟩) (fun ru1 u9 H locs hpu1 hP hD hS => ?_)
    obtain ⟨gg7u1, rfl⟩ : ∃ q9, q9 = u9 := ⟨_, rfl⟩
    have hpu1 : ru1 = 0 ∧ (∀ z8, z8 ≠ 4 → gg7u1 z8 = gg z8) ∧ gg7u1 4 = some (ePL (nI dpt) (nI lst) (nI w) (nI rp) (nI rq) ysb (yi 16)) := hpu1
    have hP : va_P D vwCl ([(zo, .inl (cT 1, 1, .inr (.inl zf)))] ++ pg cds ad gg7u1) _ := hP
    have hD : va_D A ([(zo, .inl (cT 1, 1, .inr (.inl zf)))] ++ pg cds ad gg7u1) := hD
    refine lv_topi (fun y9 e9 => ?_)
    cases (show y9 = 0 from e9.trans hpu1.1)
    obtain ⟨_, cF, c4⟩ := hpu1
    refine lv_istore hx hb dL_law_787 hl (by decide) rfl (fun ls hl => ?_)
    have hl : lv_has ls 7 [(5, .int 0), (0, .ref b), (1, .ref (ad 0)), (2, .ref (ad 5060)), (3, .ref zo), (4, .int (nI (4 * j)))] := hl
    refine lv_aload_n hx hb dL_law_789 rfl (lv_at hl 3 rfl) ?_
    refine lv_aload_n hx hb dL_law_790 rfl (lv_at hl 1 rfl) ?_
    refine lv_iload hx hb dL_law_791 (lv_at hl 5 rfl) ?_
    refine lv_iconst (v := 1) hx hb dL_law_793 (by decide) ?_
    refine lv_iadd hx hb dL_law_794 ?_
    refine lv_topi (fun y9 e9 => ?_)
    cases (show y9 = nI ((4 * j) + 1) from e9.trans (nI_add (4 * j) 1))
    refine va_sld hx hb hX hbl hbA hS (vp_in_nI (n := 4 * j + 1) (N := L) (by omega) (by omega)) dL_law_795 ?_
    refine lv_topi (fun y9 e9 => ?_)
    cases (show y9 = nI rp from e9.trans (by rw [nI_clamp (by omega)]; exact ha1.symm))
    refine lv_aload_n hx hb dL_law_796 rfl (lv_at hl 1 rfl) ?_
    refine lv_iload hx hb dL_law_797 (lv_at hl 5 rfl) ?_
    refine lv_iconst (v := 2) hx hb dL_law_799 (by decide) ?_
    refine lv_iadd hx hb dL_law_800 ?_
    refine lv_topi (fun y9 e9 => ?_)
    cases (show y9 = nI ((4 * j) + 2) from e9.trans (nI_add (4 * j) 2))
    refine va_sld hx hb hX hbl hbA hS (vp_in_nI (n := 4 * j + 2) (N := L) (by omega) (by omega)) dL_law_801 ?_
    refine lv_topi (fun y9 e9 => ?_)
    cases (show y9 = nI rq from e9.trans (by rw [nI_clamp (by omega)]; exact ha2.symm))
    have hB9 : QI gg7u1 [(5060, .inr (11, MO yr yi ysb ybs))] := (qi_c (by decide) ((cF 5060 (by omega)).trans hYy) qi_0)
    have hN9 := (show NDc [5060] from (nd_c na_0 nd_0))
    have hP := bo_P (wc := [(5060, .inr (11, MO yr yi ysb ybs))]) (X := [(zo, .inl (cT 1, 1, .inr (.inl zf)))]) hcd hN9 hB9 hP
    have hD := bo_D (wc := [(5060, .inr (11, MO yr yi ysb ybs))]) (X := [(zo, .inl (cT 1, 1, .inr (.inl zf)))]) hcd hN9 hB9 hD
    have hP : va_P D vwCl ([(zo, .inl (cT 1, 1, .inr (.inl zf))), (ad 5060, .inr (11, MO yr yi ysb ybs))] ++ pg cds ad (upo gg7u1 [5060])) _ := hP
    have hD : va_D A ([(zo, .inl (cT 1, 1, .inr (.inl zf))), (ad 5060, .inr (11, MO yr yi ysb ybs))] ++ pg cds ad (upo gg7u1 [5060])) := hD
    refine hy_vQ (X := [(zo, .inl (cT 1, 1, .inr (.inl zf))), (ad 5060, .inr (11, MO yr yi ysb ybs))]) (pl := pg cds ad (upo gg7u1 [5060])) (cx := [(ad 5060, .inr (11, MO yr yi ysb ybs))]) (wr := [(zo, .inl (cT 1, 1, .inr (.inl zf)))]) hP hD hS hA [1] [0] rfl rfl (by decide) (by decide) (va_runV (As := [.int (nI rp), .int (nI rq)]) (rest := []) ⟨hx, hb, hml, hown, hT⟩ (y_rate_ok l D cT (ad 5060) yr yi ysb ybs (nI rp) (nI rq) hq.2.1 hq.2.2 hq.1.2 _) ⟨callB_of 2 hT (tb_gd w1358) rfl rfl rfl (hT _ w13) (hT _ w1355) hM_rate ⟨Nat.le_of_ble_eq_true rfl, Nat.le_of_ble_eq_true rfl⟩, (hT _ w1356), (hT _ w1357)⟩ (RW.preV (ci := 11) (q0 := 0) hZ hS (hy_free (cx := [(ad 5060, .inr (11, MO yr yi ysb ybs))]) hD hS hA [1] rfl) (hP.sub (ws' := [(ad 5060, .inr (11, MO yr yi ysb ybs))]) [1] rfl) hK (hD.sub (ws' := [(ad 5060, .inr (11, MO yr yi ysb ybs))]) [1] (by decide) rfl) rfl rfl) rfl rfl hl.1 rfl (lv_room (Nat.le_of_ble_eq_true rfl)) dL_law_802 ⟨(by show ((2000 + j + 3 * fm + 4 * SM mk 16) + 0) + 0 ≤ 601024; omega), (by show ((400000 + 6 * j + 42 * fm + 69 * SM mk 16) + 0) + 0 ≤ 7293034; omega)⟩) (fun u9 H locs hpu2 hP hD hS => ?_)
    have hpu2 : True := hpu2
    have hP : va_P D vwCl ([(zo, .inl (cT 1, 1, .inr (.inl zf))), (ad 5060, .inr (11, MO yr (va_up (va_up (va_up yi 1 0) 13 (nI rp)) 14 (nI rq)) ysb ybs))] ++ pg cds ad (upo gg7u1 [5060])) _ := hP
    have hD : va_D A ([(zo, .inl (cT 1, 1, .inr (.inl zf))), (ad 5060, .inr (11, MO yr (va_up (va_up (va_up yi 1 0) 13 (nI rp)) 14 (nI rq)) ysb ybs))] ++ pg cds ad (upo gg7u1 [5060])) := hD
    have hN9 := (show NDc [5060] from (nd_c na_0 nd_0))
    have hP := gb_P (w9 := [(5060, .inr (11, MO yr (va_up (va_up (va_up yi 1 0) 13 (nI rp)) 14 (nI rq)) ysb ybs))]) (X := [(zo, .inl (cT 1, 1, .inr (.inl zf)))]) (g := gg7u1) hcd hN9 (show QB [(5060, .inr (11, MO yr (va_up (va_up (va_up yi 1 0) 13 (nI rp)) 14 (nI rq)) ysb ybs))] from (qb_c (by decide) qb_0)) (hP.part (cx := [(zo, .inl (cT 1, 1, .inr (.inl zf))), (ad 5060, .inr (11, MO yr (va_up (va_up (va_up yi 1 0) 13 (nI rp)) 14 (nI rq)) ysb ybs))]) [0, 1] rfl)
    have hD := gb_D (w9 := [(5060, .inr (11, MO yr (va_up (va_up (va_up yi 1 0) 13 (nI rp)) 14 (nI rq)) ysb ybs))]) (X := [(zo, .inl (cT 1, 1, .inr (.inl zf)))]) (g := gg7u1) hcd hN9 (show QB [(5060, .inr (11, MO yr (va_up (va_up (va_up yi 1 0) 13 (nI rp)) 14 (nI rq)) ysb ybs))] from (qb_c (by decide) qb_0)) (hD.part (cx := [(zo, .inl (cT 1, 1, .inr (.inl zf))), (ad 5060, .inr (11, MO yr (va_up (va_up (va_up yi 1 0) 13 (nI rp)) 14 (nI rq)) ysb ybs))]) [0, 1] (by decide) rfl)
    obtain ⟨gy, hgy⟩ : ∃ q9, q9 = ups gg7u1 [(5060, .inr (11, MO yr (va_up (va_up (va_up yi 1 0) 13 (nI rp)) 14 (nI rq)) ysb ybs))] := ⟨_, rfl⟩
    rw [← hgy] at hP hD
    have hP : va_P D vwCl ([(zo, .inl (cT 1, 1, .inr (.inl zf)))] ++ pg cds ad gy) _ := hP
    have hD : va_D A ([(zo, .inl (cT 1, 1, .inr (.inl zf)))] ++ pg cds ad gy) := hD
    have fgy : ∀ z8, z8 ≠ 5060 → gy z8 = gg7u1 z8 := fun z8 z1 => by rw [hgy]; exact ups_k (kp_n z1 kp_0)
    have gy_0 : gy 5060 = some (.inr (11, MO yr (va_up (va_up (va_up yi 1 0) 13 (nI rp)) 14 (nI rq)) ysb ybs)) := by rw [hgy]; exact ups_1
    refine lv_aload_n hx hb dL_law_805 rfl (lv_at hl 3 rfl) ?_
    refine ro_i (va_Run.run (va_runV (As := []) (rest := []) ⟨hx, hb, hml, hown, hT⟩ (m_thrown l D cT (ad 5060) yr (va_up (va_up (va_up yi 1 0) 13 (nI rp)) 14 (nI rq)) ysb ybs) ⟨callB_of 0 hT (tb_gd w1290) rfl rfl rfl (hT _ w13) (hT _ w1287) hM_thrown ⟨Nat.le_of_ble_eq_true rfl, Nat.le_of_ble_eq_true rfl⟩, (hT _ w1288), (hT _ w1289)⟩ (RO.preV (ci := 11) (q0 := 0) hZ hS ((show va_P D vwCl [(ad 5060, .inr (11, MO yr (va_up (va_up (va_up yi 1 0) 13 (nI rp)) 14 (nI rq)) ysb ybs))] _ from (pv_c (pg_1 (x := 5060) hcd hP (by decide) gy_0) pv_0))) hK rfl rfl) rfl rfl hl.1 rfl (lv_room (Nat.le_of_ble_eq_true rfl)) dL_law_806 ⟨(by show (((2000 + j + 3 * fm + 4 * SM mk 16) + 0) + 0) + 0 ≤ 601024; omega), (by show (((400000 + 6 * j + 42 * fm + 69 * SM mk 16) + 0) + 0) + 0 ≤ 7293034; omega)⟩)) ?_
    refine lv_topi (fun y9 e9 => ?_)
    cases (show y9 = 0 from e9.trans rfl)
    refine lv_iload hx hb dL_law_809 (lv_at hl 0 rfl) ?_
    refine lv_icmp_eq (tgt := 816) hx hb dL_law_811 rfl (fun _ => ?_) (fun h3 => absurd (by decide) h3)
    refine lv_goto (tgt := 1690) hx hb dL_law_816 rfl ?_
    obtain ⟨yiz, hyiz⟩ : ∃ f9 : Nat → Int32, f9 = va_up (va_up (va_up yi 1 0) 13 (nI rp)) 14 (nI rq) := ⟨_, rfl⟩
    have hIz : LWI cT ad gg7u1 tE T fm mk F n wd dpt lst w rp rq ne Lo yiz ysb yA := (by rw [hyiz]; exact ⟨fo, CLI.up hCL (Nat.le_refl _) (fun z8 n0 n1 n3 n4 n5 n6 n7 => cF z8 (by omega)) ((cF _ (by omega)).trans hob) ((cF _ (by omega)).trans chtb) (by obtain ⟨ft9, e1, e2⟩ := hTg; exact ⟨ft9, (cF _ (by omega)).trans e1, e2⟩) c4 (chCf.cg (fun z8 n1 n2 => cF z8 (by omega))) (hOut.cg (fun z8 n1 n2 => cF z8 (by omega))) (⟨sa9, (cF _ (by omega)).trans hso⟩), ⟨y2, y3, y10, y11, y12, rfl, rfl, y17, y47, y55, y8e, y18e, hRFN, hPR, hfoy⟩, ⟨hTf, hT16, hn48, hwd6, hdp4, hls2, hw20, ⟨hp1, hp2, hq2⟩, hLo, hne, hik, hTOK, hS9, hVk, hVb, htg, hSEP, hSV7⟩⟩)
    have hIz := hIz.yg (g2 := gy) (fun z8 hz => fgy z8 (by omega))
    have hYz : YCL cT ad gy y yr yiz ysb ybs yA yW F := by
      refine ⟨hYad, hyr, (by rw [hyiz]; exact gy_0), fun k hk => ?_⟩
      have hk2 : k = 0 ∨ (4 ≤ k ∧ k ≤ 9) ∨ (18 ≤ k ∧ k ≤ 46) ∨ k = 48 ∨ k = 49 ∨ (56 ≤ k ∧ k ≤ 59) := hk
      exact (fgy (5000 + k) (by omega)).trans ((cF (5000 + k) (by omega)).trans ((hYA k hk).trans (congrArg some (ycl_o rfl).symm)))
    rw [hyiz] at hIz hYz
    refine W.widen (k := 2000 + (j + 1) + 3 * fm + 4 * SM mk 16) (n := 400000 + 6 * (j + 1) + 42 * fm + 69 * SM mk 16) (by show ((2000 + j + 3 * fm + 4 * SM mk 16) + 0) + 0 ≤ 2000 + (j + 1) + 3 * fm + 4 * SM mk 16; omega) (by show ((400000 + 6 * j + 42 * fm + 69 * SM mk 16) + 0) + 0 ≤ 400000 + 6 * (j + 1) + 42 * fm + 69 * SM mk 16; omega) ?_
    have hl := lv_sub hl [1, 2, 3, 4, 5] rfl
    have hl : lv_has ls 7 [(0, .ref b), (1, .ref (ad 0)), (2, .ref y), (3, .ref zo), (4, .int (nI (4 * j)))] := by rw [← hYz.1]; exact hl
    exact hend ad gy T fm mk F n wd dpt lst w rp rq ne Lo (va_up (va_up (va_up yi 1 0) 13 (nI rp)) 14 (nI rq)) ysb ybs yA yW zf _ _ ls hIz hYz hP hD hS hl
  · refine lv_aload_n hx hb dL_law_771 rfl (lv_at hl 1 rfl) ?_
    refine lv_aload_n hx hb dL_law_772 rfl (lv_at hl 0 rfl) ?_
    refine lv_iload hx hb dL_law_773 (lv_at hl 4 rfl) ?_
    refine lv_iconst (v := 1) hx hb dL_law_775 (by decide) ?_
    refine lv_iadd hx hb dL_law_776 ?_
    refine lv_topi (fun y9 e9 => ?_)
    cases (show y9 = nI ((4 * j) + 1) from e9.trans (nI_add (4 * j) 1))
    refine va_sld hx hb hX hbl hbA hS (vp_in_nI (n := 4 * j + 1) (N := L) (by omega) (by omega)) dL_law_777 ?_
    refine lv_topi (fun y9 e9 => ?_)
    cases (show y9 = a1 from e9.trans (by rw [nI_clamp (by omega)]; exact ha1.symm))
    refine lv_aload_n hx hb dL_law_778 rfl (lv_at hl 0 rfl) ?_
    refine lv_iload hx hb dL_law_779 (lv_at hl 4 rfl) ?_
    refine lv_iconst (v := 2) hx hb dL_law_781 (by decide) ?_
    refine lv_iadd hx hb dL_law_782 ?_
    refine lv_topi (fun y9 e9 => ?_)
    cases (show y9 = nI ((4 * j) + 2) from e9.trans (nI_add (4 * j) 2))
    refine va_sld hx hb hX hbl hbA hS (vp_in_nI (n := 4 * j + 2) (N := L) (by omega) (by omega)) dL_law_783 ?_
    refine lv_topi (fun y9 e9 => ?_)
    cases (show y9 = a2 from e9.trans (by rw [nI_clamp (by omega)]; exact ha2.symm))
    refine hy_iP (X := [(zo, .inl (cT 1, 1, .inr (.inl zf)))]) (pl := pg cds ad gg) (cx := []) (wr := [(zo, .inl (cT 1, 1, .inr (.inl zf)))]) hP hD hS hA [] [0] rfl rfl (by decide) (by decide) (tx_runSH (As := [.ref (ad 0), .int a1, .int a2]) (rest := []) ⟨hx, hb, hml, hown, hT⟩ (l_rate_no l D cT cds ad gg a1 a2 (nI T) hlt hcd hob hq _) hT (tc_gd w697 w698 w0 (tb_gd w699)) rfl rfl rfl hL_rate ⟨Nat.le_of_ble_eq_true rfl, Nat.le_of_ble_eq_true rfl⟩ (RW.preS hZ hS (va_freeP (cx := []) hD hS hA [] rfl) (hP.part (cx := []) [] rfl) hK (hD.part (cx := []) [] (by decide) rfl)) rfl hl.1 rfl (Nat.le_of_ble_eq_true rfl) dL_law_784 ⟨(by show (2000 + j + 3 * fm + 4 * SM mk 16) + 1 ≤ 601024; omega), (by show (400000 + 6 * j + 42 * fm + 69 * SM mk 16) + 6 ≤ 7293034; omega)⟩) (fun ru4 u9 H locs hpu4 hP hD hS => ?_)
    have hpu4 : ru4 = 1 := hpu4
    have hP : va_P D vwCl ([(zo, .inl (cT 1, 1, .inr (.inl zf)))] ++ pg cds ad gg) _ := hP
    have hD : va_D A ([(zo, .inl (cT 1, 1, .inr (.inl zf)))] ++ pg cds ad gg) := hD
    refine lv_topi (fun y9 e9 => ?_)
    cases (show y9 = 1 from e9.trans hpu4)
    refine lv_istore hx hb dL_law_787 hl (by decide) rfl (fun ls hl => ?_)
    have hl : lv_has ls 7 [(5, .int 1), (0, .ref b), (1, .ref (ad 0)), (2, .ref (ad 5060)), (3, .ref zo), (4, .int (nI (4 * j)))] := hl
    refine lv_aload_n hx hb dL_law_789 rfl (lv_at hl 3 rfl) ?_
    refine lv_aload_n hx hb dL_law_790 rfl (lv_at hl 1 rfl) ?_
    refine lv_iload hx hb dL_law_791 (lv_at hl 5 rfl) ?_
    refine lv_iconst (v := 1) hx hb dL_law_793 (by decide) ?_
    refine lv_iadd hx hb dL_law_794 ?_
    refine lv_topi (fun y9 e9 => ?_)
    cases (show y9 = nI ((4 * j) + 1) from e9.trans (nI_add (4 * j) 1))
    refine va_sld hx hb hX hbl hbA hS (vp_in_nI (n := 4 * j + 1) (N := L) (by omega) (by omega)) dL_law_795 ?_
    refine lv_topi (fun y9 e9 => ?_)
    cases (show y9 = a1 from e9.trans (by rw [nI_clamp (by omega)]; exact ha1.symm))
    refine lv_aload_n hx hb dL_law_796 rfl (lv_at hl 1 rfl) ?_
    refine lv_iload hx hb dL_law_797 (lv_at hl 5 rfl) ?_
    refine lv_iconst (v := 2) hx hb dL_law_799 (by decide) ?_
    refine lv_iadd hx hb dL_law_800 ?_
    refine lv_topi (fun y9 e9 => ?_)
    cases (show y9 = nI ((4 * j) + 2) from e9.trans (nI_add (4 * j) 2))
    refine va_sld hx hb hX hbl hbA hS (vp_in_nI (n := 4 * j + 2) (N := L) (by omega) (by omega)) dL_law_801 ?_
    refine lv_topi (fun y9 e9 => ?_)
    cases (show y9 = a2 from e9.trans (by rw [nI_clamp (by omega)]; exact ha2.symm))
    have hB9 : QI gg [(5060, .inr (11, MO yr yi ysb ybs))] := (qi_c (by decide) hYy qi_0)
    have hN9 := (show NDc [5060] from (nd_c na_0 nd_0))
    have hP := bo_P (wc := [(5060, .inr (11, MO yr yi ysb ybs))]) (X := [(zo, .inl (cT 1, 1, .inr (.inl zf)))]) hcd hN9 hB9 hP
    have hD := bo_D (wc := [(5060, .inr (11, MO yr yi ysb ybs))]) (X := [(zo, .inl (cT 1, 1, .inr (.inl zf)))]) hcd hN9 hB9 hD
    have hP : va_P D vwCl ([(zo, .inl (cT 1, 1, .inr (.inl zf))), (ad 5060, .inr (11, MO yr yi ysb ybs))] ++ pg cds ad (upo gg [5060])) _ := hP
    have hD : va_D A ([(zo, .inl (cT 1, 1, .inr (.inl zf))), (ad 5060, .inr (11, MO yr yi ysb ybs))] ++ pg cds ad (upo gg [5060])) := hD
    refine hy_vQ (X := [(zo, .inl (cT 1, 1, .inr (.inl zf))), (ad 5060, .inr (11, MO yr yi ysb ybs))]) (pl := pg cds ad (upo gg [5060])) (cx := [(ad 5060, .inr (11, MO yr yi ysb ybs))]) (wr := [(zo, .inl (cT 1, 1, .inr (.inl zf)))]) hP hD hS hA [1] [0] rfl rfl (by decide) (by decide) (va_runV (As := [.int a1, .int a2]) (rest := []) ⟨hx, hb, hml, hown, hT⟩ (y_rate_no l D cT (ad 5060) yr yi ysb ybs a1 a2 (fun q => hq ⟨⟨Int32.le_trans q.1 q.2.1, q.2.2⟩, ⟨q.1, q.2.1⟩⟩) _) ⟨callB_of 2 hT (tb_gd w1358) rfl rfl rfl (hT _ w13) (hT _ w1355) hM_rate ⟨Nat.le_of_ble_eq_true rfl, Nat.le_of_ble_eq_true rfl⟩, (hT _ w1356), (hT _ w1357)⟩ (RW.preV (ci := 11) (q0 := 0) hZ hS (hy_free (cx := [(ad 5060, .inr (11, MO yr yi ysb ybs))]) hD hS hA [1] rfl) (hP.sub (ws' := [(ad 5060, .inr (11, MO yr yi ysb ybs))]) [1] rfl) hK (hD.sub (ws' := [(ad 5060, .inr (11, MO yr yi ysb ybs))]) [1] (by decide) rfl) rfl rfl) rfl rfl hl.1 rfl (lv_room (Nat.le_of_ble_eq_true rfl)) dL_law_802 ⟨(by show ((2000 + j + 3 * fm + 4 * SM mk 16) + 1) + 0 ≤ 601024; omega), (by show ((400000 + 6 * j + 42 * fm + 69 * SM mk 16) + 6) + 0 ≤ 7293034; omega)⟩) (fun u9 H locs hpu5 hP hD hS => ?_)
    have hpu5 : True := hpu5
    have hP : va_P D vwCl ([(zo, .inl (cT 1, 1, .inr (.inl zf))), (ad 5060, .inr (11, MO yr (va_up yi 1 1) ysb ybs))] ++ pg cds ad (upo gg [5060])) _ := hP
    have hD : va_D A ([(zo, .inl (cT 1, 1, .inr (.inl zf))), (ad 5060, .inr (11, MO yr (va_up yi 1 1) ysb ybs))] ++ pg cds ad (upo gg [5060])) := hD
    have hN9 := (show NDc [5060] from (nd_c na_0 nd_0))
    have hP := gb_P (w9 := [(5060, .inr (11, MO yr (va_up yi 1 1) ysb ybs))]) (X := [(zo, .inl (cT 1, 1, .inr (.inl zf)))]) (g := gg) hcd hN9 (show QB [(5060, .inr (11, MO yr (va_up yi 1 1) ysb ybs))] from (qb_c (by decide) qb_0)) (hP.part (cx := [(zo, .inl (cT 1, 1, .inr (.inl zf))), (ad 5060, .inr (11, MO yr (va_up yi 1 1) ysb ybs))]) [0, 1] rfl)
    have hD := gb_D (w9 := [(5060, .inr (11, MO yr (va_up yi 1 1) ysb ybs))]) (X := [(zo, .inl (cT 1, 1, .inr (.inl zf)))]) (g := gg) hcd hN9 (show QB [(5060, .inr (11, MO yr (va_up yi 1 1) ysb ybs))] from (qb_c (by decide) qb_0)) (hD.part (cx := [(zo, .inl (cT 1, 1, .inr (.inl zf))), (ad 5060, .inr (11, MO yr (va_up yi 1 1) ysb ybs))]) [0, 1] (by decide) rfl)
    obtain ⟨gy, hgy⟩ : ∃ q9, q9 = ups gg [(5060, .inr (11, MO yr (va_up yi 1 1) ysb ybs))] := ⟨_, rfl⟩
    rw [← hgy] at hP hD
    have hP : va_P D vwCl ([(zo, .inl (cT 1, 1, .inr (.inl zf)))] ++ pg cds ad gy) _ := hP
    have hD : va_D A ([(zo, .inl (cT 1, 1, .inr (.inl zf)))] ++ pg cds ad gy) := hD
    have fgy : ∀ z8, z8 ≠ 5060 → gy z8 = gg z8 := fun z8 z1 => by rw [hgy]; exact ups_k (kp_n z1 kp_0)
    have gy_0 : gy 5060 = some (.inr (11, MO yr (va_up yi 1 1) ysb ybs)) := by rw [hgy]; exact ups_1
    refine lv_aload_n hx hb dL_law_805 rfl (lv_at hl 3 rfl) ?_
    refine ro_i (va_Run.run (va_runV (As := []) (rest := []) ⟨hx, hb, hml, hown, hT⟩ (m_thrown l D cT (ad 5060) yr (va_up yi 1 1) ysb ybs) ⟨callB_of 0 hT (tb_gd w1290) rfl rfl rfl (hT _ w13) (hT _ w1287) hM_thrown ⟨Nat.le_of_ble_eq_true rfl, Nat.le_of_ble_eq_true rfl⟩, (hT _ w1288), (hT _ w1289)⟩ (RO.preV (ci := 11) (q0 := 0) hZ hS ((show va_P D vwCl [(ad 5060, .inr (11, MO yr (va_up yi 1 1) ysb ybs))] _ from (pv_c (pg_1 (x := 5060) hcd hP (by decide) gy_0) pv_0))) hK rfl rfl) rfl rfl hl.1 rfl (lv_room (Nat.le_of_ble_eq_true rfl)) dL_law_806 ⟨(by show (((2000 + j + 3 * fm + 4 * SM mk 16) + 1) + 0) + 0 ≤ 601024; omega), (by show (((400000 + 6 * j + 42 * fm + 69 * SM mk 16) + 6) + 0) + 0 ≤ 7293034; omega)⟩)) ?_
    refine lv_topi (fun y9 e9 => ?_)
    cases (show y9 = 1 from e9.trans rfl)
    refine lv_iload hx hb dL_law_809 (lv_at hl 0 rfl) ?_
    refine lv_icmp_eq (tgt := 816) hx hb dL_law_811 rfl (fun _ => ?_) (fun h6 => absurd (by decide) h6)
    refine lv_goto (tgt := 1690) hx hb dL_law_816 rfl ?_
    obtain ⟨yiz, hyiz⟩ : ∃ f9 : Nat → Int32, f9 = va_up yi 1 1 := ⟨_, rfl⟩
    have hIz : LWI cT ad gg tE T fm mk F n wd dpt lst w ru rl ne Lo yiz ysb yA := hI.sc (fun k hk => by rw [hyiz]; exact va_up_ne _ _ hk) (fun _ _ => rfl)
    have hIz := hIz.yg (g2 := gy) (fun z8 hz => fgy z8 (by omega))
    have hYz : YCL cT ad gy y yr yiz ysb ybs yA yW F := by
      refine ⟨hYad, hyr, (by rw [hyiz]; exact gy_0), fun k hk => ?_⟩
      have hk2 : k = 0 ∨ (4 ≤ k ∧ k ≤ 9) ∨ (18 ≤ k ∧ k ≤ 46) ∨ k = 48 ∨ k = 49 ∨ (56 ≤ k ∧ k ≤ 59) := hk
      exact (fgy (5000 + k) (by omega)).trans ((hYA k hk).trans (congrArg some (ycl_o rfl).symm))
    rw [hyiz] at hIz hYz
    refine W.widen (k := 2000 + (j + 1) + 3 * fm + 4 * SM mk 16) (n := 400000 + 6 * (j + 1) + 42 * fm + 69 * SM mk 16) (by show ((2000 + j + 3 * fm + 4 * SM mk 16) + 1) + 0 ≤ 2000 + (j + 1) + 3 * fm + 4 * SM mk 16; omega) (by show ((400000 + 6 * j + 42 * fm + 69 * SM mk 16) + 6) + 0 ≤ 400000 + 6 * (j + 1) + 42 * fm + 69 * SM mk 16; omega) ?_
    have hl := lv_sub hl [1, 2, 3, 4, 5] rfl
    have hl : lv_has ls 7 [(0, .ref b), (1, .ref (ad 0)), (2, .ref y), (3, .ref zo), (4, .int (nI (4 * j)))] := by rw [← hYz.1]; exact hl
    exact hend ad gy T fm mk F n wd dpt lst w ru rl ne Lo (va_up yi 1 1) ysb ybs yA yW zf _ _ ls hIz hYz hP hD hS hl
set_option maxHeartbeats 8000000 in
set_option maxRecDepth 100000 in
theorem lo_10 {p : Program} {l : Launch} {e : Env} {s : State} {m : MethodId} {args : Array Value} {below : List Frame} {meth : Method} {c : Code} {Q : State → Prop} {A : Nat → Prop} {H : Heap} {locs : List Loc} {ls : Array Slot} {b L : Nat} {xs : Nat → Int32} (D : va_G) (cT : Nat → ClassId) (cds : List Nat) (tE mE y : Nat) (yr : Nat → Nat) (zo j : Nat) (ad : Nat → Nat) (gg : Nat → Option va_E) (T : Nat) (fm : Nat) (mk : Nat → Nat) (F : TFR) (n : Nat) (wd : Nat) (dpt : Nat) (lst : Nat) (w : Nat) (ru : Nat) (rl : Nat) (ne : Nat → Nat) (Lo : Nat) (yi : Nat → Int32) (ysb : Int64) (ybs : Int64) (yA : Nat → Nat → Int32) (yW : Nat → Int64) (zf : Nat → Int64) (hlt : l.stackTraces = false) (hx : p.tables.exec = Jvm.exec) (hb : c.code = code) (hml : c.maxLocals = 7) (hown : s.vm.findClass "ResidualTreesLaw" = some m.cls) (hT : ∀ w ∈ TB, w.before args s = true) (hZ : ZZ A s s.heap) (hE0 : ZE tE mE A s s.heap) (hK : va_K D vwCl (TY cT) s) (hA : ∀ q : Nat, s.heap.size ≤ q → A q) (hX : va_X b L xs s s.heap) (hbl : b < s.heap.size) (hbA : ¬ A b) (hcd : CD cds) (hj : 4 * j + 4 ≤ L) (hL : L ≤ 2048) (hI : LWI cT ad gg tE T fm mk F n wd dpt lst w ru rl ne Lo yi ysb yA) (hYC : YCL cT ad gg y yr yi ysb ybs yA yW F) (hP : va_P D vwCl ([(zo, .inl (cT 1, 1, .inr (.inl zf)))] ++ pg cds ad gg) H) (hD : va_D A ([(zo, .inl (cT 1, 1, .inr (.inl zf)))] ++ pg cds ad gg)) (hS : va_S A s.heap H locs) (hl : lv_has ls 7 [(0, .ref b), (1, .ref (ad 0)), (2, .ref y), (3, .ref zo), (4, .int (nI (4 * j)))]) (hend : LEN2 p l e s m args below meth c Q A D cT cds tE y yr zo b j) : W p l e room_1 s m args below meth c H locs (2000 + j + 3 * fm + 4 * SM mk 16) (400000 + 6 * j + 42 * fm + 69 * SM mk 16) Q (F0 m 819 ls []) := by
  obtain ⟨a1, ha1⟩ : ∃ q9 : Int32, q9 = xs (4 * j + 1) := ⟨_, rfl⟩
  obtain ⟨a2, ha2⟩ : ∃ q9 : Int32, q9 = xs (4 * j + 2) := ⟨_, rfl⟩
  obtain ⟨a3, ha3⟩ : ∃ q9 : Int32, q9 = xs (4 * j + 3) := ⟨_, rfl⟩
  obtain ⟨hfm16, hSM⟩ := lwi_b hI
  obtain ⟨hYad, hYr0, hYy, hYA⟩ := hYC
  have hyr := hYr0
  obtain ⟨fo, hCL, hRF, hPU⟩ := id hI
  obtain ⟨hTV, hOut, ⟨sa9, hso⟩, ⟨zq9, hS1⟩, ⟨zr9, hS2⟩, ⟨z58, hS3⟩⟩ := id hCL
  obtain ⟨hob, hTg, hFT, hTs, ⟨zs0, hGB⟩, ⟨zf0, hLf⟩, ⟨zc0, hCm⟩⟩ := id hTV
  obtain ⟨chtb, chRs, chCa, chCf, chpl, chGa, chSc, chGs, ⟨cfo, chod⟩, cbb9, ctt9, cb90, cik0, chgr, chbt, chSP⟩ := id hGB
  obtain ⟨y2, y3, y10, y11, y12, y13, y14, y17, y47, y55, y8e, y18e, hRFN, hPR, hfoy⟩ := id hRF
  obtain ⟨hTf, hT16, hn48, hwd6, hdp4, hls2, hw20, hr9, hLo, hne, hik, hTOK, hS9, hVk, hVb, htg, hSEP, hSV7⟩ := id hPU
  have hl : lv_has ls 7 [(0, .ref b), (1, .ref (ad 0)), (2, .ref (ad 5060)), (3, .ref zo), (4, .int (nI (4 * j)))] := by rw [hYad]; exact hl
  refine lv_aload_n hx hb dL_law_819 rfl (lv_at hl 1 rfl) ?_
  refine lv_aload_n hx hb dL_law_820 rfl (lv_at hl 0 rfl) ?_
  refine lv_iload hx hb dL_law_821 (lv_at hl 4 rfl) ?_
  refine lv_iconst (v := 1) hx hb dL_law_823 (by decide) ?_
  refine lv_iadd hx hb dL_law_824 ?_
  refine lv_topi (fun y9 e9 => ?_)
  cases (show y9 = nI ((4 * j) + 1) from e9.trans (nI_add (4 * j) 1))
  refine va_sld hx hb hX hbl hbA hS (vp_in_nI (n := 4 * j + 1) (N := L) (by omega) (by omega)) dL_law_825 ?_
  refine lv_topi (fun y9 e9 => ?_)
  cases (show y9 = a1 from e9.trans (by rw [nI_clamp (by omega)]; exact ha1.symm))
  refine lv_i2l hx hb dL_law_826 rfl ?_
  refine lv_bipush (v := 32) hx hb dL_law_827 (by decide) ?_
  refine lv_lshl hx hb dL_law_829 rfl ?_
  refine lv_aload_n hx hb dL_law_830 rfl (lv_at hl 0 rfl) ?_
  refine lv_iload hx hb dL_law_831 (lv_at hl 4 rfl) ?_
  refine lv_iconst (v := 2) hx hb dL_law_833 (by decide) ?_
  refine lv_iadd hx hb dL_law_834 ?_
  refine lv_topi (fun y9 e9 => ?_)
  cases (show y9 = nI ((4 * j) + 2) from e9.trans (nI_add (4 * j) 2))
  refine va_sld hx hb hX hbl hbA hS (vp_in_nI (n := 4 * j + 2) (N := L) (by omega) (by omega)) dL_law_835 ?_
  refine lv_topi (fun y9 e9 => ?_)
  cases (show y9 = a2 from e9.trans (by rw [nI_clamp (by omega)]; exact ha2.symm))
  refine lv_i2l hx hb dL_law_836 rfl ?_
  refine lv_ldc2 (v := 4294967295) hx hb hown (hT _ w1592) dL_law_837 ?_
  refine lv_land hx hb dL_law_840 ?_
  refine lv_lor hx hb dL_law_841 ?_
  refine lv_aload_n hx hb dL_law_842 rfl (lv_at hl 0 rfl) ?_
  refine lv_iload hx hb dL_law_843 (lv_at hl 4 rfl) ?_
  refine lv_iconst (v := 3) hx hb dL_law_845 (by decide) ?_
  refine lv_iadd hx hb dL_law_846 ?_
  refine lv_topi (fun y9 e9 => ?_)
  cases (show y9 = nI ((4 * j) + 3) from e9.trans (nI_add (4 * j) 3))
  refine va_sld hx hb hX hbl hbA hS (vp_in_nI (n := 4 * j + 3) (N := L) (by omega) (by omega)) dL_law_847 ?_
  refine lv_topi (fun y9 e9 => ?_)
  cases (show y9 = a3 from e9.trans (by rw [nI_clamp (by omega)]; exact ha3.symm))
  refine hy_iP (X := [(zo, .inl (cT 1, 1, .inr (.inl zf)))]) (pl := pg cds ad gg) (cx := []) (wr := [(zo, .inl (cT 1, 1, .inr (.inl zf)))]) hP hD hS hA [] [0] rfl rfl (by decide) (by decide) (va_runV (As := [.long ((((a1 : Int32).toInt64) <<< ((32 : Int32).toInt64 &&& 63)) ||| (((a2 : Int32).toInt64) &&& 4294967295)), .int a3]) (rest := []) ⟨hx, hb, hml, hown, hT⟩ (k_sample l D cT cds ad gg (nI T) (nI wd) (nI n) (nI dpt) (nI lst) (nI w) (nI ru) (nI rl) ysb (yi 16) n ((((a1 : Int32).toInt64) <<< ((32 : Int32).toInt64 &&& 63)) ||| (((a2 : Int32).toInt64) &&& 4294967295)) a3 hcd hob chtb chpl rfl hn48 _) ⟨callB_of 2 hT (tb_gd w367) rfl rfl rfl (hT _ w1) (hT _ w364) hR_sample ⟨Nat.le_of_ble_eq_true rfl, Nat.le_of_ble_eq_true rfl⟩, (hT _ w365), (hT _ w366)⟩ (RW.preW (ci := 0) (q0 := 0) hZ hS (va_freeP (cx := []) hD hS hA [] rfl) (hP.part (cx := []) [] rfl) hK (hD.part (cx := []) [] (by decide) rfl) (pg_1 (x := 0) hcd hP (by decide) hob) rfl rfl) rfl rfl hl.1 rfl (lv_room (Nat.le_of_ble_eq_true rfl)) dL_law_848 ⟨(by show (2000 + j + 3 * fm + 4 * SM mk 16) + 0 ≤ 601024; omega), (by show (400000 + 6 * j + 42 * fm + 69 * SM mk 16) + 0 ≤ 7293034; omega)⟩) (fun ru1 u9 H locs hpu1 hP hD hS => ?_)
  obtain ⟨gg7u1, rfl⟩ : ∃ q9, q9 = u9 := ⟨_, rfl⟩
  have hpu1 : ru1 = nI (cb (((((a1 : Int32).toInt64) <<< ((32 : Int32).toInt64 &&& 63)) ||| (((a2 : Int32).toInt64) &&& 4294967295)) &&& thr n)) ∧ (∀ z8, z8 ≠ 4 → gg7u1 z8 = gg z8) ∧ gg7u1 4 = some (ePL (nI dpt) (nI lst) (nI w) (nI ru) (nI rl) ((((a1 : Int32).toInt64) <<< ((32 : Int32).toInt64 &&& 63)) ||| (((a2 : Int32).toInt64) &&& 4294967295)) a3) := hpu1
  have hP : va_P D vwCl ([(zo, .inl (cT 1, 1, .inr (.inl zf)))] ++ pg cds ad gg7u1) _ := hP
  have hD : va_D A ([(zo, .inl (cT 1, 1, .inr (.inl zf)))] ++ pg cds ad gg7u1) := hD
  obtain ⟨cR, cF, c4⟩ := hpu1
  refine lv_aload_n hx hb dL_law_851 rfl (lv_at hl 2 rfl) ?_
  refine lv_aload_n hx hb dL_law_852 rfl (lv_at hl 0 rfl) ?_
  refine lv_iload hx hb dL_law_853 (lv_at hl 4 rfl) ?_
  refine lv_iconst (v := 1) hx hb dL_law_855 (by decide) ?_
  refine lv_iadd hx hb dL_law_856 ?_
  refine lv_topi (fun y9 e9 => ?_)
  cases (show y9 = nI ((4 * j) + 1) from e9.trans (nI_add (4 * j) 1))
  refine va_sld hx hb hX hbl hbA hS (vp_in_nI (n := 4 * j + 1) (N := L) (by omega) (by omega)) dL_law_857 ?_
  refine lv_topi (fun y9 e9 => ?_)
  cases (show y9 = a1 from e9.trans (by rw [nI_clamp (by omega)]; exact ha1.symm))
  refine lv_i2l hx hb dL_law_858 rfl ?_
  refine lv_bipush (v := 32) hx hb dL_law_859 (by decide) ?_
  refine lv_lshl hx hb dL_law_861 rfl ?_
  refine lv_aload_n hx hb dL_law_862 rfl (lv_at hl 0 rfl) ?_
  refine lv_iload hx hb dL_law_863 (lv_at hl 4 rfl) ?_
  refine lv_iconst (v := 2) hx hb dL_law_865 (by decide) ?_
  refine lv_iadd hx hb dL_law_866 ?_
  refine lv_topi (fun y9 e9 => ?_)
  cases (show y9 = nI ((4 * j) + 2) from e9.trans (nI_add (4 * j) 2))
  refine va_sld hx hb hX hbl hbA hS (vp_in_nI (n := 4 * j + 2) (N := L) (by omega) (by omega)) dL_law_867 ?_
  refine lv_topi (fun y9 e9 => ?_)
  cases (show y9 = a2 from e9.trans (by rw [nI_clamp (by omega)]; exact ha2.symm))
  refine lv_i2l hx hb dL_law_868 rfl ?_
  refine lv_ldc2 (v := 4294967295) hx hb hown (hT _ w1592) dL_law_869 ?_
  refine lv_land hx hb dL_law_872 ?_
  refine lv_lor hx hb dL_law_873 ?_
  refine lv_aload_n hx hb dL_law_874 rfl (lv_at hl 0 rfl) ?_
  refine lv_iload hx hb dL_law_875 (lv_at hl 4 rfl) ?_
  refine lv_iconst (v := 3) hx hb dL_law_877 (by decide) ?_
  refine lv_iadd hx hb dL_law_878 ?_
  refine lv_topi (fun y9 e9 => ?_)
  cases (show y9 = nI ((4 * j) + 3) from e9.trans (nI_add (4 * j) 3))
  refine va_sld hx hb hX hbl hbA hS (vp_in_nI (n := 4 * j + 3) (N := L) (by omega) (by omega)) dL_law_879 ?_
  refine lv_topi (fun y9 e9 => ?_)
  cases (show y9 = a3 from e9.trans (by rw [nI_clamp (by omega)]; exact ha3.symm))
  have hB9 : QI gg7u1 [(5060, .inr (11, MO yr yi ysb ybs))] := (qi_c (by decide) ((cF 5060 (by omega)).trans hYy) qi_0)
  have hN9 := (show NDc [5060] from (nd_c na_0 nd_0))
  have hP := bo_P (wc := [(5060, .inr (11, MO yr yi ysb ybs))]) (X := [(zo, .inl (cT 1, 1, .inr (.inl zf)))]) hcd hN9 hB9 hP
  have hD := bo_D (wc := [(5060, .inr (11, MO yr yi ysb ybs))]) (X := [(zo, .inl (cT 1, 1, .inr (.inl zf)))]) hcd hN9 hB9 hD
  have hP : va_P D vwCl ([(zo, .inl (cT 1, 1, .inr (.inl zf))), (ad 5060, .inr (11, MO yr yi ysb ybs))] ++ pg cds ad (upo gg7u1 [5060])) _ := hP
  have hD : va_D A ([(zo, .inl (cT 1, 1, .inr (.inl zf))), (ad 5060, .inr (11, MO yr yi ysb ybs))] ++ pg cds ad (upo gg7u1 [5060])) := hD
  refine hy_iQ (X := [(zo, .inl (cT 1, 1, .inr (.inl zf))), (ad 5060, .inr (11, MO yr yi ysb ybs))]) (pl := pg cds ad (upo gg7u1 [5060])) (cx := [(ad 5060, .inr (11, MO yr yi ysb ybs))]) (wr := [(zo, .inl (cT 1, 1, .inr (.inl zf)))]) hP hD hS hA [1] [0] rfl rfl (by decide) (by decide) (va_runV (As := [.long ((((a1 : Int32).toInt64) <<< ((32 : Int32).toInt64 &&& 63)) ||| (((a2 : Int32).toInt64) &&& 4294967295)), .int a3]) (rest := [.int ru1]) ⟨hx, hb, hml, hown, hT⟩ (y_sample l D cT (ad 5060) yr yi ysb ybs n ((((a1 : Int32).toInt64) <<< ((32 : Int32).toInt64 &&& 63)) ||| (((a2 : Int32).toInt64) &&& 4294967295)) a3 y3 hn48 _) ⟨callB_of 2 hT (tb_gd w1362) rfl rfl rfl (hT _ w13) (hT _ w1359) hM_sample ⟨Nat.le_of_ble_eq_true rfl, Nat.le_of_ble_eq_true rfl⟩, (hT _ w1360), (hT _ w1361)⟩ (RW.preV (ci := 11) (q0 := 0) hZ hS (hy_free (cx := [(ad 5060, .inr (11, MO yr yi ysb ybs))]) hD hS hA [1] rfl) (hP.sub (ws' := [(ad 5060, .inr (11, MO yr yi ysb ybs))]) [1] rfl) hK (hD.sub (ws' := [(ad 5060, .inr (11, MO yr yi ysb ybs))]) [1] (by decide) rfl) rfl rfl) rfl rfl hl.1 rfl (lv_room (Nat.le_of_ble_eq_true rfl)) dL_law_880 ⟨(by show ((2000 + j + 3 * fm + 4 * SM mk 16) + 0) + 0 ≤ 601024; omega), (by show ((400000 + 6 * j + 42 * fm + 69 * SM mk 16) + 0) + 0 ≤ 7293034; omega)⟩) (fun ru2 u9 H locs hpu2 hP hD hS => ?_)
  have hpu2 : ru2 = nI (cb (((((a1 : Int32).toInt64) <<< ((32 : Int32).toInt64 &&& 63)) ||| (((a2 : Int32).toInt64) &&& 4294967295)) &&& thr n)) := hpu2
  have hP : va_P D vwCl ([(zo, .inl (cT 1, 1, .inr (.inl zf))), (ad 5060, .inr (11, MO yr (va_up (va_up yi 1 0) 16 a3) ((((a1 : Int32).toInt64) <<< ((32 : Int32).toInt64 &&& 63)) ||| (((a2 : Int32).toInt64) &&& 4294967295)) ybs))] ++ pg cds ad (upo gg7u1 [5060])) _ := hP
  have hD : va_D A ([(zo, .inl (cT 1, 1, .inr (.inl zf))), (ad 5060, .inr (11, MO yr (va_up (va_up yi 1 0) 16 a3) ((((a1 : Int32).toInt64) <<< ((32 : Int32).toInt64 &&& 63)) ||| (((a2 : Int32).toInt64) &&& 4294967295)) ybs))] ++ pg cds ad (upo gg7u1 [5060])) := hD
  have hN9 := (show NDc [5060] from (nd_c na_0 nd_0))
  have hP := gb_P (w9 := [(5060, .inr (11, MO yr (va_up (va_up yi 1 0) 16 a3) ((((a1 : Int32).toInt64) <<< ((32 : Int32).toInt64 &&& 63)) ||| (((a2 : Int32).toInt64) &&& 4294967295)) ybs))]) (X := [(zo, .inl (cT 1, 1, .inr (.inl zf)))]) (g := gg7u1) hcd hN9 (show QB [(5060, .inr (11, MO yr (va_up (va_up yi 1 0) 16 a3) ((((a1 : Int32).toInt64) <<< ((32 : Int32).toInt64 &&& 63)) ||| (((a2 : Int32).toInt64) &&& 4294967295)) ybs))] from (qb_c (by decide) qb_0)) (hP.part (cx := [(zo, .inl (cT 1, 1, .inr (.inl zf))), (ad 5060, .inr (11, MO yr (va_up (va_up yi 1 0) 16 a3) ((((a1 : Int32).toInt64) <<< ((32 : Int32).toInt64 &&& 63)) ||| (((a2 : Int32).toInt64) &&& 4294967295)) ybs))]) [0, 1] rfl)
  have hD := gb_D (w9 := [(5060, .inr (11, MO yr (va_up (va_up yi 1 0) 16 a3) ((((a1 : Int32).toInt64) <<< ((32 : Int32).toInt64 &&& 63)) ||| (((a2 : Int32).toInt64) &&& 4294967295)) ybs))]) (X := [(zo, .inl (cT 1, 1, .inr (.inl zf)))]) (g := gg7u1) hcd hN9 (show QB [(5060, .inr (11, MO yr (va_up (va_up yi 1 0) 16 a3) ((((a1 : Int32).toInt64) <<< ((32 : Int32).toInt64 &&& 63)) ||| (((a2 : Int32).toInt64) &&& 4294967295)) ybs))] from (qb_c (by decide) qb_0)) (hD.part (cx := [(zo, .inl (cT 1, 1, .inr (.inl zf))), (ad 5060, .inr (11, MO yr (va_up (va_up yi 1 0) 16 a3) ((((a1 : Int32).toInt64) <<< ((32 : Int32).toInt64 &&& 63)) ||| (((a2 : Int32).toInt64) &&& 4294967295)) ybs))]) [0, 1] (by decide) rfl)
  obtain ⟨gy, hgy⟩ : ∃ q9, q9 = ups gg7u1 [(5060, .inr (11, MO yr (va_up (va_up yi 1 0) 16 a3) ((((a1 : Int32).toInt64) <<< ((32 : Int32).toInt64 &&& 63)) ||| (((a2 : Int32).toInt64) &&& 4294967295)) ybs))] := ⟨_, rfl⟩
  rw [← hgy] at hP hD
  have hP : va_P D vwCl ([(zo, .inl (cT 1, 1, .inr (.inl zf)))] ++ pg cds ad gy) _ := hP
  have hD : va_D A ([(zo, .inl (cT 1, 1, .inr (.inl zf)))] ++ pg cds ad gy) := hD
  have fgy : ∀ z8, z8 ≠ 5060 → gy z8 = gg7u1 z8 := fun z8 z1 => by rw [hgy]; exact ups_k (kp_n z1 kp_0)
  have gy_0 : gy 5060 = some (.inr (11, MO yr (va_up (va_up yi 1 0) 16 a3) ((((a1 : Int32).toInt64) <<< ((32 : Int32).toInt64 &&& 63)) ||| (((a2 : Int32).toInt64) &&& 4294967295)) ybs)) := by rw [hgy]; exact ups_1
  refine lv_icmp_eq (tgt := 1690) hx hb dL_law_883 rfl (fun _ => ?_) (fun h3 => absurd (cR.trans hpu2.symm) h3)
  obtain ⟨yiz, hyiz⟩ : ∃ f9 : Nat → Int32, f9 = va_up (va_up yi 1 0) 16 a3 := ⟨_, rfl⟩
  have hIz : LWI cT ad gg7u1 tE T fm mk F n wd dpt lst w ru rl ne Lo yiz ((((a1 : Int32).toInt64) <<< ((32 : Int32).toInt64 &&& 63)) ||| (((a2 : Int32).toInt64) &&& 4294967295)) yA := (by rw [hyiz]; exact ⟨fo, CLI.up hCL (Nat.le_refl _) (fun z8 n0 n1 n3 n4 n5 n6 n7 => cF z8 (by omega)) ((cF _ (by omega)).trans hob) ((cF _ (by omega)).trans chtb) (by obtain ⟨ft9, e1, e2⟩ := hTg; exact ⟨ft9, (cF _ (by omega)).trans e1, e2⟩) c4 (chCf.cg (fun z8 n1 n2 => cF z8 (by omega))) (hOut.cg (fun z8 n1 n2 => cF z8 (by omega))) (⟨sa9, (cF _ (by omega)).trans hso⟩), ⟨y2, y3, y10, y11, y12, y13, y14, y17, y47, y55, y8e, y18e, hRFN, hPR, hfoy⟩, ⟨hTf, hT16, hn48, hwd6, hdp4, hls2, hw20, hr9, hLo, hne, hik, hTOK, hS9, hVk, hVb, htg, hSEP, hSV7⟩⟩)
  have hIz := hIz.yg (g2 := gy) (fun z8 hz => fgy z8 (by omega))
  have hYz : YCL cT ad gy y yr yiz ((((a1 : Int32).toInt64) <<< ((32 : Int32).toInt64 &&& 63)) ||| (((a2 : Int32).toInt64) &&& 4294967295)) ybs yA yW F := by
    refine ⟨hYad, hyr, (by rw [hyiz]; exact gy_0), fun k hk => ?_⟩
    have hk2 : k = 0 ∨ (4 ≤ k ∧ k ≤ 9) ∨ (18 ≤ k ∧ k ≤ 46) ∨ k = 48 ∨ k = 49 ∨ (56 ≤ k ∧ k ≤ 59) := hk
    exact (fgy (5000 + k) (by omega)).trans ((cF (5000 + k) (by omega)).trans ((hYA k hk).trans (congrArg some (ycl_o rfl).symm)))
  rw [hyiz] at hIz hYz
  refine W.widen (k := 2000 + (j + 1) + 3 * fm + 4 * SM mk 16) (n := 400000 + 6 * (j + 1) + 42 * fm + 69 * SM mk 16) (by show ((2000 + j + 3 * fm + 4 * SM mk 16) + 0) + 0 ≤ 2000 + (j + 1) + 3 * fm + 4 * SM mk 16; omega) (by show ((400000 + 6 * j + 42 * fm + 69 * SM mk 16) + 0) + 0 ≤ 400000 + 6 * (j + 1) + 42 * fm + 69 * SM mk 16; omega) ?_
  have hl := lv_sub hl [0, 1, 2, 3, 4] rfl
  have hl : lv_has ls 7 [(0, .ref b), (1, .ref (ad 0)), (2, .ref y), (3, .ref zo), (4, .int (nI (4 * j)))] := by rw [← hYz.1]; exact hl
  exact hend ad gy T fm mk F n wd dpt lst w ru rl ne Lo (va_up (va_up yi 1 0) 16 a3) ((((a1 : Int32).toInt64) <<< ((32 : Int32).toInt64 &&& 63)) ||| (((a2 : Int32).toInt64) &&& 4294967295)) ybs yA yW zf _ _ ls hIz hYz hP hD hS hl
