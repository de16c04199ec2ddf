set_option maxHeartbeats 8000000 in
set_option maxRecDepth 100000 in
theorem lo_1 {p : Program} {l : Launch} {e : Env} {s : State} {m : MethodId} {args : Array Value} {below : List Frame} {meth : Method} {c : Code} {Q : State → Prop} {A : Nat → Prop} {H : Heap} {locs : List Loc} {ls : Array Slot} {b L : Nat} {xs : Nat → Int32} (D : va_G) (cT : Nat → ClassId) (cds : List Nat) (tE mE y : Nat) (yr : Nat → Nat) (zo j : Nat) (ad : Nat → Nat) (gg : Nat → Option va_E) (T : Nat) (fm : Nat) (mk : Nat → Nat) (F : TFR) (n : Nat) (wd : Nat) (dpt : Nat) (lst : Nat) (w : Nat) (ru : Nat) (rl : Nat) (ne : Nat → Nat) (Lo : Nat) (yi : Nat → Int32) (ysb : Int64) (ybs : Int64) (yA : Nat → Nat → Int32) (yW : Nat → Int64) (zf : Nat → Int64) (hlt : l.stackTraces = false) (hx : p.tables.exec = Jvm.exec) (hb : c.code = code) (hml : c.maxLocals = 7) (hown : s.vm.findClass "ResidualTreesLaw" = some m.cls) (hT : ∀ w ∈ TB, w.before args s = true) (hZ : ZZ A s s.heap) (hE0 : ZE tE mE A s s.heap) (hK : va_K D vwCl (TY cT) s) (hA : ∀ q : Nat, s.heap.size ≤ q → A q) (hX : va_X b L xs s s.heap) (hbl : b < s.heap.size) (hbA : ¬ A b) (hcd : CD cds) (hj : 4 * j + 4 ≤ L) (hL : L ≤ 2048) (hI : LWI cT ad gg tE T fm mk F n wd dpt lst w ru rl ne Lo yi ysb yA) (hYC : YCL cT ad gg y yr yi ysb ybs yA yW F) (hP : va_P D vwCl ([(zo, .inl (cT 1, 1, .inr (.inl zf)))] ++ pg cds ad gg) H) (hD : va_D A ([(zo, .inl (cT 1, 1, .inr (.inl zf)))] ++ pg cds ad gg)) (hS : va_S A s.heap H locs) (hl : lv_has ls 7 [(0, .ref b), (1, .ref (ad 0)), (2, .ref y), (3, .ref zo), (4, .int (nI (4 * j)))]) (hend : LEN2 p l e s m args below meth c Q A D cT cds tE y yr zo b j) : W p l e room_1 s m args below meth c H locs (2000 + j + 3 * fm + 4 * SM mk 16) (400000 + 6 * j + 42 * fm + 69 * SM mk 16) Q (F0 m 184 ls []) := by
  obtain ⟨a1, ha1⟩ : ∃ q9 : Int32, q9 = xs (4 * j + 1) := ⟨_, rfl⟩
  obtain ⟨a2, ha2⟩ : ∃ q9 : Int32, q9 = xs (4 * j + 2) := ⟨_, rfl⟩
  obtain ⟨a3, ha3⟩ : ∃ q9 : Int32, q9 = xs (4 * j + 3) := ⟨_, rfl⟩
  obtain ⟨hfm16, hSM⟩ := lwi_b hI
  obtain ⟨hYad, hYr0, hYy, hYA⟩ := hYC
  have hyr := hYr0
  obtain ⟨fo, hCL, hRF, hPU⟩ := id hI
  obtain ⟨hTV, hOut, ⟨sa9, hso⟩, ⟨zq9, hS1⟩, ⟨zr9, hS2⟩, ⟨z58, hS3⟩⟩ := id hCL
  obtain ⟨hob, hTg, hFT, hTs, ⟨zs0, hGB⟩, ⟨zf0, hLf⟩, ⟨zc0, hCm⟩⟩ := id hTV
  obtain ⟨chtb, chRs, chCa, chCf, chpl, chGa, chSc, chGs, ⟨cfo, chod⟩, cbb9, ctt9, cb90, cik0, chgr, chbt, chSP⟩ := id hGB
  obtain ⟨y2, y3, y10, y11, y12, y13, y14, y17, y47, y55, y8e, y18e, hRFN, hPR, hfoy⟩ := id hRF
  obtain ⟨hTf, hT16, hn48, hwd6, hdp4, hls2, hw20, hr9, hLo, hne, hik, hTOK, hS9, hVk, hVb, htg, hSEP, hSV7⟩ := id hPU
  have hl : lv_has ls 7 [(0, .ref b), (1, .ref (ad 0)), (2, .ref (ad 5060)), (3, .ref zo), (4, .int (nI (4 * j)))] := by rw [hYad]; exact hl
  by_cases hq : (-1000) ≤ a1 ∧ a1 ≤ 1000
  · by_cases hn : n = 48
    · refine lv_aload_n hx hb dL_law_184 rfl (lv_at hl 1 rfl) ?_
      refine lv_aload_n hx hb dL_law_185 rfl (lv_at hl 0 rfl) ?_
      refine lv_iload hx hb dL_law_186 (lv_at hl 4 rfl) ?_
      refine lv_iconst (v := 1) hx hb dL_law_188 (by decide) ?_
      refine lv_iadd hx hb dL_law_189 ?_
      refine lv_topi (fun y9 e9 => ?_)
      cases (show y9 = nI ((4 * j) + 1) from e9.trans (nI_add (4 * j) 1))
      refine va_sld hx hb hX hbl hbA hS (vp_in_nI (n := 4 * j + 1) (N := L) (by omega) (by omega)) dL_law_190 ?_
      refine lv_topi (fun y9 e9 => ?_)
      cases (show y9 = a1 from e9.trans (by rw [nI_clamp (by omega)]; exact ha1.symm))
      refine lv_aload_n hx hb dL_law_191 rfl (lv_at hl 3 rfl) ?_
      refine hy_iP (X := [(zo, .inl (cT 1, 1, .inr (.inl zf)))]) (pl := pg cds ad gg) (cx := [(zo, .inl (cT 1, 1, .inr (.inl zf)))]) (wr := []) hP hD hS hA [0] [] rfl rfl (by decide) (by decide) (tx_runSH (As := [.ref (ad 0), .int a1, .ref zo]) (rest := []) ⟨hx, hb, hml, hown, hT⟩ (l_add_no2 l D cT cds ad gg (nI T) (nI wd) a1 zo zf hlt hcd hob (by rw [hn] at chtb; exact chtb) hq _) hT (tc_gd w573 w574 w0 (tb_gd w575)) rfl rfl rfl hL_add ⟨Nat.le_of_ble_eq_true rfl, Nat.le_of_ble_eq_true rfl⟩ (RW.preS hZ hS (va_freeP (cx := [(zo, .inl (cT 1, 1, .inr (.inl zf)))]) hD hS hA [0] rfl) (hP.part (cx := [(zo, .inl (cT 1, 1, .inr (.inl zf)))]) [0] rfl) hK (hD.part (cx := [(zo, .inl (cT 1, 1, .inr (.inl zf)))]) [0] (by decide) rfl)) rfl hl.1 rfl (Nat.le_of_ble_eq_true rfl) dL_law_192 ⟨(by show (2000 + j + 3 * fm + 4 * SM mk 16) + 1 ≤ 601024; omega), (by show (400000 + 6 * j + 42 * fm + 69 * SM mk 16) + 6 ≤ 7293034; omega)⟩) (fun ru1 u9 H locs hpu1 hP hD hS => ?_)
      have hpu1 : ru1 = 2 := hpu1
      have hP : va_P D vwCl ([(zo, .inl (cT 1, 1, .inr (.inl zf)))] ++ pg cds ad gg) _ := hP
      have hD : va_D A ([(zo, .inl (cT 1, 1, .inr (.inl zf)))] ++ pg cds ad gg) := hD
      refine lv_topi (fun y9 e9 => ?_)
      cases (show y9 = 2 from e9.trans hpu1)
      refine lv_istore hx hb dL_law_195 hl (by decide) rfl (fun ls hl => ?_)
      have hl : lv_has ls 7 [(5, .int 2), (0, .ref b), (1, .ref (ad 0)), (2, .ref (ad 5060)), (3, .ref zo), (4, .int (nI (4 * j)))] := hl
      refine lv_aload_n hx hb dL_law_197 rfl (lv_at hl 3 rfl) ?_
      refine lv_aload_n hx hb dL_law_198 rfl (lv_at hl 1 rfl) ?_
      refine lv_iload hx hb dL_law_199 (lv_at hl 5 rfl) ?_
      refine lv_iconst (v := 1) hx hb dL_law_201 (by decide) ?_
      refine lv_iadd hx hb dL_law_202 ?_
      refine lv_topi (fun y9 e9 => ?_)
      cases (show y9 = nI ((4 * j) + 1) from e9.trans (nI_add (4 * j) 1))
      refine va_sld hx hb hX hbl hbA hS (vp_in_nI (n := 4 * j + 1) (N := L) (by omega) (by omega)) dL_law_203 ?_
      refine lv_topi (fun y9 e9 => ?_)
      cases (show y9 = a1 from e9.trans (by rw [nI_clamp (by omega)]; exact ha1.symm))
      have hB9 : QI gg [(5060, .inr (11, MO yr yi ysb ybs))] := (qi_c (by decide) hYy qi_0)
      have hN9 := (show NDc [5060] from (nd_c na_0 nd_0))
      have hP := bo_P (wc := [(5060, .inr (11, MO yr yi ysb ybs))]) (X := [(zo, .inl (cT 1, 1, .inr (.inl zf)))]) hcd hN9 hB9 hP
      have hD := bo_D (wc := [(5060, .inr (11, MO yr yi ysb ybs))]) (X := [(zo, .inl (cT 1, 1, .inr (.inl zf)))]) hcd hN9 hB9 hD
      have hP : va_P D vwCl ([(zo, .inl (cT 1, 1, .inr (.inl zf))), (ad 5060, .inr (11, MO yr yi ysb ybs))] ++ pg cds ad (upo gg [5060])) _ := hP
      have hD : va_D A ([(zo, .inl (cT 1, 1, .inr (.inl zf))), (ad 5060, .inr (11, MO yr yi ysb ybs))] ++ pg cds ad (upo gg [5060])) := hD
      refine hy_iQ (X := [(zo, .inl (cT 1, 1, .inr (.inl zf))), (ad 5060, .inr (11, MO yr yi ysb ybs))]) (pl := pg cds ad (upo gg [5060])) (cx := [(ad 5060, .inr (11, MO yr yi ysb ybs))]) (wr := [(zo, .inl (cT 1, 1, .inr (.inl zf)))]) hP hD hS hA [1] [0] rfl rfl (by decide) (by decide) (va_runV (As := [.int a1]) (rest := []) ⟨hx, hb, hml, hown, hT⟩ (y_add_no2 l D cT (ad 5060) yr yi ysb ybs a1 hq (by rw [y3, hn]; rfl) _) ⟨callB_of 1 hT (tb_gd w1305) rfl rfl rfl (hT _ w13) (hT _ w1302) hM_addb ⟨Nat.le_of_ble_eq_true rfl, Nat.le_of_ble_eq_true rfl⟩, (hT _ w1303), (hT _ w1304)⟩ (RW.preV (ci := 11) (q0 := 0) hZ hS (hy_free (cx := [(ad 5060, .inr (11, MO yr yi ysb ybs))]) hD hS hA [1] rfl) (hP.sub (ws' := [(ad 5060, .inr (11, MO yr yi ysb ybs))]) [1] rfl) hK (hD.sub (ws' := [(ad 5060, .inr (11, MO yr yi ysb ybs))]) [1] (by decide) rfl) rfl rfl) rfl rfl hl.1 rfl (lv_room (Nat.le_of_ble_eq_true rfl)) dL_law_204 ⟨(by show ((2000 + j + 3 * fm + 4 * SM mk 16) + 1) + 0 ≤ 601024; omega), (by show ((400000 + 6 * j + 42 * fm + 69 * SM mk 16) + 6) + 0 ≤ 7293034; omega)⟩) (fun ru2 u9 H locs hpu2 hP hD hS => ?_)
      have hpu2 : ru2 = 0 := hpu2
      have hP : va_P D vwCl ([(zo, .inl (cT 1, 1, .inr (.inl zf))), (ad 5060, .inr (11, MO yr (va_up yi 1 2) ysb ybs))] ++ pg cds ad (upo gg [5060])) _ := hP
      have hD : va_D A ([(zo, .inl (cT 1, 1, .inr (.inl zf))), (ad 5060, .inr (11, MO yr (va_up yi 1 2) ysb ybs))] ++ pg cds ad (upo gg [5060])) := hD
      refine lv_topi (fun y9 e9 => ?_)
      cases (show y9 = 0 from e9.trans hpu2)
      have hN9 := (show NDc [5060] from (nd_c na_0 nd_0))
      have hP := gb_P (w9 := [(5060, .inr (11, MO yr (va_up yi 1 2) ysb ybs))]) (X := [(zo, .inl (cT 1, 1, .inr (.inl zf)))]) (g := gg) hcd hN9 (show QB [(5060, .inr (11, MO yr (va_up yi 1 2) ysb ybs))] from (qb_c (by decide) qb_0)) (hP.part (cx := [(zo, .inl (cT 1, 1, .inr (.inl zf))), (ad 5060, .inr (11, MO yr (va_up yi 1 2) ysb ybs))]) [0, 1] rfl)
      have hD := gb_D (w9 := [(5060, .inr (11, MO yr (va_up yi 1 2) ysb ybs))]) (X := [(zo, .inl (cT 1, 1, .inr (.inl zf)))]) (g := gg) hcd hN9 (show QB [(5060, .inr (11, MO yr (va_up yi 1 2) ysb ybs))] from (qb_c (by decide) qb_0)) (hD.part (cx := [(zo, .inl (cT 1, 1, .inr (.inl zf))), (ad 5060, .inr (11, MO yr (va_up yi 1 2) ysb ybs))]) [0, 1] (by decide) rfl)
      obtain ⟨gy, hgy⟩ : ∃ q9, q9 = ups gg [(5060, .inr (11, MO yr (va_up yi 1 2) ysb ybs))] := ⟨_, rfl⟩
      rw [← hgy] at hP hD
      have hP : va_P D vwCl ([(zo, .inl (cT 1, 1, .inr (.inl zf)))] ++ pg cds ad gy) _ := hP
      have hD : va_D A ([(zo, .inl (cT 1, 1, .inr (.inl zf)))] ++ pg cds ad gy) := hD
      have fgy : ∀ z8, z8 ≠ 5060 → gy z8 = gg z8 := fun z8 z1 => by rw [hgy]; exact ups_k (kp_n z1 kp_0)
      have gy_0 : gy 5060 = some (.inr (11, MO yr (va_up yi 1 2) ysb ybs)) := by rw [hgy]; exact ups_1
      refine lv_istore hx hb dL_law_207 hl (by decide) rfl (fun ls hl => ?_)
      have hl : lv_has ls 7 [(6, .int 0), (5, .int 2), (0, .ref b), (1, .ref (ad 0)), (2, .ref (ad 5060)), (3, .ref zo), (4, .int (nI (4 * j)))] := hl
      refine lv_aload_n hx hb dL_law_209 rfl (lv_at hl 4 rfl) ?_
      refine ro_i (va_Run.run (va_runV (As := []) (rest := []) ⟨hx, hb, hml, hown, hT⟩ (m_thrown l D cT (ad 5060) yr (va_up yi 1 2) ysb ybs) ⟨callB_of 0 hT (tb_gd w1290) rfl rfl rfl (hT _ w13) (hT _ w1287) hM_thrown ⟨Nat.le_of_ble_eq_true rfl, Nat.le_of_ble_eq_true rfl⟩, (hT _ w1288), (hT _ w1289)⟩ (RO.preV (ci := 11) (q0 := 0) hZ hS ((show va_P D vwCl [(ad 5060, .inr (11, MO yr (va_up yi 1 2) ysb ybs))] _ from (pv_c (pg_1 (x := 5060) hcd hP (by decide) gy_0) pv_0))) hK rfl rfl) rfl rfl hl.1 rfl (lv_room (Nat.le_of_ble_eq_true rfl)) dL_law_210 ⟨(by show (((2000 + j + 3 * fm + 4 * SM mk 16) + 1) + 0) + 0 ≤ 601024; omega), (by show (((400000 + 6 * j + 42 * fm + 69 * SM mk 16) + 6) + 0) + 0 ≤ 7293034; omega)⟩)) ?_
      refine lv_topi (fun y9 e9 => ?_)
      cases (show y9 = 2 from e9.trans rfl)
      refine lv_iload hx hb dL_law_213 (lv_at hl 1 rfl) ?_
      refine lv_icmp_eq (tgt := 220) hx hb dL_law_215 rfl (fun _ => ?_) (fun h3 => absurd (by decide) h3)
      refine lv_iload hx hb dL_law_220 (lv_at hl 1 rfl) ?_
      refine lv_if_ne (tgt := 237) hx hb dL_law_222 rfl (fun _ => ?_) (fun h4 => absurd h4 (by decide))
      refine lv_goto (tgt := 1690) hx hb dL_law_237 rfl ?_
      obtain ⟨yiz, hyiz⟩ : ∃ f9 : Nat → Int32, f9 = va_up yi 1 2 := ⟨_, rfl⟩
      have hIz : LWI cT ad gg tE T fm mk F n wd dpt lst w ru rl ne Lo yiz ysb yA := hI.sc (fun k hk => by rw [hyiz]; exact va_up_ne _ _ hk) (fun _ _ => rfl)
      have hIz := hIz.yg (g2 := gy) (fun z8 hz => fgy z8 (by omega))
      have hYz : YCL cT ad gy y yr yiz ysb ybs yA yW F := by
        refine ⟨hYad, hyr, (by rw [hyiz]; exact gy_0), fun k hk => ?_⟩
        have hk2 : k = 0 ∨ (4 ≤ k ∧ k ≤ 9) ∨ (18 ≤ k ∧ k ≤ 46) ∨ k = 48 ∨ k = 49 ∨ (56 ≤ k ∧ k ≤ 59) := hk
        exact (fgy (5000 + k) (by omega)).trans ((hYA k hk).trans (congrArg some (ycl_o rfl).symm))
      rw [hyiz] at hIz hYz
      refine W.widen (k := 2000 + (j + 1) + 3 * fm + 4 * SM mk 16) (n := 400000 + 6 * (j + 1) + 42 * fm + 69 * SM mk 16) (by show ((2000 + j + 3 * fm + 4 * SM mk 16) + 1) + 0 ≤ 2000 + (j + 1) + 3 * fm + 4 * SM mk 16; omega) (by show ((400000 + 6 * j + 42 * fm + 69 * SM mk 16) + 6) + 0 ≤ 400000 + 6 * (j + 1) + 42 * fm + 69 * SM mk 16; omega) ?_
      have hl := lv_sub hl [2, 3, 4, 5, 6] rfl
      have hl : lv_has ls 7 [(0, .ref b), (1, .ref (ad 0)), (2, .ref y), (3, .ref zo), (4, .int (nI (4 * j)))] := by rw [← hYz.1]; exact hl
      exact hend ad gy T fm mk F n wd dpt lst w ru rl ne Lo (va_up yi 1 2) ysb ybs yA yW zf _ _ ls hIz hYz hP hD hS hl
    · refine lv_aload_n hx hb dL_law_184 rfl (lv_at hl 1 rfl) ?_
      refine lv_aload_n hx hb dL_law_185 rfl (lv_at hl 0 rfl) ?_
      refine lv_iload hx hb dL_law_186 (lv_at hl 4 rfl) ?_
      refine lv_iconst (v := 1) hx hb dL_law_188 (by decide) ?_
      refine lv_iadd hx hb dL_law_189 ?_
      refine lv_topi (fun y9 e9 => ?_)
      cases (show y9 = nI ((4 * j) + 1) from e9.trans (nI_add (4 * j) 1))
      refine va_sld hx hb hX hbl hbA hS (vp_in_nI (n := 4 * j + 1) (N := L) (by omega) (by omega)) dL_law_190 ?_
      refine lv_topi (fun y9 e9 => ?_)
      cases (show y9 = a1 from e9.trans (by rw [nI_clamp (by omega)]; exact ha1.symm))
      refine lv_aload_n hx hb dL_law_191 rfl (lv_at hl 3 rfl) ?_
      refine hy_iP (X := [(zo, .inl (cT 1, 1, .inr (.inl zf)))]) (pl := pg cds ad gg) (cx := [(zo, .inl (cT 1, 1, .inr (.inl zf)))]) (wr := []) hP hD hS hA [0] [] rfl rfl (by decide) (by decide) (tx_runSH (As := [.ref (ad 0), .int a1, .ref zo]) (rest := []) ⟨hx, hb, hml, hown, hT⟩ (l_add l D cT cds ad gg (nI T) (nI wd) n (yA 5) (yA 9) (yA 7) (yA 6) ne (yA 4) (fun q => if q < 6 * n then yA 5 q else (-2147483648)) a1 zo zf hcd hob chtb chCa chCf hTg (by omega) (fun q hq6 => if_neg (by omega)) (fun q hq6 => if_pos hq6) hq _) hT (tc_gd w573 w574 w0 (tb_gd w575)) rfl rfl rfl hL_add ⟨Nat.le_of_ble_eq_true rfl, Nat.le_of_ble_eq_true rfl⟩ (RW.preS hZ hS (va_freeP (cx := [(zo, .inl (cT 1, 1, .inr (.inl zf)))]) hD hS hA [0] rfl) (hP.part (cx := [(zo, .inl (cT 1, 1, .inr (.inl zf)))]) [0] rfl) hK (hD.part (cx := [(zo, .inl (cT 1, 1, .inr (.inl zf)))]) [0] (by decide) rfl)) rfl hl.1 rfl (Nat.le_of_ble_eq_true rfl) dL_law_192 ⟨(by show (2000 + j + 3 * fm + 4 * SM mk 16) + 0 ≤ 601024; omega), (by show (400000 + 6 * j + 42 * fm + 69 * SM mk 16) + 0 ≤ 7293034; omega)⟩) (fun ru5 u9 H locs hpu5 hP hD hS => ?_)
      obtain ⟨gg7u5, rvu5⟩ := u9
      have hpu5 : ru5 = 0 ∧ rvu5 = nI n ∧ (∀ z8, z8 ≠ 1 → z8 ≠ 3 → (z8 < 20 ∨ 26 ≤ z8) → gg7u5 z8 = gg z8) ∧ gg7u5 1 = some (eTB ad (nI wd) (nI (n + 1))) ∧ TGp cT gg7u5 (n + 1) (upd (yA 4) n a1) ∧ COLF cT ad gg7u5 (n + 1) (fun q => if q < 6 * n then yA 5 q else (-2147483648)) (yA 9) (yA 7) (yA 6) ne := hpu5
      have hP : va_P D vwCl ([(zo, .inl (cT 1, 1, .inr (.inl (vp_updL zf 0 (Int32.toInt64 rvu5)))))] ++ pg cds ad gg7u5) _ := hP
      have hD : va_D A ([(zo, .inl (cT 1, 1, .inr (.inl (vp_updL zf 0 (Int32.toInt64 rvu5)))))] ++ pg cds ad gg7u5) := hD
      refine lv_topi (fun y9 e9 => ?_)
      cases (show y9 = 0 from e9.trans hpu5.1)
      obtain ⟨_, cR, cF, c1n, c3n, ccn⟩ := hpu5
      refine lv_istore hx hb dL_law_195 hl (by decide) rfl (fun ls hl => ?_)
      have hl : lv_has ls 7 [(5, .int 0), (0, .ref b), (1, .ref (ad 0)), (2, .ref (ad 5060)), (3, .ref zo), (4, .int (nI (4 * j)))] := hl
      refine lv_aload_n hx hb dL_law_197 rfl (lv_at hl 3 rfl) ?_
      refine lv_aload_n hx hb dL_law_198 rfl (lv_at hl 1 rfl) ?_
      refine lv_iload hx hb dL_law_199 (lv_at hl 5 rfl) ?_
      refine lv_iconst (v := 1) hx hb dL_law_201 (by decide) ?_
      refine lv_iadd hx hb dL_law_202 ?_
      refine lv_topi (fun y9 e9 => ?_)
      cases (show y9 = nI ((4 * j) + 1) from e9.trans (nI_add (4 * j) 1))
      refine va_sld hx hb hX hbl hbA hS (vp_in_nI (n := 4 * j + 1) (N := L) (by omega) (by omega)) dL_law_203 ?_
      refine lv_topi (fun y9 e9 => ?_)
      cases (show y9 = a1 from e9.trans (by rw [nI_clamp (by omega)]; exact ha1.symm))
      have hB9 : QI gg7u5 [(5060, .inr (11, MO yr yi ysb ybs)), (5004, .inl (cT 0, 48, .inl (yA 4))), (5005, .inl (cT 0, 288, .inl (yA 5)))] := (qi_c (by decide) ((cF 5060 (by omega) (by omega) (by omega)).trans hYy) (qi_c (by decide) ((cF 5004 (by omega) (by omega) (by omega)).trans (hYA 4 (by unfold YKy; omega))) (qi_c (by decide) ((cF 5005 (by omega) (by omega) (by omega)).trans (hYA 5 (by unfold YKy; omega))) qi_0)))
      have hN9 := (show NDc [5060, 5004, 5005] from (nd_c (na_c (by decide) (na_c (by decide) na_0)) (nd_c (na_c (by decide) na_0) (nd_c na_0 nd_0))))
      have hP := bo_P (wc := [(5060, .inr (11, MO yr yi ysb ybs)), (5004, .inl (cT 0, 48, .inl (yA 4))), (5005, .inl (cT 0, 288, .inl (yA 5)))]) (X := [(zo, .inl (cT 1, 1, .inr (.inl (vp_updL zf 0 (Int32.toInt64 rvu5)))))]) hcd hN9 hB9 hP
      have hD := bo_D (wc := [(5060, .inr (11, MO yr yi ysb ybs)), (5004, .inl (cT 0, 48, .inl (yA 4))), (5005, .inl (cT 0, 288, .inl (yA 5)))]) (X := [(zo, .inl (cT 1, 1, .inr (.inl (vp_updL zf 0 (Int32.toInt64 rvu5)))))]) hcd hN9 hB9 hD
      have hP : va_P D vwCl ([(zo, .inl (cT 1, 1, .inr (.inl (vp_updL zf 0 (Int32.toInt64 rvu5))))), (ad 5060, .inr (11, MO yr yi ysb ybs)), (ad 5004, .inl (cT 0, 48, .inl (yA 4))), (ad 5005, .inl (cT 0, 288, .inl (yA 5)))] ++ pg cds ad (upo gg7u5 [5060, 5004, 5005])) _ := hP
      have hD : va_D A ([(zo, .inl (cT 1, 1, .inr (.inl (vp_updL zf 0 (Int32.toInt64 rvu5))))), (ad 5060, .inr (11, MO yr yi ysb ybs)), (ad 5004, .inl (cT 0, 48, .inl (yA 4))), (ad 5005, .inl (cT 0, 288, .inl (yA 5)))] ++ pg cds ad (upo gg7u5 [5060, 5004, 5005])) := hD
      have hw9 : ([(zo, .inl (cT 1, 1, .inr (.inl (vp_updL zf 0 (Int32.toInt64 rvu5))))), (ad 5060, .inr (11, MO yr yi ysb ybs)), (yr 4, .inl (cT 0, 48, .inl (yA 4))), (yr 5, .inl (cT 0, 288, .inl (yA 5)))] ++ pg cds ad (upo gg7u5 [5060, 5004, 5005])) = ([(zo, .inl (cT 1, 1, .inr (.inl (vp_updL zf 0 (Int32.toInt64 rvu5))))), (ad 5060, .inr (11, MO yr yi ysb ybs)), (ad 5004, .inl (cT 0, 48, .inl (yA 4))), (ad 5005, .inl (cT 0, 288, .inl (yA 5)))] ++ pg cds ad (upo gg7u5 [5060, 5004, 5005])) := by rw [show yr 4 = ad 5004 from (hyr 4 (by unfold YKy; omega)).symm, show yr 5 = ad 5005 from (hyr 5 (by unfold YKy; omega)).symm]
      have hP := vP_eq hw9 hP
      have hD := vD_eq hw9 hD
      have hP : va_P D vwCl ([(zo, .inl (cT 1, 1, .inr (.inl (vp_updL zf 0 (Int32.toInt64 rvu5))))), (ad 5060, .inr (11, MO yr yi ysb ybs)), (yr 4, .inl (cT 0, 48, .inl (yA 4))), (yr 5, .inl (cT 0, 288, .inl (yA 5)))] ++ pg cds ad (upo gg7u5 [5060, 5004, 5005])) _ := hP
      have hD : va_D A ([(zo, .inl (cT 1, 1, .inr (.inl (vp_updL zf 0 (Int32.toInt64 rvu5))))), (ad 5060, .inr (11, MO yr yi ysb ybs)), (yr 4, .inl (cT 0, 48, .inl (yA 4))), (yr 5, .inl (cT 0, 288, .inl (yA 5)))] ++ pg cds ad (upo gg7u5 [5060, 5004, 5005])) := hD
      refine hy_iQ (X := [(zo, .inl (cT 1, 1, .inr (.inl (vp_updL zf 0 (Int32.toInt64 rvu5))))), (ad 5060, .inr (11, MO yr yi ysb ybs)), (yr 4, .inl (cT 0, 48, .inl (yA 4))), (yr 5, .inl (cT 0, 288, .inl (yA 5)))]) (pl := pg cds ad (upo gg7u5 [5060, 5004, 5005])) (cx := [(ad 5060, .inr (11, MO yr yi ysb ybs)), (yr 4, .inl (cT 0, 48, .inl (yA 4))), (yr 5, .inl (cT 0, 288, .inl (yA 5)))]) (wr := [(zo, .inl (cT 1, 1, .inr (.inl (vp_updL zf 0 (Int32.toInt64 rvu5)))))]) hP hD hS hA [1, 2, 3] [0] rfl rfl (by decide) (by decide) (va_runV (As := [.int a1]) (rest := []) ⟨hx, hb, hml, hown, hT⟩ (y_add_ok l D cT (ad 5060) yr yi ysb ybs (yA 4) (yA 5) n a1 y3 (by omega) hq _) ⟨callB_of 1 hT (tb_gd w1305) rfl rfl rfl (hT _ w13) (hT _ w1302) hM_addb ⟨Nat.le_of_ble_eq_true rfl, Nat.le_of_ble_eq_true rfl⟩, (hT _ w1303), (hT _ w1304)⟩ (RW.preV (ci := 11) (q0 := 0) hZ hS (hy_free (cx := [(ad 5060, .inr (11, MO yr yi ysb ybs)), (yr 4, .inl (cT 0, 48, .inl (yA 4))), (yr 5, .inl (cT 0, 288, .inl (yA 5)))]) hD hS hA [1, 2, 3] rfl) (hP.sub (ws' := [(ad 5060, .inr (11, MO yr yi ysb ybs)), (yr 4, .inl (cT 0, 48, .inl (yA 4))), (yr 5, .inl (cT 0, 288, .inl (yA 5)))]) [1, 2, 3] rfl) hK (hD.sub (ws' := [(ad 5060, .inr (11, MO yr yi ysb ybs)), (yr 4, .inl (cT 0, 48, .inl (yA 4))), (yr 5, .inl (cT 0, 288, .inl (yA 5)))]) [1, 2, 3] (by decide) rfl) rfl rfl) rfl rfl hl.1 rfl (lv_room (Nat.le_of_ble_eq_true rfl)) dL_law_204 ⟨(by show ((2000 + j + 3 * fm + 4 * SM mk 16) + 0) + 0 ≤ 601024; omega), (by show ((400000 + 6 * j + 42 * fm + 69 * SM mk 16) + 0) + 0 ≤ 7293034; omega)⟩) (fun ru6 u9 H locs hpu6 hP hD hS => ?_)
      obtain ⟨v7u6, rfl⟩ : ∃ q9, q9 = u9 := ⟨_, rfl⟩
      have hpu6 : ru6 = nI n ∧ (∀ q8, q8 < 6 → v7u6 (6 * n + q8) = (-2147483648)) ∧ ∀ q8, q8 < 6 * n ∨ 6 * n + 6 ≤ q8 → v7u6 q8 = (yA 5) q8 := hpu6
      have hP : va_P D vwCl ([(zo, .inl (cT 1, 1, .inr (.inl (vp_updL zf 0 (Int32.toInt64 rvu5))))), (ad 5060, .inr (11, MO yr (va_up (va_up yi 1 0) 3 (nI (n + 1))) ysb ybs)), (yr 4, .inl (cT 0, 48, .inl (upd (yA 4) n a1))), (yr 5, .inl (cT 0, 288, .inl v7u6))] ++ pg cds ad (upo gg7u5 [5060, 5004, 5005])) _ := hP
      have hD : va_D A ([(zo, .inl (cT 1, 1, .inr (.inl (vp_updL zf 0 (Int32.toInt64 rvu5))))), (ad 5060, .inr (11, MO yr (va_up (va_up yi 1 0) 3 (nI (n + 1))) ysb ybs)), (yr 4, .inl (cT 0, 48, .inl (upd (yA 4) n a1))), (yr 5, .inl (cT 0, 288, .inl v7u6))] ++ pg cds ad (upo gg7u5 [5060, 5004, 5005])) := hD
      obtain ⟨yR, yM, yO⟩ := hpu6
      have hw9 : ([(zo, .inl (cT 1, 1, .inr (.inl (vp_updL zf 0 (Int32.toInt64 rvu5))))), (ad 5060, .inr (11, MO yr (va_up (va_up yi 1 0) 3 (nI (n + 1))) ysb ybs)), (ad 5004, .inl (cT 0, 48, .inl (upd (yA 4) n a1))), (ad 5005, .inl (cT 0, 288, .inl v7u6))] ++ pg cds ad (upo gg7u5 [5060, 5004, 5005])) = ([(zo, .inl (cT 1, 1, .inr (.inl (vp_updL zf 0 (Int32.toInt64 rvu5))))), (ad 5060, .inr (11, MO yr (va_up (va_up yi 1 0) 3 (nI (n + 1))) ysb ybs)), (yr 4, .inl (cT 0, 48, .inl (upd (yA 4) n a1))), (yr 5, .inl (cT 0, 288, .inl v7u6))] ++ pg cds ad (upo gg7u5 [5060, 5004, 5005])) := by rw [show ad 5004 = yr 4 from hyr 4 (by unfold YKy; omega), show ad 5005 = yr 5 from hyr 5 (by unfold YKy; omega)]
      have hP := vP_eq hw9 hP
      have hD := vD_eq hw9 hD
      have hP : va_P D vwCl ([(zo, .inl (cT 1, 1, .inr (.inl (vp_updL zf 0 (Int32.toInt64 rvu5))))), (ad 5060, .inr (11, MO yr (va_up (va_up yi 1 0) 3 (nI (n + 1))) ysb ybs)), (ad 5004, .inl (cT 0, 48, .inl (upd (yA 4) n a1))), (ad 5005, .inl (cT 0, 288, .inl v7u6))] ++ pg cds ad (upo gg7u5 [5060, 5004, 5005])) _ := hP
      have hD : va_D A ([(zo, .inl (cT 1, 1, .inr (.inl (vp_updL zf 0 (Int32.toInt64 rvu5))))), (ad 5060, .inr (11, MO yr (va_up (va_up yi 1 0) 3 (nI (n + 1))) ysb ybs)), (ad 5004, .inl (cT 0, 48, .inl (upd (yA 4) n a1))), (ad 5005, .inl (cT 0, 288, .inl v7u6))] ++ pg cds ad (upo gg7u5 [5060, 5004, 5005])) := hD
      have hN9 := (show NDc [5060, 5004, 5005] from (nd_c (na_c (by decide) (na_c (by decide) na_0)) (nd_c (na_c (by decide) na_0) (nd_c na_0 nd_0))))
      have hP := gb_P (w9 := [(5060, .inr (11, MO yr (va_up (va_up yi 1 0) 3 (nI (n + 1))) ysb ybs)), (5004, .inl (cT 0, 48, .inl (upd (yA 4) n a1))), (5005, .inl (cT 0, 288, .inl v7u6))]) (X := [(zo, .inl (cT 1, 1, .inr (.inl (vp_updL zf 0 (Int32.toInt64 rvu5)))))]) (g := gg7u5) hcd hN9 (show QB [(5060, .inr (11, MO yr (va_up (va_up yi 1 0) 3 (nI (n + 1))) ysb ybs)), (5004, .inl (cT 0, 48, .inl (upd (yA 4) n a1))), (5005, .inl (cT 0, 288, .inl v7u6))] from (qb_c (by decide) (qb_c (by decide) (qb_c (by decide) qb_0)))) (hP.part (cx := [(zo, .inl (cT 1, 1, .inr (.inl (vp_updL zf 0 (Int32.toInt64 rvu5))))), (ad 5060, .inr (11, MO yr (va_up (va_up yi 1 0) 3 (nI (n + 1))) ysb ybs)), (ad 5004, .inl (cT 0, 48, .inl (upd (yA 4) n a1))), (ad 5005, .inl (cT 0, 288, .inl v7u6))]) [0, 1, 2, 3] rfl)
      have hD := gb_D (w9 := [(5060, .inr (11, MO yr (va_up (va_up yi 1 0) 3 (nI (n + 1))) ysb ybs)), (5004, .inl (cT 0, 48, .inl (upd (yA 4) n a1))), (5005, .inl (cT 0, 288, .inl v7u6))]) (X := [(zo, .inl (cT 1, 1, .inr (.inl (vp_updL zf 0 (Int32.toInt64 rvu5)))))]) (g := gg7u5) hcd hN9 (show QB [(5060, .inr (11, MO yr (va_up (va_up yi 1 0) 3 (nI (n + 1))) ysb ybs)), (5004, .inl (cT 0, 48, .inl (upd (yA 4) n a1))), (5005, .inl (cT 0, 288, .inl v7u6))] from (qb_c (by decide) (qb_c (by decide) (qb_c (by decide) qb_0)))) (hD.part (cx := [(zo, .inl (cT 1, 1, .inr (.inl (vp_updL zf 0 (Int32.toInt64 rvu5))))), (ad 5060, .inr (11, MO yr (va_up (va_up yi 1 0) 3 (nI (n + 1))) ysb ybs)), (ad 5004, .inl (cT 0, 48, .inl (upd (yA 4) n a1))), (ad 5005, .inl (cT 0, 288, .inl v7u6))]) [0, 1, 2, 3] (by decide) rfl)
      obtain ⟨gy, hgy⟩ : ∃ q9, q9 = ups gg7u5 [(5060, .inr (11, MO yr (va_up (va_up yi 1 0) 3 (nI (n + 1))) ysb ybs)), (5004, .inl (cT 0, 48, .inl (upd (yA 4) n a1))), (5005, .inl (cT 0, 288, .inl v7u6))] := ⟨_, rfl⟩
      rw [← hgy] at hP hD
      have hP : va_P D vwCl ([(zo, .inl (cT 1, 1, .inr (.inl (vp_updL zf 0 (Int32.toInt64 rvu5)))))] ++ pg cds ad gy) _ := hP
      have hD : va_D A ([(zo, .inl (cT 1, 1, .inr (.inl (vp_updL zf 0 (Int32.toInt64 rvu5)))))] ++ pg cds ad gy) := hD
      have fgy : ∀ z8, z8 ≠ 5060 → z8 ≠ 5004 → z8 ≠ 5005 → gy z8 = gg7u5 z8 := fun z8 z1 z2 z3 => by rw [hgy]; exact ups_k (kp_n z1 (kp_n z2 (kp_n z3 kp_0)))
      have gy_0 : gy 5060 = some (.inr (11, MO yr (va_up (va_up yi 1 0) 3 (nI (n + 1))) ysb ybs)) := by rw [hgy]; exact ups_1
      have gy_1 : gy 5004 = some (.inl (cT 0, 48, .inl (upd (yA 4) n a1))) := by rw [hgy]; exact ups_2 (by decide)
      have gy_2 : gy 5005 = some (.inl (cT 0, 288, .inl v7u6)) := by rw [hgy]; exact ups_3 (by decide) (by decide)
      refine lv_istore hx hb dL_law_207 hl (by decide) rfl (fun ls hl => ?_)
      have hl : lv_has ls 7 [(6, .int ru6), (5, .int 0), (0, .ref b), (1, .ref (ad 0)), (2, .ref (ad 5060)), (3, .ref zo), (4, .int (nI (4 * j)))] := hl
      refine lv_aload_n hx hb dL_law_209 rfl (lv_at hl 4 rfl) ?_
      refine ro_i (va_Run.run (va_runV (As := []) (rest := []) ⟨hx, hb, hml, hown, hT⟩ (m_thrown l D cT (ad 5060) yr (va_up (va_up yi 1 0) 3 (nI (n + 1))) ysb ybs) ⟨callB_of 0 hT (tb_gd w1290) rfl rfl rfl (hT _ w13) (hT _ w1287) hM_thrown ⟨Nat.le_of_ble_eq_true rfl, Nat.le_of_ble_eq_true rfl⟩, (hT _ w1288), (hT _ w1289)⟩ (RO.preV (ci := 11) (q0 := 0) hZ hS ((show va_P D vwCl [(ad 5060, .inr (11, MO yr (va_up (va_up yi 1 0) 3 (nI (n + 1))) ysb ybs))] _ from (pv_c (pg_1 (x := 5060) hcd hP (by decide) gy_0) pv_0))) hK rfl rfl) rfl rfl hl.1 rfl (lv_room (Nat.le_of_ble_eq_true rfl)) dL_law_210 ⟨(by show (((2000 + j + 3 * fm + 4 * SM mk 16) + 0) + 0) + 0 ≤ 601024; omega), (by show (((400000 + 6 * j + 42 * fm + 69 * SM mk 16) + 0) + 0) + 0 ≤ 7293034; omega)⟩)) ?_
      refine lv_topi (fun y9 e9 => ?_)
      cases (show y9 = 0 from e9.trans rfl)
      refine lv_iload hx hb dL_law_213 (lv_at hl 1 rfl) ?_
      refine lv_icmp_eq (tgt := 220) hx hb dL_law_215 rfl (fun _ => ?_) (fun h7 => absurd (by decide) h7)
      refine lv_iload hx hb dL_law_220 (lv_at hl 1 rfl) ?_
      refine lv_if_ne (tgt := 237) hx hb dL_law_222 rfl (fun h8 => absurd (by decide) h8) (fun _ => ?_)
      refine lv_aload_n hx hb dL_law_225 rfl (lv_at hl 5 rfl) ?_
      refine lv_iconst (v := 0) hx hb dL_law_226 (by decide) ?_
      refine va_lald hx hb hK hP 0 1 rfl rfl (by unfold vp_in; decide) dL_law_227 ?_
      refine lv_iload hx hb dL_law_228 (lv_at hl 0 rfl) ?_
      refine lv_i2l hx hb dL_law_230 rfl ?_
      refine W.lcmp hx hb dL_law_231 ?_
      refine lv_if_eq (tgt := 237) hx hb dL_law_232 rfl (fun _ => ?_) (fun h9 => absurd ((lg_cmp_eq _ _).mpr (pk_uLs.trans (congrArg Int32.toInt64 (cR.trans yR.symm)))) h9)
      refine lv_goto (tgt := 1690) hx hb dL_law_237 rfl ?_
      obtain ⟨yiz, hyiz⟩ : ∃ f9 : Nat → Int32, f9 = va_up (va_up yi 1 0) 3 (nI (n + 1)) := ⟨_, rfl⟩
      obtain ⟨yAz, hyAz⟩ : ∃ f9 : Nat → Nat → Int32, f9 = va_up (va_up yA 4 (upd (yA 4) n a1)) 5 v7u6 := ⟨_, rfl⟩
      have hIz : LWI cT ad gg7u5 tE T fm mk F (n + 1) wd dpt lst w ru rl ne Lo yiz ysb yAz := (by rw [hyiz, hyAz]; exact ⟨fo, CLI.up hCL (Nat.le_refl _) (fun z8 n0 n1 n3 n4 n5 n6 n7 => cF z8 (by omega) (by omega) (by omega)) ((cF _ (by omega) (by omega) (by omega)).trans hob) c1n c3n ((cF _ (by omega) (by omega) (by omega)).trans chpl) (ccn.vv (add_vv yM yO)) (hOut.cg (fun z8 n1 n2 => cF z8 (by omega) (by omega) (by omega))) (⟨sa9, (cF _ (by omega) (by omega) (by omega)).trans hso⟩), ⟨y2, rfl, y10, y11, y12, y13, y14, y17, y47, y55, y8e, y18e, hRFN, hPR, hfoy⟩, ⟨hTf, hT16, (by omega), hwd6, hdp4, hls2, hw20, hr9, hLo, hne, hik, hTOK, hS9, (add_k yM yO hVk), (add_b yM yO hVb), (tg_up htg hq (fun i hi => by omega)), hSEP, hSV7⟩⟩)
      have hIz := hIz.yg (g2 := gy) (fun z8 hz => fgy z8 (by omega) (by omega) (by omega))
      have hYz : YCL cT ad gy y yr yiz ysb ybs yAz yW F := by
        refine ⟨hYad, hyr, (by rw [hyiz]; exact gy_0), fun k hk => ?_⟩
        have hk2 : k = 0 ∨ (4 ≤ k ∧ k ≤ 9) ∨ (18 ≤ k ∧ k ≤ 46) ∨ k = 48 ∨ k = 49 ∨ (56 ≤ k ∧ k ≤ 59) := hk
        by_cases e4 : k = 4
        · subst e4
          rw [hyAz]; exact gy_1
        by_cases e5 : k = 5
        · subst e5
          rw [hyAz]; exact gy_2
        exact (fgy (5000 + k) (by omega) (by omega) (by omega)).trans ((cF (5000 + k) (by omega) (by omega) (by omega)).trans ((hYA k hk).trans (congrArg some (ycl_o (by rw [hyAz]; exact (va_up_ne _ _ e5).trans ((va_up_ne _ _ e4).trans (rfl)))).symm)))
      rw [hyiz] at hIz hYz
      rw [hyAz] at hIz hYz
      refine W.widen (k := 2000 + (j + 1) + 3 * fm + 4 * SM mk 16) (n := 400000 + 6 * (j + 1) + 42 * fm + 69 * SM mk 16) (by show ((2000 + j + 3 * fm + 4 * SM mk 16) + 0) + 0 ≤ 2000 + (j + 1) + 3 * fm + 4 * SM mk 16; omega) (by show ((400000 + 6 * j + 42 * fm + 69 * SM mk 16) + 0) + 0 ≤ 400000 + 6 * (j + 1) + 42 * fm + 69 * SM mk 16; omega) ?_
      have hl := lv_sub hl [2, 3, 4, 5, 6] rfl
      have hl : lv_has ls 7 [(0, .ref b), (1, .ref (ad 0)), (2, .ref y), (3, .ref zo), (4, .int (nI (4 * j)))] := by rw [← hYz.1]; exact hl
      exact hend ad gy T fm mk F (n + 1) wd dpt lst w ru rl ne Lo (va_up (va_up yi 1 0) 3 (nI (n + 1))) ysb ybs (va_up (va_up yA 4 (upd (yA 4) n a1)) 5 v7u6) yW (vp_updL zf 0 (Int32.toInt64 rvu5)) _ _ ls hIz hYz hP hD hS hl
  · refine lv_aload_n hx hb dL_law_184 rfl (lv_at hl 1 rfl) ?_
    refine lv_aload_n hx hb dL_law_185 rfl (lv_at hl 0 rfl) ?_
    refine lv_iload hx hb dL_law_186 (lv_at hl 4 rfl) ?_
    refine lv_iconst (v := 1) hx hb dL_law_188 (by decide) ?_
    refine lv_iadd hx hb dL_law_189 ?_
    refine lv_topi (fun y9 e9 => ?_)
    cases (show y9 = nI ((4 * j) + 1) from e9.trans (nI_add (4 * j) 1))
    refine va_sld hx hb hX hbl hbA hS (vp_in_nI (n := 4 * j + 1) (N := L) (by omega) (by omega)) dL_law_190 ?_
    refine lv_topi (fun y9 e9 => ?_)
    cases (show y9 = a1 from e9.trans (by rw [nI_clamp (by omega)]; exact ha1.symm))
    refine lv_aload_n hx hb dL_law_191 rfl (lv_at hl 3 rfl) ?_
    refine hy_iP (X := [(zo, .inl (cT 1, 1, .inr (.inl zf)))]) (pl := pg cds ad gg) (cx := [(zo, .inl (cT 1, 1, .inr (.inl zf)))]) (wr := []) hP hD hS hA [0] [] rfl rfl (by decide) (by decide) (tx_runSH (As := [.ref (ad 0), .int a1, .ref zo]) (rest := []) ⟨hx, hb, hml, hown, hT⟩ (l_add_no1 l D cT cds ad gg a1 (nI T) zo zf hlt hcd hob hq _) hT (tc_gd w573 w574 w0 (tb_gd w575)) rfl rfl rfl hL_add ⟨Nat.le_of_ble_eq_true rfl, Nat.le_of_ble_eq_true rfl⟩ (RW.preS hZ hS (va_freeP (cx := [(zo, .inl (cT 1, 1, .inr (.inl zf)))]) hD hS hA [0] rfl) (hP.part (cx := [(zo, .inl (cT 1, 1, .inr (.inl zf)))]) [0] rfl) hK (hD.part (cx := [(zo, .inl (cT 1, 1, .inr (.inl zf)))]) [0] (by decide) rfl)) rfl hl.1 rfl (Nat.le_of_ble_eq_true rfl) dL_law_192 ⟨(by show (2000 + j + 3 * fm + 4 * SM mk 16) + 1 ≤ 601024; omega), (by show (400000 + 6 * j + 42 * fm + 69 * SM mk 16) + 6 ≤ 7293034; omega)⟩) (fun ru10 u9 H locs hpu10 hP hD hS => ?_)
    have hpu10 : ru10 = 1 := hpu10
    have hP : va_P D vwCl ([(zo, .inl (cT 1, 1, .inr (.inl zf)))] ++ pg cds ad gg) _ := hP
    have hD : va_D A ([(zo, .inl (cT 1, 1, .inr (.inl zf)))] ++ pg cds ad gg) := hD
    refine lv_topi (fun y9 e9 => ?_)
    cases (show y9 = 1 from e9.trans hpu10)
    refine lv_istore hx hb dL_law_195 hl (by decide) rfl (fun ls hl => ?_)
    have hl : lv_has ls 7 [(5, .int 1), (0, .ref b), (1, .ref (ad 0)), (2, .ref (ad 5060)), (3, .ref zo), (4, .int (nI (4 * j)))] := hl
    refine lv_aload_n hx hb dL_law_197 rfl (lv_at hl 3 rfl) ?_
    refine lv_aload_n hx hb dL_law_198 rfl (lv_at hl 1 rfl) ?_
    refine lv_iload hx hb dL_law_199 (lv_at hl 5 rfl) ?_
    refine lv_iconst (v := 1) hx hb dL_law_201 (by decide) ?_
    refine lv_iadd hx hb dL_law_202 ?_
    refine lv_topi (fun y9 e9 => ?_)
    cases (show y9 = nI ((4 * j) + 1) from e9.trans (nI_add (4 * j) 1))
    refine va_sld hx hb hX hbl hbA hS (vp_in_nI (n := 4 * j + 1) (N := L) (by omega) (by omega)) dL_law_203 ?_
    refine lv_topi (fun y9 e9 => ?_)
    cases (show y9 = a1 from e9.trans (by rw [nI_clamp (by omega)]; exact ha1.symm))
    have hB9 : QI gg [(5060, .inr (11, MO yr yi ysb ybs))] := (qi_c (by decide) hYy qi_0)
    have hN9 := (show NDc [5060] from (nd_c na_0 nd_0))
    have hP := bo_P (wc := [(5060, .inr (11, MO yr yi ysb ybs))]) (X := [(zo, .inl (cT 1, 1, .inr (.inl zf)))]) hcd hN9 hB9 hP
    have hD := bo_D (wc := [(5060, .inr (11, MO yr yi ysb ybs))]) (X := [(zo, .inl (cT 1, 1, .inr (.inl zf)))]) hcd hN9 hB9 hD
    have hP : va_P D vwCl ([(zo, .inl (cT 1, 1, .inr (.inl zf))), (ad 5060, .inr (11, MO yr yi ysb ybs))] ++ pg cds ad (upo gg [5060])) _ := hP
    have hD : va_D A ([(zo, .inl (cT 1, 1, .inr (.inl zf))), (ad 5060, .inr (11, MO yr yi ysb ybs))] ++ pg cds ad (upo gg [5060])) := hD
    refine hy_iQ (X := [(zo, .inl (cT 1, 1, .inr (.inl zf))), (ad 5060, .inr (11, MO yr yi ysb ybs))]) (pl := pg cds ad (upo gg [5060])) (cx := [(ad 5060, .inr (11, MO yr yi ysb ybs))]) (wr := [(zo, .inl (cT 1, 1, .inr (.inl zf)))]) hP hD hS hA [1] [0] rfl rfl (by decide) (by decide) (va_runV (As := [.int a1]) (rest := []) ⟨hx, hb, hml, hown, hT⟩ (y_add_no1 l D cT (ad 5060) yr yi ysb ybs a1 hq _) ⟨callB_of 1 hT (tb_gd w1305) rfl rfl rfl (hT _ w13) (hT _ w1302) hM_addb ⟨Nat.le_of_ble_eq_true rfl, Nat.le_of_ble_eq_true rfl⟩, (hT _ w1303), (hT _ w1304)⟩ (RW.preV (ci := 11) (q0 := 0) hZ hS (hy_free (cx := [(ad 5060, .inr (11, MO yr yi ysb ybs))]) hD hS hA [1] rfl) (hP.sub (ws' := [(ad 5060, .inr (11, MO yr yi ysb ybs))]) [1] rfl) hK (hD.sub (ws' := [(ad 5060, .inr (11, MO yr yi ysb ybs))]) [1] (by decide) rfl) rfl rfl) rfl rfl hl.1 rfl (lv_room (Nat.le_of_ble_eq_true rfl)) dL_law_204 ⟨(by show ((2000 + j + 3 * fm + 4 * SM mk 16) + 1) + 0 ≤ 601024; omega), (by show ((400000 + 6 * j + 42 * fm + 69 * SM mk 16) + 6) + 0 ≤ 7293034; omega)⟩) (fun ru11 u9 H locs hpu11 hP hD hS => ?_)
    have hpu11 : ru11 = 0 := hpu11
    have hP : va_P D vwCl ([(zo, .inl (cT 1, 1, .inr (.inl zf))), (ad 5060, .inr (11, MO yr (va_up yi 1 1) ysb ybs))] ++ pg cds ad (upo gg [5060])) _ := hP
    have hD : va_D A ([(zo, .inl (cT 1, 1, .inr (.inl zf))), (ad 5060, .inr (11, MO yr (va_up yi 1 1) ysb ybs))] ++ pg cds ad (upo gg [5060])) := hD
    refine lv_topi (fun y9 e9 => ?_)
    cases (show y9 = 0 from e9.trans hpu11)
    have hN9 := (show NDc [5060] from (nd_c na_0 nd_0))
    have hP := gb_P (w9 := [(5060, .inr (11, MO yr (va_up yi 1 1) ysb ybs))]) (X := [(zo, .inl (cT 1, 1, .inr (.inl zf)))]) (g := gg) hcd hN9 (show QB [(5060, .inr (11, MO yr (va_up yi 1 1) ysb ybs))] from (qb_c (by decide) qb_0)) (hP.part (cx := [(zo, .inl (cT 1, 1, .inr (.inl zf))), (ad 5060, .inr (11, MO yr (va_up yi 1 1) ysb ybs))]) [0, 1] rfl)
    have hD := gb_D (w9 := [(5060, .inr (11, MO yr (va_up yi 1 1) ysb ybs))]) (X := [(zo, .inl (cT 1, 1, .inr (.inl zf)))]) (g := gg) hcd hN9 (show QB [(5060, .inr (11, MO yr (va_up yi 1 1) ysb ybs))] from (qb_c (by decide) qb_0)) (hD.part (cx := [(zo, .inl (cT 1, 1, .inr (.inl zf))), (ad 5060, .inr (11, MO yr (va_up yi 1 1) ysb ybs))]) [0, 1] (by decide) rfl)
    obtain ⟨gy, hgy⟩ : ∃ q9, q9 = ups gg [(5060, .inr (11, MO yr (va_up yi 1 1) ysb ybs))] := ⟨_, rfl⟩
    rw [← hgy] at hP hD
    have hP : va_P D vwCl ([(zo, .inl (cT 1, 1, .inr (.inl zf)))] ++ pg cds ad gy) _ := hP
    have hD : va_D A ([(zo, .inl (cT 1, 1, .inr (.inl zf)))] ++ pg cds ad gy) := hD
    have fgy : ∀ z8, z8 ≠ 5060 → gy z8 = gg z8 := fun z8 z1 => by rw [hgy]; exact ups_k (kp_n z1 kp_0)
    have gy_0 : gy 5060 = some (.inr (11, MO yr (va_up yi 1 1) ysb ybs)) := by rw [hgy]; exact ups_1
    refine lv_istore hx hb dL_law_207 hl (by decide) rfl (fun ls hl => ?_)
    have hl : lv_has ls 7 [(6, .int 0), (5, .int 1), (0, .ref b), (1, .ref (ad 0)), (2, .ref (ad 5060)), (3, .ref zo), (4, .int (nI (4 * j)))] := hl
    refine lv_aload_n hx hb dL_law_209 rfl (lv_at hl 4 rfl) ?_
    refine ro_i (va_Run.run (va_runV (As := []) (rest := []) ⟨hx, hb, hml, hown, hT⟩ (m_thrown l D cT (ad 5060) yr (va_up yi 1 1) ysb ybs) ⟨callB_of 0 hT (tb_gd w1290) rfl rfl rfl (hT _ w13) (hT _ w1287) hM_thrown ⟨Nat.le_of_ble_eq_true rfl, Nat.le_of_ble_eq_true rfl⟩, (hT _ w1288), (hT _ w1289)⟩ (RO.preV (ci := 11) (q0 := 0) hZ hS ((show va_P D vwCl [(ad 5060, .inr (11, MO yr (va_up yi 1 1) ysb ybs))] _ from (pv_c (pg_1 (x := 5060) hcd hP (by decide) gy_0) pv_0))) hK rfl rfl) rfl rfl hl.1 rfl (lv_room (Nat.le_of_ble_eq_true rfl)) dL_law_210 ⟨(by show (((2000 + j + 3 * fm + 4 * SM mk 16) + 1) + 0) + 0 ≤ 601024; omega), (by show (((400000 + 6 * j + 42 * fm + 69 * SM mk 16) + 6) + 0) + 0 ≤ 7293034; omega)⟩)) ?_
    refine lv_topi (fun y9 e9 => ?_)
    cases (show y9 = 1 from e9.trans rfl)
    refine lv_iload hx hb dL_law_213 (lv_at hl 1 rfl) ?_
    refine lv_icmp_eq (tgt := 220) hx hb dL_law_215 rfl (fun _ => ?_) (fun h12 => absurd (by decide) h12)
    refine lv_iload hx hb dL_law_220 (lv_at hl 1 rfl) ?_
    refine lv_if_ne (tgt := 237) hx hb dL_law_222 rfl (fun _ => ?_) (fun h13 => absurd h13 (by decide))
    refine lv_goto (tgt := 1690) hx hb dL_law_237 rfl ?_
    obtain ⟨yiz, hyiz⟩ : ∃ f9 : Nat → Int32, f9 = va_up yi 1 1 := ⟨_, rfl⟩
    have hIz : LWI cT ad gg tE T fm mk F n wd dpt lst w ru rl ne Lo yiz ysb yA := hI.sc (fun k hk => by rw [hyiz]; exact va_up_ne _ _ hk) (fun _ _ => rfl)
    have hIz := hIz.yg (g2 := gy) (fun z8 hz => fgy z8 (by omega))
    have hYz : YCL cT ad gy y yr yiz ysb ybs yA yW F := by
      refine ⟨hYad, hyr, (by rw [hyiz]; exact gy_0), fun k hk => ?_⟩
      have hk2 : k = 0 ∨ (4 ≤ k ∧ k ≤ 9) ∨ (18 ≤ k ∧ k ≤ 46) ∨ k = 48 ∨ k = 49 ∨ (56 ≤ k ∧ k ≤ 59) := hk
      exact (fgy (5000 + k) (by omega)).trans ((hYA k hk).trans (congrArg some (ycl_o rfl).symm))
    rw [hyiz] at hIz hYz
    refine W.widen (k := 2000 + (j + 1) + 3 * fm + 4 * SM mk 16) (n := 400000 + 6 * (j + 1) + 42 * fm + 69 * SM mk 16) (by show ((2000 + j + 3 * fm + 4 * SM mk 16) + 1) + 0 ≤ 2000 + (j + 1) + 3 * fm + 4 * SM mk 16; omega) (by show ((400000 + 6 * j + 42 * fm + 69 * SM mk 16) + 6) + 0 ≤ 400000 + 6 * (j + 1) + 42 * fm + 69 * SM mk 16; omega) ?_
    have hl := lv_sub hl [2, 3, 4, 5, 6] rfl
    have hl : lv_has ls 7 [(0, .ref b), (1, .ref (ad 0)), (2, .ref y), (3, .ref zo), (4, .int (nI (4 * j)))] := by rw [← hYz.1]; exact hl
    exact hend ad gy T fm mk F n wd dpt lst w ru rl ne Lo (va_up yi 1 1) ysb ybs yA yW zf _ _ ls hIz hYz hP hD hS hl
