set_option maxHeartbeats 4000000 in
set_option maxRecDepth 100000 in
theorem l_resid (l : Launch) (D : va_G) (cT : Nat → ClassId) (cds : List Nat) (ad : Nat → Nat) (gg : Nat → Option va_E) (wd9 : Int32) (rw9 : Int32) (fm : Nat) (F : TFR) (T : Nat) (k9 : Nat) (n : Nat) (vv : Nat → Int32) (vq : Nat → Int32) (tg : Nat → Int32) (zf : Int) (L0 : Nat) (fo : Nat → Int32) (r : Nat) (zo : Nat) (zw : Nat → Int64) (hcd : CD cds) (hob : gg 0 = some (eOB ad (nI T))) (htb : gg 1 = some (eTB ad wd9 rw9)) (hrn : rw9 = nI n) (hn48 : n ≤ 48) (hFr : FRp cT ad gg fm) (hTm : T ≤ fm) (hTs : TRS cT ad gg F T) (hTOK : TOK F T) (hT16 : T ≤ 16) (hk9 : k9 ≤ T) (hCa : CAp cT ad gg) (hCo : COLa cT ad gg n vv vq) (hTg : TGp cT gg n tg) (htg : ∀ i, i < n → -1000 ≤ (tg i).toInt ∧ (tg i).toInt ≤ 1000) (hLf : WHO cT ad gg 50 51 24 zf) (hOut : OUTp cT ad gg L0 fo) (hr0 : 0 ≤ nI r ∧ nI r ≤ rw9 - 1) (hrn9 : r < n) (hk0 : 0 ≤ nI k9 ∧ nI k9 ≤ nI T) (sz : Nat) : Met l yL_residual WL_residual ({ frames := 7, cells := 0, slots := 0, locals := 158 } : Room) (RW D vwCl [.ref (ad 0), .int (nI r), .int (nI k9), .ref zo] ([(zo, .inl (cT 1, 1, .inr (.inl zw)))] ++ pg cds ad gg) (TY cT) sz) (va_Qi (fun (r9 : Int32) (u9 : (Nat → Option va_E) × Nat × (Nat → Int32) × Int × Nat × Int32) => r9 = 0 ∧ u9.2.2.2.2.2 = nI u9.2.1 ∧ u9.2.1 ≤ 866 ∧ WRT u9.2.2.1 u9.2.1 u9.2.2.2.1 u9.2.2.2.2.1 ∧ RDC (xF F (rwf vv r) (tg r).toInt k9) (Ppf F k9) u9.2.2.2.1 u9.2.2.2.2.1 ∧ OUTp cT ad u9.1 u9.2.1 u9.2.2.1 ∧ (∀ z8, (z8 < 41 ∨ 47 < z8) → z8 ≠ 50 → z8 ≠ 51 → u9.1 z8 = gg z8) ∧ ∃ z8, WHO cT ad u9.1 50 51 24 z8) (BW D vwCl (va_A ([(zo, .inl (cT 1, 1, .inr (.inl zw)))] ++ pg cds ad gg) sz) (fun u9 : (Nat → Option va_E) × Nat × (Nat → Int32) × Int × Nat × Int32 => ([(zo, .inl (cT 1, 1, .inr (.inl (vp_updL zw 0 (Int32.toInt64 u9.2.2.2.2.2)))))] ++ pg cds ad u9.1))) (va_A ([(zo, .inl (cT 1, 1, .inr (.inl zw)))] ++ pg cds ad gg) sz)) 0 0 (va_A ([(zo, .inl (cT 1, 1, .inr (.inl zw)))] ++ pg cds ad gg) sz) := by
  refine va_MetW (hh := [(0, 10, 13, 13)]) (cc := cL_residual) (maxL := 5) (ret := (some .int)) (by decide) rfl ?_
  intro p e s m args below meth c s₁ B hml hv
  obtain ⟨rfl, hsz, hZ, hP, hK, hD0⟩ := hv
  have hx := B.exec
  have hb := B.bytes
  have hr := B.returns
  have hts := atoms_spec (ws := WL_residual) B.pre
  have hT : ∀ w ∈ TB, w.before _ s = true := fun w h => hts w (List.mem_cons_of_mem _ h)
  have hown : s.vm.findClass R_L = some m.cls := findClass_of_methodNamed B.named
  have htab := tx_table B (bytes := cL_residual) (maxL := 5) (ret := (some .int)) (hh := [(0, 10, 13, 13)]) (hts _ List.mem_cons_self)
  subst hsz
  have hD := hD0.self (sz := s.heap.size)
  generalize hAe : va_A ([(zo, .inl (cT 1, 1, .inr (.inl zw)))] ++ pg cds ad gg) s.heap.size = A at hD hZ ⊢
  have hA : ∀ q : Nat, s.heap.size ≤ q → A q := fun q h => by rw [← hAe]; exact Or.inr h
  have hS : va_S A s.heap s.heap [] := va_S.rf
  have hl := lv_entry ([.ref (ad 0), .int (nI r), .int (nI k9), .ref zo]) (n := 5) (Nat.le_of_ble_eq_true rfl)
  rw [lg_entry_eq]
  generalize (lg_sl ([.ref (ad 0), .int (nI r), .int (nI k9), .ref zo]) ++ List.replicate (5 - (lg_sl ([.ref (ad 0), .int (nI r), .int (nI k9), .ref zo])).length) Slot.unset).toArray = ls at hl ⊢
  have hl : lv_has ls 5 [(0, .ref (ad 0)), (1, .int (nI r)), (2, .int (nI k9)), (3, .ref zo)] := hl
  refine lv_aload_n hx hb dL_residual_0 rfl (lv_at hl 3 rfl) ?_
  refine lv_iconst (v := 0) hx hb dL_residual_1 (by decide) ?_
  refine lv_aload_n hx hb dL_residual_2 rfl (lv_at hl 0 rfl) ?_
  refine lv_iload_n hx hb dL_residual_3 rfl (lv_at hl 1 rfl) ?_
  refine lv_iload_n hx hb dL_residual_4 rfl (lv_at hl 2 rfl) ?_
  refine hy_iP (X := [(zo, .inl (cT 1, 1, .inr (.inl zw)))]) (pl := pg cds ad gg) (cx := []) (wr := [(zo, .inl (cT 1, 1, .inr (.inl zw)))]) hP hD hS hA [] [0] rfl rfl (by decide) (by decide) (va_runV (As := [.int (nI r), .int (nI k9)]) (rest := [.int 0, .ref zo]) ⟨hx, hb, hml, hown, hT⟩ (k_resid l D cT cds ad gg wd9 rw9 fm F T k9 n vv vq tg zf L0 fo r hcd hob htb hrn hn48 hFr hTm hTs hTOK hT16 hk9 hCa hCo hTg htg hLf hOut hr0 hrn9 hk0 _) ⟨callB_of 2 hT (tb_gd w1064) rfl rfl rfl (hT _ w1) (hT _ w1061) hR_residual ⟨Nat.le_of_ble_eq_true rfl, Nat.le_of_ble_eq_true rfl⟩, (hT _ w1062), (hT _ w1063)⟩ (RW.preW (ci := 0) (q0 := 0) hZ hS (va_freeP (cx := []) hD hS hA [] rfl) (hP.part (cx := []) [] rfl) hK (hD.part (cx := []) [] (by decide) rfl) (pg_1 (x := 0) hcd hP (by decide) hob) rfl rfl) rfl rfl hl.1 rfl (lv_room (Nat.le_of_ble_eq_true rfl)) dL_residual_5 ⟨Nat.le_of_ble_eq_true rfl, Nat.le_of_ble_eq_true rfl⟩) (fun ru1 u9 H locs hpu1 hP hD hS => ?_)
  obtain ⟨gg7u1, L7u1, fo7u1, z7u1, d7u1⟩ := u9
  have hpu1 : ru1 = nI L7u1 ∧ L7u1 ≤ 866 ∧ WRT fo7u1 L7u1 z7u1 d7u1 ∧ RDC (xF F (rwf vv r) (tg r).toInt k9) (Ppf F k9) z7u1 d7u1 ∧ OUTp cT ad gg7u1 L7u1 fo7u1 ∧ (∀ z8, (z8 < 41 ∨ 47 < z8) → z8 ≠ 50 → z8 ≠ 51 → gg7u1 z8 = gg z8) ∧ ∃ z8, WHO cT ad gg7u1 50 51 24 z8 := hpu1
  have hP : va_P D vwCl ([(zo, .inl (cT 1, 1, .inr (.inl zw)))] ++ pg cds ad gg7u1) _ := hP
  have hD : va_D A ([(zo, .inl (cT 1, 1, .inr (.inl zw)))] ++ pg cds ad gg7u1) := hD
  refine lv_i2l hx hb dL_residual_8 rfl ?_
  refine va_last hx hb hK hP hD hS 0 1 rfl rfl (by unfold vp_in; decide) dL_residual_9 (fun H locs hP hD hS => ?_)
  have hP : va_P D vwCl ([(zo, .inl (cT 1, 1, .inr (.inl (vp_updL zw 0 ((ru1 : Int32).toInt64)))))] ++ pg cds ad gg7u1) _ := hP
  have hD : va_D A ([(zo, .inl (cT 1, 1, .inr (.inl (vp_updL zw 0 ((ru1 : Int32).toInt64)))))] ++ pg cds ad gg7u1) := hD
  refine lv_goto (tgt := 17) hx hb dL_residual_10 rfl ?_
  refine lv_iconst (v := 0) hx hb dL_residual_17 (by decide) ?_
  have hP9 : va_P D vwCl ([(zo, .inl (cT 1, 1, .inr (.inl (vp_updL zw 0 (Int32.toInt64 ru1)))))] ++ pg cds ad gg7u1) _ := hP.part (cx := [(zo, .inl (cT 1, 1, .inr (.inl (vp_updL zw 0 (Int32.toInt64 ru1)))))]) [0] rfl
  have hD9 : va_D A ([(zo, .inl (cT 1, 1, .inr (.inl (vp_updL zw 0 (Int32.toInt64 ru1)))))] ++ pg cds ad gg7u1) := hD.part (cx := [(zo, .inl (cT 1, 1, .inr (.inl (vp_updL zw 0 (Int32.toInt64 ru1)))))]) [0] (by decide) rfl
  refine W.widen (k := 0) (n := 0) (Nat.le_of_ble_eq_true rfl) (Nat.le_of_ble_eq_true rfl) ?_
  exact W.iret (v := 0) hx hb hr (fun t9 ht9 hW9 => ⟨⟨0, (gg7u1, L7u1, fo7u1, z7u1, d7u1, ru1), rfl, (show 0 = 0 ∧ ru1 = nI L7u1 ∧ L7u1 ≤ 866 ∧ WRT fo7u1 L7u1 z7u1 d7u1 ∧ RDC (xF F (rwf vv r) (tg r).toInt k9) (Ppf F k9) z7u1 d7u1 ∧ OUTp cT ad gg7u1 L7u1 fo7u1 ∧ (∀ z8, (z8 < 41 ∨ 47 < z8) → z8 ≠ 50 → z8 ≠ 51 → gg7u1 z8 = gg z8) ∧ ∃ z8, WHO cT ad gg7u1 50 51 24 z8 from ⟨rfl, hpu1⟩), by rw [ht9]; exact hP9, hD9⟩, hS.F ht9⟩) hS.2.2 dL_residual_18
set_option maxHeartbeats 4000000 in
set_option maxRecDepth 100000 in
theorem l_resid_no (l : Launch) (D : va_G) (cT : Nat → ClassId) (cds : List Nat) (ad : Nat → Nat) (gg : Nat → Option va_E) (T : Nat) (wd9 : Int32) (rw9 : Int32) (a1 : Int32) (a2 : Int32) (zo : Nat) (zw : Nat → Int64) (hlt : l.stackTraces = false) (hcd : CD cds) (hob : gg 0 = some (eOB ad (nI T))) (htb : gg 1 = some (eTB ad wd9 rw9)) (hq : ¬ ((0 ≤ a1 ∧ a1 ≤ rw9 - 1) ∧ (0 ≤ a2 ∧ a2 ≤ nI T))) (sz : Nat) : Met l yL_residual WL_residual ({ frames := 8, cells := 1, slots := 6, locals := 133 } : Room) (RW D vwCl [.ref (ad 0), .int a1, .int a2, .ref zo] ([(zo, .inl (cT 1, 1, .inr (.inl zw)))] ++ pg cds ad gg) (TY cT) sz) (va_Qi (fun (r9 : Int32) (u9 : Unit) => r9 = 1) (BW D vwCl (va_A ([(zo, .inl (cT 1, 1, .inr (.inl zw)))] ++ pg cds ad gg) sz) (fun u9 : Unit => ([(zo, .inl (cT 1, 1, .inr (.inl zw)))] ++ pg cds ad gg))) (va_A ([(zo, .inl (cT 1, 1, .inr (.inl zw)))] ++ pg cds ad gg) sz)) 1 6 (va_A ([(zo, .inl (cT 1, 1, .inr (.inl zw)))] ++ pg cds ad gg) sz) := by
  refine va_MetW (hh := [(0, 10, 13, 13)]) (cc := cL_residual) (maxL := 5) (ret := (some .int)) (by decide) rfl ?_
  intro p e s m args below meth c s₁ B hml hv
  obtain ⟨rfl, hsz, hZ, hP, hK, hD0⟩ := hv
  have hx := B.exec
  have hb := B.bytes
  have hr := B.returns
  have hts := atoms_spec (ws := WL_residual) B.pre
  have hT : ∀ w ∈ TB, w.before _ s = true := fun w h => hts w (List.mem_cons_of_mem _ h)
  have hown : s.vm.findClass R_L = some m.cls := findClass_of_methodNamed B.named
  have htab := tx_table B (bytes := cL_residual) (maxL := 5) (ret := (some .int)) (hh := [(0, 10, 13, 13)]) (hts _ List.mem_cons_self)
  subst hsz
  have hD := hD0.self (sz := s.heap.size)
  generalize hAe : va_A ([(zo, .inl (cT 1, 1, .inr (.inl zw)))] ++ pg cds ad gg) s.heap.size = A at hD hZ ⊢
  have hA : ∀ q : Nat, s.heap.size ≤ q → A q := fun q h => by rw [← hAe]; exact Or.inr h
  have hS : va_S A s.heap s.heap [] := va_S.rf
  have hl := lv_entry ([.ref (ad 0), .int a1, .int a2, .ref zo]) (n := 5) (Nat.le_of_ble_eq_true rfl)
  rw [lg_entry_eq]
  generalize (lg_sl ([.ref (ad 0), .int a1, .int a2, .ref zo]) ++ List.replicate (5 - (lg_sl ([.ref (ad 0), .int a1, .int a2, .ref zo])).length) Slot.unset).toArray = ls at hl ⊢
  have hl : lv_has ls 5 [(0, .ref (ad 0)), (1, .int a1), (2, .int a2), (3, .ref zo)] := hl
  refine lv_aload_n hx hb dL_residual_0 rfl (lv_at hl 3 rfl) ?_
  refine lv_iconst (v := 0) hx hb dL_residual_1 (by decide) ?_
  refine lv_aload_n hx hb dL_residual_2 rfl (lv_at hl 0 rfl) ?_
  refine lv_iload_n hx hb dL_residual_3 rfl (lv_at hl 1 rfl) ?_
  refine lv_iload_n hx hb dL_residual_4 rfl (lv_at hl 2 rfl) ?_
  refine tx_catch1 (name := "java/lang/IllegalArgumentException") (tx_goV (As := [.int a1, .int a2]) (rest := [.int 0, .ref zo]) ⟨hx, hb, hml, hown, hT⟩ (k_resid_no l D cT cds ad gg T wd9 rw9 a1 a2 hlt hcd hob htb hq) ⟨callB_of 2 hT (tb_gd w1064) rfl rfl rfl (hT _ w1) (hT _ w1061) hR_residual ⟨Nat.le_of_ble_eq_true rfl, Nat.le_of_ble_eq_true rfl⟩, (hT _ w1062), (hT _ w1063)⟩ (RO.preW (ci := 0) (q0 := 0) hZ hS ((show va_P D vwCl ([] ++ pg cds ad gg) _ from (pv_p hP))) hK (pg_1 (x := 0) hcd hP (by decide) hob) rfl rfl) rfl hl.1 rfl (Nat.le_of_ble_eq_true rfl) dL_residual_5 ⟨Nat.le_of_ble_eq_true rfl, Nat.le_of_ble_eq_true rfl⟩) hown htab rfl (by decide) (hT _ w503) (tc_c rfl (hZ.1.1 ("java/lang/IllegalArgumentException", "java/lang/IllegalArgumentException") (List.mem_of_getElem? (i := 0) rfl))) (fun q9 H hsz9 hag9 => ?_)
  have hP := tc_P hP hag9
  have hS := tc_S hS hsz9 hag9
  refine W.eq (g2 := F0 m 13 ls [.ref q9]) rfl ?_
  refine lv_astore hx hb dL_residual_13 hl (by decide) rfl (fun ls hl => ?_)
  have hl : lv_has ls 5 [(4, .ref q9), (0, .ref (ad 0)), (1, .int a1), (2, .int a2), (3, .ref zo)] := hl
  refine lv_iconst (v := 1) hx hb dL_residual_15 (by decide) ?_
  have hP9 : va_P D vwCl ([(zo, .inl (cT 1, 1, .inr (.inl zw)))] ++ pg cds ad gg) _ := hP.part (cx := [(zo, .inl (cT 1, 1, .inr (.inl zw)))]) [0] rfl
  have hD9 : va_D A ([(zo, .inl (cT 1, 1, .inr (.inl zw)))] ++ pg cds ad gg) := hD.part (cx := [(zo, .inl (cT 1, 1, .inr (.inl zw)))]) [0] (by decide) rfl
  refine W.widen (k := 1) (n := 6) (Nat.le_of_ble_eq_true rfl) (Nat.le_of_ble_eq_true rfl) ?_
  exact W.iret (v := 1) hx hb hr (fun t9 ht9 hW9 => ⟨⟨1, (), rfl, (show 1 = 1 from rfl), by rw [ht9]; exact hP9, hD9⟩, hS.F ht9⟩) hS.2.2 dL_residual_16
set_option maxHeartbeats 4000000 in
set_option maxRecDepth 100000 in
theorem l_ask (l : Launch) (D : va_G) (cT : Nat → ClassId) (cds : List Nat) (ad : Nat → Nat) (gg : Nat → Option va_E) (tc : Int32) (wd9 : Int32) (rw9 : Int32) (n : Nat) (vv : Nat → Int32) (vq : Nat → Int32) (eg : Nat → Int32) (ik : Nat → Int32) (ne : Nat → Nat) (c0 : Nat) (v : Int32) (zo : Nat) (zw : Nat → Int64) (hcd : CD cds) (hob : gg 0 = some (eOB ad tc)) (htb : gg 1 = some (eTB ad wd9 rw9)) (hCa : CAp cT ad gg) (hCf : COLF cT ad gg n vv vq eg ik ne) (hne : ∀ c, c < 6 → ne c ≤ 11) (hn48 : n ≤ 48) (hc0 : 0 ≤ nI c0 ∧ nI c0 ≤ wd9 - 1) (hc6 : c0 < 6) (hv9 : v = (-2147483648) ∨ ((-1000000) ≤ v ∧ v ≤ 1000000)) (sz : Nat) : Met l yL_ask WL_ask ({ frames := 3, cells := 0, slots := 0, locals := 65 } : Room) (RW D vwCl [.ref (ad 0), .int (nI c0), .int v, .ref zo] ([(zo, .inl (cT 1, 1, .inr (.inl zw)))] ++ pg cds ad gg) (TY cT) sz) (va_Qi (fun (r9 : Int32) (u9 : (Nat → Option va_E) × Int32) => r9 = 0 ∧ u9.2 = vq c0 ∧ (∀ z8, (z8 < 10 ∨ 40 ≤ z8) → u9.1 z8 = gg z8) ∧ COLF cT ad u9.1 n vv (upd vq c0 v) eg ik ne) (BW D vwCl (va_A ([(zo, .inl (cT 1, 1, .inr (.inl zw)))] ++ pg cds ad gg) sz) (fun u9 : (Nat → Option va_E) × Int32 => ([(zo, .inl (cT 1, 1, .inr (.inl (vp_updL zw 0 (Int32.toInt64 u9.2)))))] ++ pg cds ad u9.1))) (va_A ([(zo, .inl (cT 1, 1, .inr (.inl zw)))] ++ pg cds ad gg) sz)) 0 0 (va_A ([(zo, .inl (cT 1, 1, .inr (.inl zw)))] ++ pg cds ad gg) sz) := by
  refine va_MetW (hh := [(0, 10, 13, 13)]) (cc := cL_ask) (maxL := 5) (ret := (some .int)) (by decide) rfl ?_
  intro p e s m args below meth c s₁ B hml hv
  obtain ⟨rfl, hsz, hZ, hP, hK, hD0⟩ := hv
  have hx := B.exec
  have hb := B.bytes
  have hr := B.returns
  have hts := atoms_spec (ws := WL_ask) B.pre
  have hT : ∀ w ∈ TB, w.before _ s = true := fun w h => hts w (List.mem_cons_of_mem _ h)
  have hown : s.vm.findClass R_L = some m.cls := findClass_of_methodNamed B.named
  have htab := tx_table B (bytes := cL_ask) (maxL := 5) (ret := (some .int)) (hh := [(0, 10, 13, 13)]) (hts _ List.mem_cons_self)
  subst hsz
  have hD := hD0.self (sz := s.heap.size)
  generalize hAe : va_A ([(zo, .inl (cT 1, 1, .inr (.inl zw)))] ++ pg cds ad gg) s.heap.size = A at hD hZ ⊢
  have hA : ∀ q : Nat, s.heap.size ≤ q → A q := fun q h => by rw [← hAe]; exact Or.inr h
  have hS : va_S A s.heap s.heap [] := va_S.rf
  have hl := lv_entry ([.ref (ad 0), .int (nI c0), .int v, .ref zo]) (n := 5) (Nat.le_of_ble_eq_true rfl)
  rw [lg_entry_eq]
  generalize (lg_sl ([.ref (ad 0), .int (nI c0), .int v, .ref zo]) ++ List.replicate (5 - (lg_sl ([.ref (ad 0), .int (nI c0), .int v, .ref zo])).length) Slot.unset).toArray = ls at hl ⊢
  have hl : lv_has ls 5 [(0, .ref (ad 0)), (1, .int (nI c0)), (2, .int v), (3, .ref zo)] := hl
  refine lv_aload_n hx hb dL_ask_0 rfl (lv_at hl 3 rfl) ?_
  refine lv_iconst (v := 0) hx hb dL_ask_1 (by decide) ?_
  refine lv_aload_n hx hb dL_ask_2 rfl (lv_at hl 0 rfl) ?_
  refine lv_iload_n hx hb dL_ask_3 rfl (lv_at hl 1 rfl) ?_
  refine lv_iload_n hx hb dL_ask_4 rfl (lv_at hl 2 rfl) ?_
  refine hy_iP (X := [(zo, .inl (cT 1, 1, .inr (.inl zw)))]) (pl := pg cds ad gg) (cx := []) (wr := [(zo, .inl (cT 1, 1, .inr (.inl zw)))]) hP hD hS hA [] [0] rfl rfl (by decide) (by decide) (va_runV (As := [.int (nI c0), .int v]) (rest := [.int 0, .ref zo]) ⟨hx, hb, hml, hown, hT⟩ (k_ask l D cT cds ad gg tc wd9 rw9 n vv vq eg ik ne c0 v hcd hob htb hCa hCf hne hn48 hc0 hc6 hv9 _) ⟨callB_of 2 hT (tb_gd w1071) rfl rfl rfl (hT _ w1) (hT _ w1068) hR_ask ⟨Nat.le_of_ble_eq_true rfl, Nat.le_of_ble_eq_true rfl⟩, (hT _ w1069), (hT _ w1070)⟩ (RW.preW (ci := 0) (q0 := 0) hZ hS (va_freeP (cx := []) hD hS hA [] rfl) (hP.part (cx := []) [] rfl) hK (hD.part (cx := []) [] (by decide) rfl) (pg_1 (x := 0) hcd hP (by decide) hob) rfl rfl) rfl rfl hl.1 rfl (lv_room (Nat.le_of_ble_eq_true rfl)) dL_ask_5 ⟨Nat.le_of_ble_eq_true rfl, Nat.le_of_ble_eq_true rfl⟩) (fun ru1 u9 H locs hpu1 hP hD hS => ?_)
  obtain ⟨gg7u1, rfl⟩ : ∃ q9, q9 = u9 := ⟨_, rfl⟩
  have hpu1 : ru1 = vq c0 ∧ (∀ z8, (z8 < 10 ∨ 40 ≤ z8) → gg7u1 z8 = gg z8) ∧ COLF cT ad gg7u1 n vv (upd vq c0 v) eg ik ne := hpu1
  have hP : va_P D vwCl ([(zo, .inl (cT 1, 1, .inr (.inl zw)))] ++ pg cds ad gg7u1) _ := hP
  have hD : va_D A ([(zo, .inl (cT 1, 1, .inr (.inl zw)))] ++ pg cds ad gg7u1) := hD
  refine lv_i2l hx hb dL_ask_8 rfl ?_
  refine va_last hx hb hK hP hD hS 0 1 rfl rfl (by unfold vp_in; decide) dL_ask_9 (fun H locs hP hD hS => ?_)
  have hP : va_P D vwCl ([(zo, .inl (cT 1, 1, .inr (.inl (vp_updL zw 0 ((ru1 : Int32).toInt64)))))] ++ pg cds ad gg7u1) _ := hP
  have hD : va_D A ([(zo, .inl (cT 1, 1, .inr (.inl (vp_updL zw 0 ((ru1 : Int32).toInt64)))))] ++ pg cds ad gg7u1) := hD
  refine lv_goto (tgt := 17) hx hb dL_ask_10 rfl ?_
  refine lv_iconst (v := 0) hx hb dL_ask_17 (by decide) ?_
  have hP9 : va_P D vwCl ([(zo, .inl (cT 1, 1, .inr (.inl (vp_updL zw 0 (Int32.toInt64 ru1)))))] ++ pg cds ad gg7u1) _ := hP.part (cx := [(zo, .inl (cT 1, 1, .inr (.inl (vp_updL zw 0 (Int32.toInt64 ru1)))))]) [0] rfl
  have hD9 : va_D A ([(zo, .inl (cT 1, 1, .inr (.inl (vp_updL zw 0 (Int32.toInt64 ru1)))))] ++ pg cds ad gg7u1) := hD.part (cx := [(zo, .inl (cT 1, 1, .inr (.inl (vp_updL zw 0 (Int32.toInt64 ru1)))))]) [0] (by decide) rfl
  refine W.widen (k := 0) (n := 0) (Nat.le_of_ble_eq_true rfl) (Nat.le_of_ble_eq_true rfl) ?_
  exact W.iret (v := 0) hx hb hr (fun t9 ht9 hW9 => ⟨⟨0, (gg7u1, ru1), rfl, (show 0 = 0 ∧ ru1 = vq c0 ∧ (∀ z8, (z8 < 10 ∨ 40 ≤ z8) → gg7u1 z8 = gg z8) ∧ COLF cT ad gg7u1 n vv (upd vq c0 v) eg ik ne from ⟨rfl, hpu1⟩), by rw [ht9]; exact hP9, hD9⟩, hS.F ht9⟩) hS.2.2 dL_ask_18
set_option maxHeartbeats 4000000 in
set_option maxRecDepth 100000 in
theorem l_ask_no (l : Launch) (D : va_G) (cT : Nat → ClassId) (cds : List Nat) (ad : Nat → Nat) (gg : Nat → Option va_E) (tc : Int32) (wd9 : Int32) (rw9 : Int32) (a1 : Int32) (v : Int32) (zo : Nat) (zw : Nat → Int64) (hlt : l.stackTraces = false) (hcd : CD cds) (hob : gg 0 = some (eOB ad tc)) (htb : gg 1 = some (eTB ad wd9 rw9)) (hq : ¬ ((0 ≤ a1 ∧ a1 ≤ wd9 - 1) ∧ (v = (-2147483648) ∨ ((-1000000) ≤ v ∧ v ≤ 1000000)))) (sz : Nat) : Met l yL_ask WL_ask ({ frames := 8, cells := 1, slots := 6, locals := 133 } : Room) (RW D vwCl [.ref (ad 0), .int a1, .int v, .ref zo] ([(zo, .inl (cT 1, 1, .inr (.inl zw)))] ++ pg cds ad gg) (TY cT) sz) (va_Qi (fun (r9 : Int32) (u9 : Unit) => r9 = 1) (BW D vwCl (va_A ([(zo, .inl (cT 1, 1, .inr (.inl zw)))] ++ pg cds ad gg) sz) (fun u9 : Unit => ([(zo, .inl (cT 1, 1, .inr (.inl zw)))] ++ pg cds ad gg))) (va_A ([(zo, .inl (cT 1, 1, .inr (.inl zw)))] ++ pg cds ad gg) sz)) 1 6 (va_A ([(zo, .inl (cT 1, 1, .inr (.inl zw)))] ++ pg cds ad gg) sz) := by
  refine va_MetW (hh := [(0, 10, 13, 13)]) (cc := cL_ask) (maxL := 5) (ret := (some .int)) (by decide) rfl ?_
  intro p e s m args below meth c s₁ B hml hv
  obtain ⟨rfl, hsz, hZ, hP, hK, hD0⟩ := hv
  have hx := B.exec
  have hb := B.bytes
  have hr := B.returns
  have hts := atoms_spec (ws := WL_ask) B.pre
  have hT : ∀ w ∈ TB, w.before _ s = true := fun w h => hts w (List.mem_cons_of_mem _ h)
  have hown : s.vm.findClass R_L = some m.cls := findClass_of_methodNamed B.named
  have htab := tx_table B (bytes := cL_ask) (maxL := 5) (ret := (some .int)) (hh := [(0, 10, 13, 13)]) (hts _ List.mem_cons_self)
  subst hsz
  have hD := hD0.self (sz := s.heap.size)
  generalize hAe : va_A ([(zo, .inl (cT 1, 1, .inr (.inl zw)))] ++ pg cds ad gg) s.heap.size = A at hD hZ ⊢
  have hA : ∀ q : Nat, s.heap.size ≤ q → A q := fun q h => by rw [← hAe]; exact Or.inr h
  have hS : va_S A s.heap s.heap [] := va_S.rf
  have hl := lv_entry ([.ref (ad 0), .int a1, .int v, .ref zo]) (n := 5) (Nat.le_of_ble_eq_true rfl)
  rw [lg_entry_eq]
  generalize (lg_sl ([.ref (ad 0), .int a1, .int v, .ref zo]) ++ List.replicate (5 - (lg_sl ([.ref (ad 0), .int a1, .int v, .ref zo])).length) Slot.unset).toArray = ls at hl ⊢
  have hl : lv_has ls 5 [(0, .ref (ad 0)), (1, .int a1), (2, .int v), (3, .ref zo)] := hl
  refine lv_aload_n hx hb dL_ask_0 rfl (lv_at hl 3 rfl) ?_
  refine lv_iconst (v := 0) hx hb dL_ask_1 (by decide) ?_
  refine lv_aload_n hx hb dL_ask_2 rfl (lv_at hl 0 rfl) ?_
  refine lv_iload_n hx hb dL_ask_3 rfl (lv_at hl 1 rfl) ?_
  refine lv_iload_n hx hb dL_ask_4 rfl (lv_at hl 2 rfl) ?_
  refine tx_catch1 (name := "java/lang/IllegalArgumentException") (tx_goV (As := [.int a1, .int v]) (rest := [.int 0, .ref zo]) ⟨hx, hb, hml, hown, hT⟩ (k_ask_no l D cT cds ad gg tc wd9 rw9 a1 v hlt hcd hob htb hq) ⟨callB_of 2 hT (tb_gd w1071) rfl rfl rfl (hT _ w1) (hT _ w1068) hR_ask ⟨Nat.le_of_ble_eq_true rfl, Nat.le_of_ble_eq_true rfl⟩, (hT _ w1069), (hT _ w1070)⟩ (RO.preW (ci := 0) (q0 := 0) hZ hS ((show va_P D vwCl ([] ++ pg cds ad gg) _ from (pv_p hP))) hK (pg_1 (x := 0) hcd hP (by decide) hob) rfl rfl) rfl hl.1 rfl (Nat.le_of_ble_eq_true rfl) dL_ask_5 ⟨Nat.le_of_ble_eq_true rfl, Nat.le_of_ble_eq_true rfl⟩) hown htab rfl (by decide) (hT _ w503) (tc_c rfl (hZ.1.1 ("java/lang/IllegalArgumentException", "java/lang/IllegalArgumentException") (List.mem_of_getElem? (i := 0) rfl))) (fun q9 H hsz9 hag9 => ?_)
  have hP := tc_P hP hag9
  have hS := tc_S hS hsz9 hag9
  refine W.eq (g2 := F0 m 13 ls [.ref q9]) rfl ?_
  refine lv_astore hx hb dL_ask_13 hl (by decide) rfl (fun ls hl => ?_)
  have hl : lv_has ls 5 [(4, .ref q9), (0, .ref (ad 0)), (1, .int a1), (2, .int v), (3, .ref zo)] := hl
  refine lv_iconst (v := 1) hx hb dL_ask_15 (by decide) ?_
  have hP9 : va_P D vwCl ([(zo, .inl (cT 1, 1, .inr (.inl zw)))] ++ pg cds ad gg) _ := hP.part (cx := [(zo, .inl (cT 1, 1, .inr (.inl zw)))]) [0] rfl
  have hD9 : va_D A ([(zo, .inl (cT 1, 1, .inr (.inl zw)))] ++ pg cds ad gg) := hD.part (cx := [(zo, .inl (cT 1, 1, .inr (.inl zw)))]) [0] (by decide) rfl
  refine W.widen (k := 1) (n := 6) (Nat.le_of_ble_eq_true rfl) (Nat.le_of_ble_eq_true rfl) ?_
  exact W.iret (v := 1) hx hb hr (fun t9 ht9 hW9 => ⟨⟨1, (), rfl, (show 1 = 1 from rfl), by rw [ht9]; exact hP9, hD9⟩, hS.F ht9⟩) hS.2.2 dL_ask_16
set_option maxHeartbeats 4000000 in
set_option maxRecDepth 100000 in
theorem l_pred (l : Launch) (D : va_G) (cT : Nat → ClassId) (cds : List Nat) (ad : Nat → Nat) (gg : Nat → Option va_E) (wd9 : Int32) (rw9 : Int32) (fm : Nat) (F : TFR) (T : Nat) (k9 : Nat) (n : Nat) (vv : Nat → Int32) (vq : Nat → Int32) (tg : Nat → Int32) (zf : Int) (L0 : Nat) (fo : Nat → Int32) (zo : Nat) (zw : Nat → Int64) (hcd : CD cds) (hob : gg 0 = some (eOB ad (nI T))) (htb : gg 1 = some (eTB ad wd9 rw9)) (hrn : rw9 = nI n) (hn48 : n ≤ 48) (hFr : FRp cT ad gg fm) (hTm : T ≤ fm) (hTs : TRS cT ad gg F T) (hTOK : TOK F T) (hT16 : T ≤ 16) (hk9 : k9 ≤ T) (hCa : CAp cT ad gg) (hCo : COLa cT ad gg n vv vq) (hTg : TGp cT gg n tg) (htg : ∀ i, i < n → -1000 ≤ (tg i).toInt ∧ (tg i).toInt ≤ 1000) (hLf : WHO cT ad gg 50 51 24 zf) (hOut : OUTp cT ad gg L0 fo) (hk0 : 0 ≤ nI k9 ∧ nI k9 ≤ nI T) (sz : Nat) : Met l yL_predict WL_predict ({ frames := 7, cells := 0, slots := 0, locals := 157 } : Room) (RW D vwCl [.ref (ad 0), .int (nI k9), .ref zo] ([(zo, .inl (cT 1, 1, .inr (.inl zw)))] ++ pg cds ad gg) (TY cT) sz) (va_Qi (fun (r9 : Int32) (u9 : (Nat → Option va_E) × Nat × (Nat → Int32) × Int × Nat × Int32) => r9 = 0 ∧ u9.2.2.2.2.2 = nI u9.2.1 ∧ u9.2.1 ≤ 866 ∧ WRT u9.2.2.1 u9.2.1 u9.2.2.2.1 u9.2.2.2.2.1 ∧ RDC (-(xF F vq 0 k9)) (Ppf F k9) u9.2.2.2.1 u9.2.2.2.2.1 ∧ OUTp cT ad u9.1 u9.2.1 u9.2.2.1 ∧ (∀ z8, (z8 < 41 ∨ 47 < z8) → z8 ≠ 50 → z8 ≠ 51 → u9.1 z8 = gg z8) ∧ ∃ z8, WHO cT ad u9.1 50 51 24 z8) (BW D vwCl (va_A ([(zo, .inl (cT 1, 1, .inr (.inl zw)))] ++ pg cds ad gg) sz) (fun u9 : (Nat → Option va_E) × Nat × (Nat → Int32) × Int × Nat × Int32 => ([(zo, .inl (cT 1, 1, .inr (.inl (vp_updL zw 0 (Int32.toInt64 u9.2.2.2.2.2)))))] ++ pg cds ad u9.1))) (va_A ([(zo, .inl (cT 1, 1, .inr (.inl zw)))] ++ pg cds ad gg) sz)) 0 0 (va_A ([(zo, .inl (cT 1, 1, .inr (.inl zw)))] ++ pg cds ad gg) sz) := by
  refine va_MetW (hh := [(0, 9, 12, 13)]) (cc := cL_predict) (maxL := 4) (ret := (some .int)) (by decide) rfl ?_
  intro p e s m args below meth c s₁ B hml hv
  obtain ⟨rfl, hsz, hZ, hP, hK, hD0⟩ := hv
  have hx := B.exec
  have hb := B.bytes
  have hr := B.returns
  have hts := atoms_spec (ws := WL_predict) B.pre
  have hT : ∀ w ∈ TB, w.before _ s = true := fun w h => hts w (List.mem_cons_of_mem _ h)
  have hown : s.vm.findClass R_L = some m.cls := findClass_of_methodNamed B.named
  have htab := tx_table B (bytes := cL_predict) (maxL := 4) (ret := (some .int)) (hh := [(0, 9, 12, 13)]) (hts _ List.mem_cons_self)
  subst hsz
  have hD := hD0.self (sz := s.heap.size)
  generalize hAe : va_A ([(zo, .inl (cT 1, 1, .inr (.inl zw)))] ++ pg cds ad gg) s.heap.size = A at hD hZ ⊢
  have hA : ∀ q : Nat, s.heap.size ≤ q → A q := fun q h => by rw [← hAe]; exact Or.inr h
  have hS : va_S A s.heap s.heap [] := va_S.rf
  have hl := lv_entry ([.ref (ad 0), .int (nI k9), .ref zo]) (n := 4) (Nat.le_of_ble_eq_true rfl)
  rw [lg_entry_eq]
  generalize (lg_sl ([.ref (ad 0), .int (nI k9), .ref zo]) ++ List.replicate (4 - (lg_sl ([.ref (ad 0), .int (nI k9), .ref zo])).length) Slot.unset).toArray = ls at hl ⊢
  have hl : lv_has ls 4 [(0, .ref (ad 0)), (1, .int (nI k9)), (2, .ref zo)] := hl
  refine lv_aload_n hx hb dL_predict_0 rfl (lv_at hl 2 rfl) ?_
  refine lv_iconst (v := 0) hx hb dL_predict_1 (by decide) ?_
  refine lv_aload_n hx hb dL_predict_2 rfl (lv_at hl 0 rfl) ?_
  refine lv_iload_n hx hb dL_predict_3 rfl (lv_at hl 1 rfl) ?_
  refine hy_iP (X := [(zo, .inl (cT 1, 1, .inr (.inl zw)))]) (pl := pg cds ad gg) (cx := []) (wr := [(zo, .inl (cT 1, 1, .inr (.inl zw)))]) hP hD hS hA [] [0] rfl rfl (by decide) (by decide) (va_runV (As := [.int (nI k9)]) (rest := [.int 0, .ref zo]) ⟨hx, hb, hml, hown, hT⟩ (k_pred l D cT cds ad gg wd9 rw9 fm F T k9 n vv vq tg zf L0 fo hcd hob htb hrn hn48 hFr hTm hTs hTOK hT16 hk9 hCa hCo hTg htg hLf hOut hk0 _) ⟨callB_of 1 hT (tb_gd w1079) rfl rfl rfl (hT _ w1) (hT _ w1076) hR_predict ⟨Nat.le_of_ble_eq_true rfl, Nat.le_of_ble_eq_true rfl⟩, (hT _ w1077), (hT _ w1078)⟩ (RW.preW (ci := 0) (q0 := 0) hZ hS (va_freeP (cx := []) hD hS hA [] rfl) (hP.part (cx := []) [] rfl) hK (hD.part (cx := []) [] (by decide) rfl) (pg_1 (x := 0) hcd hP (by decide) hob) rfl rfl) rfl rfl hl.1 rfl (lv_room (Nat.le_of_ble_eq_true rfl)) dL_predict_4 ⟨Nat.le_of_ble_eq_true rfl, Nat.le_of_ble_eq_true rfl⟩) (fun ru1 u9 H locs hpu1 hP hD hS => ?_)
  obtain ⟨gg7u1, L7u1, fo7u1, z7u1, d7u1⟩ := u9
  have hpu1 : ru1 = nI L7u1 ∧ L7u1 ≤ 866 ∧ WRT fo7u1 L7u1 z7u1 d7u1 ∧ RDC (-(xF F vq 0 k9)) (Ppf F k9) z7u1 d7u1 ∧ OUTp cT ad gg7u1 L7u1 fo7u1 ∧ (∀ z8, (z8 < 41 ∨ 47 < z8) → z8 ≠ 50 → z8 ≠ 51 → gg7u1 z8 = gg z8) ∧ ∃ z8, WHO cT ad gg7u1 50 51 24 z8 := hpu1
  have hP : va_P D vwCl ([(zo, .inl (cT 1, 1, .inr (.inl zw)))] ++ pg cds ad gg7u1) _ := hP
  have hD : va_D A ([(zo, .inl (cT 1, 1, .inr (.inl zw)))] ++ pg cds ad gg7u1) := hD
  refine lv_i2l hx hb dL_predict_7 rfl ?_
  refine va_last hx hb hK hP hD hS 0 1 rfl rfl (by unfold vp_in; decide) dL_predict_8 (fun H locs hP hD hS => ?_)
  have hP : va_P D vwCl ([(zo, .inl (cT 1, 1, .inr (.inl (vp_updL zw 0 ((ru1 : Int32).toInt64)))))] ++ pg cds ad gg7u1) _ := hP
  have hD : va_D A ([(zo, .inl (cT 1, 1, .inr (.inl (vp_updL zw 0 ((ru1 : Int32).toInt64)))))] ++ pg cds ad gg7u1) := hD
  refine lv_goto (tgt := 15) hx hb dL_predict_9 rfl ?_
  refine lv_iconst (v := 0) hx hb dL_predict_15 (by decide) ?_
  have hP9 : va_P D vwCl ([(zo, .inl (cT 1, 1, .inr (.inl (vp_updL zw 0 (Int32.toInt64 ru1)))))] ++ pg cds ad gg7u1) _ := hP.part (cx := [(zo, .inl (cT 1, 1, .inr (.inl (vp_updL zw 0 (Int32.toInt64 ru1)))))]) [0] rfl
  have hD9 : va_D A ([(zo, .inl (cT 1, 1, .inr (.inl (vp_updL zw 0 (Int32.toInt64 ru1)))))] ++ pg cds ad gg7u1) := hD.part (cx := [(zo, .inl (cT 1, 1, .inr (.inl (vp_updL zw 0 (Int32.toInt64 ru1)))))]) [0] (by decide) rfl
  refine W.widen (k := 0) (n := 0) (Nat.le_of_ble_eq_true rfl) (Nat.le_of_ble_eq_true rfl) ?_
  exact W.iret (v := 0) hx hb hr (fun t9 ht9 hW9 => ⟨⟨0, (gg7u1, L7u1, fo7u1, z7u1, d7u1, ru1), rfl, (show 0 = 0 ∧ ru1 = nI L7u1 ∧ L7u1 ≤ 866 ∧ WRT fo7u1 L7u1 z7u1 d7u1 ∧ RDC (-(xF F vq 0 k9)) (Ppf F k9) z7u1 d7u1 ∧ OUTp cT ad gg7u1 L7u1 fo7u1 ∧ (∀ z8, (z8 < 41 ∨ 47 < z8) → z8 ≠ 50 → z8 ≠ 51 → gg7u1 z8 = gg z8) ∧ ∃ z8, WHO cT ad gg7u1 50 51 24 z8 from ⟨rfl, hpu1⟩), by rw [ht9]; exact hP9, hD9⟩, hS.F ht9⟩) hS.2.2 dL_predict_16
set_option maxHeartbeats 4000000 in
set_option maxRecDepth 100000 in
theorem l_pred_no (l : Launch) (D : va_G) (cT : Nat → ClassId) (cds : List Nat) (ad : Nat → Nat) (gg : Nat → Option va_E) (T : Nat) (v : Int32) (zo : Nat) (zw : Nat → Int64) (hlt : l.stackTraces = false) (hcd : CD cds) (hob : gg 0 = some (eOB ad (nI T))) (hq : ¬ (0 ≤ v ∧ v ≤ nI T)) (sz : Nat) : Met l yL_predict WL_predict ({ frames := 8, cells := 1, slots := 6, locals := 132 } : Room) (RW D vwCl [.ref (ad 0), .int v, .ref zo] ([(zo, .inl (cT 1, 1, .inr (.inl zw)))] ++ pg cds ad gg) (TY cT) sz) (va_Qi (fun (r9 : Int32) (u9 : Unit) => r9 = 1) (BW D vwCl (va_A ([(zo, .inl (cT 1, 1, .inr (.inl zw)))] ++ pg cds ad gg) sz) (fun u9 : Unit => ([(zo, .inl (cT 1, 1, .inr (.inl zw)))] ++ pg cds ad gg))) (va_A ([(zo, .inl (cT 1, 1, .inr (.inl zw)))] ++ pg cds ad gg) sz)) 1 6 (va_A ([(zo, .inl (cT 1, 1, .inr (.inl zw)))] ++ pg cds ad gg) sz) := by
  refine va_MetW (hh := [(0, 9, 12, 13)]) (cc := cL_predict) (maxL := 4) (ret := (some .int)) (by decide) rfl ?_
  intro p e s m args below meth c s₁ B hml hv
  obtain ⟨rfl, hsz, hZ, hP, hK, hD0⟩ := hv
  have hx := B.exec
  have hb := B.bytes
  have hr := B.returns
  have hts := atoms_spec (ws := WL_predict) B.pre
  have hT : ∀ w ∈ TB, w.before _ s = true := fun w h => hts w (List.mem_cons_of_mem _ h)
  have hown : s.vm.findClass R_L = some m.cls := findClass_of_methodNamed B.named
  have htab := tx_table B (bytes := cL_predict) (maxL := 4) (ret := (some .int)) (hh := [(0, 9, 12, 13)]) (hts _ List.mem_cons_self)
  subst hsz
  have hD := hD0.self (sz := s.heap.size)
  generalize hAe : va_A ([(zo, .inl (cT 1, 1, .inr (.inl zw)))] ++ pg cds ad gg) s.heap.size = A at hD hZ ⊢
  have hA : ∀ q : Nat, s.heap.size ≤ q → A q := fun q h => by rw [← hAe]; exact Or.inr h
  have hS : va_S A s.heap s.heap [] := va_S.rf
  have hl := lv_entry ([.ref (ad 0), .int v, .ref zo]) (n := 4) (Nat.le_of_ble_eq_true rfl)
  rw [lg_entry_eq]
  generalize (lg_sl ([.ref (ad 0), .int v, .ref zo]) ++ List.replicate (4 - (lg_sl ([.ref (ad 0), .int v, .ref zo])).length) Slot.unset).toArray = ls at hl ⊢
  have hl : lv_has ls 4 [(0, .ref (ad 0)), (1, .int v), (2, .ref zo)] := hl
  refine lv_aload_n hx hb dL_predict_0 rfl (lv_at hl 2 rfl) ?_
  refine lv_iconst (v := 0) hx hb dL_predict_1 (by decide) ?_
  refine lv_aload_n hx hb dL_predict_2 rfl (lv_at hl 0 rfl) ?_
  refine lv_iload_n hx hb dL_predict_3 rfl (lv_at hl 1 rfl) ?_
  refine tx_catch1 (name := "java/lang/IllegalArgumentException") (tx_goV (As := [.int v]) (rest := [.int 0, .ref zo]) ⟨hx, hb, hml, hown, hT⟩ (k_pred_no l D cT cds ad gg T v hlt hcd hob hq) ⟨callB_of 1 hT (tb_gd w1079) rfl rfl rfl (hT _ w1) (hT _ w1076) hR_predict ⟨Nat.le_of_ble_eq_true rfl, Nat.le_of_ble_eq_true rfl⟩, (hT _ w1077), (hT _ w1078)⟩ (RO.preW (ci := 0) (q0 := 0) hZ hS ((show va_P D vwCl ([] ++ pg cds ad gg) _ from (pv_p hP))) hK (pg_1 (x := 0) hcd hP (by decide) hob) rfl rfl) rfl hl.1 rfl (Nat.le_of_ble_eq_true rfl) dL_predict_4 ⟨Nat.le_of_ble_eq_true rfl, Nat.le_of_ble_eq_true rfl⟩) hown htab rfl (by decide) (hT _ w503) (tc_c rfl (hZ.1.1 ("java/lang/IllegalArgumentException", "java/lang/IllegalArgumentException") (List.mem_of_getElem? (i := 0) rfl))) (fun q9 H hsz9 hag9 => ?_)
  have hP := tc_P hP hag9
  have hS := tc_S hS hsz9 hag9
  refine W.eq (g2 := F0 m 12 ls [.ref q9]) rfl ?_
  refine lv_astore_n hx hb dL_predict_12 rfl hl (by decide) rfl (fun ls hl => ?_)
  have hl : lv_has ls 4 [(3, .ref q9), (0, .ref (ad 0)), (1, .int v), (2, .ref zo)] := hl
  refine lv_iconst (v := 1) hx hb dL_predict_13 (by decide) ?_
  have hP9 : va_P D vwCl ([(zo, .inl (cT 1, 1, .inr (.inl zw)))] ++ pg cds ad gg) _ := hP.part (cx := [(zo, .inl (cT 1, 1, .inr (.inl zw)))]) [0] rfl
  have hD9 : va_D A ([(zo, .inl (cT 1, 1, .inr (.inl zw)))] ++ pg cds ad gg) := hD.part (cx := [(zo, .inl (cT 1, 1, .inr (.inl zw)))]) [0] (by decide) rfl
  refine W.widen (k := 1) (n := 6) (Nat.le_of_ble_eq_true rfl) (Nat.le_of_ble_eq_true rfl) ?_
  exact W.iret (v := 1) hx hb hr (fun t9 ht9 hW9 => ⟨⟨1, (), rfl, (show 1 = 1 from rfl), by rw [ht9]; exact hP9, hD9⟩, hS.F ht9⟩) hS.2.2 dL_predict_14
set_option maxHeartbeats 4000000 in
set_option maxRecDepth 100000 in
theorem l_error (l : Launch) (D : va_G) (cT : Nat → ClassId) (cds : List Nat) (ad : Nat → Nat) (gg : Nat → Option va_E) (wd9 : Int32) (rw9 : Int32) (fm : Nat) (F : TFR) (T : Nat) (k9 : Nat) (n : Nat) (vv : Nat → Int32) (vq : Nat → Int32) (tg : Nat → Int32) (n0 : Nat) (zs0 : Nat → Int) (zf : Int) (zc : Int) (zq : Int) (zr : Int) (L0 : Nat) (fo : Nat → Int32) (x : Int64) (zo : Nat) (zw : Nat → Int64) (hcd : CD cds) (hob : gg 0 = some (eOB ad (nI T))) (htb : gg 1 = some (eTB ad wd9 rw9)) (hrn : rw9 = nI n) (hn48 : n ≤ 48) (hFr : FRp cT ad gg fm) (hTm : T ≤ fm) (hTs : TRS cT ad gg F T) (hTOK : TOK F T) (hT16 : T ≤ 16) (hk9 : k9 ≤ T) (hCa : CAp cT ad gg) (hCo : COLa cT ad gg n vv vq) (hTg : TGp cT gg n tg) (htg : ∀ i, i < n → -1000 ≤ (tg i).toInt ∧ (tg i).toInt ≤ 1000) (hRs : RSp cT ad gg n0 zs0) (hLf : WHO cT ad gg 50 51 24 zf) (hCm : WHO cT ad gg 52 53 24 zc) (hS1 : WHO cT ad gg 54 55 48 zq) (hS2 : WHO cT ad gg 56 57 48 zr) (hOut : OUTp cT ad gg L0 fo) (hk0 : 0 ≤ nI k9 ∧ nI k9 ≤ nI T) (sz : Nat) : Met l yL_error WL_error ({ frames := 8, cells := 0, slots := 0, locals := 181 } : Room) (RW D vwCl [.ref (ad 0), .long x, .int (nI k9), .ref zo] ([(zo, .inl (cT 1, 1, .inr (.inl zw)))] ++ pg cds ad gg) (TY cT) sz) (va_Qi (fun (r9 : Int32) (u9 : (Nat → Option va_E) × Nat × (Nat → Int32) × Int × Nat × Int32) => r9 = 0 ∧ u9.2.2.2.2.2 = nI u9.2.1 ∧ u9.2.1 ≤ 866 ∧ WRT u9.2.2.1 u9.2.1 u9.2.2.2.1 u9.2.2.2.2.1 ∧ RDC (sqs (fun j8 t8 => xF F (rwf vv j8) (tg j8).toInt t8) x n k9) (Ppf F k9 * Ppf F k9) u9.2.2.2.1 u9.2.2.2.2.1 ∧ OUTp cT ad u9.1 u9.2.1 u9.2.2.1 ∧ (∀ z8, (z8 < 41 ∨ (59 < z8 ∧ z8 < 100) ∨ 200 ≤ z8) → z8 ≠ 48 → z8 ≠ 49 → u9.1 z8 = gg z8) ∧ (∃ z8, WHO cT ad u9.1 50 51 24 z8) ∧ (∃ y8, RSp cT ad u9.1 n y8) ∧ (∃ z8, WHO cT ad u9.1 52 53 24 z8) ∧ (∃ z8, WHO cT ad u9.1 54 55 48 z8) ∧ ∃ z8, WHO cT ad u9.1 56 57 48 z8) (BW D vwCl (va_A ([(zo, .inl (cT 1, 1, .inr (.inl zw)))] ++ pg cds ad gg) sz) (fun u9 : (Nat → Option va_E) × Nat × (Nat → Int32) × Int × Nat × Int32 => ([(zo, .inl (cT 1, 1, .inr (.inl (vp_updL zw 0 (Int32.toInt64 u9.2.2.2.2.2)))))] ++ pg cds ad u9.1))) (va_A ([(zo, .inl (cT 1, 1, .inr (.inl zw)))] ++ pg cds ad gg) sz)) 0 0 (va_A ([(zo, .inl (cT 1, 1, .inr (.inl zw)))] ++ pg cds ad gg) sz) := by
  refine va_MetW (hh := [(0, 11, 14, 13)]) (cc := cL_error) (maxL := 6) (ret := (some .int)) (by decide) rfl ?_
  intro p e s m args below meth c s₁ B hml hv
  obtain ⟨rfl, hsz, hZ, hP, hK, hD0⟩ := hv
  have hx := B.exec
  have hb := B.bytes
  have hr := B.returns
  have hts := atoms_spec (ws := WL_error) B.pre
  have hT : ∀ w ∈ TB, w.before _ s = true := fun w h => hts w (List.mem_cons_of_mem _ h)
  have hown : s.vm.findClass R_L = some m.cls := findClass_of_methodNamed B.named
  have htab := tx_table B (bytes := cL_error) (maxL := 6) (ret := (some .int)) (hh := [(0, 11, 14, 13)]) (hts _ List.mem_cons_self)
  subst hsz
  have hD := hD0.self (sz := s.heap.size)
  generalize hAe : va_A ([(zo, .inl (cT 1, 1, .inr (.inl zw)))] ++ pg cds ad gg) s.heap.size = A at hD hZ ⊢
  have hA : ∀ q : Nat, s.heap.size ≤ q → A q := fun q h => by rw [← hAe]; exact Or.inr h
  have hS : va_S A s.heap s.heap [] := va_S.rf
  have hl := lv_entry ([.ref (ad 0), .long x, .int (nI k9), .ref zo]) (n := 6) (Nat.le_of_ble_eq_true rfl)
  rw [lg_entry_eq]
  generalize (lg_sl ([.ref (ad 0), .long x, .int (nI k9), .ref zo]) ++ List.replicate (6 - (lg_sl ([.ref (ad 0), .long x, .int (nI k9), .ref zo])).length) Slot.unset).toArray = ls at hl ⊢
  have hl : lv_has ls 6 [(0, .ref (ad 0)), (1, .long x), (3, .int (nI k9)), (4, .ref zo)] := hl
  refine lv_aload hx hb dL_error_0 (lv_at hl 3 rfl) ?_
  refine lv_iconst (v := 0) hx hb dL_error_2 (by decide) ?_
  refine lv_aload_n hx hb dL_error_3 rfl (lv_at hl 0 rfl) ?_
  refine lv_lload_n hx hb dL_error_4 rfl (lv_at hl 1 rfl) ?_
  refine lv_iload_n hx hb dL_error_5 rfl (lv_at hl 2 rfl) ?_
  refine hy_iP (X := [(zo, .inl (cT 1, 1, .inr (.inl zw)))]) (pl := pg cds ad gg) (cx := []) (wr := [(zo, .inl (cT 1, 1, .inr (.inl zw)))]) hP hD hS hA [] [0] rfl rfl (by decide) (by decide) (va_runV (As := [.long x, .int (nI k9)]) (rest := [.int 0, .ref zo]) ⟨hx, hb, hml, hown, hT⟩ (k_error l D cT cds ad gg wd9 rw9 fm F T k9 n vv vq tg n0 zs0 zf zc zq zr L0 fo x hcd hob htb hrn hn48 hFr hTm hTs hTOK hT16 hk9 hCa hCo hTg htg hRs hLf hCm hS1 hS2 hOut hk0 _) ⟨callB_of 2 hT (tb_gd w1090) rfl rfl rfl (hT _ w1) (hT _ w1087) hR_error ⟨Nat.le_of_ble_eq_true rfl, Nat.le_of_ble_eq_true rfl⟩, (hT _ w1088), (hT _ w1089)⟩ (RW.preW (ci := 0) (q0 := 0) hZ hS (va_freeP (cx := []) hD hS hA [] rfl) (hP.part (cx := []) [] rfl) hK (hD.part (cx := []) [] (by decide) rfl) (pg_1 (x := 0) hcd hP (by decide) hob) rfl rfl) rfl rfl hl.1 rfl (lv_room (Nat.le_of_ble_eq_true rfl)) dL_error_6 ⟨Nat.le_of_ble_eq_true rfl, Nat.le_of_ble_eq_true rfl⟩) (fun ru1 u9 H locs hpu1 hP hD hS => ?_)
  obtain ⟨gg7u1, L7u1, fo7u1, z7u1, d7u1⟩ := u9
  have hpu1 : ru1 = nI L7u1 ∧ L7u1 ≤ 866 ∧ WRT fo7u1 L7u1 z7u1 d7u1 ∧ RDC (sqs (fun j8 t8 => xF F (rwf vv j8) (tg j8).toInt t8) x n k9) (Ppf F k9 * Ppf F k9) z7u1 d7u1 ∧ OUTp cT ad gg7u1 L7u1 fo7u1 ∧ (∀ z8, (z8 < 41 ∨ (59 < z8 ∧ z8 < 100) ∨ 200 ≤ z8) → z8 ≠ 48 → z8 ≠ 49 → gg7u1 z8 = gg z8) ∧ (∃ z8, WHO cT ad gg7u1 50 51 24 z8) ∧ (∃ y8, RSp cT ad gg7u1 n y8) ∧ (∃ z8, WHO cT ad gg7u1 52 53 24 z8) ∧ (∃ z8, WHO cT ad gg7u1 54 55 48 z8) ∧ ∃ z8, WHO cT ad gg7u1 56 57 48 z8 := hpu1
  have hP : va_P D vwCl ([(zo, .inl (cT 1, 1, .inr (.inl zw)))] ++ pg cds ad gg7u1) _ := hP
  have hD : va_D A ([(zo, .inl (cT 1, 1, .inr (.inl zw)))] ++ pg cds ad gg7u1) := hD
  refine lv_i2l hx hb dL_error_9 rfl ?_
  refine va_last hx hb hK hP hD hS 0 1 rfl rfl (by unfold vp_in; decide) dL_error_10 (fun H locs hP hD hS => ?_)
  have hP : va_P D vwCl ([(zo, .inl (cT 1, 1, .inr (.inl (vp_updL zw 0 ((ru1 : Int32).toInt64)))))] ++ pg cds ad gg7u1) _ := hP
  have hD : va_D A ([(zo, .inl (cT 1, 1, .inr (.inl (vp_updL zw 0 ((ru1 : Int32).toInt64)))))] ++ pg cds ad gg7u1) := hD
  refine lv_goto (tgt := 18) hx hb dL_error_11 rfl ?_
  refine lv_iconst (v := 0) hx hb dL_error_18 (by decide) ?_
  have hP9 : va_P D vwCl ([(zo, .inl (cT 1, 1, .inr (.inl (vp_updL zw 0 (Int32.toInt64 ru1)))))] ++ pg cds ad gg7u1) _ := hP.part (cx := [(zo, .inl (cT 1, 1, .inr (.inl (vp_updL zw 0 (Int32.toInt64 ru1)))))]) [0] rfl
  have hD9 : va_D A ([(zo, .inl (cT 1, 1, .inr (.inl (vp_updL zw 0 (Int32.toInt64 ru1)))))] ++ pg cds ad gg7u1) := hD.part (cx := [(zo, .inl (cT 1, 1, .inr (.inl (vp_updL zw 0 (Int32.toInt64 ru1)))))]) [0] (by decide) rfl
  refine W.widen (k := 0) (n := 0) (Nat.le_of_ble_eq_true rfl) (Nat.le_of_ble_eq_true rfl) ?_
  exact W.iret (v := 0) hx hb hr (fun t9 ht9 hW9 => ⟨⟨0, (gg7u1, L7u1, fo7u1, z7u1, d7u1, ru1), rfl, (show 0 = 0 ∧ ru1 = nI L7u1 ∧ L7u1 ≤ 866 ∧ WRT fo7u1 L7u1 z7u1 d7u1 ∧ RDC (sqs (fun j8 t8 => xF F (rwf vv j8) (tg j8).toInt t8) x n k9) (Ppf F k9 * Ppf F k9) z7u1 d7u1 ∧ OUTp cT ad gg7u1 L7u1 fo7u1 ∧ (∀ z8, (z8 < 41 ∨ (59 < z8 ∧ z8 < 100) ∨ 200 ≤ z8) → z8 ≠ 48 → z8 ≠ 49 → gg7u1 z8 = gg z8) ∧ (∃ z8, WHO cT ad gg7u1 50 51 24 z8) ∧ (∃ y8, RSp cT ad gg7u1 n y8) ∧ (∃ z8, WHO cT ad gg7u1 52 53 24 z8) ∧ (∃ z8, WHO cT ad gg7u1 54 55 48 z8) ∧ ∃ z8, WHO cT ad gg7u1 56 57 48 z8 from ⟨rfl, hpu1⟩), by rw [ht9]; exact hP9, hD9⟩, hS.F ht9⟩) hS.2.2 dL_error_19
set_option maxHeartbeats 4000000 in
set_option maxRecDepth 100000 in
theorem l_error_no (l : Launch) (D : va_G) (cT : Nat → ClassId) (cds : List Nat) (ad : Nat → Nat) (gg : Nat → Option va_E) (T : Nat) (x : Int64) (v : Int32) (zo : Nat) (zw : Nat → Int64) (hlt : l.stackTraces = false) (hcd : CD cds) (hob : gg 0 = some (eOB ad (nI T))) (hq : ¬ (0 ≤ v ∧ v ≤ nI T)) (sz : Nat) : Met l yL_error WL_error ({ frames := 8, cells := 1, slots := 6, locals := 134 } : Room) (RW D vwCl [.ref (ad 0), .long x, .int v, .ref zo] ([(zo, .inl (cT 1, 1, .inr (.inl zw)))] ++ pg cds ad gg) (TY cT) sz) (va_Qi (fun (r9 : Int32) (u9 : Unit) => r9 = 1) (BW D vwCl (va_A ([(zo, .inl (cT 1, 1, .inr (.inl zw)))] ++ pg cds ad gg) sz) (fun u9 : Unit => ([(zo, .inl (cT 1, 1, .inr (.inl zw)))] ++ pg cds ad gg))) (va_A ([(zo, .inl (cT 1, 1, .inr (.inl zw)))] ++ pg cds ad gg) sz)) 1 6 (va_A ([(zo, .inl (cT 1, 1, .inr (.inl zw)))] ++ pg cds ad gg) sz) := by
  refine va_MetW (hh := [(0, 11, 14, 13)]) (cc := cL_error) (maxL := 6) (ret := (some .int)) (by decide) rfl ?_
  intro p e s m args below meth c s₁ B hml hv
  obtain ⟨rfl, hsz, hZ, hP, hK, hD0⟩ := hv
  have hx := B.exec
  have hb := B.bytes
  have hr := B.returns
  have hts := atoms_spec (ws := WL_error) B.pre
  have hT : ∀ w ∈ TB, w.before _ s = true := fun w h => hts w (List.mem_cons_of_mem _ h)
  have hown : s.vm.findClass R_L = some m.cls := findClass_of_methodNamed B.named
  have htab := tx_table B (bytes := cL_error) (maxL := 6) (ret := (some .int)) (hh := [(0, 11, 14, 13)]) (hts _ List.mem_cons_self)
  subst hsz
  have hD := hD0.self (sz := s.heap.size)
  generalize hAe : va_A ([(zo, .inl (cT 1, 1, .inr (.inl zw)))] ++ pg cds ad gg) s.heap.size = A at hD hZ ⊢
  have hA : ∀ q : Nat, s.heap.size ≤ q → A q := fun q h => by rw [← hAe]; exact Or.inr h
  have hS : va_S A s.heap s.heap [] := va_S.rf
  have hl := lv_entry ([.ref (ad 0), .long x, .int v, .ref zo]) (n := 6) (Nat.le_of_ble_eq_true rfl)
  rw [lg_entry_eq]
  generalize (lg_sl ([.ref (ad 0), .long x, .int v, .ref zo]) ++ List.replicate (6 - (lg_sl ([.ref (ad 0), .long x, .int v, .ref zo])).length) Slot.unset).toArray = ls at hl ⊢
  have hl : lv_has ls 6 [(0, .ref (ad 0)), (1, .long x), (3, .int v), (4, .ref zo)] := hl
  refine lv_aload hx hb dL_error_0 (lv_at hl 3 rfl) ?_
  refine lv_iconst (v := 0) hx hb dL_error_2 (by decide) ?_
  refine lv_aload_n hx hb dL_error_3 rfl (lv_at hl 0 rfl) ?_
  refine lv_lload_n hx hb dL_error_4 rfl (lv_at hl 1 rfl) ?_
  refine lv_iload_n hx hb dL_error_5 rfl (lv_at hl 2 rfl) ?_
  refine tx_catch1 (name := "java/lang/IllegalArgumentException") (tx_goV (As := [.long x, .int v]) (rest := [.int 0, .ref zo]) ⟨hx, hb, hml, hown, hT⟩ (k_error_no l D cT cds ad gg T x v hlt hcd hob hq) ⟨callB_of 2 hT (tb_gd w1090) rfl rfl rfl (hT _ w1) (hT _ w1087) hR_error ⟨Nat.le_of_ble_eq_true rfl, Nat.le_of_ble_eq_true rfl⟩, (hT _ w1088), (hT _ w1089)⟩ (RO.preW (ci := 0) (q0 := 0) hZ hS ((show va_P D vwCl ([] ++ pg cds ad gg) _ from (pv_p hP))) hK (pg_1 (x := 0) hcd hP (by decide) hob) rfl rfl) rfl hl.1 rfl (Nat.le_of_ble_eq_true rfl) dL_error_6 ⟨Nat.le_of_ble_eq_true rfl, Nat.le_of_ble_eq_true rfl⟩) hown htab rfl (by decide) (hT _ w503) (tc_c rfl (hZ.1.1 ("java/lang/IllegalArgumentException", "java/lang/IllegalArgumentException") (List.mem_of_getElem? (i := 0) rfl))) (fun q9 H hsz9 hag9 => ?_)
  have hP := tc_P hP hag9
  have hS := tc_S hS hsz9 hag9
  refine W.eq (g2 := F0 m 14 ls [.ref q9]) rfl ?_
  refine lv_astore hx hb dL_error_14 hl (by decide) rfl (fun ls hl => ?_)
  have hl : lv_has ls 6 [(5, .ref q9), (0, .ref (ad 0)), (1, .long x), (3, .int v), (4, .ref zo)] := hl
  refine lv_iconst (v := 1) hx hb dL_error_16 (by decide) ?_
  have hP9 : va_P D vwCl ([(zo, .inl (cT 1, 1, .inr (.inl zw)))] ++ pg cds ad gg) _ := hP.part (cx := [(zo, .inl (cT 1, 1, .inr (.inl zw)))]) [0] rfl
  have hD9 : va_D A ([(zo, .inl (cT 1, 1, .inr (.inl zw)))] ++ pg cds ad gg) := hD.part (cx := [(zo, .inl (cT 1, 1, .inr (.inl zw)))]) [0] (by decide) rfl
  refine W.widen (k := 1) (n := 6) (Nat.le_of_ble_eq_true rfl) (Nat.le_of_ble_eq_true rfl) ?_
  exact W.iret (v := 1) hx hb hr (fun t9 ht9 hW9 => ⟨⟨1, (), rfl, (show 1 = 1 from rfl), by rw [ht9]; exact hP9, hD9⟩, hS.F ht9⟩) hS.2.2 dL_error_17
