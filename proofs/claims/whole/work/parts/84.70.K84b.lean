set_option maxHeartbeats 4000000 in
set_option maxRecDepth 100000 in
theorem l_kinds (l : Launch) (D : va_G) (cT : Nat → ClassId) (cds : List Nat) (ad : Nat → Nat) (gg : Nat → Option va_E) (tc : Int32) (wd9 : Int32) (rw9 : Int32) (n : Nat) (vv : Nat → Int32) (vq : Nat → Int32) (eg : Nat → Int32) (ik : Nat → Int32) (ne : Nat → Nat) (c0 : Nat) (isv : Int32) (zo : Nat) (zw : Nat → Int64) (hcd : CD cds) (hob : gg 0 = some (eOB ad tc)) (htb : gg 1 = some (eTB ad wd9 rw9)) (hrn : rw9 = nI n) (hn48 : n ≤ 48) (hCa : CAp cT ad gg) (hCf : COLF cT ad gg n vv vq eg ik ne) (hc0 : 0 ≤ nI c0 ∧ nI c0 ≤ wd9 - 1) (hc6 : c0 < 6) (hisv : isv = 0 ∨ isv = 1) (hne : ∀ c, c < 6 → ne c ≤ 11) (hik : ∀ c, c < 6 → ik c = 0 ∨ ik c = 1) (hk9 : isv = 0 ∨ kaB (fun r => vv (6 * r + c0)) n = true) (sz : Nat) : Met l yL_kinds WL_kinds ({ frames := 3, cells := 0, slots := 0, locals := 65 } : Room) (RW D vwCl [.ref (ad 0), .int (nI c0), .int isv, .ref zo] ([(zo, .inl (cT 1, 1, .inr (.inl zw)))] ++ pg cds ad gg) (TY cT) sz) (va_Qi (fun (r9 : Int32) (u9 : (Nat → Option va_E) × Int32) => r9 = 0 ∧ u9.2 = ik c0 ∧ (∀ z8, (z8 < 10 ∨ 40 ≤ z8) → u9.1 z8 = gg z8) ∧ COLF cT ad u9.1 n vv vq eg (upd ik c0 isv) (va_up ne c0 0)) (BW D vwCl (va_A ([(zo, .inl (cT 1, 1, .inr (.inl zw)))] ++ pg cds ad gg) sz) (fun u9 : (Nat → Option va_E) × Int32 => ([(zo, .inl (cT 1, 1, .inr (.inl (vp_updL zw 0 (Int32.toInt64 u9.2)))))] ++ pg cds ad u9.1))) (va_A ([(zo, .inl (cT 1, 1, .inr (.inl zw)))] ++ pg cds ad gg) sz)) 0 0 (va_A ([(zo, .inl (cT 1, 1, .inr (.inl zw)))] ++ pg cds ad gg) sz) := by
  refine va_MetW (hh := [(0, 17, 20, 13), (0, 17, 24, 19)]) (cc := cL_kinds) (maxL := 5) (ret := (some .int)) (by decide) rfl ?_
  intro p e s m args below meth c s₁ B hml hv
  obtain ⟨rfl, hsz, hZ, hP, hK, hD0⟩ := hv
  have hx := B.exec
  have hb := B.bytes
  have hr := B.returns
  have hts := atoms_spec (ws := WL_kinds) B.pre
  have hT : ∀ w ∈ TB, w.before _ s = true := fun w h => hts w (List.mem_cons_of_mem _ h)
  have hown : s.vm.findClass R_L = some m.cls := findClass_of_methodNamed B.named
  have htab := tx_table B (bytes := cL_kinds) (maxL := 5) (ret := (some .int)) (hh := [(0, 17, 20, 13), (0, 17, 24, 19)]) (hts _ List.mem_cons_self)
  subst hsz
  have hD := hD0.self (sz := s.heap.size)
  generalize hAe : va_A ([(zo, .inl (cT 1, 1, .inr (.inl zw)))] ++ pg cds ad gg) s.heap.size = A at hD hZ ⊢
  have hA : ∀ q : Nat, s.heap.size ≤ q → A q := fun q h => by rw [← hAe]; exact Or.inr h
  have hS : va_S A s.heap s.heap [] := va_S.rf
  have hl := lv_entry ([.ref (ad 0), .int (nI c0), .int isv, .ref zo]) (n := 5) (Nat.le_of_ble_eq_true rfl)
  rw [lg_entry_eq]
  generalize (lg_sl ([.ref (ad 0), .int (nI c0), .int isv, .ref zo]) ++ List.replicate (5 - (lg_sl ([.ref (ad 0), .int (nI c0), .int isv, .ref zo])).length) Slot.unset).toArray = ls at hl ⊢
  have hl : lv_has ls 5 [(0, .ref (ad 0)), (1, .int (nI c0)), (2, .int isv), (3, .ref zo)] := hl
  refine lv_aload_n hx hb dL_kinds_0 rfl (lv_at hl 3 rfl) ?_
  refine lv_iconst (v := 0) hx hb dL_kinds_1 (by decide) ?_
  refine lv_aload_n hx hb dL_kinds_2 rfl (lv_at hl 0 rfl) ?_
  refine lv_iload_n hx hb dL_kinds_3 rfl (lv_at hl 1 rfl) ?_
  refine lv_iload_n hx hb dL_kinds_4 rfl (lv_at hl 2 rfl) ?_
  refine hy_iP (X := [(zo, .inl (cT 1, 1, .inr (.inl zw)))]) (pl := pg cds ad gg) (cx := []) (wr := [(zo, .inl (cT 1, 1, .inr (.inl zw)))]) hP hD hS hA [] [0] rfl rfl (by decide) (by decide) (va_runV (As := [.int (nI c0), .int isv]) (rest := [.int 0, .ref zo]) ⟨hx, hb, hml, hown, hT⟩ (k_kinds l D cT cds ad gg tc wd9 rw9 n vv vq eg ik ne c0 isv hcd hob htb hrn hn48 hCa hCf hc0 hc6 hisv hne hik hk9 _) ⟨callB_of 2 hT (tb_gd w650) rfl rfl rfl (hT _ w1) (hT _ w647) hR_kinds ⟨Nat.le_of_ble_eq_true rfl, Nat.le_of_ble_eq_true rfl⟩, (hT _ w648), (hT _ w649)⟩ (RW.preW (ci := 0) (q0 := 0) hZ hS (va_freeP (cx := []) hD hS hA [] rfl) (hP.part (cx := []) [] rfl) hK (hD.part (cx := []) [] (by decide) rfl) (pg_1 (x := 0) hcd hP (by decide) hob) rfl rfl) rfl rfl hl.1 rfl (lv_room (Nat.le_of_ble_eq_true rfl)) dL_kinds_5 ⟨Nat.le_of_ble_eq_true rfl, Nat.le_of_ble_eq_true rfl⟩) (fun ru1 u9 H locs hpu1 hP hD hS => ?_)
  obtain ⟨gg7u1, rfl⟩ : ∃ q9, q9 = u9 := ⟨_, rfl⟩
  have hpu1 : ru1 = ik c0 ∧ (∀ z8, (z8 < 10 ∨ 40 ≤ z8) → gg7u1 z8 = gg z8) ∧ COLF cT ad gg7u1 n vv vq eg (upd ik c0 isv) (va_up ne c0 0) := hpu1
  have hP : va_P D vwCl ([(zo, .inl (cT 1, 1, .inr (.inl zw)))] ++ pg cds ad gg7u1) _ := hP
  have hD : va_D A ([(zo, .inl (cT 1, 1, .inr (.inl zw)))] ++ pg cds ad gg7u1) := hD
  refine lv_if_eq (tgt := 15) hx hb dL_kinds_8 rfl (fun h2 => ?_) (fun h2 => ?_)
  · have b8 := h2
    refine lv_lconst (v := 0) hx hb dL_kinds_15 (by decide) ?_
    refine va_last hx hb hK hP hD hS 0 1 rfl rfl (by unfold vp_in; decide) dL_kinds_16 (fun H locs hP hD hS => ?_)
    have hP : va_P D vwCl ([(zo, .inl (cT 1, 1, .inr (.inl (vp_updL zw 0 0))))] ++ pg cds ad gg7u1) _ := hP
    have hD : va_D A ([(zo, .inl (cT 1, 1, .inr (.inl (vp_updL zw 0 0))))] ++ pg cds ad gg7u1) := hD
    refine lv_goto (tgt := 28) hx hb dL_kinds_17 rfl ?_
    refine lv_iconst (v := 0) hx hb dL_kinds_28 (by decide) ?_
    have hP9 : va_P D vwCl ([(zo, .inl (cT 1, 1, .inr (.inl (vp_updL zw 0 (Int32.toInt64 0)))))] ++ pg cds ad gg7u1) _ := hP.part (cx := [(zo, .inl (cT 1, 1, .inr (.inl (vp_updL zw 0 (Int32.toInt64 0)))))]) [0] rfl
    have hD9 : va_D A ([(zo, .inl (cT 1, 1, .inr (.inl (vp_updL zw 0 (Int32.toInt64 0)))))] ++ pg cds ad gg7u1) := hD.part (cx := [(zo, .inl (cT 1, 1, .inr (.inl (vp_updL zw 0 (Int32.toInt64 0)))))]) [0] (by decide) rfl
    refine W.widen (k := 0) (n := 0) (Nat.le_of_ble_eq_true rfl) (Nat.le_of_ble_eq_true rfl) ?_
    exact W.iret (v := 0) hx hb hr (fun t9 ht9 hW9 => ⟨⟨0, (gg7u1, 0), rfl, (show 0 = 0 ∧ 0 = ik c0 ∧ (∀ z8, (z8 < 10 ∨ 40 ≤ z8) → gg7u1 z8 = gg z8) ∧ COLF cT ad gg7u1 n vv vq eg (upd ik c0 isv) (va_up ne c0 0) from ⟨rfl, by rw [← b8]; exact hpu1⟩), by rw [ht9]; exact hP9, hD9⟩, hS.F ht9⟩) hS.2.2 dL_kinds_29
  · have b8 := h2
    refine lv_lconst (v := 1) hx hb dL_kinds_11 (by decide) ?_
    refine lv_goto (tgt := 16) hx hb dL_kinds_12 rfl ?_
    refine va_last hx hb hK hP hD hS 0 1 rfl rfl (by unfold vp_in; decide) dL_kinds_16 (fun H locs hP hD hS => ?_)
    have hP : va_P D vwCl ([(zo, .inl (cT 1, 1, .inr (.inl (vp_updL zw 0 1))))] ++ pg cds ad gg7u1) _ := hP
    have hD : va_D A ([(zo, .inl (cT 1, 1, .inr (.inl (vp_updL zw 0 1))))] ++ pg cds ad gg7u1) := hD
    refine lv_goto (tgt := 28) hx hb dL_kinds_17 rfl ?_
    refine lv_iconst (v := 0) hx hb dL_kinds_28 (by decide) ?_
    have b9 : ru1 = 1 := (by rw [hpu1.1]; exact (hik c0 hc6).resolve_left (fun q => b8 (hpu1.1.trans q)))
    have hP9 : va_P D vwCl ([(zo, .inl (cT 1, 1, .inr (.inl (vp_updL zw 0 (Int32.toInt64 1)))))] ++ pg cds ad gg7u1) _ := hP.part (cx := [(zo, .inl (cT 1, 1, .inr (.inl (vp_updL zw 0 (Int32.toInt64 1)))))]) [0] rfl
    have hD9 : va_D A ([(zo, .inl (cT 1, 1, .inr (.inl (vp_updL zw 0 (Int32.toInt64 1)))))] ++ pg cds ad gg7u1) := hD.part (cx := [(zo, .inl (cT 1, 1, .inr (.inl (vp_updL zw 0 (Int32.toInt64 1)))))]) [0] (by decide) rfl
    refine W.widen (k := 0) (n := 0) (Nat.le_of_ble_eq_true rfl) (Nat.le_of_ble_eq_true rfl) ?_
    exact W.iret (v := 0) hx hb hr (fun t9 ht9 hW9 => ⟨⟨0, (gg7u1, 1), rfl, (show 0 = 0 ∧ 1 = ik c0 ∧ (∀ z8, (z8 < 10 ∨ 40 ≤ z8) → gg7u1 z8 = gg z8) ∧ COLF cT ad gg7u1 n vv vq eg (upd ik c0 isv) (va_up ne c0 0) from ⟨rfl, by rw [← b9]; exact hpu1⟩), by rw [ht9]; exact hP9, hD9⟩, hS.F ht9⟩) hS.2.2 dL_kinds_29
set_option maxHeartbeats 4000000 in
set_option maxRecDepth 100000 in
theorem l_kinds_no2 (l : Launch) (D : va_G) (cT : Nat → ClassId) (cds : List Nat) (ad : Nat → Nat) (gg : Nat → Option va_E) (tc : Int32) (wd9 : Int32) (rw9 : Int32) (n : Nat) (vv : Nat → Int32) (vq : Nat → Int32) (eg : Nat → Int32) (ik : Nat → Int32) (ne : Nat → Nat) (c0 : Nat) (isv : Int32) (zo : Nat) (zw : Nat → Int64) (hlt : l.stackTraces = false) (hcd : CD cds) (hob : gg 0 = some (eOB ad tc)) (htb : gg 1 = some (eTB ad wd9 rw9)) (hrn : rw9 = nI n) (hn48 : n ≤ 48) (hCa : CAp cT ad gg) (hCf : COLF cT ad gg n vv vq eg ik ne) (hc0 : 0 ≤ nI c0 ∧ nI c0 ≤ wd9 - 1) (hc6 : c0 < 6) (hisv : isv = 0 ∨ isv = 1) (hi0 : ¬ isv = 0) (hk9 : ¬ kaB (fun r => vv (6 * r + c0)) n = true) (sz : Nat) : Met l yL_kinds WL_kinds ({ frames := 8, cells := 1, slots := 6, locals := 133 } : Room) (RW D vwCl [.ref (ad 0), .int (nI c0), .int isv, .ref zo] ([(zo, .inl (cT 1, 1, .inr (.inl zw)))] ++ pg cds ad gg) (TY cT) sz) (va_Qi (fun (r9 : Int32) (u9 : Unit) => r9 = 2) (BW D vwCl (va_A ([(zo, .inl (cT 1, 1, .inr (.inl zw)))] ++ pg cds ad gg) sz) (fun u9 : Unit => ([(zo, .inl (cT 1, 1, .inr (.inl zw)))] ++ pg cds ad gg))) (va_A ([(zo, .inl (cT 1, 1, .inr (.inl zw)))] ++ pg cds ad gg) sz)) 1 6 (va_A ([(zo, .inl (cT 1, 1, .inr (.inl zw)))] ++ pg cds ad gg) sz) := by
  refine va_MetW (hh := [(0, 17, 20, 13), (0, 17, 24, 19)]) (cc := cL_kinds) (maxL := 5) (ret := (some .int)) (by decide) rfl ?_
  intro p e s m args below meth c s₁ B hml hv
  obtain ⟨rfl, hsz, hZ, hP, hK, hD0⟩ := hv
  have hx := B.exec
  have hb := B.bytes
  have hr := B.returns
  have hts := atoms_spec (ws := WL_kinds) B.pre
  have hT : ∀ w ∈ TB, w.before _ s = true := fun w h => hts w (List.mem_cons_of_mem _ h)
  have hown : s.vm.findClass R_L = some m.cls := findClass_of_methodNamed B.named
  have htab := tx_table B (bytes := cL_kinds) (maxL := 5) (ret := (some .int)) (hh := [(0, 17, 20, 13), (0, 17, 24, 19)]) (hts _ List.mem_cons_self)
  subst hsz
  have hD := hD0.self (sz := s.heap.size)
  generalize hAe : va_A ([(zo, .inl (cT 1, 1, .inr (.inl zw)))] ++ pg cds ad gg) s.heap.size = A at hD hZ ⊢
  have hA : ∀ q : Nat, s.heap.size ≤ q → A q := fun q h => by rw [← hAe]; exact Or.inr h
  have hS : va_S A s.heap s.heap [] := va_S.rf
  have hl := lv_entry ([.ref (ad 0), .int (nI c0), .int isv, .ref zo]) (n := 5) (Nat.le_of_ble_eq_true rfl)
  rw [lg_entry_eq]
  generalize (lg_sl ([.ref (ad 0), .int (nI c0), .int isv, .ref zo]) ++ List.replicate (5 - (lg_sl ([.ref (ad 0), .int (nI c0), .int isv, .ref zo])).length) Slot.unset).toArray = ls at hl ⊢
  have hl : lv_has ls 5 [(0, .ref (ad 0)), (1, .int (nI c0)), (2, .int isv), (3, .ref zo)] := hl
  refine lv_aload_n hx hb dL_kinds_0 rfl (lv_at hl 3 rfl) ?_
  refine lv_iconst (v := 0) hx hb dL_kinds_1 (by decide) ?_
  refine lv_aload_n hx hb dL_kinds_2 rfl (lv_at hl 0 rfl) ?_
  refine lv_iload_n hx hb dL_kinds_3 rfl (lv_at hl 1 rfl) ?_
  refine lv_iload_n hx hb dL_kinds_4 rfl (lv_at hl 2 rfl) ?_
  refine tx_catch2 (name0 := "java/lang/IllegalArgumentException") (name := "java/lang/IllegalStateException") (tx_goV (As := [.int (nI c0), .int isv]) (rest := [.int 0, .ref zo]) ⟨hx, hb, hml, hown, hT⟩ (k_kinds_no2 l D cT cds ad gg tc wd9 rw9 n vv vq eg ik ne c0 isv hlt hcd hob htb hrn hn48 hCa hCf hc0 hc6 hisv hi0 hk9) ⟨callB_of 2 hT (tb_gd w650) rfl rfl rfl (hT _ w1) (hT _ w647) hR_kinds ⟨Nat.le_of_ble_eq_true rfl, Nat.le_of_ble_eq_true rfl⟩, (hT _ w648), (hT _ w649)⟩ (RO.preW (ci := 0) (q0 := 0) hZ hS ((show va_P D vwCl ([] ++ pg cds ad gg) _ from (pv_p hP))) hK (pg_1 (x := 0) hcd hP (by decide) hob) rfl rfl) rfl hl.1 rfl (Nat.le_of_ble_eq_true rfl) dL_kinds_5 ⟨Nat.le_of_ble_eq_true rfl, Nat.le_of_ble_eq_true rfl⟩) hown htab rfl (by decide) (hT _ w503) hZ.1.2.2.2.2 rfl (by decide) (hT _ w576) (tc_c rfl (hZ.1.1 ("java/lang/IllegalStateException", "java/lang/IllegalStateException") (List.mem_of_getElem? (i := 1) rfl))) (fun q9 H hsz9 hag9 => ?_)
  have hP := tc_P hP hag9
  have hS := tc_S hS hsz9 hag9
  refine W.eq (g2 := F0 m 24 ls [.ref q9]) rfl ?_
  refine lv_astore hx hb dL_kinds_24 hl (by decide) rfl (fun ls hl => ?_)
  have hl : lv_has ls 5 [(4, .ref q9), (0, .ref (ad 0)), (1, .int (nI c0)), (2, .int isv), (3, .ref zo)] := hl
  refine lv_iconst (v := 2) hx hb dL_kinds_26 (by decide) ?_
  have hP9 : va_P D vwCl ([(zo, .inl (cT 1, 1, .inr (.inl zw)))] ++ pg cds ad gg) _ := hP.part (cx := [(zo, .inl (cT 1, 1, .inr (.inl zw)))]) [0] rfl
  have hD9 : va_D A ([(zo, .inl (cT 1, 1, .inr (.inl zw)))] ++ pg cds ad gg) := hD.part (cx := [(zo, .inl (cT 1, 1, .inr (.inl zw)))]) [0] (by decide) rfl
  refine W.widen (k := 1) (n := 6) (Nat.le_of_ble_eq_true rfl) (Nat.le_of_ble_eq_true rfl) ?_
  exact W.iret (v := 2) hx hb hr (fun t9 ht9 hW9 => ⟨⟨2, (), rfl, (show 2 = 2 from rfl), by rw [ht9]; exact hP9, hD9⟩, hS.F ht9⟩) hS.2.2 dL_kinds_27
set_option maxHeartbeats 4000000 in
set_option maxRecDepth 100000 in
theorem l_kinds_no1 (l : Launch) (D : va_G) (cT : Nat → ClassId) (cds : List Nat) (ad : Nat → Nat) (gg : Nat → Option va_E) (tc : Int32) (wd9 : Int32) (rw9 : Int32) (a1 : Int32) (a2 : Int32) (zo : Nat) (zw : Nat → Int64) (hlt : l.stackTraces = false) (hcd : CD cds) (hob : gg 0 = some (eOB ad tc)) (htb : gg 1 = some (eTB ad wd9 rw9)) (hq : ¬ (0 ≤ a1 ∧ a1 ≤ wd9 - 1)) (sz : Nat) : Met l yL_kinds WL_kinds ({ frames := 8, cells := 1, slots := 6, locals := 133 } : Room) (RW D vwCl [.ref (ad 0), .int a1, .int a2, .ref zo] ([(zo, .inl (cT 1, 1, .inr (.inl zw)))] ++ pg cds ad gg) (TY cT) sz) (va_Qi (fun (r9 : Int32) (u9 : Unit) => r9 = 1) (BW D vwCl (va_A ([(zo, .inl (cT 1, 1, .inr (.inl zw)))] ++ pg cds ad gg) sz) (fun u9 : Unit => ([(zo, .inl (cT 1, 1, .inr (.inl zw)))] ++ pg cds ad gg))) (va_A ([(zo, .inl (cT 1, 1, .inr (.inl zw)))] ++ pg cds ad gg) sz)) 1 6 (va_A ([(zo, .inl (cT 1, 1, .inr (.inl zw)))] ++ pg cds ad gg) sz) := by
  refine va_MetW (hh := [(0, 17, 20, 13), (0, 17, 24, 19)]) (cc := cL_kinds) (maxL := 5) (ret := (some .int)) (by decide) rfl ?_
  intro p e s m args below meth c s₁ B hml hv
  obtain ⟨rfl, hsz, hZ, hP, hK, hD0⟩ := hv
  have hx := B.exec
  have hb := B.bytes
  have hr := B.returns
  have hts := atoms_spec (ws := WL_kinds) B.pre
  have hT : ∀ w ∈ TB, w.before _ s = true := fun w h => hts w (List.mem_cons_of_mem _ h)
  have hown : s.vm.findClass R_L = some m.cls := findClass_of_methodNamed B.named
  have htab := tx_table B (bytes := cL_kinds) (maxL := 5) (ret := (some .int)) (hh := [(0, 17, 20, 13), (0, 17, 24, 19)]) (hts _ List.mem_cons_self)
  subst hsz
  have hD := hD0.self (sz := s.heap.size)
  generalize hAe : va_A ([(zo, .inl (cT 1, 1, .inr (.inl zw)))] ++ pg cds ad gg) s.heap.size = A at hD hZ ⊢
  have hA : ∀ q : Nat, s.heap.size ≤ q → A q := fun q h => by rw [← hAe]; exact Or.inr h
  have hS : va_S A s.heap s.heap [] := va_S.rf
  have hl := lv_entry ([.ref (ad 0), .int a1, .int a2, .ref zo]) (n := 5) (Nat.le_of_ble_eq_true rfl)
  rw [lg_entry_eq]
  generalize (lg_sl ([.ref (ad 0), .int a1, .int a2, .ref zo]) ++ List.replicate (5 - (lg_sl ([.ref (ad 0), .int a1, .int a2, .ref zo])).length) Slot.unset).toArray = ls at hl ⊢
  have hl : lv_has ls 5 [(0, .ref (ad 0)), (1, .int a1), (2, .int a2), (3, .ref zo)] := hl
  refine lv_aload_n hx hb dL_kinds_0 rfl (lv_at hl 3 rfl) ?_
  refine lv_iconst (v := 0) hx hb dL_kinds_1 (by decide) ?_
  refine lv_aload_n hx hb dL_kinds_2 rfl (lv_at hl 0 rfl) ?_
  refine lv_iload_n hx hb dL_kinds_3 rfl (lv_at hl 1 rfl) ?_
  refine lv_iload_n hx hb dL_kinds_4 rfl (lv_at hl 2 rfl) ?_
  refine tx_catch1 (name := "java/lang/IllegalArgumentException") (tx_goV (As := [.int a1, .int a2]) (rest := [.int 0, .ref zo]) ⟨hx, hb, hml, hown, hT⟩ (k_kinds_no1 l D cT cds ad gg tc wd9 rw9 a1 a2 hlt hcd hob htb hq) ⟨callB_of 2 hT (tb_gd w650) rfl rfl rfl (hT _ w1) (hT _ w647) hR_kinds ⟨Nat.le_of_ble_eq_true rfl, Nat.le_of_ble_eq_true rfl⟩, (hT _ w648), (hT _ w649)⟩ (RO.preW (ci := 0) (q0 := 0) hZ hS ((show va_P D vwCl ([] ++ pg cds ad gg) _ from (pv_p hP))) hK (pg_1 (x := 0) hcd hP (by decide) hob) rfl rfl) rfl hl.1 rfl (Nat.le_of_ble_eq_true rfl) dL_kinds_5 ⟨Nat.le_of_ble_eq_true rfl, Nat.le_of_ble_eq_true rfl⟩) hown htab rfl (by decide) (hT _ w503) (tc_c rfl (hZ.1.1 ("java/lang/IllegalArgumentException", "java/lang/IllegalArgumentException") (List.mem_of_getElem? (i := 0) rfl))) (fun q9 H hsz9 hag9 => ?_)
  have hP := tc_P hP hag9
  have hS := tc_S hS hsz9 hag9
  refine W.eq (g2 := F0 m 20 ls [.ref q9]) rfl ?_
  refine lv_astore hx hb dL_kinds_20 hl (by decide) rfl (fun ls hl => ?_)
  have hl : lv_has ls 5 [(4, .ref q9), (0, .ref (ad 0)), (1, .int a1), (2, .int a2), (3, .ref zo)] := hl
  refine lv_iconst (v := 1) hx hb dL_kinds_22 (by decide) ?_
  have hP9 : va_P D vwCl ([(zo, .inl (cT 1, 1, .inr (.inl zw)))] ++ pg cds ad gg) _ := hP.part (cx := [(zo, .inl (cT 1, 1, .inr (.inl zw)))]) [0] rfl
  have hD9 : va_D A ([(zo, .inl (cT 1, 1, .inr (.inl zw)))] ++ pg cds ad gg) := hD.part (cx := [(zo, .inl (cT 1, 1, .inr (.inl zw)))]) [0] (by decide) rfl
  refine W.widen (k := 1) (n := 6) (Nat.le_of_ble_eq_true rfl) (Nat.le_of_ble_eq_true rfl) ?_
  exact W.iret (v := 1) hx hb hr (fun t9 ht9 hW9 => ⟨⟨1, (), rfl, (show 1 = 1 from rfl), by rw [ht9]; exact hP9, hD9⟩, hS.F ht9⟩) hS.2.2 dL_kinds_23
set_option maxHeartbeats 4000000 in
set_option maxRecDepth 100000 in
theorem l_cut (l : Launch) (D : va_G) (cT : Nat → ClassId) (cds : List Nat) (ad : Nat → Nat) (gg : Nat → Option va_E) (tc : Int32) (wd9 : Int32) (rw9 : Int32) (n : Nat) (vv : Nat → Int32) (vq : Nat → Int32) (eg : Nat → Int32) (ik : Nat → Int32) (ne : Nat → Nat) (c0 : Nat) (bc : Int32) (nn : Nat) (sa : Nat → Int32) (zo : Nat) (zw : Nat → Int64) (hcd : CD cds) (hob : gg 0 = some (eOB ad tc)) (htb : gg 1 = some (eTB ad wd9 rw9)) (hrn : rw9 = nI n) (hn48 : n ≤ 48) (hCa : CAp cT ad gg) (hCf : COLF cT ad gg n vv vq eg ik ne) (hne : ∀ c, c < 6 → ne c ≤ 11) (hc0 : 0 ≤ nI c0 ∧ nI c0 ≤ wd9 - 1) (hc6 : c0 < 6) (hnn : 2 ≤ nI nn ∧ nI nn ≤ 12) (hnn2 : 2 ≤ nn ∧ nn ≤ 12) (hik0 : ik c0 = 0) (hso : gg 48 = some (eA (cT 0) 48 sa)) (hVb : ∀ r, r < n → ¬ vv (6 * r + c0) = -2147483648 → -1000000 ≤ (vv (6 * r + c0)).toInt ∧ (vv (6 * r + c0)).toInt ≤ 1000000) (sz : Nat) : Met l yL_cut WL_cut ({ frames := 3, cells := 0, slots := 0, locals := 67 } : Room) (RW D vwCl [.ref (ad 0), .int (nI c0), .int bc, .int (nI nn), .ref zo] ([(zo, .inl (cT 1, 1, .inr (.inl zw)))] ++ pg cds ad gg) (TY cT) sz) (va_Qi (fun (r9 : Int32) (u9 : (Nat → Option va_E) × Int32) => r9 = 0 ∧ u9.2 = nI (cutF bc vv c0 n nn eg).1 ∧ (∀ z8, (z8 < 10 ∨ 40 ≤ z8) → z8 ≠ 48 → u9.1 z8 = gg z8) ∧ (∃ sa7 : Nat → Int32, u9.1 48 = some (eA (cT 0) 48 sa7)) ∧ COLF cT ad u9.1 n vv vq (cutF bc vv c0 n nn eg).2 ik (va_up ne c0 (cutF bc vv c0 n nn eg).1) ∧ RIS (cutF bc vv c0 n nn eg).2 (11 * c0) (cutF bc vv c0 n nn eg).1 ∧ (cutF bc vv c0 n nn eg).1 ≤ 11) (BW D vwCl (va_A ([(zo, .inl (cT 1, 1, .inr (.inl zw)))] ++ pg cds ad gg) sz) (fun u9 : (Nat → Option va_E) × Int32 => ([(zo, .inl (cT 1, 1, .inr (.inl (vp_updL zw 0 (Int32.toInt64 u9.2)))))] ++ pg cds ad u9.1))) (va_A ([(zo, .inl (cT 1, 1, .inr (.inl zw)))] ++ pg cds ad gg) sz)) 0 0 (va_A ([(zo, .inl (cT 1, 1, .inr (.inl zw)))] ++ pg cds ad gg) sz) := by
  refine va_MetW (hh := [(0, 12, 15, 13), (0, 12, 19, 19)]) (cc := cL_cut) (maxL := 6) (ret := (some .int)) (by decide) rfl ?_
  intro p e s m args below meth c s₁ B hml hv
  obtain ⟨rfl, hsz, hZ, hP, hK, hD0⟩ := hv
  have hx := B.exec
  have hb := B.bytes
  have hr := B.returns
  have hts := atoms_spec (ws := WL_cut) B.pre
  have hT : ∀ w ∈ TB, w.before _ s = true := fun w h => hts w (List.mem_cons_of_mem _ h)
  have hown : s.vm.findClass R_L = some m.cls := findClass_of_methodNamed B.named
  have htab := tx_table B (bytes := cL_cut) (maxL := 6) (ret := (some .int)) (hh := [(0, 12, 15, 13), (0, 12, 19, 19)]) (hts _ List.mem_cons_self)
  subst hsz
  have hD := hD0.self (sz := s.heap.size)
  generalize hAe : va_A ([(zo, .inl (cT 1, 1, .inr (.inl zw)))] ++ pg cds ad gg) s.heap.size = A at hD hZ ⊢
  have hA : ∀ q : Nat, s.heap.size ≤ q → A q := fun q h => by rw [← hAe]; exact Or.inr h
  have hS : va_S A s.heap s.heap [] := va_S.rf
  have hl := lv_entry ([.ref (ad 0), .int (nI c0), .int bc, .int (nI nn), .ref zo]) (n := 6) (Nat.le_of_ble_eq_true rfl)
  rw [lg_entry_eq]
  generalize (lg_sl ([.ref (ad 0), .int (nI c0), .int bc, .int (nI nn), .ref zo]) ++ List.replicate (6 - (lg_sl ([.ref (ad 0), .int (nI c0), .int bc, .int (nI nn), .ref zo])).length) Slot.unset).toArray = ls at hl ⊢
  have hl : lv_has ls 6 [(0, .ref (ad 0)), (1, .int (nI c0)), (2, .int bc), (3, .int (nI nn)), (4, .ref zo)] := hl
  refine lv_aload hx hb dL_cut_0 (lv_at hl 4 rfl) ?_
  refine lv_iconst (v := 0) hx hb dL_cut_2 (by decide) ?_
  refine lv_aload_n hx hb dL_cut_3 rfl (lv_at hl 0 rfl) ?_
  refine lv_iload_n hx hb dL_cut_4 rfl (lv_at hl 1 rfl) ?_
  refine lv_iload_n hx hb dL_cut_5 rfl (lv_at hl 2 rfl) ?_
  refine lv_iload_n hx hb dL_cut_6 rfl (lv_at hl 3 rfl) ?_
  refine hy_iP (X := [(zo, .inl (cT 1, 1, .inr (.inl zw)))]) (pl := pg cds ad gg) (cx := []) (wr := [(zo, .inl (cT 1, 1, .inr (.inl zw)))]) hP hD hS hA [] [0] rfl rfl (by decide) (by decide) (va_runV (As := [.int (nI c0), .int bc, .int (nI nn)]) (rest := [.int 0, .ref zo]) ⟨hx, hb, hml, hown, hT⟩ (k_cut l D cT cds ad gg tc wd9 rw9 n vv vq eg ik ne c0 bc nn sa hcd hob htb hrn hn48 hCa hCf hne hc0 hc6 hnn hnn2 hik0 hso hVb _) ⟨callB_of 3 hT (tb_gd w662) rfl rfl rfl (hT _ w1) (hT _ w659) hR_cut ⟨Nat.le_of_ble_eq_true rfl, Nat.le_of_ble_eq_true rfl⟩, (hT _ w660), (hT _ w661)⟩ (RW.preW (ci := 0) (q0 := 0) hZ hS (va_freeP (cx := []) hD hS hA [] rfl) (hP.part (cx := []) [] rfl) hK (hD.part (cx := []) [] (by decide) rfl) (pg_1 (x := 0) hcd hP (by decide) hob) rfl rfl) rfl rfl hl.1 rfl (lv_room (Nat.le_of_ble_eq_true rfl)) dL_cut_7 ⟨Nat.le_of_ble_eq_true rfl, Nat.le_of_ble_eq_true rfl⟩) (fun ru1 u9 H locs hpu1 hP hD hS => ?_)
  obtain ⟨gg7u1, rfl⟩ : ∃ q9, q9 = u9 := ⟨_, rfl⟩
  have hpu1 : ru1 = nI (cutF bc vv c0 n nn eg).1 ∧ (∀ z8, (z8 < 10 ∨ 40 ≤ z8) → z8 ≠ 48 → gg7u1 z8 = gg z8) ∧ (∃ sa7 : Nat → Int32, gg7u1 48 = some (eA (cT 0) 48 sa7)) ∧ COLF cT ad gg7u1 n vv vq (cutF bc vv c0 n nn eg).2 ik (va_up ne c0 (cutF bc vv c0 n nn eg).1) ∧ RIS (cutF bc vv c0 n nn eg).2 (11 * c0) (cutF bc vv c0 n nn eg).1 ∧ (cutF bc vv c0 n nn eg).1 ≤ 11 := hpu1
  have hP : va_P D vwCl ([(zo, .inl (cT 1, 1, .inr (.inl zw)))] ++ pg cds ad gg7u1) _ := hP
  have hD : va_D A ([(zo, .inl (cT 1, 1, .inr (.inl zw)))] ++ pg cds ad gg7u1) := hD
  refine lv_i2l hx hb dL_cut_10 rfl ?_
  refine va_last hx hb hK hP hD hS 0 1 rfl rfl (by unfold vp_in; decide) dL_cut_11 (fun H locs hP hD hS => ?_)
  have hP : va_P D vwCl ([(zo, .inl (cT 1, 1, .inr (.inl (vp_updL zw 0 ((ru1 : Int32).toInt64)))))] ++ pg cds ad gg7u1) _ := hP
  have hD : va_D A ([(zo, .inl (cT 1, 1, .inr (.inl (vp_updL zw 0 ((ru1 : Int32).toInt64)))))] ++ pg cds ad gg7u1) := hD
  refine lv_goto (tgt := 23) hx hb dL_cut_12 rfl ?_
  refine lv_iconst (v := 0) hx hb dL_cut_23 (by decide) ?_
  have hP9 : va_P D vwCl ([(zo, .inl (cT 1, 1, .inr (.inl (vp_updL zw 0 (Int32.toInt64 ru1)))))] ++ pg cds ad gg7u1) _ := hP.part (cx := [(zo, .inl (cT 1, 1, .inr (.inl (vp_updL zw 0 (Int32.toInt64 ru1)))))]) [0] rfl
  have hD9 : va_D A ([(zo, .inl (cT 1, 1, .inr (.inl (vp_updL zw 0 (Int32.toInt64 ru1)))))] ++ pg cds ad gg7u1) := hD.part (cx := [(zo, .inl (cT 1, 1, .inr (.inl (vp_updL zw 0 (Int32.toInt64 ru1)))))]) [0] (by decide) rfl
  refine W.widen (k := 0) (n := 0) (Nat.le_of_ble_eq_true rfl) (Nat.le_of_ble_eq_true rfl) ?_
  exact W.iret (v := 0) hx hb hr (fun t9 ht9 hW9 => ⟨⟨0, (gg7u1, ru1), rfl, (show 0 = 0 ∧ ru1 = nI (cutF bc vv c0 n nn eg).1 ∧ (∀ z8, (z8 < 10 ∨ 40 ≤ z8) → z8 ≠ 48 → gg7u1 z8 = gg z8) ∧ (∃ sa7 : Nat → Int32, gg7u1 48 = some (eA (cT 0) 48 sa7)) ∧ COLF cT ad gg7u1 n vv vq (cutF bc vv c0 n nn eg).2 ik (va_up ne c0 (cutF bc vv c0 n nn eg).1) ∧ RIS (cutF bc vv c0 n nn eg).2 (11 * c0) (cutF bc vv c0 n nn eg).1 ∧ (cutF bc vv c0 n nn eg).1 ≤ 11 from ⟨rfl, hpu1⟩), by rw [ht9]; exact hP9, hD9⟩, hS.F ht9⟩) hS.2.2 dL_cut_24
set_option maxHeartbeats 4000000 in
set_option maxRecDepth 100000 in
theorem l_cut_no1 (l : Launch) (D : va_G) (cT : Nat → ClassId) (cds : List Nat) (ad : Nat → Nat) (gg : Nat → Option va_E) (tc : Int32) (wd9 : Int32) (rw9 : Int32) (a1 : Int32) (a2 : Int32) (a3 : Int32) (zo : Nat) (zw : Nat → Int64) (hlt : l.stackTraces = false) (hcd : CD cds) (hob : gg 0 = some (eOB ad tc)) (htb : gg 1 = some (eTB ad wd9 rw9)) (hq : ¬ ((0 ≤ a1 ∧ a1 ≤ wd9 - 1) ∧ (2 ≤ a3 ∧ a3 ≤ 12))) (sz : Nat) : Met l yL_cut WL_cut ({ frames := 8, cells := 1, slots := 6, locals := 135 } : Room) (RW D vwCl [.ref (ad 0), .int a1, .int a2, .int a3, .ref zo] ([(zo, .inl (cT 1, 1, .inr (.inl zw)))] ++ pg cds ad gg) (TY cT) sz) (va_Qi (fun (r9 : Int32) (u9 : Unit) => r9 = 1) (BW D vwCl (va_A ([(zo, .inl (cT 1, 1, .inr (.inl zw)))] ++ pg cds ad gg) sz) (fun u9 : Unit => ([(zo, .inl (cT 1, 1, .inr (.inl zw)))] ++ pg cds ad gg))) (va_A ([(zo, .inl (cT 1, 1, .inr (.inl zw)))] ++ pg cds ad gg) sz)) 1 6 (va_A ([(zo, .inl (cT 1, 1, .inr (.inl zw)))] ++ pg cds ad gg) sz) := by
  refine va_MetW (hh := [(0, 12, 15, 13), (0, 12, 19, 19)]) (cc := cL_cut) (maxL := 6) (ret := (some .int)) (by decide) rfl ?_
  intro p e s m args below meth c s₁ B hml hv
  obtain ⟨rfl, hsz, hZ, hP, hK, hD0⟩ := hv
  have hx := B.exec
  have hb := B.bytes
  have hr := B.returns
  have hts := atoms_spec (ws := WL_cut) B.pre
  have hT : ∀ w ∈ TB, w.before _ s = true := fun w h => hts w (List.mem_cons_of_mem _ h)
  have hown : s.vm.findClass R_L = some m.cls := findClass_of_methodNamed B.named
  have htab := tx_table B (bytes := cL_cut) (maxL := 6) (ret := (some .int)) (hh := [(0, 12, 15, 13), (0, 12, 19, 19)]) (hts _ List.mem_cons_self)
  subst hsz
  have hD := hD0.self (sz := s.heap.size)
  generalize hAe : va_A ([(zo, .inl (cT 1, 1, .inr (.inl zw)))] ++ pg cds ad gg) s.heap.size = A at hD hZ ⊢
  have hA : ∀ q : Nat, s.heap.size ≤ q → A q := fun q h => by rw [← hAe]; exact Or.inr h
  have hS : va_S A s.heap s.heap [] := va_S.rf
  have hl := lv_entry ([.ref (ad 0), .int a1, .int a2, .int a3, .ref zo]) (n := 6) (Nat.le_of_ble_eq_true rfl)
  rw [lg_entry_eq]
  generalize (lg_sl ([.ref (ad 0), .int a1, .int a2, .int a3, .ref zo]) ++ List.replicate (6 - (lg_sl ([.ref (ad 0), .int a1, .int a2, .int a3, .ref zo])).length) Slot.unset).toArray = ls at hl ⊢
  have hl : lv_has ls 6 [(0, .ref (ad 0)), (1, .int a1), (2, .int a2), (3, .int a3), (4, .ref zo)] := hl
  refine lv_aload hx hb dL_cut_0 (lv_at hl 4 rfl) ?_
  refine lv_iconst (v := 0) hx hb dL_cut_2 (by decide) ?_
  refine lv_aload_n hx hb dL_cut_3 rfl (lv_at hl 0 rfl) ?_
  refine lv_iload_n hx hb dL_cut_4 rfl (lv_at hl 1 rfl) ?_
  refine lv_iload_n hx hb dL_cut_5 rfl (lv_at hl 2 rfl) ?_
  refine lv_iload_n hx hb dL_cut_6 rfl (lv_at hl 3 rfl) ?_
  refine tx_catch1 (name := "java/lang/IllegalArgumentException") (tx_goV (As := [.int a1, .int a2, .int a3]) (rest := [.int 0, .ref zo]) ⟨hx, hb, hml, hown, hT⟩ (k_cut_no1 l D cT cds ad gg tc wd9 rw9 a1 a2 a3 hlt hcd hob htb hq) ⟨callB_of 3 hT (tb_gd w662) rfl rfl rfl (hT _ w1) (hT _ w659) hR_cut ⟨Nat.le_of_ble_eq_true rfl, Nat.le_of_ble_eq_true rfl⟩, (hT _ w660), (hT _ w661)⟩ (RO.preW (ci := 0) (q0 := 0) hZ hS ((show va_P D vwCl ([] ++ pg cds ad gg) _ from (pv_p hP))) hK (pg_1 (x := 0) hcd hP (by decide) hob) rfl rfl) rfl hl.1 rfl (Nat.le_of_ble_eq_true rfl) dL_cut_7 ⟨Nat.le_of_ble_eq_true rfl, Nat.le_of_ble_eq_true rfl⟩) hown htab rfl (by decide) (hT _ w503) (tc_c rfl (hZ.1.1 ("java/lang/IllegalArgumentException", "java/lang/IllegalArgumentException") (List.mem_of_getElem? (i := 0) rfl))) (fun q9 H hsz9 hag9 => ?_)
  have hP := tc_P hP hag9
  have hS := tc_S hS hsz9 hag9
  refine W.eq (g2 := F0 m 15 ls [.ref q9]) rfl ?_
  refine lv_astore hx hb dL_cut_15 hl (by decide) rfl (fun ls hl => ?_)
  have hl : lv_has ls 6 [(5, .ref q9), (0, .ref (ad 0)), (1, .int a1), (2, .int a2), (3, .int a3), (4, .ref zo)] := hl
  refine lv_iconst (v := 1) hx hb dL_cut_17 (by decide) ?_
  have hP9 : va_P D vwCl ([(zo, .inl (cT 1, 1, .inr (.inl zw)))] ++ pg cds ad gg) _ := hP.part (cx := [(zo, .inl (cT 1, 1, .inr (.inl zw)))]) [0] rfl
  have hD9 : va_D A ([(zo, .inl (cT 1, 1, .inr (.inl zw)))] ++ pg cds ad gg) := hD.part (cx := [(zo, .inl (cT 1, 1, .inr (.inl zw)))]) [0] (by decide) rfl
  refine W.widen (k := 1) (n := 6) (Nat.le_of_ble_eq_true rfl) (Nat.le_of_ble_eq_true rfl) ?_
  exact W.iret (v := 1) hx hb hr (fun t9 ht9 hW9 => ⟨⟨1, (), rfl, (show 1 = 1 from rfl), by rw [ht9]; exact hP9, hD9⟩, hS.F ht9⟩) hS.2.2 dL_cut_18
set_option maxHeartbeats 4000000 in
set_option maxRecDepth 100000 in
theorem l_cut_no2 (l : Launch) (D : va_G) (cT : Nat → ClassId) (cds : List Nat) (ad : Nat → Nat) (gg : Nat → Option va_E) (tc : Int32) (wd9 : Int32) (rw9 : Int32) (n : Nat) (vv : Nat → Int32) (vq : Nat → Int32) (eg : Nat → Int32) (ik : Nat → Int32) (ne : Nat → Nat) (c0 : Nat) (a2 : Int32) (a3 : Int32) (zo : Nat) (zw : Nat → Int64) (hlt : l.stackTraces = false) (hcd : CD cds) (hob : gg 0 = some (eOB ad tc)) (htb : gg 1 = some (eTB ad wd9 rw9)) (hCa : CAp cT ad gg) (hCf : COLF cT ad gg n vv vq eg ik ne) (hc0 : 0 ≤ nI c0 ∧ nI c0 ≤ wd9 - 1) (hc6 : c0 < 6) (hnn : 2 ≤ a3 ∧ a3 ≤ 12) (hik0 : ¬ ik c0 = 0) (sz : Nat) : Met l yL_cut WL_cut ({ frames := 8, cells := 1, slots := 6, locals := 135 } : Room) (RW D vwCl [.ref (ad 0), .int (nI c0), .int a2, .int a3, .ref zo] ([(zo, .inl (cT 1, 1, .inr (.inl zw)))] ++ pg cds ad gg) (TY cT) sz) (va_Qi (fun (r9 : Int32) (u9 : Unit) => r9 = 2) (BW D vwCl (va_A ([(zo, .inl (cT 1, 1, .inr (.inl zw)))] ++ pg cds ad gg) sz) (fun u9 : Unit => ([(zo, .inl (cT 1, 1, .inr (.inl zw)))] ++ pg cds ad gg))) (va_A ([(zo, .inl (cT 1, 1, .inr (.inl zw)))] ++ pg cds ad gg) sz)) 1 6 (va_A ([(zo, .inl (cT 1, 1, .inr (.inl zw)))] ++ pg cds ad gg) sz) := by
  refine va_MetW (hh := [(0, 12, 15, 13), (0, 12, 19, 19)]) (cc := cL_cut) (maxL := 6) (ret := (some .int)) (by decide) rfl ?_
  intro p e s m args below meth c s₁ B hml hv
  obtain ⟨rfl, hsz, hZ, hP, hK, hD0⟩ := hv
  have hx := B.exec
  have hb := B.bytes
  have hr := B.returns
  have hts := atoms_spec (ws := WL_cut) B.pre
  have hT : ∀ w ∈ TB, w.before _ s = true := fun w h => hts w (List.mem_cons_of_mem _ h)
  have hown : s.vm.findClass R_L = some m.cls := findClass_of_methodNamed B.named
  have htab := tx_table B (bytes := cL_cut) (maxL := 6) (ret := (some .int)) (hh := [(0, 12, 15, 13), (0, 12, 19, 19)]) (hts _ List.mem_cons_self)
  subst hsz
  have hD := hD0.self (sz := s.heap.size)
  generalize hAe : va_A ([(zo, .inl (cT 1, 1, .inr (.inl zw)))] ++ pg cds ad gg) s.heap.size = A at hD hZ ⊢
  have hA : ∀ q : Nat, s.heap.size ≤ q → A q := fun q h => by rw [← hAe]; exact Or.inr h
  have hS : va_S A s.heap s.heap [] := va_S.rf
  have hl := lv_entry ([.ref (ad 0), .int (nI c0), .int a2, .int a3, .ref zo]) (n := 6) (Nat.le_of_ble_eq_true rfl)
  rw [lg_entry_eq]
  generalize (lg_sl ([.ref (ad 0), .int (nI c0), .int a2, .int a3, .ref zo]) ++ List.replicate (6 - (lg_sl ([.ref (ad 0), .int (nI c0), .int a2, .int a3, .ref zo])).length) Slot.unset).toArray = ls at hl ⊢
  have hl : lv_has ls 6 [(0, .ref (ad 0)), (1, .int (nI c0)), (2, .int a2), (3, .int a3), (4, .ref zo)] := hl
  refine lv_aload hx hb dL_cut_0 (lv_at hl 4 rfl) ?_
  refine lv_iconst (v := 0) hx hb dL_cut_2 (by decide) ?_
  refine lv_aload_n hx hb dL_cut_3 rfl (lv_at hl 0 rfl) ?_
  refine lv_iload_n hx hb dL_cut_4 rfl (lv_at hl 1 rfl) ?_
  refine lv_iload_n hx hb dL_cut_5 rfl (lv_at hl 2 rfl) ?_
  refine lv_iload_n hx hb dL_cut_6 rfl (lv_at hl 3 rfl) ?_
  refine tx_catch2 (name0 := "java/lang/IllegalArgumentException") (name := "java/lang/IllegalStateException") (tx_goV (As := [.int (nI c0), .int a2, .int a3]) (rest := [.int 0, .ref zo]) ⟨hx, hb, hml, hown, hT⟩ (k_cut_no2 l D cT cds ad gg tc wd9 rw9 n vv vq eg ik ne c0 a2 a3 hlt hcd hob htb hCa hCf hc0 hc6 hnn hik0) ⟨callB_of 3 hT (tb_gd w662) rfl rfl rfl (hT _ w1) (hT _ w659) hR_cut ⟨Nat.le_of_ble_eq_true rfl, Nat.le_of_ble_eq_true rfl⟩, (hT _ w660), (hT _ w661)⟩ (RO.preW (ci := 0) (q0 := 0) hZ hS ((show va_P D vwCl ([] ++ pg cds ad gg) _ from (pv_p hP))) hK (pg_1 (x := 0) hcd hP (by decide) hob) rfl rfl) rfl hl.1 rfl (Nat.le_of_ble_eq_true rfl) dL_cut_7 ⟨Nat.le_of_ble_eq_true rfl, Nat.le_of_ble_eq_true rfl⟩) hown htab rfl (by decide) (hT _ w503) hZ.1.2.2.2.2 rfl (by decide) (hT _ w576) (tc_c rfl (hZ.1.1 ("java/lang/IllegalStateException", "java/lang/IllegalStateException") (List.mem_of_getElem? (i := 1) rfl))) (fun q9 H hsz9 hag9 => ?_)
  have hP := tc_P hP hag9
  have hS := tc_S hS hsz9 hag9
  refine W.eq (g2 := F0 m 19 ls [.ref q9]) rfl ?_
  refine lv_astore hx hb dL_cut_19 hl (by decide) rfl (fun ls hl => ?_)
  have hl : lv_has ls 6 [(5, .ref q9), (0, .ref (ad 0)), (1, .int (nI c0)), (2, .int a2), (3, .int a3), (4, .ref zo)] := hl
  refine lv_iconst (v := 2) hx hb dL_cut_21 (by decide) ?_
  have hP9 : va_P D vwCl ([(zo, .inl (cT 1, 1, .inr (.inl zw)))] ++ pg cds ad gg) _ := hP.part (cx := [(zo, .inl (cT 1, 1, .inr (.inl zw)))]) [0] rfl
  have hD9 : va_D A ([(zo, .inl (cT 1, 1, .inr (.inl zw)))] ++ pg cds ad gg) := hD.part (cx := [(zo, .inl (cT 1, 1, .inr (.inl zw)))]) [0] (by decide) rfl
  refine W.widen (k := 1) (n := 6) (Nat.le_of_ble_eq_true rfl) (Nat.le_of_ble_eq_true rfl) ?_
  exact W.iret (v := 2) hx hb hr (fun t9 ht9 hW9 => ⟨⟨2, (), rfl, (show 2 = 2 from rfl), by rw [ht9]; exact hP9, hD9⟩, hS.F ht9⟩) hS.2.2 dL_cut_22
set_option maxHeartbeats 4000000 in
set_option maxRecDepth 100000 in
theorem l_edge (l : Launch) (D : va_G) (cT : Nat → ClassId) (cds : List Nat) (ad : Nat → Nat) (gg : Nat → Option va_E) (tc : Int32) (wd9 : Int32) (rw9 : Int32) (n : Nat) (vv : Nat → Int32) (vq : Nat → Int32) (eg : Nat → Int32) (ik : Nat → Int32) (ne : Nat → Nat) (c0 : Nat) (i : Nat) (zo : Nat) (zw : Nat → Int64) (hcd : CD cds) (hob : gg 0 = some (eOB ad tc)) (htb : gg 1 = some (eTB ad wd9 rw9)) (hCa : CAp cT ad gg) (hCf : COLF cT ad gg n vv vq eg ik ne) (hne : ∀ c, c < 6 → ne c ≤ 11) (hc0 : 0 ≤ nI c0 ∧ nI c0 ≤ wd9 - 1) (hc6 : c0 < 6) (hi0 : 0 ≤ nI i ∧ nI i ≤ nI (ne c0) - 1) (hi9 : i < ne c0) (sz : Nat) : Met l yL_edge WL_edge ({ frames := 3, cells := 0, slots := 0, locals := 65 } : Room) (RW D vwCl [.ref (ad 0), .int (nI c0), .int (nI i), .ref zo] ([(zo, .inl (cT 1, 1, .inr (.inl zw)))] ++ pg cds ad gg) (TY cT) sz) (va_Qi (fun (r9 : Int32) (u9 : Unit) => r9 = 0) (BW D vwCl (va_A ([(zo, .inl (cT 1, 1, .inr (.inl zw)))] ++ pg cds ad gg) sz) (fun u9 : Unit => ([(zo, .inl (cT 1, 1, .inr (.inl (vp_updL zw 0 (Int32.toInt64 (eg (11 * c0 + i)))))))] ++ pg cds ad gg))) (va_A ([(zo, .inl (cT 1, 1, .inr (.inl zw)))] ++ pg cds ad gg) sz)) 0 0 (va_A ([(zo, .inl (cT 1, 1, .inr (.inl zw)))] ++ pg cds ad gg) sz) := by
  refine va_MetW (hh := [(0, 10, 13, 13)]) (cc := cL_edge) (maxL := 5) (ret := (some .int)) (by decide) rfl ?_
  intro p e s m args below meth c s₁ B hml hv
  obtain ⟨rfl, hsz, hZ, hP, hK, hD0⟩ := hv
  have hx := B.exec
  have hb := B.bytes
  have hr := B.returns
  have hts := atoms_spec (ws := WL_edge) B.pre
  have hT : ∀ w ∈ TB, w.before _ s = true := fun w h => hts w (List.mem_cons_of_mem _ h)
  have hown : s.vm.findClass R_L = some m.cls := findClass_of_methodNamed B.named
  have htab := tx_table B (bytes := cL_edge) (maxL := 5) (ret := (some .int)) (hh := [(0, 10, 13, 13)]) (hts _ List.mem_cons_self)
  subst hsz
  have hD := hD0.self (sz := s.heap.size)
  generalize hAe : va_A ([(zo, .inl (cT 1, 1, .inr (.inl zw)))] ++ pg cds ad gg) s.heap.size = A at hD hZ ⊢
  have hA : ∀ q : Nat, s.heap.size ≤ q → A q := fun q h => by rw [← hAe]; exact Or.inr h
  have hS : va_S A s.heap s.heap [] := va_S.rf
  have hl := lv_entry ([.ref (ad 0), .int (nI c0), .int (nI i), .ref zo]) (n := 5) (Nat.le_of_ble_eq_true rfl)
  rw [lg_entry_eq]
  generalize (lg_sl ([.ref (ad 0), .int (nI c0), .int (nI i), .ref zo]) ++ List.replicate (5 - (lg_sl ([.ref (ad 0), .int (nI c0), .int (nI i), .ref zo])).length) Slot.unset).toArray = ls at hl ⊢
  have hl : lv_has ls 5 [(0, .ref (ad 0)), (1, .int (nI c0)), (2, .int (nI i)), (3, .ref zo)] := hl
  refine lv_aload_n hx hb dL_edge_0 rfl (lv_at hl 3 rfl) ?_
  refine lv_iconst (v := 0) hx hb dL_edge_1 (by decide) ?_
  refine lv_aload_n hx hb dL_edge_2 rfl (lv_at hl 0 rfl) ?_
  refine lv_iload_n hx hb dL_edge_3 rfl (lv_at hl 1 rfl) ?_
  refine lv_iload_n hx hb dL_edge_4 rfl (lv_at hl 2 rfl) ?_
  refine ro_i (va_Run.run (va_runV (As := [.int (nI c0), .int (nI i)]) (rest := [.int 0, .ref zo]) ⟨hx, hb, hml, hown, hT⟩ (k_edge l D cT cds ad gg tc wd9 rw9 n vv vq eg ik ne c0 i hcd hob htb hCa hCf hne hc0 hc6 hi0 hi9) ⟨callB_of 2 hT (tb_gd w677) rfl rfl rfl (hT _ w1) (hT _ w674) hR_edge ⟨Nat.le_of_ble_eq_true rfl, Nat.le_of_ble_eq_true rfl⟩, (hT _ w675), (hT _ w676)⟩ (RO.preW (ci := 0) (q0 := 0) hZ hS ((show va_P D vwCl ([] ++ pg cds ad gg) _ from (pv_p hP))) hK (pg_1 (x := 0) hcd hP (by decide) hob) rfl rfl) rfl rfl hl.1 rfl (lv_room (Nat.le_of_ble_eq_true rfl)) dL_edge_5 ⟨Nat.le_of_ble_eq_true rfl, Nat.le_of_ble_eq_true rfl⟩)) ?_
  refine lv_i2l hx hb dL_edge_8 rfl ?_
  refine va_last hx hb hK hP hD hS 0 1 rfl rfl (by unfold vp_in; decide) dL_edge_9 (fun H locs hP hD hS => ?_)
  have hP : va_P D vwCl ([(zo, .inl (cT 1, 1, .inr (.inl (vp_updL zw 0 ((eg (11 * c0 + i) : Int32).toInt64)))))] ++ pg cds ad gg) _ := hP
  have hD : va_D A ([(zo, .inl (cT 1, 1, .inr (.inl (vp_updL zw 0 ((eg (11 * c0 + i) : Int32).toInt64)))))] ++ pg cds ad gg) := hD
  refine lv_goto (tgt := 17) hx hb dL_edge_10 rfl ?_
  refine lv_iconst (v := 0) hx hb dL_edge_17 (by decide) ?_
  have hP9 : va_P D vwCl ([(zo, .inl (cT 1, 1, .inr (.inl (vp_updL zw 0 (Int32.toInt64 (eg (11 * c0 + i)))))))] ++ pg cds ad gg) _ := hP.part (cx := [(zo, .inl (cT 1, 1, .inr (.inl (vp_updL zw 0 (Int32.toInt64 (eg (11 * c0 + i)))))))]) [0] rfl
  have hD9 : va_D A ([(zo, .inl (cT 1, 1, .inr (.inl (vp_updL zw 0 (Int32.toInt64 (eg (11 * c0 + i)))))))] ++ pg cds ad gg) := hD.part (cx := [(zo, .inl (cT 1, 1, .inr (.inl (vp_updL zw 0 (Int32.toInt64 (eg (11 * c0 + i)))))))]) [0] (by decide) rfl
  refine W.widen (k := 0) (n := 0) (Nat.le_of_ble_eq_true rfl) (Nat.le_of_ble_eq_true rfl) ?_
  exact W.iret (v := 0) hx hb hr (fun t9 ht9 hW9 => ⟨⟨0, (), rfl, (show 0 = 0 from rfl), by rw [ht9]; exact hP9, hD9⟩, hS.F ht9⟩) hS.2.2 dL_edge_18
set_option maxHeartbeats 4000000 in
set_option maxRecDepth 100000 in
theorem l_edge_no (l : Launch) (D : va_G) (cT : Nat → ClassId) (cds : List Nat) (ad : Nat → Nat) (gg : Nat → Option va_E) (tc : Int32) (wd9 : Int32) (rw9 : Int32) (a1 : Int32) (a2 : Int32) (zo : Nat) (zw : Nat → Int64) (hlt : l.stackTraces = false) (hcd : CD cds) (hob : gg 0 = some (eOB ad tc)) (htb : gg 1 = some (eTB ad wd9 rw9)) (hq : ¬ (0 ≤ a1 ∧ a1 ≤ wd9 - 1)) (sz : Nat) : Met l yL_edge WL_edge ({ frames := 8, cells := 1, slots := 6, locals := 133 } : Room) (RW D vwCl [.ref (ad 0), .int a1, .int a2, .ref zo] ([(zo, .inl (cT 1, 1, .inr (.inl zw)))] ++ pg cds ad gg) (TY cT) sz) (va_Qi (fun (r9 : Int32) (u9 : Unit) => r9 = 1) (BW D vwCl (va_A ([(zo, .inl (cT 1, 1, .inr (.inl zw)))] ++ pg cds ad gg) sz) (fun u9 : Unit => ([(zo, .inl (cT 1, 1, .inr (.inl zw)))] ++ pg cds ad gg))) (va_A ([(zo, .inl (cT 1, 1, .inr (.inl zw)))] ++ pg cds ad gg) sz)) 1 6 (va_A ([(zo, .inl (cT 1, 1, .inr (.inl zw)))] ++ pg cds ad gg) sz) := by
  refine va_MetW (hh := [(0, 10, 13, 13)]) (cc := cL_edge) (maxL := 5) (ret := (some .int)) (by decide) rfl ?_
  intro p e s m args below meth c s₁ B hml hv
  obtain ⟨rfl, hsz, hZ, hP, hK, hD0⟩ := hv
  have hx := B.exec
  have hb := B.bytes
  have hr := B.returns
  have hts := atoms_spec (ws := WL_edge) B.pre
  have hT : ∀ w ∈ TB, w.before _ s = true := fun w h => hts w (List.mem_cons_of_mem _ h)
  have hown : s.vm.findClass R_L = some m.cls := findClass_of_methodNamed B.named
  have htab := tx_table B (bytes := cL_edge) (maxL := 5) (ret := (some .int)) (hh := [(0, 10, 13, 13)]) (hts _ List.mem_cons_self)
  subst hsz
  have hD := hD0.self (sz := s.heap.size)
  generalize hAe : va_A ([(zo, .inl (cT 1, 1, .inr (.inl zw)))] ++ pg cds ad gg) s.heap.size = A at hD hZ ⊢
  have hA : ∀ q : Nat, s.heap.size ≤ q → A q := fun q h => by rw [← hAe]; exact Or.inr h
  have hS : va_S A s.heap s.heap [] := va_S.rf
  have hl := lv_entry ([.ref (ad 0), .int a1, .int a2, .ref zo]) (n := 5) (Nat.le_of_ble_eq_true rfl)
  rw [lg_entry_eq]
  generalize (lg_sl ([.ref (ad 0), .int a1, .int a2, .ref zo]) ++ List.replicate (5 - (lg_sl ([.ref (ad 0), .int a1, .int a2, .ref zo])).length) Slot.unset).toArray = ls at hl ⊢
  have hl : lv_has ls 5 [(0, .ref (ad 0)), (1, .int a1), (2, .int a2), (3, .ref zo)] := hl
  refine lv_aload_n hx hb dL_edge_0 rfl (lv_at hl 3 rfl) ?_
  refine lv_iconst (v := 0) hx hb dL_edge_1 (by decide) ?_
  refine lv_aload_n hx hb dL_edge_2 rfl (lv_at hl 0 rfl) ?_
  refine lv_iload_n hx hb dL_edge_3 rfl (lv_at hl 1 rfl) ?_
  refine lv_iload_n hx hb dL_edge_4 rfl (lv_at hl 2 rfl) ?_
  refine tx_catch1 (name := "java/lang/IllegalArgumentException") (tx_goV (As := [.int a1, .int a2]) (rest := [.int 0, .ref zo]) ⟨hx, hb, hml, hown, hT⟩ (k_edge_no l D cT cds ad gg tc wd9 rw9 a1 a2 hlt hcd hob htb hq) ⟨callB_of 2 hT (tb_gd w677) rfl rfl rfl (hT _ w1) (hT _ w674) hR_edge ⟨Nat.le_of_ble_eq_true rfl, Nat.le_of_ble_eq_true rfl⟩, (hT _ w675), (hT _ w676)⟩ (RO.preW (ci := 0) (q0 := 0) hZ hS ((show va_P D vwCl ([] ++ pg cds ad gg) _ from (pv_p hP))) hK (pg_1 (x := 0) hcd hP (by decide) hob) rfl rfl) rfl hl.1 rfl (Nat.le_of_ble_eq_true rfl) dL_edge_5 ⟨Nat.le_of_ble_eq_true rfl, Nat.le_of_ble_eq_true rfl⟩) hown htab rfl (by decide) (hT _ w503) (tc_c rfl (hZ.1.1 ("java/lang/IllegalArgumentException", "java/lang/IllegalArgumentException") (List.mem_of_getElem? (i := 0) rfl))) (fun q9 H hsz9 hag9 => ?_)
  have hP := tc_P hP hag9
  have hS := tc_S hS hsz9 hag9
  refine W.eq (g2 := F0 m 13 ls [.ref q9]) rfl ?_
  refine lv_astore hx hb dL_edge_13 hl (by decide) rfl (fun ls hl => ?_)
  have hl : lv_has ls 5 [(4, .ref q9), (0, .ref (ad 0)), (1, .int a1), (2, .int a2), (3, .ref zo)] := hl
  refine lv_iconst (v := 1) hx hb dL_edge_15 (by decide) ?_
  have hP9 : va_P D vwCl ([(zo, .inl (cT 1, 1, .inr (.inl zw)))] ++ pg cds ad gg) _ := hP.part (cx := [(zo, .inl (cT 1, 1, .inr (.inl zw)))]) [0] rfl
  have hD9 : va_D A ([(zo, .inl (cT 1, 1, .inr (.inl zw)))] ++ pg cds ad gg) := hD.part (cx := [(zo, .inl (cT 1, 1, .inr (.inl zw)))]) [0] (by decide) rfl
  refine W.widen (k := 1) (n := 6) (Nat.le_of_ble_eq_true rfl) (Nat.le_of_ble_eq_true rfl) ?_
  exact W.iret (v := 1) hx hb hr (fun t9 ht9 hW9 => ⟨⟨1, (), rfl, (show 1 = 1 from rfl), by rw [ht9]; exact hP9, hD9⟩, hS.F ht9⟩) hS.2.2 dL_edge_16
set_option maxHeartbeats 4000000 in
set_option maxRecDepth 100000 in
theorem l_edge_noi (l : Launch) (D : va_G) (cT : Nat → ClassId) (cds : List Nat) (ad : Nat → Nat) (gg : Nat → Option va_E) (tc : Int32) (wd9 : Int32) (rw9 : Int32) (n : Nat) (vv : Nat → Int32) (vq : Nat → Int32) (eg : Nat → Int32) (ik : Nat → Int32) (ne : Nat → Nat) (c0 : Nat) (a2 : Int32) (zo : Nat) (zw : Nat → Int64) (hlt : l.stackTraces = false) (hcd : CD cds) (hob : gg 0 = some (eOB ad tc)) (htb : gg 1 = some (eTB ad wd9 rw9)) (hCa : CAp cT ad gg) (hCf : COLF cT ad gg n vv vq eg ik ne) (hc0 : 0 ≤ nI c0 ∧ nI c0 ≤ wd9 - 1) (hc6 : c0 < 6) (hq : ¬ (0 ≤ a2 ∧ a2 ≤ nI (ne c0) - 1)) (sz : Nat) : Met l yL_edge WL_edge ({ frames := 8, cells := 1, slots := 6, locals := 133 } : Room) (RW D vwCl [.ref (ad 0), .int (nI c0), .int a2, .ref zo] ([(zo, .inl (cT 1, 1, .inr (.inl zw)))] ++ pg cds ad gg) (TY cT) sz) (va_Qi (fun (r9 : Int32) (u9 : Unit) => r9 = 1) (BW D vwCl (va_A ([(zo, .inl (cT 1, 1, .inr (.inl zw)))] ++ pg cds ad gg) sz) (fun u9 : Unit => ([(zo, .inl (cT 1, 1, .inr (.inl zw)))] ++ pg cds ad gg))) (va_A ([(zo, .inl (cT 1, 1, .inr (.inl zw)))] ++ pg cds ad gg) sz)) 1 6 (va_A ([(zo, .inl (cT 1, 1, .inr (.inl zw)))] ++ pg cds ad gg) sz) := by
  refine va_MetW (hh := [(0, 10, 13, 13)]) (cc := cL_edge) (maxL := 5) (ret := (some .int)) (by decide) rfl ?_
  intro p e s m args below meth c s₁ B hml hv
  obtain ⟨rfl, hsz, hZ, hP, hK, hD0⟩ := hv
  have hx := B.exec
  have hb := B.bytes
  have hr := B.returns
  have hts := atoms_spec (ws := WL_edge) B.pre
  have hT : ∀ w ∈ TB, w.before _ s = true := fun w h => hts w (List.mem_cons_of_mem _ h)
  have hown : s.vm.findClass R_L = some m.cls := findClass_of_methodNamed B.named
  have htab := tx_table B (bytes := cL_edge) (maxL := 5) (ret := (some .int)) (hh := [(0, 10, 13, 13)]) (hts _ List.mem_cons_self)
  subst hsz
  have hD := hD0.self (sz := s.heap.size)
  generalize hAe : va_A ([(zo, .inl (cT 1, 1, .inr (.inl zw)))] ++ pg cds ad gg) s.heap.size = A at hD hZ ⊢
  have hA : ∀ q : Nat, s.heap.size ≤ q → A q := fun q h => by rw [← hAe]; exact Or.inr h
  have hS : va_S A s.heap s.heap [] := va_S.rf
  have hl := lv_entry ([.ref (ad 0), .int (nI c0), .int a2, .ref zo]) (n := 5) (Nat.le_of_ble_eq_true rfl)
  rw [lg_entry_eq]
  generalize (lg_sl ([.ref (ad 0), .int (nI c0), .int a2, .ref zo]) ++ List.replicate (5 - (lg_sl ([.ref (ad 0), .int (nI c0), .int a2, .ref zo])).length) Slot.unset).toArray = ls at hl ⊢
  have hl : lv_has ls 5 [(0, .ref (ad 0)), (1, .int (nI c0)), (2, .int a2), (3, .ref zo)] := hl
  refine lv_aload_n hx hb dL_edge_0 rfl (lv_at hl 3 rfl) ?_
  refine lv_iconst (v := 0) hx hb dL_edge_1 (by decide) ?_
  refine lv_aload_n hx hb dL_edge_2 rfl (lv_at hl 0 rfl) ?_
  refine lv_iload_n hx hb dL_edge_3 rfl (lv_at hl 1 rfl) ?_
  refine lv_iload_n hx hb dL_edge_4 rfl (lv_at hl 2 rfl) ?_
  refine tx_catch1 (name := "java/lang/IllegalArgumentException") (tx_goV (As := [.int (nI c0), .int a2]) (rest := [.int 0, .ref zo]) ⟨hx, hb, hml, hown, hT⟩ (k_edge_noi l D cT cds ad gg tc wd9 rw9 n vv vq eg ik ne c0 a2 hlt hcd hob htb hCa hCf hc0 hc6 hq) ⟨callB_of 2 hT (tb_gd w677) rfl rfl rfl (hT _ w1) (hT _ w674) hR_edge ⟨Nat.le_of_ble_eq_true rfl, Nat.le_of_ble_eq_true rfl⟩, (hT _ w675), (hT _ w676)⟩ (RO.preW (ci := 0) (q0 := 0) hZ hS ((show va_P D vwCl ([] ++ pg cds ad gg) _ from (pv_p hP))) hK (pg_1 (x := 0) hcd hP (by decide) hob) rfl rfl) rfl hl.1 rfl (Nat.le_of_ble_eq_true rfl) dL_edge_5 ⟨Nat.le_of_ble_eq_true rfl, Nat.le_of_ble_eq_true rfl⟩) hown htab rfl (by decide) (hT _ w503) (tc_c rfl (hZ.1.1 ("java/lang/IllegalArgumentException", "java/lang/IllegalArgumentException") (List.mem_of_getElem? (i := 0) rfl))) (fun q9 H hsz9 hag9 => ?_)
  have hP := tc_P hP hag9
  have hS := tc_S hS hsz9 hag9
  refine W.eq (g2 := F0 m 13 ls [.ref q9]) rfl ?_
  refine lv_astore hx hb dL_edge_13 hl (by decide) rfl (fun ls hl => ?_)
  have hl : lv_has ls 5 [(4, .ref q9), (0, .ref (ad 0)), (1, .int (nI c0)), (2, .int a2), (3, .ref zo)] := hl
  refine lv_iconst (v := 1) hx hb dL_edge_15 (by decide) ?_
  have hP9 : va_P D vwCl ([(zo, .inl (cT 1, 1, .inr (.inl zw)))] ++ pg cds ad gg) _ := hP.part (cx := [(zo, .inl (cT 1, 1, .inr (.inl zw)))]) [0] rfl
  have hD9 : va_D A ([(zo, .inl (cT 1, 1, .inr (.inl zw)))] ++ pg cds ad gg) := hD.part (cx := [(zo, .inl (cT 1, 1, .inr (.inl zw)))]) [0] (by decide) rfl
  refine W.widen (k := 1) (n := 6) (Nat.le_of_ble_eq_true rfl) (Nat.le_of_ble_eq_true rfl) ?_
  exact W.iret (v := 1) hx hb hr (fun t9 ht9 hW9 => ⟨⟨1, (), rfl, (show 1 = 1 from rfl), by rw [ht9]; exact hP9, hD9⟩, hS.F ht9⟩) hS.2.2 dL_edge_16
set_option maxHeartbeats 4000000 in
set_option maxRecDepth 100000 in
theorem l_bin_k (l : Launch) (D : va_G) (cT : Nat → ClassId) (cds : List Nat) (ad : Nat → Nat) (gg : Nat → Option va_E) (tc : Int32) (wd9 : Int32) (rw9 : Int32) (n : Nat) (vv : Nat → Int32) (vq : Nat → Int32) (eg : Nat → Int32) (ik : Nat → Int32) (ne : Nat → Nat) (c0 : Nat) (v : Int32) (zo : Nat) (zw : Nat → Int64) (hcd : CD cds) (hob : gg 0 = some (eOB ad tc)) (htb : gg 1 = some (eTB ad wd9 rw9)) (hCa : CAp cT ad gg) (hCf : COLF cT ad gg n vv vq eg ik ne) (hc0 : 0 ≤ nI c0 ∧ nI c0 ≤ wd9 - 1) (hc6 : c0 < 6) (hvm : ¬ v = (-2147483648)) (hv9 : takB (ik c0) v = true) (hk : ¬ ik c0 = 0) (sz : Nat) : Met l yL_bin WL_bin ({ frames := 4, cells := 0, slots := 0, locals := 85 } : Room) (RW D vwCl [.ref (ad 0), .int (nI c0), .int v, .ref zo] ([(zo, .inl (cT 1, 1, .inr (.inl zw)))] ++ pg cds ad gg) (TY cT) sz) (va_Qi (fun (r9 : Int32) (u9 : Unit) => r9 = 0) (BW D vwCl (va_A ([(zo, .inl (cT 1, 1, .inr (.inl zw)))] ++ pg cds ad gg) sz) (fun u9 : Unit => ([(zo, .inl (cT 1, 1, .inr (.inl (vp_updL zw 0 (Int32.toInt64 v)))))] ++ pg cds ad gg))) (va_A ([(zo, .inl (cT 1, 1, .inr (.inl zw)))] ++ pg cds ad gg) sz)) 0 0 (va_A ([(zo, .inl (cT 1, 1, .inr (.inl zw)))] ++ pg cds ad gg) sz) := by
  refine va_MetW (hh := [(0, 10, 13, 13)]) (cc := cL_bin) (maxL := 5) (ret := (some .int)) (by decide) rfl ?_
  intro p e s m args below meth c s₁ B hml hv
  obtain ⟨rfl, hsz, hZ, hP, hK, hD0⟩ := hv
  have hx := B.exec
  have hb := B.bytes
  have hr := B.returns
  have hts := atoms_spec (ws := WL_bin) B.pre
  have hT : ∀ w ∈ TB, w.before _ s = true := fun w h => hts w (List.mem_cons_of_mem _ h)
  have hown : s.vm.findClass R_L = some m.cls := findClass_of_methodNamed B.named
  have htab := tx_table B (bytes := cL_bin) (maxL := 5) (ret := (some .int)) (hh := [(0, 10, 13, 13)]) (hts _ List.mem_cons_self)
  subst hsz
  have hD := hD0.self (sz := s.heap.size)
  generalize hAe : va_A ([(zo, .inl (cT 1, 1, .inr (.inl zw)))] ++ pg cds ad gg) s.heap.size = A at hD hZ ⊢
  have hA : ∀ q : Nat, s.heap.size ≤ q → A q := fun q h => by rw [← hAe]; exact Or.inr h
  have hS : va_S A s.heap s.heap [] := va_S.rf
  have hl := lv_entry ([.ref (ad 0), .int (nI c0), .int v, .ref zo]) (n := 5) (Nat.le_of_ble_eq_true rfl)
  rw [lg_entry_eq]
  generalize (lg_sl ([.ref (ad 0), .int (nI c0), .int v, .ref zo]) ++ List.replicate (5 - (lg_sl ([.ref (ad 0), .int (nI c0), .int v, .ref zo])).length) Slot.unset).toArray = ls at hl ⊢
  have hl : lv_has ls 5 [(0, .ref (ad 0)), (1, .int (nI c0)), (2, .int v), (3, .ref zo)] := hl
  refine lv_aload_n hx hb dL_bin_0 rfl (lv_at hl 3 rfl) ?_
  refine lv_iconst (v := 0) hx hb dL_bin_1 (by decide) ?_
  refine lv_aload_n hx hb dL_bin_2 rfl (lv_at hl 0 rfl) ?_
  refine lv_iload_n hx hb dL_bin_3 rfl (lv_at hl 1 rfl) ?_
  refine lv_iload_n hx hb dL_bin_4 rfl (lv_at hl 2 rfl) ?_
  refine ro_i (va_Run.run (va_runV (As := [.int (nI c0), .int v]) (rest := [.int 0, .ref zo]) ⟨hx, hb, hml, hown, hT⟩ (k_bin_k l D cT cds ad gg tc wd9 rw9 n vv vq eg ik ne c0 v hcd hob htb hCa hCf hc0 hc6 hvm hv9 hk) ⟨callB_of 2 hT (tb_gd w684) rfl rfl rfl (hT _ w1) (hT _ w681) hR_bin ⟨Nat.le_of_ble_eq_true rfl, Nat.le_of_ble_eq_true rfl⟩, (hT _ w682), (hT _ w683)⟩ (RO.preW (ci := 0) (q0 := 0) hZ hS ((show va_P D vwCl ([] ++ pg cds ad gg) _ from (pv_p hP))) hK (pg_1 (x := 0) hcd hP (by decide) hob) rfl rfl) rfl rfl hl.1 rfl (lv_room (Nat.le_of_ble_eq_true rfl)) dL_bin_5 ⟨Nat.le_of_ble_eq_true rfl, Nat.le_of_ble_eq_true rfl⟩)) ?_
  refine lv_i2l hx hb dL_bin_8 rfl ?_
  refine va_last hx hb hK hP hD hS 0 1 rfl rfl (by unfold vp_in; decide) dL_bin_9 (fun H locs hP hD hS => ?_)
  have hP : va_P D vwCl ([(zo, .inl (cT 1, 1, .inr (.inl (vp_updL zw 0 ((v : Int32).toInt64)))))] ++ pg cds ad gg) _ := hP
  have hD : va_D A ([(zo, .inl (cT 1, 1, .inr (.inl (vp_updL zw 0 ((v : Int32).toInt64)))))] ++ pg cds ad gg) := hD
  refine lv_goto (tgt := 17) hx hb dL_bin_10 rfl ?_
  refine lv_iconst (v := 0) hx hb dL_bin_17 (by decide) ?_
  have hP9 : va_P D vwCl ([(zo, .inl (cT 1, 1, .inr (.inl (vp_updL zw 0 (Int32.toInt64 v)))))] ++ pg cds ad gg) _ := hP.part (cx := [(zo, .inl (cT 1, 1, .inr (.inl (vp_updL zw 0 (Int32.toInt64 v)))))]) [0] rfl
  have hD9 : va_D A ([(zo, .inl (cT 1, 1, .inr (.inl (vp_updL zw 0 (Int32.toInt64 v)))))] ++ pg cds ad gg) := hD.part (cx := [(zo, .inl (cT 1, 1, .inr (.inl (vp_updL zw 0 (Int32.toInt64 v)))))]) [0] (by decide) rfl
  refine W.widen (k := 0) (n := 0) (Nat.le_of_ble_eq_true rfl) (Nat.le_of_ble_eq_true rfl) ?_
  exact W.iret (v := 0) hx hb hr (fun t9 ht9 hW9 => ⟨⟨0, (), rfl, (show 0 = 0 from rfl), by rw [ht9]; exact hP9, hD9⟩, hS.F ht9⟩) hS.2.2 dL_bin_18
set_option maxHeartbeats 4000000 in
set_option maxRecDepth 100000 in
theorem l_bin_n (l : Launch) (D : va_G) (cT : Nat → ClassId) (cds : List Nat) (ad : Nat → Nat) (gg : Nat → Option va_E) (tc : Int32) (wd9 : Int32) (rw9 : Int32) (n : Nat) (vv : Nat → Int32) (vq : Nat → Int32) (eg : Nat → Int32) (ik : Nat → Int32) (ne : Nat → Nat) (c0 : Nat) (v : Int32) (zo : Nat) (zw : Nat → Int64) (hcd : CD cds) (hob : gg 0 = some (eOB ad tc)) (htb : gg 1 = some (eTB ad wd9 rw9)) (hCa : CAp cT ad gg) (hCf : COLF cT ad gg n vv vq eg ik ne) (hc0 : 0 ≤ nI c0 ∧ nI c0 ≤ wd9 - 1) (hc6 : c0 < 6) (hvm : ¬ v = (-2147483648)) (hne : ∀ c, c < 6 → ne c ≤ 11) (hv9 : takB (ik c0) v = true) (hk : ik c0 = 0) (hS9 : RIS eg (11 * c0) (ne c0)) (sz : Nat) : Met l yL_bin WL_bin ({ frames := 4, cells := 0, slots := 0, locals := 85 } : Room) (RW D vwCl [.ref (ad 0), .int (nI c0), .int v, .ref zo] ([(zo, .inl (cT 1, 1, .inr (.inl zw)))] ++ pg cds ad gg) (TY cT) sz) (va_Qi (fun (r9 : Int32) (u9 : Unit) => r9 = 0) (BW D vwCl (va_A ([(zo, .inl (cT 1, 1, .inr (.inl zw)))] ++ pg cds ad gg) sz) (fun u9 : Unit => ([(zo, .inl (cT 1, 1, .inr (.inl (vp_updL zw 0 (Int32.toInt64 (nI (cnE eg (11 * c0) v (ne c0))))))))] ++ pg cds ad gg))) (va_A ([(zo, .inl (cT 1, 1, .inr (.inl zw)))] ++ pg cds ad gg) sz)) 0 0 (va_A ([(zo, .inl (cT 1, 1, .inr (.inl zw)))] ++ pg cds ad gg) sz) := by
  refine va_MetW (hh := [(0, 10, 13, 13)]) (cc := cL_bin) (maxL := 5) (ret := (some .int)) (by decide) rfl ?_
  intro p e s m args below meth c s₁ B hml hv
  obtain ⟨rfl, hsz, hZ, hP, hK, hD0⟩ := hv
  have hx := B.exec
  have hb := B.bytes
  have hr := B.returns
  have hts := atoms_spec (ws := WL_bin) B.pre
  have hT : ∀ w ∈ TB, w.before _ s = true := fun w h => hts w (List.mem_cons_of_mem _ h)
  have hown : s.vm.findClass R_L = some m.cls := findClass_of_methodNamed B.named
  have htab := tx_table B (bytes := cL_bin) (maxL := 5) (ret := (some .int)) (hh := [(0, 10, 13, 13)]) (hts _ List.mem_cons_self)
  subst hsz
  have hD := hD0.self (sz := s.heap.size)
  generalize hAe : va_A ([(zo, .inl (cT 1, 1, .inr (.inl zw)))] ++ pg cds ad gg) s.heap.size = A at hD hZ ⊢
  have hA : ∀ q : Nat, s.heap.size ≤ q → A q := fun q h => by rw [← hAe]; exact Or.inr h
  have hS : va_S A s.heap s.heap [] := va_S.rf
  have hl := lv_entry ([.ref (ad 0), .int (nI c0), .int v, .ref zo]) (n := 5) (Nat.le_of_ble_eq_true rfl)
  rw [lg_entry_eq]
  generalize (lg_sl ([.ref (ad 0), .int (nI c0), .int v, .ref zo]) ++ List.replicate (5 - (lg_sl ([.ref (ad 0), .int (nI c0), .int v, .ref zo])).length) Slot.unset).toArray = ls at hl ⊢
  have hl : lv_has ls 5 [(0, .ref (ad 0)), (1, .int (nI c0)), (2, .int v), (3, .ref zo)] := hl
  refine lv_aload_n hx hb dL_bin_0 rfl (lv_at hl 3 rfl) ?_
  refine lv_iconst (v := 0) hx hb dL_bin_1 (by decide) ?_
  refine lv_aload_n hx hb dL_bin_2 rfl (lv_at hl 0 rfl) ?_
  refine lv_iload_n hx hb dL_bin_3 rfl (lv_at hl 1 rfl) ?_
  refine lv_iload_n hx hb dL_bin_4 rfl (lv_at hl 2 rfl) ?_
  refine ro_i (va_Run.run (va_runV (As := [.int (nI c0), .int v]) (rest := [.int 0, .ref zo]) ⟨hx, hb, hml, hown, hT⟩ (k_bin_n l D cT cds ad gg tc wd9 rw9 n vv vq eg ik ne c0 v hcd hob htb hCa hCf hc0 hc6 hvm hne hv9 hk hS9) ⟨callB_of 2 hT (tb_gd w684) rfl rfl rfl (hT _ w1) (hT _ w681) hR_bin ⟨Nat.le_of_ble_eq_true rfl, Nat.le_of_ble_eq_true rfl⟩, (hT _ w682), (hT _ w683)⟩ (RO.preW (ci := 0) (q0 := 0) hZ hS ((show va_P D vwCl ([] ++ pg cds ad gg) _ from (pv_p hP))) hK (pg_1 (x := 0) hcd hP (by decide) hob) rfl rfl) rfl rfl hl.1 rfl (lv_room (Nat.le_of_ble_eq_true rfl)) dL_bin_5 ⟨Nat.le_of_ble_eq_true rfl, Nat.le_of_ble_eq_true rfl⟩)) ?_
  refine lv_i2l hx hb dL_bin_8 rfl ?_
  refine va_last hx hb hK hP hD hS 0 1 rfl rfl (by unfold vp_in; decide) dL_bin_9 (fun H locs hP hD hS => ?_)
  have hP : va_P D vwCl ([(zo, .inl (cT 1, 1, .inr (.inl (vp_updL zw 0 ((nI (cnE eg (11 * c0) v (ne c0)) : Int32).toInt64)))))] ++ pg cds ad gg) _ := hP
  have hD : va_D A ([(zo, .inl (cT 1, 1, .inr (.inl (vp_updL zw 0 ((nI (cnE eg (11 * c0) v (ne c0)) : Int32).toInt64)))))] ++ pg cds ad gg) := hD
  refine lv_goto (tgt := 17) hx hb dL_bin_10 rfl ?_
  refine lv_iconst (v := 0) hx hb dL_bin_17 (by decide) ?_
  have hP9 : va_P D vwCl ([(zo, .inl (cT 1, 1, .inr (.inl (vp_updL zw 0 (Int32.toInt64 (nI (cnE eg (11 * c0) v (ne c0))))))))] ++ pg cds ad gg) _ := hP.part (cx := [(zo, .inl (cT 1, 1, .inr (.inl (vp_updL zw 0 (Int32.toInt64 (nI (cnE eg (11 * c0) v (ne c0))))))))]) [0] rfl
  have hD9 : va_D A ([(zo, .inl (cT 1, 1, .inr (.inl (vp_updL zw 0 (Int32.toInt64 (nI (cnE eg (11 * c0) v (ne c0))))))))] ++ pg cds ad gg) := hD.part (cx := [(zo, .inl (cT 1, 1, .inr (.inl (vp_updL zw 0 (Int32.toInt64 (nI (cnE eg (11 * c0) v (ne c0))))))))]) [0] (by decide) rfl
  refine W.widen (k := 0) (n := 0) (Nat.le_of_ble_eq_true rfl) (Nat.le_of_ble_eq_true rfl) ?_
  exact W.iret (v := 0) hx hb hr (fun t9 ht9 hW9 => ⟨⟨0, (), rfl, (show 0 = 0 from rfl), by rw [ht9]; exact hP9, hD9⟩, hS.F ht9⟩) hS.2.2 dL_bin_18
set_option maxHeartbeats 4000000 in
set_option maxRecDepth 100000 in
theorem l_bin_nov (l : Launch) (D : va_G) (cT : Nat → ClassId) (cds : List Nat) (ad : Nat → Nat) (gg : Nat → Option va_E) (tc : Int32) (wd9 : Int32) (rw9 : Int32) (n : Nat) (vv : Nat → Int32) (vq : Nat → Int32) (eg : Nat → Int32) (ik : Nat → Int32) (ne : Nat → Nat) (c0 : Nat) (v : Int32) (zo : Nat) (zw : Nat → Int64) (hlt : l.stackTraces = false) (hcd : CD cds) (hob : gg 0 = some (eOB ad tc)) (htb : gg 1 = some (eTB ad wd9 rw9)) (hCa : CAp cT ad gg) (hCf : COLF cT ad gg n vv vq eg ik ne) (hc0 : 0 ≤ nI c0 ∧ nI c0 ≤ wd9 - 1) (hc6 : c0 < 6) (hvm : ¬ v = (-2147483648)) (hv9 : takB (ik c0) v = false) (sz : Nat) : Met l yL_bin WL_bin ({ frames := 8, cells := 1, slots := 6, locals := 133 } : Room) (RW D vwCl [.ref (ad 0), .int (nI c0), .int v, .ref zo] ([(zo, .inl (cT 1, 1, .inr (.inl zw)))] ++ pg cds ad gg) (TY cT) sz) (va_Qi (fun (r9 : Int32) (u9 : Unit) => r9 = 1) (BW D vwCl (va_A ([(zo, .inl (cT 1, 1, .inr (.inl zw)))] ++ pg cds ad gg) sz) (fun u9 : Unit => ([(zo, .inl (cT 1, 1, .inr (.inl zw)))] ++ pg cds ad gg))) (va_A ([(zo, .inl (cT 1, 1, .inr (.inl zw)))] ++ pg cds ad gg) sz)) 1 6 (va_A ([(zo, .inl (cT 1, 1, .inr (.inl zw)))] ++ pg cds ad gg) sz) := by
  refine va_MetW (hh := [(0, 10, 13, 13)]) (cc := cL_bin) (maxL := 5) (ret := (some .int)) (by decide) rfl ?_
  intro p e s m args below meth c s₁ B hml hv
  obtain ⟨rfl, hsz, hZ, hP, hK, hD0⟩ := hv
  have hx := B.exec
  have hb := B.bytes
  have hr := B.returns
  have hts := atoms_spec (ws := WL_bin) B.pre
  have hT : ∀ w ∈ TB, w.before _ s = true := fun w h => hts w (List.mem_cons_of_mem _ h)
  have hown : s.vm.findClass R_L = some m.cls := findClass_of_methodNamed B.named
  have htab := tx_table B (bytes := cL_bin) (maxL := 5) (ret := (some .int)) (hh := [(0, 10, 13, 13)]) (hts _ List.mem_cons_self)
  subst hsz
  have hD := hD0.self (sz := s.heap.size)
  generalize hAe : va_A ([(zo, .inl (cT 1, 1, .inr (.inl zw)))] ++ pg cds ad gg) s.heap.size = A at hD hZ ⊢
  have hA : ∀ q : Nat, s.heap.size ≤ q → A q := fun q h => by rw [← hAe]; exact Or.inr h
  have hS : va_S A s.heap s.heap [] := va_S.rf
  have hl := lv_entry ([.ref (ad 0), .int (nI c0), .int v, .ref zo]) (n := 5) (Nat.le_of_ble_eq_true rfl)
  rw [lg_entry_eq]
  generalize (lg_sl ([.ref (ad 0), .int (nI c0), .int v, .ref zo]) ++ List.replicate (5 - (lg_sl ([.ref (ad 0), .int (nI c0), .int v, .ref zo])).length) Slot.unset).toArray = ls at hl ⊢
  have hl : lv_has ls 5 [(0, .ref (ad 0)), (1, .int (nI c0)), (2, .int v), (3, .ref zo)] := hl
  refine lv_aload_n hx hb dL_bin_0 rfl (lv_at hl 3 rfl) ?_
  refine lv_iconst (v := 0) hx hb dL_bin_1 (by decide) ?_
  refine lv_aload_n hx hb dL_bin_2 rfl (lv_at hl 0 rfl) ?_
  refine lv_iload_n hx hb dL_bin_3 rfl (lv_at hl 1 rfl) ?_
  refine lv_iload_n hx hb dL_bin_4 rfl (lv_at hl 2 rfl) ?_
  refine tx_catch1 (name := "java/lang/IllegalArgumentException") (tx_goV (As := [.int (nI c0), .int v]) (rest := [.int 0, .ref zo]) ⟨hx, hb, hml, hown, hT⟩ (k_bin_nov l D cT cds ad gg tc wd9 rw9 n vv vq eg ik ne c0 v hlt hcd hob htb hCa hCf hc0 hc6 hvm hv9) ⟨callB_of 2 hT (tb_gd w684) rfl rfl rfl (hT _ w1) (hT _ w681) hR_bin ⟨Nat.le_of_ble_eq_true rfl, Nat.le_of_ble_eq_true rfl⟩, (hT _ w682), (hT _ w683)⟩ (RO.preW (ci := 0) (q0 := 0) hZ hS ((show va_P D vwCl ([] ++ pg cds ad gg) _ from (pv_p hP))) hK (pg_1 (x := 0) hcd hP (by decide) hob) rfl rfl) rfl hl.1 rfl (Nat.le_of_ble_eq_true rfl) dL_bin_5 ⟨Nat.le_of_ble_eq_true rfl, Nat.le_of_ble_eq_true rfl⟩) hown htab rfl (by decide) (hT _ w503) (tc_c rfl (hZ.1.1 ("java/lang/IllegalArgumentException", "java/lang/IllegalArgumentException") (List.mem_of_getElem? (i := 0) rfl))) (fun q9 H hsz9 hag9 => ?_)
  have hP := tc_P hP hag9
  have hS := tc_S hS hsz9 hag9
  refine W.eq (g2 := F0 m 13 ls [.ref q9]) rfl ?_
  refine lv_astore hx hb dL_bin_13 hl (by decide) rfl (fun ls hl => ?_)
  have hl : lv_has ls 5 [(4, .ref q9), (0, .ref (ad 0)), (1, .int (nI c0)), (2, .int v), (3, .ref zo)] := hl
  refine lv_iconst (v := 1) hx hb dL_bin_15 (by decide) ?_
  have hP9 : va_P D vwCl ([(zo, .inl (cT 1, 1, .inr (.inl zw)))] ++ pg cds ad gg) _ := hP.part (cx := [(zo, .inl (cT 1, 1, .inr (.inl zw)))]) [0] rfl
  have hD9 : va_D A ([(zo, .inl (cT 1, 1, .inr (.inl zw)))] ++ pg cds ad gg) := hD.part (cx := [(zo, .inl (cT 1, 1, .inr (.inl zw)))]) [0] (by decide) rfl
  refine W.widen (k := 1) (n := 6) (Nat.le_of_ble_eq_true rfl) (Nat.le_of_ble_eq_true rfl) ?_
  exact W.iret (v := 1) hx hb hr (fun t9 ht9 hW9 => ⟨⟨1, (), rfl, (show 1 = 1 from rfl), by rw [ht9]; exact hP9, hD9⟩, hS.F ht9⟩) hS.2.2 dL_bin_16
set_option maxHeartbeats 4000000 in
set_option maxRecDepth 100000 in
theorem l_bin_no (l : Launch) (D : va_G) (cT : Nat → ClassId) (cds : List Nat) (ad : Nat → Nat) (gg : Nat → Option va_E) (tc : Int32) (wd9 : Int32) (rw9 : Int32) (a1 : Int32) (v : Int32) (zo : Nat) (zw : Nat → Int64) (hlt : l.stackTraces = false) (hcd : CD cds) (hob : gg 0 = some (eOB ad tc)) (htb : gg 1 = some (eTB ad wd9 rw9)) (hq : ¬ ((0 ≤ a1 ∧ a1 ≤ wd9 - 1) ∧ ¬ v = (-2147483648))) (sz : Nat) : Met l yL_bin WL_bin ({ frames := 8, cells := 1, slots := 6, locals := 133 } : Room) (RW D vwCl [.ref (ad 0), .int a1, .int v, .ref zo] ([(zo, .inl (cT 1, 1, .inr (.inl zw)))] ++ pg cds ad gg) (TY cT) sz) (va_Qi (fun (r9 : Int32) (u9 : Unit) => r9 = 1) (BW D vwCl (va_A ([(zo, .inl (cT 1, 1, .inr (.inl zw)))] ++ pg cds ad gg) sz) (fun u9 : Unit => ([(zo, .inl (cT 1, 1, .inr (.inl zw)))] ++ pg cds ad gg))) (va_A ([(zo, .inl (cT 1, 1, .inr (.inl zw)))] ++ pg cds ad gg) sz)) 1 6 (va_A ([(zo, .inl (cT 1, 1, .inr (.inl zw)))] ++ pg cds ad gg) sz) := by
  refine va_MetW (hh := [(0, 10, 13, 13)]) (cc := cL_bin) (maxL := 5) (ret := (some .int)) (by decide) rfl ?_
  intro p e s m args below meth c s₁ B hml hv
  obtain ⟨rfl, hsz, hZ, hP, hK, hD0⟩ := hv
  have hx := B.exec
  have hb := B.bytes
  have hr := B.returns
  have hts := atoms_spec (ws := WL_bin) B.pre
  have hT : ∀ w ∈ TB, w.before _ s = true := fun w h => hts w (List.mem_cons_of_mem _ h)
  have hown : s.vm.findClass R_L = some m.cls := findClass_of_methodNamed B.named
  have htab := tx_table B (bytes := cL_bin) (maxL := 5) (ret := (some .int)) (hh := [(0, 10, 13, 13)]) (hts _ List.mem_cons_self)
  subst hsz
  have hD := hD0.self (sz := s.heap.size)
  generalize hAe : va_A ([(zo, .inl (cT 1, 1, .inr (.inl zw)))] ++ pg cds ad gg) s.heap.size = A at hD hZ ⊢
  have hA : ∀ q : Nat, s.heap.size ≤ q → A q := fun q h => by rw [← hAe]; exact Or.inr h
  have hS : va_S A s.heap s.heap [] := va_S.rf
  have hl := lv_entry ([.ref (ad 0), .int a1, .int v, .ref zo]) (n := 5) (Nat.le_of_ble_eq_true rfl)
  rw [lg_entry_eq]
  generalize (lg_sl ([.ref (ad 0), .int a1, .int v, .ref zo]) ++ List.replicate (5 - (lg_sl ([.ref (ad 0), .int a1, .int v, .ref zo])).length) Slot.unset).toArray = ls at hl ⊢
  have hl : lv_has ls 5 [(0, .ref (ad 0)), (1, .int a1), (2, .int v), (3, .ref zo)] := hl
  refine lv_aload_n hx hb dL_bin_0 rfl (lv_at hl 3 rfl) ?_
  refine lv_iconst (v := 0) hx hb dL_bin_1 (by decide) ?_
  refine lv_aload_n hx hb dL_bin_2 rfl (lv_at hl 0 rfl) ?_
  refine lv_iload_n hx hb dL_bin_3 rfl (lv_at hl 1 rfl) ?_
  refine lv_iload_n hx hb dL_bin_4 rfl (lv_at hl 2 rfl) ?_
  refine tx_catch1 (name := "java/lang/IllegalArgumentException") (tx_goV (As := [.int a1, .int v]) (rest := [.int 0, .ref zo]) ⟨hx, hb, hml, hown, hT⟩ (k_bin_no l D cT cds ad gg tc wd9 rw9 a1 v hlt hcd hob htb hq) ⟨callB_of 2 hT (tb_gd w684) rfl rfl rfl (hT _ w1) (hT _ w681) hR_bin ⟨Nat.le_of_ble_eq_true rfl, Nat.le_of_ble_eq_true rfl⟩, (hT _ w682), (hT _ w683)⟩ (RO.preW (ci := 0) (q0 := 0) hZ hS ((show va_P D vwCl ([] ++ pg cds ad gg) _ from (pv_p hP))) hK (pg_1 (x := 0) hcd hP (by decide) hob) rfl rfl) rfl hl.1 rfl (Nat.le_of_ble_eq_true rfl) dL_bin_5 ⟨Nat.le_of_ble_eq_true rfl, Nat.le_of_ble_eq_true rfl⟩) hown htab rfl (by decide) (hT _ w503) (tc_c rfl (hZ.1.1 ("java/lang/IllegalArgumentException", "java/lang/IllegalArgumentException") (List.mem_of_getElem? (i := 0) rfl))) (fun q9 H hsz9 hag9 => ?_)
  have hP := tc_P hP hag9
  have hS := tc_S hS hsz9 hag9
  refine W.eq (g2 := F0 m 13 ls [.ref q9]) rfl ?_
  refine lv_astore hx hb dL_bin_13 hl (by decide) rfl (fun ls hl => ?_)
  have hl : lv_has ls 5 [(4, .ref q9), (0, .ref (ad 0)), (1, .int a1), (2, .int v), (3, .ref zo)] := hl
  refine lv_iconst (v := 1) hx hb dL_bin_15 (by decide) ?_
  have hP9 : va_P D vwCl ([(zo, .inl (cT 1, 1, .inr (.inl zw)))] ++ pg cds ad gg) _ := hP.part (cx := [(zo, .inl (cT 1, 1, .inr (.inl zw)))]) [0] rfl
  have hD9 : va_D A ([(zo, .inl (cT 1, 1, .inr (.inl zw)))] ++ pg cds ad gg) := hD.part (cx := [(zo, .inl (cT 1, 1, .inr (.inl zw)))]) [0] (by decide) rfl
  refine W.widen (k := 1) (n := 6) (Nat.le_of_ble_eq_true rfl) (Nat.le_of_ble_eq_true rfl) ?_
  exact W.iret (v := 1) hx hb hr (fun t9 ht9 hW9 => ⟨⟨1, (), rfl, (show 1 = 1 from rfl), by rw [ht9]; exact hP9, hD9⟩, hS.F ht9⟩) hS.2.2 dL_bin_16
