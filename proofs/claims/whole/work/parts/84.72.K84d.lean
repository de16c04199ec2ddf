set_option maxHeartbeats 4000000 in
set_option maxRecDepth 100000 in
theorem l_count0 (l : Launch) (D : va_G) (cT : Nat → ClassId) (cds : List Nat) (ad : Nat → Nat) (gg : Nat → Option va_E) (T : Nat) (wd9 : Int32) (rw9 : Int32) (zo : Nat) (zw : Nat → Int64) (hcd : CD cds) (hob : gg 0 = some (eOB ad (nI T))) (htb : gg 1 = some (eTB ad wd9 rw9)) (sz : Nat) : Met l yL_count WL_count ({ frames := 1, cells := 0, slots := 0, locals := 21 } : Room) (RW D vwCl [.ref (ad 0), .int 0, .ref zo] ([(zo, .inl (cT 1, 1, .inr (.inl zw)))] ++ pg cds ad gg) (TY cT) sz) (va_Qi (fun (r9 : Int32) (u9 : Unit) => r9 = 0) (BW D vwCl (va_A ([(zo, .inl (cT 1, 1, .inr (.inl zw)))] ++ pg cds ad gg) sz) (fun u9 : Unit => ([(zo, .inl (cT 1, 1, .inr (.inl (vp_updL zw 0 (Int32.toInt64 wd9)))))] ++ pg cds ad gg))) (va_A ([(zo, .inl (cT 1, 1, .inr (.inl zw)))] ++ pg cds ad gg) sz)) 0 0 (va_A ([(zo, .inl (cT 1, 1, .inr (.inl zw)))] ++ pg cds ad gg) sz) := by
  refine va_MetW (hh := [(0, 9, 12, 13)]) (cc := cL_count) (maxL := 4) (ret := (some .int)) (by decide) rfl ?_
  intro p e s m args below meth c s₁ B hml hv
  obtain ⟨rfl, hsz, hZ, hP, hK, hD0⟩ := hv
  have hx := B.exec
  have hb := B.bytes
  have hr := B.returns
  have hts := atoms_spec (ws := WL_count) B.pre
  have hT : ∀ w ∈ TB, w.before _ s = true := fun w h => hts w (List.mem_cons_of_mem _ h)
  have hown : s.vm.findClass R_L = some m.cls := findClass_of_methodNamed B.named
  have htab := tx_table B (bytes := cL_count) (maxL := 4) (ret := (some .int)) (hh := [(0, 9, 12, 13)]) (hts _ List.mem_cons_self)
  subst hsz
  have hD := hD0.self (sz := s.heap.size)
  generalize hAe : va_A ([(zo, .inl (cT 1, 1, .inr (.inl zw)))] ++ pg cds ad gg) s.heap.size = A at hD hZ ⊢
  have hA : ∀ q : Nat, s.heap.size ≤ q → A q := fun q h => by rw [← hAe]; exact Or.inr h
  have hS : va_S A s.heap s.heap [] := va_S.rf
  have hl := lv_entry ([.ref (ad 0), .int 0, .ref zo]) (n := 4) (Nat.le_of_ble_eq_true rfl)
  rw [lg_entry_eq]
  generalize (lg_sl ([.ref (ad 0), .int 0, .ref zo]) ++ List.replicate (4 - (lg_sl ([.ref (ad 0), .int 0, .ref zo])).length) Slot.unset).toArray = ls at hl ⊢
  have hl : lv_has ls 4 [(0, .ref (ad 0)), (1, .int 0), (2, .ref zo)] := hl
  refine lv_aload_n hx hb dL_count_0 rfl (lv_at hl 2 rfl) ?_
  refine lv_iconst (v := 0) hx hb dL_count_1 (by decide) ?_
  refine lv_aload_n hx hb dL_count_2 rfl (lv_at hl 0 rfl) ?_
  refine lv_iload_n hx hb dL_count_3 rfl (lv_at hl 1 rfl) ?_
  refine ro_i (va_Run.run (va_runV (As := [.int 0]) (rest := [.int 0, .ref zo]) ⟨hx, hb, hml, hown, hT⟩ (k_count0 l D cT cds ad gg T wd9 rw9 hcd hob htb) ⟨callB_of 1 hT (tb_gd w1012) rfl rfl rfl (hT _ w1) (hT _ w1009) hR_count ⟨Nat.le_of_ble_eq_true rfl, Nat.le_of_ble_eq_true rfl⟩, (hT _ w1010), (hT _ w1011)⟩ (RO.preW (ci := 0) (q0 := 0) hZ hS ((show va_P D vwCl ([] ++ pg cds ad gg) _ from (pv_p hP))) hK (pg_1 (x := 0) hcd hP (by decide) hob) rfl rfl) rfl rfl hl.1 rfl (lv_room (Nat.le_of_ble_eq_true rfl)) dL_count_4 ⟨Nat.le_of_ble_eq_true rfl, Nat.le_of_ble_eq_true rfl⟩)) ?_
  refine lv_i2l hx hb dL_count_7 rfl ?_
  refine va_last hx hb hK hP hD hS 0 1 rfl rfl (by unfold vp_in; decide) dL_count_8 (fun H locs hP hD hS => ?_)
  have hP : va_P D vwCl ([(zo, .inl (cT 1, 1, .inr (.inl (vp_updL zw 0 ((wd9 : Int32).toInt64)))))] ++ pg cds ad gg) _ := hP
  have hD : va_D A ([(zo, .inl (cT 1, 1, .inr (.inl (vp_updL zw 0 ((wd9 : Int32).toInt64)))))] ++ pg cds ad gg) := hD
  refine lv_goto (tgt := 15) hx hb dL_count_9 rfl ?_
  refine lv_iconst (v := 0) hx hb dL_count_15 (by decide) ?_
  have hP9 : va_P D vwCl ([(zo, .inl (cT 1, 1, .inr (.inl (vp_updL zw 0 (Int32.toInt64 wd9)))))] ++ pg cds ad gg) _ := hP.part (cx := [(zo, .inl (cT 1, 1, .inr (.inl (vp_updL zw 0 (Int32.toInt64 wd9)))))]) [0] rfl
  have hD9 : va_D A ([(zo, .inl (cT 1, 1, .inr (.inl (vp_updL zw 0 (Int32.toInt64 wd9)))))] ++ pg cds ad gg) := hD.part (cx := [(zo, .inl (cT 1, 1, .inr (.inl (vp_updL zw 0 (Int32.toInt64 wd9)))))]) [0] (by decide) rfl
  refine W.widen (k := 0) (n := 0) (Nat.le_of_ble_eq_true rfl) (Nat.le_of_ble_eq_true rfl) ?_
  exact W.iret (v := 0) hx hb hr (fun t9 ht9 hW9 => ⟨⟨0, (), rfl, (show 0 = 0 from rfl), by rw [ht9]; exact hP9, hD9⟩, hS.F ht9⟩) hS.2.2 dL_count_16
set_option maxHeartbeats 4000000 in
set_option maxRecDepth 100000 in
theorem l_count1 (l : Launch) (D : va_G) (cT : Nat → ClassId) (cds : List Nat) (ad : Nat → Nat) (gg : Nat → Option va_E) (T : Nat) (wd9 : Int32) (rw9 : Int32) (zo : Nat) (zw : Nat → Int64) (hcd : CD cds) (hob : gg 0 = some (eOB ad (nI T))) (htb : gg 1 = some (eTB ad wd9 rw9)) (sz : Nat) : Met l yL_count WL_count ({ frames := 1, cells := 0, slots := 0, locals := 21 } : Room) (RW D vwCl [.ref (ad 0), .int 1, .ref zo] ([(zo, .inl (cT 1, 1, .inr (.inl zw)))] ++ pg cds ad gg) (TY cT) sz) (va_Qi (fun (r9 : Int32) (u9 : Unit) => r9 = 0) (BW D vwCl (va_A ([(zo, .inl (cT 1, 1, .inr (.inl zw)))] ++ pg cds ad gg) sz) (fun u9 : Unit => ([(zo, .inl (cT 1, 1, .inr (.inl (vp_updL zw 0 (Int32.toInt64 rw9)))))] ++ pg cds ad gg))) (va_A ([(zo, .inl (cT 1, 1, .inr (.inl zw)))] ++ pg cds ad gg) sz)) 0 0 (va_A ([(zo, .inl (cT 1, 1, .inr (.inl zw)))] ++ pg cds ad gg) sz) := by
  refine va_MetW (hh := [(0, 9, 12, 13)]) (cc := cL_count) (maxL := 4) (ret := (some .int)) (by decide) rfl ?_
  intro p e s m args below meth c s₁ B hml hv
  obtain ⟨rfl, hsz, hZ, hP, hK, hD0⟩ := hv
  have hx := B.exec
  have hb := B.bytes
  have hr := B.returns
  have hts := atoms_spec (ws := WL_count) B.pre
  have hT : ∀ w ∈ TB, w.before _ s = true := fun w h => hts w (List.mem_cons_of_mem _ h)
  have hown : s.vm.findClass R_L = some m.cls := findClass_of_methodNamed B.named
  have htab := tx_table B (bytes := cL_count) (maxL := 4) (ret := (some .int)) (hh := [(0, 9, 12, 13)]) (hts _ List.mem_cons_self)
  subst hsz
  have hD := hD0.self (sz := s.heap.size)
  generalize hAe : va_A ([(zo, .inl (cT 1, 1, .inr (.inl zw)))] ++ pg cds ad gg) s.heap.size = A at hD hZ ⊢
  have hA : ∀ q : Nat, s.heap.size ≤ q → A q := fun q h => by rw [← hAe]; exact Or.inr h
  have hS : va_S A s.heap s.heap [] := va_S.rf
  have hl := lv_entry ([.ref (ad 0), .int 1, .ref zo]) (n := 4) (Nat.le_of_ble_eq_true rfl)
  rw [lg_entry_eq]
  generalize (lg_sl ([.ref (ad 0), .int 1, .ref zo]) ++ List.replicate (4 - (lg_sl ([.ref (ad 0), .int 1, .ref zo])).length) Slot.unset).toArray = ls at hl ⊢
  have hl : lv_has ls 4 [(0, .ref (ad 0)), (1, .int 1), (2, .ref zo)] := hl
  refine lv_aload_n hx hb dL_count_0 rfl (lv_at hl 2 rfl) ?_
  refine lv_iconst (v := 0) hx hb dL_count_1 (by decide) ?_
  refine lv_aload_n hx hb dL_count_2 rfl (lv_at hl 0 rfl) ?_
  refine lv_iload_n hx hb dL_count_3 rfl (lv_at hl 1 rfl) ?_
  refine ro_i (va_Run.run (va_runV (As := [.int 1]) (rest := [.int 0, .ref zo]) ⟨hx, hb, hml, hown, hT⟩ (k_count1 l D cT cds ad gg T wd9 rw9 hcd hob htb) ⟨callB_of 1 hT (tb_gd w1012) rfl rfl rfl (hT _ w1) (hT _ w1009) hR_count ⟨Nat.le_of_ble_eq_true rfl, Nat.le_of_ble_eq_true rfl⟩, (hT _ w1010), (hT _ w1011)⟩ (RO.preW (ci := 0) (q0 := 0) hZ hS ((show va_P D vwCl ([] ++ pg cds ad gg) _ from (pv_p hP))) hK (pg_1 (x := 0) hcd hP (by decide) hob) rfl rfl) rfl rfl hl.1 rfl (lv_room (Nat.le_of_ble_eq_true rfl)) dL_count_4 ⟨Nat.le_of_ble_eq_true rfl, Nat.le_of_ble_eq_true rfl⟩)) ?_
  refine lv_i2l hx hb dL_count_7 rfl ?_
  refine va_last hx hb hK hP hD hS 0 1 rfl rfl (by unfold vp_in; decide) dL_count_8 (fun H locs hP hD hS => ?_)
  have hP : va_P D vwCl ([(zo, .inl (cT 1, 1, .inr (.inl (vp_updL zw 0 ((rw9 : Int32).toInt64)))))] ++ pg cds ad gg) _ := hP
  have hD : va_D A ([(zo, .inl (cT 1, 1, .inr (.inl (vp_updL zw 0 ((rw9 : Int32).toInt64)))))] ++ pg cds ad gg) := hD
  refine lv_goto (tgt := 15) hx hb dL_count_9 rfl ?_
  refine lv_iconst (v := 0) hx hb dL_count_15 (by decide) ?_
  have hP9 : va_P D vwCl ([(zo, .inl (cT 1, 1, .inr (.inl (vp_updL zw 0 (Int32.toInt64 rw9)))))] ++ pg cds ad gg) _ := hP.part (cx := [(zo, .inl (cT 1, 1, .inr (.inl (vp_updL zw 0 (Int32.toInt64 rw9)))))]) [0] rfl
  have hD9 : va_D A ([(zo, .inl (cT 1, 1, .inr (.inl (vp_updL zw 0 (Int32.toInt64 rw9)))))] ++ pg cds ad gg) := hD.part (cx := [(zo, .inl (cT 1, 1, .inr (.inl (vp_updL zw 0 (Int32.toInt64 rw9)))))]) [0] (by decide) rfl
  refine W.widen (k := 0) (n := 0) (Nat.le_of_ble_eq_true rfl) (Nat.le_of_ble_eq_true rfl) ?_
  exact W.iret (v := 0) hx hb hr (fun t9 ht9 hW9 => ⟨⟨0, (), rfl, (show 0 = 0 from rfl), by rw [ht9]; exact hP9, hD9⟩, hS.F ht9⟩) hS.2.2 dL_count_16
set_option maxHeartbeats 4000000 in
set_option maxRecDepth 100000 in
theorem l_count2 (l : Launch) (D : va_G) (cT : Nat → ClassId) (cds : List Nat) (ad : Nat → Nat) (gg : Nat → Option va_E) (T : Nat) (wd9 : Int32) (rw9 : Int32) (zo : Nat) (zw : Nat → Int64) (hcd : CD cds) (hob : gg 0 = some (eOB ad (nI T))) (htb : gg 1 = some (eTB ad wd9 rw9)) (sz : Nat) : Met l yL_count WL_count ({ frames := 1, cells := 0, slots := 0, locals := 21 } : Room) (RW D vwCl [.ref (ad 0), .int 2, .ref zo] ([(zo, .inl (cT 1, 1, .inr (.inl zw)))] ++ pg cds ad gg) (TY cT) sz) (va_Qi (fun (r9 : Int32) (u9 : Unit) => r9 = 0) (BW D vwCl (va_A ([(zo, .inl (cT 1, 1, .inr (.inl zw)))] ++ pg cds ad gg) sz) (fun u9 : Unit => ([(zo, .inl (cT 1, 1, .inr (.inl (vp_updL zw 0 (Int32.toInt64 (nI T))))))] ++ pg cds ad gg))) (va_A ([(zo, .inl (cT 1, 1, .inr (.inl zw)))] ++ pg cds ad gg) sz)) 0 0 (va_A ([(zo, .inl (cT 1, 1, .inr (.inl zw)))] ++ pg cds ad gg) sz) := by
  refine va_MetW (hh := [(0, 9, 12, 13)]) (cc := cL_count) (maxL := 4) (ret := (some .int)) (by decide) rfl ?_
  intro p e s m args below meth c s₁ B hml hv
  obtain ⟨rfl, hsz, hZ, hP, hK, hD0⟩ := hv
  have hx := B.exec
  have hb := B.bytes
  have hr := B.returns
  have hts := atoms_spec (ws := WL_count) B.pre
  have hT : ∀ w ∈ TB, w.before _ s = true := fun w h => hts w (List.mem_cons_of_mem _ h)
  have hown : s.vm.findClass R_L = some m.cls := findClass_of_methodNamed B.named
  have htab := tx_table B (bytes := cL_count) (maxL := 4) (ret := (some .int)) (hh := [(0, 9, 12, 13)]) (hts _ List.mem_cons_self)
  subst hsz
  have hD := hD0.self (sz := s.heap.size)
  generalize hAe : va_A ([(zo, .inl (cT 1, 1, .inr (.inl zw)))] ++ pg cds ad gg) s.heap.size = A at hD hZ ⊢
  have hA : ∀ q : Nat, s.heap.size ≤ q → A q := fun q h => by rw [← hAe]; exact Or.inr h
  have hS : va_S A s.heap s.heap [] := va_S.rf
  have hl := lv_entry ([.ref (ad 0), .int 2, .ref zo]) (n := 4) (Nat.le_of_ble_eq_true rfl)
  rw [lg_entry_eq]
  generalize (lg_sl ([.ref (ad 0), .int 2, .ref zo]) ++ List.replicate (4 - (lg_sl ([.ref (ad 0), .int 2, .ref zo])).length) Slot.unset).toArray = ls at hl ⊢
  have hl : lv_has ls 4 [(0, .ref (ad 0)), (1, .int 2), (2, .ref zo)] := hl
  refine lv_aload_n hx hb dL_count_0 rfl (lv_at hl 2 rfl) ?_
  refine lv_iconst (v := 0) hx hb dL_count_1 (by decide) ?_
  refine lv_aload_n hx hb dL_count_2 rfl (lv_at hl 0 rfl) ?_
  refine lv_iload_n hx hb dL_count_3 rfl (lv_at hl 1 rfl) ?_
  refine ro_i (va_Run.run (va_runV (As := [.int 2]) (rest := [.int 0, .ref zo]) ⟨hx, hb, hml, hown, hT⟩ (k_count2 l D cT cds ad gg T wd9 rw9 hcd hob htb) ⟨callB_of 1 hT (tb_gd w1012) rfl rfl rfl (hT _ w1) (hT _ w1009) hR_count ⟨Nat.le_of_ble_eq_true rfl, Nat.le_of_ble_eq_true rfl⟩, (hT _ w1010), (hT _ w1011)⟩ (RO.preW (ci := 0) (q0 := 0) hZ hS ((show va_P D vwCl ([] ++ pg cds ad gg) _ from (pv_p hP))) hK (pg_1 (x := 0) hcd hP (by decide) hob) rfl rfl) rfl rfl hl.1 rfl (lv_room (Nat.le_of_ble_eq_true rfl)) dL_count_4 ⟨Nat.le_of_ble_eq_true rfl, Nat.le_of_ble_eq_true rfl⟩)) ?_
  refine lv_i2l hx hb dL_count_7 rfl ?_
  refine va_last hx hb hK hP hD hS 0 1 rfl rfl (by unfold vp_in; decide) dL_count_8 (fun H locs hP hD hS => ?_)
  have hP : va_P D vwCl ([(zo, .inl (cT 1, 1, .inr (.inl (vp_updL zw 0 ((nI T : Int32).toInt64)))))] ++ pg cds ad gg) _ := hP
  have hD : va_D A ([(zo, .inl (cT 1, 1, .inr (.inl (vp_updL zw 0 ((nI T : Int32).toInt64)))))] ++ pg cds ad gg) := hD
  refine lv_goto (tgt := 15) hx hb dL_count_9 rfl ?_
  refine lv_iconst (v := 0) hx hb dL_count_15 (by decide) ?_
  have hP9 : va_P D vwCl ([(zo, .inl (cT 1, 1, .inr (.inl (vp_updL zw 0 (Int32.toInt64 (nI T))))))] ++ pg cds ad gg) _ := hP.part (cx := [(zo, .inl (cT 1, 1, .inr (.inl (vp_updL zw 0 (Int32.toInt64 (nI T))))))]) [0] rfl
  have hD9 : va_D A ([(zo, .inl (cT 1, 1, .inr (.inl (vp_updL zw 0 (Int32.toInt64 (nI T))))))] ++ pg cds ad gg) := hD.part (cx := [(zo, .inl (cT 1, 1, .inr (.inl (vp_updL zw 0 (Int32.toInt64 (nI T))))))]) [0] (by decide) rfl
  refine W.widen (k := 0) (n := 0) (Nat.le_of_ble_eq_true rfl) (Nat.le_of_ble_eq_true rfl) ?_
  exact W.iret (v := 0) hx hb hr (fun t9 ht9 hW9 => ⟨⟨0, (), rfl, (show 0 = 0 from rfl), by rw [ht9]; exact hP9, hD9⟩, hS.F ht9⟩) hS.2.2 dL_count_16
set_option maxHeartbeats 4000000 in
set_option maxRecDepth 100000 in
theorem l_count4 (l : Launch) (D : va_G) (cT : Nat → ClassId) (cds : List Nat) (ad : Nat → Nat) (gg : Nat → Option va_E) (T : Nat) (wd9 : Int32) (rw9 : Int32) (L0 : Nat) (fo : Nat → Int32) (zo : Nat) (zw : Nat → Int64) (hcd : CD cds) (hob : gg 0 = some (eOB ad (nI T))) (htb : gg 1 = some (eTB ad wd9 rw9)) (hOut : OUTp cT ad gg L0 fo) (sz : Nat) : Met l yL_count WL_count ({ frames := 1, cells := 0, slots := 0, locals := 21 } : Room) (RW D vwCl [.ref (ad 0), .int 4, .ref zo] ([(zo, .inl (cT 1, 1, .inr (.inl zw)))] ++ pg cds ad gg) (TY cT) sz) (va_Qi (fun (r9 : Int32) (u9 : Unit) => r9 = 0) (BW D vwCl (va_A ([(zo, .inl (cT 1, 1, .inr (.inl zw)))] ++ pg cds ad gg) sz) (fun u9 : Unit => ([(zo, .inl (cT 1, 1, .inr (.inl (vp_updL zw 0 (Int32.toInt64 (nI L0))))))] ++ pg cds ad gg))) (va_A ([(zo, .inl (cT 1, 1, .inr (.inl zw)))] ++ pg cds ad gg) sz)) 0 0 (va_A ([(zo, .inl (cT 1, 1, .inr (.inl zw)))] ++ pg cds ad gg) sz) := by
  refine va_MetW (hh := [(0, 9, 12, 13)]) (cc := cL_count) (maxL := 4) (ret := (some .int)) (by decide) rfl ?_
  intro p e s m args below meth c s₁ B hml hv
  obtain ⟨rfl, hsz, hZ, hP, hK, hD0⟩ := hv
  have hx := B.exec
  have hb := B.bytes
  have hr := B.returns
  have hts := atoms_spec (ws := WL_count) B.pre
  have hT : ∀ w ∈ TB, w.before _ s = true := fun w h => hts w (List.mem_cons_of_mem _ h)
  have hown : s.vm.findClass R_L = some m.cls := findClass_of_methodNamed B.named
  have htab := tx_table B (bytes := cL_count) (maxL := 4) (ret := (some .int)) (hh := [(0, 9, 12, 13)]) (hts _ List.mem_cons_self)
  subst hsz
  have hD := hD0.self (sz := s.heap.size)
  generalize hAe : va_A ([(zo, .inl (cT 1, 1, .inr (.inl zw)))] ++ pg cds ad gg) s.heap.size = A at hD hZ ⊢
  have hA : ∀ q : Nat, s.heap.size ≤ q → A q := fun q h => by rw [← hAe]; exact Or.inr h
  have hS : va_S A s.heap s.heap [] := va_S.rf
  have hl := lv_entry ([.ref (ad 0), .int 4, .ref zo]) (n := 4) (Nat.le_of_ble_eq_true rfl)
  rw [lg_entry_eq]
  generalize (lg_sl ([.ref (ad 0), .int 4, .ref zo]) ++ List.replicate (4 - (lg_sl ([.ref (ad 0), .int 4, .ref zo])).length) Slot.unset).toArray = ls at hl ⊢
  have hl : lv_has ls 4 [(0, .ref (ad 0)), (1, .int 4), (2, .ref zo)] := hl
  refine lv_aload_n hx hb dL_count_0 rfl (lv_at hl 2 rfl) ?_
  refine lv_iconst (v := 0) hx hb dL_count_1 (by decide) ?_
  refine lv_aload_n hx hb dL_count_2 rfl (lv_at hl 0 rfl) ?_
  refine lv_iload_n hx hb dL_count_3 rfl (lv_at hl 1 rfl) ?_
  refine ro_i (va_Run.run (va_runV (As := [.int 4]) (rest := [.int 0, .ref zo]) ⟨hx, hb, hml, hown, hT⟩ (k_count4 l D cT cds ad gg T wd9 rw9 L0 fo hcd hob htb hOut) ⟨callB_of 1 hT (tb_gd w1012) rfl rfl rfl (hT _ w1) (hT _ w1009) hR_count ⟨Nat.le_of_ble_eq_true rfl, Nat.le_of_ble_eq_true rfl⟩, (hT _ w1010), (hT _ w1011)⟩ (RO.preW (ci := 0) (q0 := 0) hZ hS ((show va_P D vwCl ([] ++ pg cds ad gg) _ from (pv_p hP))) hK (pg_1 (x := 0) hcd hP (by decide) hob) rfl rfl) rfl rfl hl.1 rfl (lv_room (Nat.le_of_ble_eq_true rfl)) dL_count_4 ⟨Nat.le_of_ble_eq_true rfl, Nat.le_of_ble_eq_true rfl⟩)) ?_
  refine lv_i2l hx hb dL_count_7 rfl ?_
  refine va_last hx hb hK hP hD hS 0 1 rfl rfl (by unfold vp_in; decide) dL_count_8 (fun H locs hP hD hS => ?_)
  have hP : va_P D vwCl ([(zo, .inl (cT 1, 1, .inr (.inl (vp_updL zw 0 ((nI L0 : Int32).toInt64)))))] ++ pg cds ad gg) _ := hP
  have hD : va_D A ([(zo, .inl (cT 1, 1, .inr (.inl (vp_updL zw 0 ((nI L0 : Int32).toInt64)))))] ++ pg cds ad gg) := hD
  refine lv_goto (tgt := 15) hx hb dL_count_9 rfl ?_
  refine lv_iconst (v := 0) hx hb dL_count_15 (by decide) ?_
  have hP9 : va_P D vwCl ([(zo, .inl (cT 1, 1, .inr (.inl (vp_updL zw 0 (Int32.toInt64 (nI L0))))))] ++ pg cds ad gg) _ := hP.part (cx := [(zo, .inl (cT 1, 1, .inr (.inl (vp_updL zw 0 (Int32.toInt64 (nI L0))))))]) [0] rfl
  have hD9 : va_D A ([(zo, .inl (cT 1, 1, .inr (.inl (vp_updL zw 0 (Int32.toInt64 (nI L0))))))] ++ pg cds ad gg) := hD.part (cx := [(zo, .inl (cT 1, 1, .inr (.inl (vp_updL zw 0 (Int32.toInt64 (nI L0))))))]) [0] (by decide) rfl
  refine W.widen (k := 0) (n := 0) (Nat.le_of_ble_eq_true rfl) (Nat.le_of_ble_eq_true rfl) ?_
  exact W.iret (v := 0) hx hb hr (fun t9 ht9 hW9 => ⟨⟨0, (), rfl, (show 0 = 0 from rfl), by rw [ht9]; exact hP9, hD9⟩, hS.F ht9⟩) hS.2.2 dL_count_16
set_option maxHeartbeats 4000000 in
set_option maxRecDepth 100000 in
theorem l_count_no (l : Launch) (D : va_G) (cT : Nat → ClassId) (cds : List Nat) (ad : Nat → Nat) (gg : Nat → Option va_E) (v : Int32) (tc : Int32) (zo : Nat) (zw : Nat → Int64) (hlt : l.stackTraces = false) (hcd : CD cds) (hob : gg 0 = some (eOB ad tc)) (hsw : v.toInt < 0 ∨ 4 < v.toInt) (sz : Nat) : Met l yL_count WL_count ({ frames := 7, cells := 1, slots := 6, locals := 112 } : Room) (RW D vwCl [.ref (ad 0), .int v, .ref zo] ([(zo, .inl (cT 1, 1, .inr (.inl zw)))] ++ pg cds ad gg) (TY cT) sz) (va_Qi (fun (r9 : Int32) (u9 : Unit) => r9 = 1) (BW D vwCl (va_A ([(zo, .inl (cT 1, 1, .inr (.inl zw)))] ++ pg cds ad gg) sz) (fun u9 : Unit => ([(zo, .inl (cT 1, 1, .inr (.inl zw)))] ++ pg cds ad gg))) (va_A ([(zo, .inl (cT 1, 1, .inr (.inl zw)))] ++ pg cds ad gg) sz)) 1 6 (va_A ([(zo, .inl (cT 1, 1, .inr (.inl zw)))] ++ pg cds ad gg) sz) := by
  refine va_MetW (hh := [(0, 9, 12, 13)]) (cc := cL_count) (maxL := 4) (ret := (some .int)) (by decide) rfl ?_
  intro p e s m args below meth c s₁ B hml hv
  obtain ⟨rfl, hsz, hZ, hP, hK, hD0⟩ := hv
  have hx := B.exec
  have hb := B.bytes
  have hr := B.returns
  have hts := atoms_spec (ws := WL_count) B.pre
  have hT : ∀ w ∈ TB, w.before _ s = true := fun w h => hts w (List.mem_cons_of_mem _ h)
  have hown : s.vm.findClass R_L = some m.cls := findClass_of_methodNamed B.named
  have htab := tx_table B (bytes := cL_count) (maxL := 4) (ret := (some .int)) (hh := [(0, 9, 12, 13)]) (hts _ List.mem_cons_self)
  subst hsz
  have hD := hD0.self (sz := s.heap.size)
  generalize hAe : va_A ([(zo, .inl (cT 1, 1, .inr (.inl zw)))] ++ pg cds ad gg) s.heap.size = A at hD hZ ⊢
  have hA : ∀ q : Nat, s.heap.size ≤ q → A q := fun q h => by rw [← hAe]; exact Or.inr h
  have hS : va_S A s.heap s.heap [] := va_S.rf
  have hl := lv_entry ([.ref (ad 0), .int v, .ref zo]) (n := 4) (Nat.le_of_ble_eq_true rfl)
  rw [lg_entry_eq]
  generalize (lg_sl ([.ref (ad 0), .int v, .ref zo]) ++ List.replicate (4 - (lg_sl ([.ref (ad 0), .int v, .ref zo])).length) Slot.unset).toArray = ls at hl ⊢
  have hl : lv_has ls 4 [(0, .ref (ad 0)), (1, .int v), (2, .ref zo)] := hl
  refine lv_aload_n hx hb dL_count_0 rfl (lv_at hl 2 rfl) ?_
  refine lv_iconst (v := 0) hx hb dL_count_1 (by decide) ?_
  refine lv_aload_n hx hb dL_count_2 rfl (lv_at hl 0 rfl) ?_
  refine lv_iload_n hx hb dL_count_3 rfl (lv_at hl 1 rfl) ?_
  refine tx_catch1 (name := "java/lang/IllegalArgumentException") (tx_goV (As := [.int v]) (rest := [.int 0, .ref zo]) ⟨hx, hb, hml, hown, hT⟩ (k_count_no l D cT cds ad gg v hlt hsw) ⟨callB_of 1 hT (tb_gd w1012) rfl rfl rfl (hT _ w1) (hT _ w1009) hR_count ⟨Nat.le_of_ble_eq_true rfl, Nat.le_of_ble_eq_true rfl⟩, (hT _ w1010), (hT _ w1011)⟩ (RO.preW (ci := 0) (q0 := 0) hZ hS ((show va_P D vwCl ([] ++ pg cds ad gg) _ from (pv_p hP))) hK (pg_1 (x := 0) hcd hP (by decide) hob) rfl rfl) rfl hl.1 rfl (Nat.le_of_ble_eq_true rfl) dL_count_4 ⟨Nat.le_of_ble_eq_true rfl, Nat.le_of_ble_eq_true rfl⟩) hown htab rfl (by decide) (hT _ w503) (tc_c rfl (hZ.1.1 ("java/lang/IllegalArgumentException", "java/lang/IllegalArgumentException") (List.mem_of_getElem? (i := 0) rfl))) (fun q9 H hsz9 hag9 => ?_)
  have hP := tc_P hP hag9
  have hS := tc_S hS hsz9 hag9
  refine W.eq (g2 := F0 m 12 ls [.ref q9]) rfl ?_
  refine lv_astore_n hx hb dL_count_12 rfl hl (by decide) rfl (fun ls hl => ?_)
  have hl : lv_has ls 4 [(3, .ref q9), (0, .ref (ad 0)), (1, .int v), (2, .ref zo)] := hl
  refine lv_iconst (v := 1) hx hb dL_count_13 (by decide) ?_
  have hP9 : va_P D vwCl ([(zo, .inl (cT 1, 1, .inr (.inl zw)))] ++ pg cds ad gg) _ := hP.part (cx := [(zo, .inl (cT 1, 1, .inr (.inl zw)))]) [0] rfl
  have hD9 : va_D A ([(zo, .inl (cT 1, 1, .inr (.inl zw)))] ++ pg cds ad gg) := hD.part (cx := [(zo, .inl (cT 1, 1, .inr (.inl zw)))]) [0] (by decide) rfl
  refine W.widen (k := 1) (n := 6) (Nat.le_of_ble_eq_true rfl) (Nat.le_of_ble_eq_true rfl) ?_
  exact W.iret (v := 1) hx hb hr (fun t9 ht9 hW9 => ⟨⟨1, (), rfl, (show 1 = 1 from rfl), by rw [ht9]; exact hP9, hD9⟩, hS.F ht9⟩) hS.2.2 dL_count_14
set_option maxHeartbeats 4000000 in
set_option maxRecDepth 100000 in
theorem l_count3 (l : Launch) (D : va_G) (cT : Nat → ClassId) (cds : List Nat) (ad : Nat → Nat) (gg : Nat → Option va_E) (wd9 : Int32) (rw9 : Int32) (fm : Nat) (F : TFR) (T : Nat) (n : Nat) (vv : Nat → Int32) (vq : Nat → Int32) (tg : Nat → Int32) (n0 : Nat) (zs0 : Nat → Int) (zf : Int) (zc : Int) (zo : Nat) (zw : Nat → Int64) (hcd : CD cds) (hob : gg 0 = some (eOB ad (nI T))) (htb : gg 1 = some (eTB ad wd9 rw9)) (hrn : rw9 = nI n) (hn48 : n ≤ 48) (hFr : FRp cT ad gg fm) (hTm : T ≤ fm) (hTs : TRS cT ad gg F T) (hTOK : TOK F T) (hT16 : T ≤ 16) (hCa : CAp cT ad gg) (hCo : COLa cT ad gg n vv vq) (hTg : TGp cT gg n tg) (htg : ∀ i, i < n → -1000 ≤ (tg i).toInt ∧ (tg i).toInt ≤ 1000) (hRs : RSp cT ad gg n0 zs0) (hLf : WHO cT ad gg 50 51 24 zf) (hCm : WHO cT ad gg 52 53 24 zc) (sz : Nat) : Met l yL_count WL_count ({ frames := 9, cells := 0, slots := 0, locals := 199 } : Room) (RW D vwCl [.ref (ad 0), .int 3, .ref zo] ([(zo, .inl (cT 1, 1, .inr (.inl zw)))] ++ pg cds ad gg) (TY cT) sz) (va_Qi (fun (r9 : Int32) (u9 : (Nat → Option va_E) × Nat × Int32) => r9 = 0 ∧ u9.2.2 = nI (bl u9.2.1) ∧ CMD n (xR F vv tg T) (Ppf F T) u9.2.1 ∧ (∀ z8, (z8 < 100 ∨ 200 ≤ z8) → z8 ≠ 50 → z8 ≠ 51 → z8 ≠ 52 → z8 ≠ 53 → u9.1 z8 = gg z8) ∧ (∃ y8, RSp cT ad u9.1 n y8) ∧ (∃ z8, WHO cT ad u9.1 50 51 24 z8) ∧ ∃ z8, WHO cT ad u9.1 52 53 24 z8) (BW D vwCl (va_A ([(zo, .inl (cT 1, 1, .inr (.inl zw)))] ++ pg cds ad gg) sz) (fun u9 : (Nat → Option va_E) × Nat × Int32 => ([(zo, .inl (cT 1, 1, .inr (.inl (vp_updL zw 0 (Int32.toInt64 u9.2.2)))))] ++ pg cds ad u9.1))) (va_A ([(zo, .inl (cT 1, 1, .inr (.inl zw)))] ++ pg cds ad gg) sz)) 0 0 (va_A ([(zo, .inl (cT 1, 1, .inr (.inl zw)))] ++ pg cds ad gg) sz) := by
  refine va_MetW (hh := [(0, 9, 12, 13)]) (cc := cL_count) (maxL := 4) (ret := (some .int)) (by decide) rfl ?_
  intro p e s m args below meth c s₁ B hml hv
  obtain ⟨rfl, hsz, hZ, hP, hK, hD0⟩ := hv
  have hx := B.exec
  have hb := B.bytes
  have hr := B.returns
  have hts := atoms_spec (ws := WL_count) B.pre
  have hT : ∀ w ∈ TB, w.before _ s = true := fun w h => hts w (List.mem_cons_of_mem _ h)
  have hown : s.vm.findClass R_L = some m.cls := findClass_of_methodNamed B.named
  have htab := tx_table B (bytes := cL_count) (maxL := 4) (ret := (some .int)) (hh := [(0, 9, 12, 13)]) (hts _ List.mem_cons_self)
  subst hsz
  have hD := hD0.self (sz := s.heap.size)
  generalize hAe : va_A ([(zo, .inl (cT 1, 1, .inr (.inl zw)))] ++ pg cds ad gg) s.heap.size = A at hD hZ ⊢
  have hA : ∀ q : Nat, s.heap.size ≤ q → A q := fun q h => by rw [← hAe]; exact Or.inr h
  have hS : va_S A s.heap s.heap [] := va_S.rf
  have hl := lv_entry ([.ref (ad 0), .int 3, .ref zo]) (n := 4) (Nat.le_of_ble_eq_true rfl)
  rw [lg_entry_eq]
  generalize (lg_sl ([.ref (ad 0), .int 3, .ref zo]) ++ List.replicate (4 - (lg_sl ([.ref (ad 0), .int 3, .ref zo])).length) Slot.unset).toArray = ls at hl ⊢
  have hl : lv_has ls 4 [(0, .ref (ad 0)), (1, .int 3), (2, .ref zo)] := hl
  refine lv_aload_n hx hb dL_count_0 rfl (lv_at hl 2 rfl) ?_
  refine lv_iconst (v := 0) hx hb dL_count_1 (by decide) ?_
  refine lv_aload_n hx hb dL_count_2 rfl (lv_at hl 0 rfl) ?_
  refine lv_iload_n hx hb dL_count_3 rfl (lv_at hl 1 rfl) ?_
  refine hy_iP (X := [(zo, .inl (cT 1, 1, .inr (.inl zw)))]) (pl := pg cds ad gg) (cx := []) (wr := [(zo, .inl (cT 1, 1, .inr (.inl zw)))]) hP hD hS hA [] [0] rfl rfl (by decide) (by decide) (va_runV (As := [.int 3]) (rest := [.int 0, .ref zo]) ⟨hx, hb, hml, hown, hT⟩ (k_count3 l D cT cds ad gg wd9 rw9 fm F T n vv vq tg n0 zs0 zf zc hcd hob htb hrn hn48 hFr hTm hTs hTOK hT16 hCa hCo hTg htg hRs hLf hCm _) ⟨callB_of 1 hT (tb_gd w1012) rfl rfl rfl (hT _ w1) (hT _ w1009) hR_count ⟨Nat.le_of_ble_eq_true rfl, Nat.le_of_ble_eq_true rfl⟩, (hT _ w1010), (hT _ w1011)⟩ (RW.preW (ci := 0) (q0 := 0) hZ hS (va_freeP (cx := []) hD hS hA [] rfl) (hP.part (cx := []) [] rfl) hK (hD.part (cx := []) [] (by decide) rfl) (pg_1 (x := 0) hcd hP (by decide) hob) rfl rfl) rfl rfl hl.1 rfl (lv_room (Nat.le_of_ble_eq_true rfl)) dL_count_4 ⟨Nat.le_of_ble_eq_true rfl, Nat.le_of_ble_eq_true rfl⟩) (fun ru1 u9 H locs hpu1 hP hD hS => ?_)
  obtain ⟨gg7u1, d7u1⟩ := u9
  have hpu1 : ru1 = nI (bl d7u1) ∧ CMD n (xR F vv tg T) (Ppf F T) d7u1 ∧ (∀ z8, (z8 < 100 ∨ 200 ≤ z8) → z8 ≠ 50 → z8 ≠ 51 → z8 ≠ 52 → z8 ≠ 53 → gg7u1 z8 = gg z8) ∧ (∃ y8, RSp cT ad gg7u1 n y8) ∧ (∃ z8, WHO cT ad gg7u1 50 51 24 z8) ∧ ∃ z8, WHO cT ad gg7u1 52 53 24 z8 := hpu1
  have hP : va_P D vwCl ([(zo, .inl (cT 1, 1, .inr (.inl zw)))] ++ pg cds ad gg7u1) _ := hP
  have hD : va_D A ([(zo, .inl (cT 1, 1, .inr (.inl zw)))] ++ pg cds ad gg7u1) := hD
  refine lv_i2l hx hb dL_count_7 rfl ?_
  refine va_last hx hb hK hP hD hS 0 1 rfl rfl (by unfold vp_in; decide) dL_count_8 (fun H locs hP hD hS => ?_)
  have hP : va_P D vwCl ([(zo, .inl (cT 1, 1, .inr (.inl (vp_updL zw 0 ((ru1 : Int32).toInt64)))))] ++ pg cds ad gg7u1) _ := hP
  have hD : va_D A ([(zo, .inl (cT 1, 1, .inr (.inl (vp_updL zw 0 ((ru1 : Int32).toInt64)))))] ++ pg cds ad gg7u1) := hD
  refine lv_goto (tgt := 15) hx hb dL_count_9 rfl ?_
  refine lv_iconst (v := 0) hx hb dL_count_15 (by decide) ?_
  have hP9 : va_P D vwCl ([(zo, .inl (cT 1, 1, .inr (.inl (vp_updL zw 0 (Int32.toInt64 ru1)))))] ++ pg cds ad gg7u1) _ := hP.part (cx := [(zo, .inl (cT 1, 1, .inr (.inl (vp_updL zw 0 (Int32.toInt64 ru1)))))]) [0] rfl
  have hD9 : va_D A ([(zo, .inl (cT 1, 1, .inr (.inl (vp_updL zw 0 (Int32.toInt64 ru1)))))] ++ pg cds ad gg7u1) := hD.part (cx := [(zo, .inl (cT 1, 1, .inr (.inl (vp_updL zw 0 (Int32.toInt64 ru1)))))]) [0] (by decide) rfl
  refine W.widen (k := 0) (n := 0) (Nat.le_of_ble_eq_true rfl) (Nat.le_of_ble_eq_true rfl) ?_
  exact W.iret (v := 0) hx hb hr (fun t9 ht9 hW9 => ⟨⟨0, (gg7u1, d7u1, ru1), rfl, (show 0 = 0 ∧ ru1 = nI (bl d7u1) ∧ CMD n (xR F vv tg T) (Ppf F T) d7u1 ∧ (∀ z8, (z8 < 100 ∨ 200 ≤ z8) → z8 ≠ 50 → z8 ≠ 51 → z8 ≠ 52 → z8 ≠ 53 → gg7u1 z8 = gg z8) ∧ (∃ y8, RSp cT ad gg7u1 n y8) ∧ (∃ z8, WHO cT ad gg7u1 50 51 24 z8) ∧ ∃ z8, WHO cT ad gg7u1 52 53 24 z8 from ⟨rfl, hpu1⟩), by rw [ht9]; exact hP9, hD9⟩, hS.F ht9⟩) hS.2.2 dL_count_16
set_option maxHeartbeats 4000000 in
set_option maxRecDepth 100000 in
theorem l_nodes (l : Launch) (D : va_G) (cT : Nat → ClassId) (cds : List Nat) (ad : Nat → Nat) (gg : Nat → Option va_E) (T : Nat) (fm : Nat) (F : TFR) (t : Nat) (zo : Nat) (zw : Nat → Int64) (hcd : CD cds) (hob : gg 0 = some (eOB ad (nI T))) (hFr : FRp cT ad gg fm) (hTm : T ≤ fm) (hTs : TRS cT ad gg F T) (hT16 : T ≤ 16) (htT : t < T) (hc0 : 0 ≤ nI t ∧ nI t ≤ nI T - 1) (sz : Nat) : Met l yL_nodes WL_nodes ({ frames := 4, cells := 0, slots := 0, locals := 85 } : Room) (RW D vwCl [.ref (ad 0), .int (nI t), .ref zo] ([(zo, .inl (cT 1, 1, .inr (.inl zw)))] ++ pg cds ad gg) (TY cT) sz) (va_Qi (fun (r9 : Int32) (u9 : Unit) => r9 = 0) (BW D vwCl (va_A ([(zo, .inl (cT 1, 1, .inr (.inl zw)))] ++ pg cds ad gg) sz) (fun u9 : Unit => ([(zo, .inl (cT 1, 1, .inr (.inl (vp_updL zw 0 (Int32.toInt64 (nI (tM F t)))))))] ++ pg cds ad gg))) (va_A ([(zo, .inl (cT 1, 1, .inr (.inl zw)))] ++ pg cds ad gg) sz)) 0 0 (va_A ([(zo, .inl (cT 1, 1, .inr (.inl zw)))] ++ pg cds ad gg) sz) := by
  refine va_MetW (hh := [(0, 9, 12, 13)]) (cc := cL_nodes) (maxL := 4) (ret := (some .int)) (by decide) rfl ?_
  intro p e s m args below meth c s₁ B hml hv
  obtain ⟨rfl, hsz, hZ, hP, hK, hD0⟩ := hv
  have hx := B.exec
  have hb := B.bytes
  have hr := B.returns
  have hts := atoms_spec (ws := WL_nodes) B.pre
  have hT : ∀ w ∈ TB, w.before _ s = true := fun w h => hts w (List.mem_cons_of_mem _ h)
  have hown : s.vm.findClass R_L = some m.cls := findClass_of_methodNamed B.named
  have htab := tx_table B (bytes := cL_nodes) (maxL := 4) (ret := (some .int)) (hh := [(0, 9, 12, 13)]) (hts _ List.mem_cons_self)
  subst hsz
  have hD := hD0.self (sz := s.heap.size)
  generalize hAe : va_A ([(zo, .inl (cT 1, 1, .inr (.inl zw)))] ++ pg cds ad gg) s.heap.size = A at hD hZ ⊢
  have hA : ∀ q : Nat, s.heap.size ≤ q → A q := fun q h => by rw [← hAe]; exact Or.inr h
  have hS : va_S A s.heap s.heap [] := va_S.rf
  have hl := lv_entry ([.ref (ad 0), .int (nI t), .ref zo]) (n := 4) (Nat.le_of_ble_eq_true rfl)
  rw [lg_entry_eq]
  generalize (lg_sl ([.ref (ad 0), .int (nI t), .ref zo]) ++ List.replicate (4 - (lg_sl ([.ref (ad 0), .int (nI t), .ref zo])).length) Slot.unset).toArray = ls at hl ⊢
  have hl : lv_has ls 4 [(0, .ref (ad 0)), (1, .int (nI t)), (2, .ref zo)] := hl
  refine lv_aload_n hx hb dL_nodes_0 rfl (lv_at hl 2 rfl) ?_
  refine lv_iconst (v := 0) hx hb dL_nodes_1 (by decide) ?_
  refine lv_aload_n hx hb dL_nodes_2 rfl (lv_at hl 0 rfl) ?_
  refine lv_iload_n hx hb dL_nodes_3 rfl (lv_at hl 1 rfl) ?_
  refine ro_i (va_Run.run (va_runV (As := [.int (nI t)]) (rest := [.int 0, .ref zo]) ⟨hx, hb, hml, hown, hT⟩ (k_nodes l D cT cds ad gg T fm F t hcd hob hFr hTm hTs hT16 htT hc0) ⟨callB_of 1 hT (tb_gd w1019) rfl rfl rfl (hT _ w1) (hT _ w1016) hR_nodes ⟨Nat.le_of_ble_eq_true rfl, Nat.le_of_ble_eq_true rfl⟩, (hT _ w1017), (hT _ w1018)⟩ (RO.preW (ci := 0) (q0 := 0) hZ hS ((show va_P D vwCl ([] ++ pg cds ad gg) _ from (pv_p hP))) hK (pg_1 (x := 0) hcd hP (by decide) hob) rfl rfl) rfl rfl hl.1 rfl (lv_room (Nat.le_of_ble_eq_true rfl)) dL_nodes_4 ⟨Nat.le_of_ble_eq_true rfl, Nat.le_of_ble_eq_true rfl⟩)) ?_
  refine lv_i2l hx hb dL_nodes_7 rfl ?_
  refine va_last hx hb hK hP hD hS 0 1 rfl rfl (by unfold vp_in; decide) dL_nodes_8 (fun H locs hP hD hS => ?_)
  have hP : va_P D vwCl ([(zo, .inl (cT 1, 1, .inr (.inl (vp_updL zw 0 ((nI (tM F t) : Int32).toInt64)))))] ++ pg cds ad gg) _ := hP
  have hD : va_D A ([(zo, .inl (cT 1, 1, .inr (.inl (vp_updL zw 0 ((nI (tM F t) : Int32).toInt64)))))] ++ pg cds ad gg) := hD
  refine lv_goto (tgt := 15) hx hb dL_nodes_9 rfl ?_
  refine lv_iconst (v := 0) hx hb dL_nodes_15 (by decide) ?_
  have hP9 : va_P D vwCl ([(zo, .inl (cT 1, 1, .inr (.inl (vp_updL zw 0 (Int32.toInt64 (nI (tM F t)))))))] ++ pg cds ad gg) _ := hP.part (cx := [(zo, .inl (cT 1, 1, .inr (.inl (vp_updL zw 0 (Int32.toInt64 (nI (tM F t)))))))]) [0] rfl
  have hD9 : va_D A ([(zo, .inl (cT 1, 1, .inr (.inl (vp_updL zw 0 (Int32.toInt64 (nI (tM F t)))))))] ++ pg cds ad gg) := hD.part (cx := [(zo, .inl (cT 1, 1, .inr (.inl (vp_updL zw 0 (Int32.toInt64 (nI (tM F t)))))))]) [0] (by decide) rfl
  refine W.widen (k := 0) (n := 0) (Nat.le_of_ble_eq_true rfl) (Nat.le_of_ble_eq_true rfl) ?_
  exact W.iret (v := 0) hx hb hr (fun t9 ht9 hW9 => ⟨⟨0, (), rfl, (show 0 = 0 from rfl), by rw [ht9]; exact hP9, hD9⟩, hS.F ht9⟩) hS.2.2 dL_nodes_16
set_option maxHeartbeats 4000000 in
set_option maxRecDepth 100000 in
theorem l_nodes_no (l : Launch) (D : va_G) (cT : Nat → ClassId) (cds : List Nat) (ad : Nat → Nat) (gg : Nat → Option va_E) (T : Nat) (v : Int32) (zo : Nat) (zw : Nat → Int64) (hlt : l.stackTraces = false) (hcd : CD cds) (hob : gg 0 = some (eOB ad (nI T))) (hq : ¬ (0 ≤ v ∧ v ≤ nI T - 1)) (sz : Nat) : Met l yL_nodes WL_nodes ({ frames := 8, cells := 1, slots := 6, locals := 132 } : Room) (RW D vwCl [.ref (ad 0), .int v, .ref zo] ([(zo, .inl (cT 1, 1, .inr (.inl zw)))] ++ pg cds ad gg) (TY cT) sz) (va_Qi (fun (r9 : Int32) (u9 : Unit) => r9 = 1) (BW D vwCl (va_A ([(zo, .inl (cT 1, 1, .inr (.inl zw)))] ++ pg cds ad gg) sz) (fun u9 : Unit => ([(zo, .inl (cT 1, 1, .inr (.inl zw)))] ++ pg cds ad gg))) (va_A ([(zo, .inl (cT 1, 1, .inr (.inl zw)))] ++ pg cds ad gg) sz)) 1 6 (va_A ([(zo, .inl (cT 1, 1, .inr (.inl zw)))] ++ pg cds ad gg) sz) := by
  refine va_MetW (hh := [(0, 9, 12, 13)]) (cc := cL_nodes) (maxL := 4) (ret := (some .int)) (by decide) rfl ?_
  intro p e s m args below meth c s₁ B hml hv
  obtain ⟨rfl, hsz, hZ, hP, hK, hD0⟩ := hv
  have hx := B.exec
  have hb := B.bytes
  have hr := B.returns
  have hts := atoms_spec (ws := WL_nodes) B.pre
  have hT : ∀ w ∈ TB, w.before _ s = true := fun w h => hts w (List.mem_cons_of_mem _ h)
  have hown : s.vm.findClass R_L = some m.cls := findClass_of_methodNamed B.named
  have htab := tx_table B (bytes := cL_nodes) (maxL := 4) (ret := (some .int)) (hh := [(0, 9, 12, 13)]) (hts _ List.mem_cons_self)
  subst hsz
  have hD := hD0.self (sz := s.heap.size)
  generalize hAe : va_A ([(zo, .inl (cT 1, 1, .inr (.inl zw)))] ++ pg cds ad gg) s.heap.size = A at hD hZ ⊢
  have hA : ∀ q : Nat, s.heap.size ≤ q → A q := fun q h => by rw [← hAe]; exact Or.inr h
  have hS : va_S A s.heap s.heap [] := va_S.rf
  have hl := lv_entry ([.ref (ad 0), .int v, .ref zo]) (n := 4) (Nat.le_of_ble_eq_true rfl)
  rw [lg_entry_eq]
  generalize (lg_sl ([.ref (ad 0), .int v, .ref zo]) ++ List.replicate (4 - (lg_sl ([.ref (ad 0), .int v, .ref zo])).length) Slot.unset).toArray = ls at hl ⊢
  have hl : lv_has ls 4 [(0, .ref (ad 0)), (1, .int v), (2, .ref zo)] := hl
  refine lv_aload_n hx hb dL_nodes_0 rfl (lv_at hl 2 rfl) ?_
  refine lv_iconst (v := 0) hx hb dL_nodes_1 (by decide) ?_
  refine lv_aload_n hx hb dL_nodes_2 rfl (lv_at hl 0 rfl) ?_
  refine lv_iload_n hx hb dL_nodes_3 rfl (lv_at hl 1 rfl) ?_
  refine tx_catch1 (name := "java/lang/IllegalArgumentException") (tx_goV (As := [.int v]) (rest := [.int 0, .ref zo]) ⟨hx, hb, hml, hown, hT⟩ (k_nodes_no l D cT cds ad gg T v hlt hcd hob hq) ⟨callB_of 1 hT (tb_gd w1019) rfl rfl rfl (hT _ w1) (hT _ w1016) hR_nodes ⟨Nat.le_of_ble_eq_true rfl, Nat.le_of_ble_eq_true rfl⟩, (hT _ w1017), (hT _ w1018)⟩ (RO.preW (ci := 0) (q0 := 0) hZ hS ((show va_P D vwCl ([] ++ pg cds ad gg) _ from (pv_p hP))) hK (pg_1 (x := 0) hcd hP (by decide) hob) rfl rfl) rfl hl.1 rfl (Nat.le_of_ble_eq_true rfl) dL_nodes_4 ⟨Nat.le_of_ble_eq_true rfl, Nat.le_of_ble_eq_true rfl⟩) hown htab rfl (by decide) (hT _ w503) (tc_c rfl (hZ.1.1 ("java/lang/IllegalArgumentException", "java/lang/IllegalArgumentException") (List.mem_of_getElem? (i := 0) rfl))) (fun q9 H hsz9 hag9 => ?_)
  have hP := tc_P hP hag9
  have hS := tc_S hS hsz9 hag9
  refine W.eq (g2 := F0 m 12 ls [.ref q9]) rfl ?_
  refine lv_astore_n hx hb dL_nodes_12 rfl hl (by decide) rfl (fun ls hl => ?_)
  have hl : lv_has ls 4 [(3, .ref q9), (0, .ref (ad 0)), (1, .int v), (2, .ref zo)] := hl
  refine lv_iconst (v := 1) hx hb dL_nodes_13 (by decide) ?_
  have hP9 : va_P D vwCl ([(zo, .inl (cT 1, 1, .inr (.inl zw)))] ++ pg cds ad gg) _ := hP.part (cx := [(zo, .inl (cT 1, 1, .inr (.inl zw)))]) [0] rfl
  have hD9 : va_D A ([(zo, .inl (cT 1, 1, .inr (.inl zw)))] ++ pg cds ad gg) := hD.part (cx := [(zo, .inl (cT 1, 1, .inr (.inl zw)))]) [0] (by decide) rfl
  refine W.widen (k := 1) (n := 6) (Nat.le_of_ble_eq_true rfl) (Nat.le_of_ble_eq_true rfl) ?_
  exact W.iret (v := 1) hx hb hr (fun t9 ht9 hW9 => ⟨⟨1, (), rfl, (show 1 = 1 from rfl), by rw [ht9]; exact hP9, hD9⟩, hS.F ht9⟩) hS.2.2 dL_nodes_14
set_option maxHeartbeats 4000000 in
set_option maxRecDepth 100000 in
theorem l_uses (l : Launch) (D : va_G) (cT : Nat → ClassId) (cds : List Nat) (ad : Nat → Nat) (gg : Nat → Option va_E) (T : Nat) (fm : Nat) (F : TFR) (wd9 : Int32) (rw9 : Int32) (v : Int32) (zo : Nat) (zw : Nat → Int64) (hcd : CD cds) (hob : gg 0 = some (eOB ad (nI T))) (hFr : FRp cT ad gg fm) (hTm : T ≤ fm) (hTs : TRS cT ad gg F T) (hT16 : T ≤ 16) (htb : gg 1 = some (eTB ad wd9 rw9)) (hTOK : TOK F T) (hc0 : 0 ≤ v ∧ v ≤ wd9 - 1) (sz : Nat) : Met l yL_uses WL_uses ({ frames := 5, cells := 0, slots := 0, locals := 110 } : Room) (RW D vwCl [.ref (ad 0), .int v, .ref zo] ([(zo, .inl (cT 1, 1, .inr (.inl zw)))] ++ pg cds ad gg) (TY cT) sz) (va_Qi (fun (r9 : Int32) (u9 : Unit) => r9 = 0) (BW D vwCl (va_A ([(zo, .inl (cT 1, 1, .inr (.inl zw)))] ++ pg cds ad gg) sz) (fun u9 : Unit => ([(zo, .inl (cT 1, 1, .inr (.inl (vp_updL zw 0 (Int32.toInt64 (nI (usf F v T)))))))] ++ pg cds ad gg))) (va_A ([(zo, .inl (cT 1, 1, .inr (.inl zw)))] ++ pg cds ad gg) sz)) 0 0 (va_A ([(zo, .inl (cT 1, 1, .inr (.inl zw)))] ++ pg cds ad gg) sz) := by
  refine va_MetW (hh := [(0, 9, 12, 13)]) (cc := cL_uses) (maxL := 4) (ret := (some .int)) (by decide) rfl ?_
  intro p e s m args below meth c s₁ B hml hv
  obtain ⟨rfl, hsz, hZ, hP, hK, hD0⟩ := hv
  have hx := B.exec
  have hb := B.bytes
  have hr := B.returns
  have hts := atoms_spec (ws := WL_uses) B.pre
  have hT : ∀ w ∈ TB, w.before _ s = true := fun w h => hts w (List.mem_cons_of_mem _ h)
  have hown : s.vm.findClass R_L = some m.cls := findClass_of_methodNamed B.named
  have htab := tx_table B (bytes := cL_uses) (maxL := 4) (ret := (some .int)) (hh := [(0, 9, 12, 13)]) (hts _ List.mem_cons_self)
  subst hsz
  have hD := hD0.self (sz := s.heap.size)
  generalize hAe : va_A ([(zo, .inl (cT 1, 1, .inr (.inl zw)))] ++ pg cds ad gg) s.heap.size = A at hD hZ ⊢
  have hA : ∀ q : Nat, s.heap.size ≤ q → A q := fun q h => by rw [← hAe]; exact Or.inr h
  have hS : va_S A s.heap s.heap [] := va_S.rf
  have hl := lv_entry ([.ref (ad 0), .int v, .ref zo]) (n := 4) (Nat.le_of_ble_eq_true rfl)
  rw [lg_entry_eq]
  generalize (lg_sl ([.ref (ad 0), .int v, .ref zo]) ++ List.replicate (4 - (lg_sl ([.ref (ad 0), .int v, .ref zo])).length) Slot.unset).toArray = ls at hl ⊢
  have hl : lv_has ls 4 [(0, .ref (ad 0)), (1, .int v), (2, .ref zo)] := hl
  refine lv_aload_n hx hb dL_uses_0 rfl (lv_at hl 2 rfl) ?_
  refine lv_iconst (v := 0) hx hb dL_uses_1 (by decide) ?_
  refine lv_aload_n hx hb dL_uses_2 rfl (lv_at hl 0 rfl) ?_
  refine lv_iload_n hx hb dL_uses_3 rfl (lv_at hl 1 rfl) ?_
  refine ro_i (va_Run.run (va_runV (As := [.int v]) (rest := [.int 0, .ref zo]) ⟨hx, hb, hml, hown, hT⟩ (k_uses l D cT cds ad gg T fm F wd9 rw9 v hcd hob hFr hTm hTs hT16 htb hTOK hc0) ⟨callB_of 1 hT (tb_gd w1026) rfl rfl rfl (hT _ w1) (hT _ w1023) hR_uses ⟨Nat.le_of_ble_eq_true rfl, Nat.le_of_ble_eq_true rfl⟩, (hT _ w1024), (hT _ w1025)⟩ (RO.preW (ci := 0) (q0 := 0) hZ hS ((show va_P D vwCl ([] ++ pg cds ad gg) _ from (pv_p hP))) hK (pg_1 (x := 0) hcd hP (by decide) hob) rfl rfl) rfl rfl hl.1 rfl (lv_room (Nat.le_of_ble_eq_true rfl)) dL_uses_4 ⟨Nat.le_of_ble_eq_true rfl, Nat.le_of_ble_eq_true rfl⟩)) ?_
  refine lv_i2l hx hb dL_uses_7 rfl ?_
  refine va_last hx hb hK hP hD hS 0 1 rfl rfl (by unfold vp_in; decide) dL_uses_8 (fun H locs hP hD hS => ?_)
  have hP : va_P D vwCl ([(zo, .inl (cT 1, 1, .inr (.inl (vp_updL zw 0 ((nI (usf F v T) : Int32).toInt64)))))] ++ pg cds ad gg) _ := hP
  have hD : va_D A ([(zo, .inl (cT 1, 1, .inr (.inl (vp_updL zw 0 ((nI (usf F v T) : Int32).toInt64)))))] ++ pg cds ad gg) := hD
  refine lv_goto (tgt := 15) hx hb dL_uses_9 rfl ?_
  refine lv_iconst (v := 0) hx hb dL_uses_15 (by decide) ?_
  have hP9 : va_P D vwCl ([(zo, .inl (cT 1, 1, .inr (.inl (vp_updL zw 0 (Int32.toInt64 (nI (usf F v T)))))))] ++ pg cds ad gg) _ := hP.part (cx := [(zo, .inl (cT 1, 1, .inr (.inl (vp_updL zw 0 (Int32.toInt64 (nI (usf F v T)))))))]) [0] rfl
  have hD9 : va_D A ([(zo, .inl (cT 1, 1, .inr (.inl (vp_updL zw 0 (Int32.toInt64 (nI (usf F v T)))))))] ++ pg cds ad gg) := hD.part (cx := [(zo, .inl (cT 1, 1, .inr (.inl (vp_updL zw 0 (Int32.toInt64 (nI (usf F v T)))))))]) [0] (by decide) rfl
  refine W.widen (k := 0) (n := 0) (Nat.le_of_ble_eq_true rfl) (Nat.le_of_ble_eq_true rfl) ?_
  exact W.iret (v := 0) hx hb hr (fun t9 ht9 hW9 => ⟨⟨0, (), rfl, (show 0 = 0 from rfl), by rw [ht9]; exact hP9, hD9⟩, hS.F ht9⟩) hS.2.2 dL_uses_16
set_option maxHeartbeats 4000000 in
set_option maxRecDepth 100000 in
theorem l_uses_no (l : Launch) (D : va_G) (cT : Nat → ClassId) (cds : List Nat) (ad : Nat → Nat) (gg : Nat → Option va_E) (T : Nat) (wd9 : Int32) (rw9 : Int32) (v : Int32) (zo : Nat) (zw : Nat → Int64) (hlt : l.stackTraces = false) (hcd : CD cds) (hob : gg 0 = some (eOB ad (nI T))) (htb : gg 1 = some (eTB ad wd9 rw9)) (hq : ¬ (0 ≤ v ∧ v ≤ wd9 - 1)) (sz : Nat) : Met l yL_uses WL_uses ({ frames := 8, cells := 1, slots := 6, locals := 134 } : Room) (RW D vwCl [.ref (ad 0), .int v, .ref zo] ([(zo, .inl (cT 1, 1, .inr (.inl zw)))] ++ pg cds ad gg) (TY cT) sz) (va_Qi (fun (r9 : Int32) (u9 : Unit) => r9 = 1) (BW D vwCl (va_A ([(zo, .inl (cT 1, 1, .inr (.inl zw)))] ++ pg cds ad gg) sz) (fun u9 : Unit => ([(zo, .inl (cT 1, 1, .inr (.inl zw)))] ++ pg cds ad gg))) (va_A ([(zo, .inl (cT 1, 1, .inr (.inl zw)))] ++ pg cds ad gg) sz)) 1 6 (va_A ([(zo, .inl (cT 1, 1, .inr (.inl zw)))] ++ pg cds ad gg) sz) := by
  refine va_MetW (hh := [(0, 9, 12, 13)]) (cc := cL_uses) (maxL := 4) (ret := (some .int)) (by decide) rfl ?_
  intro p e s m args below meth c s₁ B hml hv
  obtain ⟨rfl, hsz, hZ, hP, hK, hD0⟩ := hv
  have hx := B.exec
  have hb := B.bytes
  have hr := B.returns
  have hts := atoms_spec (ws := WL_uses) B.pre
  have hT : ∀ w ∈ TB, w.before _ s = true := fun w h => hts w (List.mem_cons_of_mem _ h)
  have hown : s.vm.findClass R_L = some m.cls := findClass_of_methodNamed B.named
  have htab := tx_table B (bytes := cL_uses) (maxL := 4) (ret := (some .int)) (hh := [(0, 9, 12, 13)]) (hts _ List.mem_cons_self)
  subst hsz
  have hD := hD0.self (sz := s.heap.size)
  generalize hAe : va_A ([(zo, .inl (cT 1, 1, .inr (.inl zw)))] ++ pg cds ad gg) s.heap.size = A at hD hZ ⊢
  have hA : ∀ q : Nat, s.heap.size ≤ q → A q := fun q h => by rw [← hAe]; exact Or.inr h
  have hS : va_S A s.heap s.heap [] := va_S.rf
  have hl := lv_entry ([.ref (ad 0), .int v, .ref zo]) (n := 4) (Nat.le_of_ble_eq_true rfl)
  rw [lg_entry_eq]
  generalize (lg_sl ([.ref (ad 0), .int v, .ref zo]) ++ List.replicate (4 - (lg_sl ([.ref (ad 0), .int v, .ref zo])).length) Slot.unset).toArray = ls at hl ⊢
  have hl : lv_has ls 4 [(0, .ref (ad 0)), (1, .int v), (2, .ref zo)] := hl
  refine lv_aload_n hx hb dL_uses_0 rfl (lv_at hl 2 rfl) ?_
  refine lv_iconst (v := 0) hx hb dL_uses_1 (by decide) ?_
  refine lv_aload_n hx hb dL_uses_2 rfl (lv_at hl 0 rfl) ?_
  refine lv_iload_n hx hb dL_uses_3 rfl (lv_at hl 1 rfl) ?_
  refine tx_catch1 (name := "java/lang/IllegalArgumentException") (tx_goV (As := [.int v]) (rest := [.int 0, .ref zo]) ⟨hx, hb, hml, hown, hT⟩ (k_uses_no l D cT cds ad gg T wd9 rw9 v hlt hcd hob htb hq) ⟨callB_of 1 hT (tb_gd w1026) rfl rfl rfl (hT _ w1) (hT _ w1023) hR_uses ⟨Nat.le_of_ble_eq_true rfl, Nat.le_of_ble_eq_true rfl⟩, (hT _ w1024), (hT _ w1025)⟩ (RO.preW (ci := 0) (q0 := 0) hZ hS ((show va_P D vwCl ([] ++ pg cds ad gg) _ from (pv_p hP))) hK (pg_1 (x := 0) hcd hP (by decide) hob) rfl rfl) rfl hl.1 rfl (Nat.le_of_ble_eq_true rfl) dL_uses_4 ⟨Nat.le_of_ble_eq_true rfl, Nat.le_of_ble_eq_true rfl⟩) hown htab rfl (by decide) (hT _ w503) (tc_c rfl (hZ.1.1 ("java/lang/IllegalArgumentException", "java/lang/IllegalArgumentException") (List.mem_of_getElem? (i := 0) rfl))) (fun q9 H hsz9 hag9 => ?_)
  have hP := tc_P hP hag9
  have hS := tc_S hS hsz9 hag9
  refine W.eq (g2 := F0 m 12 ls [.ref q9]) rfl ?_
  refine lv_astore_n hx hb dL_uses_12 rfl hl (by decide) rfl (fun ls hl => ?_)
  have hl : lv_has ls 4 [(3, .ref q9), (0, .ref (ad 0)), (1, .int v), (2, .ref zo)] := hl
  refine lv_iconst (v := 1) hx hb dL_uses_13 (by decide) ?_
  have hP9 : va_P D vwCl ([(zo, .inl (cT 1, 1, .inr (.inl zw)))] ++ pg cds ad gg) _ := hP.part (cx := [(zo, .inl (cT 1, 1, .inr (.inl zw)))]) [0] rfl
  have hD9 : va_D A ([(zo, .inl (cT 1, 1, .inr (.inl zw)))] ++ pg cds ad gg) := hD.part (cx := [(zo, .inl (cT 1, 1, .inr (.inl zw)))]) [0] (by decide) rfl
  refine W.widen (k := 1) (n := 6) (Nat.le_of_ble_eq_true rfl) (Nat.le_of_ble_eq_true rfl) ?_
  exact W.iret (v := 1) hx hb hr (fun t9 ht9 hW9 => ⟨⟨1, (), rfl, (show 1 = 1 from rfl), by rw [ht9]; exact hP9, hD9⟩, hS.F ht9⟩) hS.2.2 dL_uses_14
set_option maxHeartbeats 4000000 in
set_option maxRecDepth 100000 in
theorem l_tellL (l : Launch) (D : va_G) (cT : Nat → ClassId) (cds : List Nat) (ad : Nat → Nat) (gg : Nat → Option va_E) (T : Nat) (fm : Nat) (F : TFR) (t : Nat) (k : Nat) (L0 : Nat) (fo : Nat → Int32) (zc : Int) (zq : Int) (wd9 : Int32) (rw9 : Int32) (zo : Nat) (zw : Nat → Int64) (hcd : CD cds) (hob : gg 0 = some (eOB ad (nI T))) (hFr : FRp cT ad gg fm) (hTm : T ≤ fm) (hTs : TRS cT ad gg F T) (hT16 : T ≤ 16) (htT : t < T) (hc0 : 0 ≤ nI t ∧ nI t ≤ nI T - 1) (hk0 : 0 ≤ nI k ∧ nI k ≤ nI (tM F t) - 1) (hkm : k < tM F t) (hTOK : TOK F T) (htb : gg 1 = some (eTB ad wd9 rw9)) (hOut : OUTp cT ad gg L0 fo) (hCm : WHO cT ad gg 52 53 24 zc) (hS1 : WHO cT ad gg 54 55 48 zq) (hlf : tA F 0 (31 * t + k) = -1) (sz : Nat) : Met l yL_tell WL_tell ({ frames := 5, cells := 0, slots := 0, locals := 121 } : Room) (RW D vwCl [.ref (ad 0), .int (nI t), .int (nI k), .ref zo] ([(zo, .inl (cT 1, 1, .inr (.inl zw)))] ++ pg cds ad gg) (TY cT) sz) (va_Qi (fun (r9 : Int32) (u9 : (Nat → Option va_E) × Nat × (Nat → Int32) × Int × Nat × Int32) => r9 = 0 ∧ u9.2.2.2.2.2 = nI u9.2.1 ∧ u9.2.1 ≤ 866 ∧ WRT u9.2.2.1 u9.2.1 u9.2.2.2.1 u9.2.2.2.2.1 ∧ RDC (tS F t k * (tU F t : Int)) (Ppf F t * unr F t k) u9.2.2.2.1 u9.2.2.2.2.1 ∧ OUTp cT ad u9.1 u9.2.1 u9.2.2.1 ∧ (∀ z8, (z8 < 41 ∨ 47 < z8) → (z8 < 52 ∨ 55 < z8) → u9.1 z8 = gg z8) ∧ (∃ z8, WHO cT ad u9.1 52 53 24 z8) ∧ ∃ z8, WHO cT ad u9.1 54 55 48 z8) (BW D vwCl (va_A ([(zo, .inl (cT 1, 1, .inr (.inl zw)))] ++ pg cds ad gg) sz) (fun u9 : (Nat → Option va_E) × Nat × (Nat → Int32) × Int × Nat × Int32 => ([(zo, .inl (cT 1, 1, .inr (.inl (vp_updL zw 0 (Int32.toInt64 u9.2.2.2.2.2)))))] ++ pg cds ad u9.1))) (va_A ([(zo, .inl (cT 1, 1, .inr (.inl zw)))] ++ pg cds ad gg) sz)) 0 0 (va_A ([(zo, .inl (cT 1, 1, .inr (.inl zw)))] ++ pg cds ad gg) sz) := by
  refine va_MetW (hh := [(0, 10, 13, 13)]) (cc := cL_tell) (maxL := 5) (ret := (some .int)) (by decide) rfl ?_
  intro p e s m args below meth c s₁ B hml hv
  obtain ⟨rfl, hsz, hZ, hP, hK, hD0⟩ := hv
  have hx := B.exec
  have hb := B.bytes
  have hr := B.returns
  have hts := atoms_spec (ws := WL_tell) B.pre
  have hT : ∀ w ∈ TB, w.before _ s = true := fun w h => hts w (List.mem_cons_of_mem _ h)
  have hown : s.vm.findClass R_L = some m.cls := findClass_of_methodNamed B.named
  have htab := tx_table B (bytes := cL_tell) (maxL := 5) (ret := (some .int)) (hh := [(0, 10, 13, 13)]) (hts _ List.mem_cons_self)
  subst hsz
  have hD := hD0.self (sz := s.heap.size)
  generalize hAe : va_A ([(zo, .inl (cT 1, 1, .inr (.inl zw)))] ++ pg cds ad gg) s.heap.size = A at hD hZ ⊢
  have hA : ∀ q : Nat, s.heap.size ≤ q → A q := fun q h => by rw [← hAe]; exact Or.inr h
  have hS : va_S A s.heap s.heap [] := va_S.rf
  have hl := lv_entry ([.ref (ad 0), .int (nI t), .int (nI k), .ref zo]) (n := 5) (Nat.le_of_ble_eq_true rfl)
  rw [lg_entry_eq]
  generalize (lg_sl ([.ref (ad 0), .int (nI t), .int (nI k), .ref zo]) ++ List.replicate (5 - (lg_sl ([.ref (ad 0), .int (nI t), .int (nI k), .ref zo])).length) Slot.unset).toArray = ls at hl ⊢
  have hl : lv_has ls 5 [(0, .ref (ad 0)), (1, .int (nI t)), (2, .int (nI k)), (3, .ref zo)] := hl
  refine lv_aload_n hx hb dL_tell_0 rfl (lv_at hl 3 rfl) ?_
  refine lv_iconst (v := 0) hx hb dL_tell_1 (by decide) ?_
  refine lv_aload_n hx hb dL_tell_2 rfl (lv_at hl 0 rfl) ?_
  refine lv_iload_n hx hb dL_tell_3 rfl (lv_at hl 1 rfl) ?_
  refine lv_iload_n hx hb dL_tell_4 rfl (lv_at hl 2 rfl) ?_
  refine hy_iP (X := [(zo, .inl (cT 1, 1, .inr (.inl zw)))]) (pl := pg cds ad gg) (cx := []) (wr := [(zo, .inl (cT 1, 1, .inr (.inl zw)))]) hP hD hS hA [] [0] rfl rfl (by decide) (by decide) (va_runV (As := [.int (nI t), .int (nI k)]) (rest := [.int 0, .ref zo]) ⟨hx, hb, hml, hown, hT⟩ (k_tellL l D cT cds ad gg T fm F t k L0 fo zc zq wd9 rw9 hcd hob hFr hTm hTs hT16 htT hc0 hk0 hkm hTOK htb hOut hCm hS1 hlf _) ⟨callB_of 2 hT (tb_gd w1037) rfl rfl rfl (hT _ w1) (hT _ w1034) hR_tell ⟨Nat.le_of_ble_eq_true rfl, Nat.le_of_ble_eq_true rfl⟩, (hT _ w1035), (hT _ w1036)⟩ (RW.preW (ci := 0) (q0 := 0) hZ hS (va_freeP (cx := []) hD hS hA [] rfl) (hP.part (cx := []) [] rfl) hK (hD.part (cx := []) [] (by decide) rfl) (pg_1 (x := 0) hcd hP (by decide) hob) rfl rfl) rfl rfl hl.1 rfl (lv_room (Nat.le_of_ble_eq_true rfl)) dL_tell_5 ⟨Nat.le_of_ble_eq_true rfl, Nat.le_of_ble_eq_true rfl⟩) (fun ru1 u9 H locs hpu1 hP hD hS => ?_)
  obtain ⟨gg7u1, L7u1, fo7u1, z7u1, d7u1⟩ := u9
  have hpu1 : ru1 = nI L7u1 ∧ L7u1 ≤ 866 ∧ WRT fo7u1 L7u1 z7u1 d7u1 ∧ RDC (tS F t k * (tU F t : Int)) (Ppf F t * unr F t k) z7u1 d7u1 ∧ OUTp cT ad gg7u1 L7u1 fo7u1 ∧ (∀ z8, (z8 < 41 ∨ 47 < z8) → (z8 < 52 ∨ 55 < z8) → gg7u1 z8 = gg z8) ∧ (∃ z8, WHO cT ad gg7u1 52 53 24 z8) ∧ ∃ z8, WHO cT ad gg7u1 54 55 48 z8 := hpu1
  have hP : va_P D vwCl ([(zo, .inl (cT 1, 1, .inr (.inl zw)))] ++ pg cds ad gg7u1) _ := hP
  have hD : va_D A ([(zo, .inl (cT 1, 1, .inr (.inl zw)))] ++ pg cds ad gg7u1) := hD
  refine lv_i2l hx hb dL_tell_8 rfl ?_
  refine va_last hx hb hK hP hD hS 0 1 rfl rfl (by unfold vp_in; decide) dL_tell_9 (fun H locs hP hD hS => ?_)
  have hP : va_P D vwCl ([(zo, .inl (cT 1, 1, .inr (.inl (vp_updL zw 0 ((ru1 : Int32).toInt64)))))] ++ pg cds ad gg7u1) _ := hP
  have hD : va_D A ([(zo, .inl (cT 1, 1, .inr (.inl (vp_updL zw 0 ((ru1 : Int32).toInt64)))))] ++ pg cds ad gg7u1) := hD
  refine lv_goto (tgt := 17) hx hb dL_tell_10 rfl ?_
  refine lv_iconst (v := 0) hx hb dL_tell_17 (by decide) ?_
  have hP9 : va_P D vwCl ([(zo, .inl (cT 1, 1, .inr (.inl (vp_updL zw 0 (Int32.toInt64 ru1)))))] ++ pg cds ad gg7u1) _ := hP.part (cx := [(zo, .inl (cT 1, 1, .inr (.inl (vp_updL zw 0 (Int32.toInt64 ru1)))))]) [0] rfl
  have hD9 : va_D A ([(zo, .inl (cT 1, 1, .inr (.inl (vp_updL zw 0 (Int32.toInt64 ru1)))))] ++ pg cds ad gg7u1) := hD.part (cx := [(zo, .inl (cT 1, 1, .inr (.inl (vp_updL zw 0 (Int32.toInt64 ru1)))))]) [0] (by decide) rfl
  refine W.widen (k := 0) (n := 0) (Nat.le_of_ble_eq_true rfl) (Nat.le_of_ble_eq_true rfl) ?_
  exact W.iret (v := 0) hx hb hr (fun t9 ht9 hW9 => ⟨⟨0, (gg7u1, L7u1, fo7u1, z7u1, d7u1, ru1), rfl, (show 0 = 0 ∧ ru1 = nI L7u1 ∧ L7u1 ≤ 866 ∧ WRT fo7u1 L7u1 z7u1 d7u1 ∧ RDC (tS F t k * (tU F t : Int)) (Ppf F t * unr F t k) z7u1 d7u1 ∧ OUTp cT ad gg7u1 L7u1 fo7u1 ∧ (∀ z8, (z8 < 41 ∨ 47 < z8) → (z8 < 52 ∨ 55 < z8) → gg7u1 z8 = gg z8) ∧ (∃ z8, WHO cT ad gg7u1 52 53 24 z8) ∧ ∃ z8, WHO cT ad gg7u1 54 55 48 z8 from ⟨rfl, hpu1⟩), by rw [ht9]; exact hP9, hD9⟩, hS.F ht9⟩) hS.2.2 dL_tell_18
set_option maxHeartbeats 4000000 in
set_option maxRecDepth 100000 in
theorem l_tellS (l : Launch) (D : va_G) (cT : Nat → ClassId) (cds : List Nat) (ad : Nat → Nat) (gg : Nat → Option va_E) (T : Nat) (fm : Nat) (F : TFR) (t : Nat) (k : Nat) (L0 : Nat) (fo : Nat → Int32) (zc : Int) (zq : Int) (wd9 : Int32) (rw9 : Int32) (zo : Nat) (zw : Nat → Int64) (hcd : CD cds) (hob : gg 0 = some (eOB ad (nI T))) (hFr : FRp cT ad gg fm) (hTm : T ≤ fm) (hTs : TRS cT ad gg F T) (hT16 : T ≤ 16) (htT : t < T) (hc0 : 0 ≤ nI t ∧ nI t ≤ nI T - 1) (hk0 : 0 ≤ nI k ∧ nI k ≤ nI (tM F t) - 1) (hkm : k < tM F t) (hTOK : TOK F T) (htb : gg 1 = some (eTB ad wd9 rw9)) (hOut : OUTp cT ad gg L0 fo) (hCm : WHO cT ad gg 52 53 24 zc) (hS1 : WHO cT ad gg 54 55 48 zq) (hnl : ¬ tA F 0 (31 * t + k) = -1) (hlr : ¬ (dg (tA F 3) (31 * t + k)) = (dg (tA F 4) (31 * t + k))) (sz : Nat) : Met l yL_tell WL_tell ({ frames := 6, cells := 0, slots := 0, locals := 153 } : Room) (RW D vwCl [.ref (ad 0), .int (nI t), .int (nI k), .ref zo] ([(zo, .inl (cT 1, 1, .inr (.inl zw)))] ++ pg cds ad gg) (TY cT) sz) (va_Qi (fun (r9 : Int32) (u9 : (Nat → Option va_E) × Nat × (Nat → Int32) × Int × Nat × Int32) => r9 = 0 ∧ u9.2.2.2.2.2 = nI u9.2.1 ∧ u9.2.1 ≤ 866 ∧ WRT u9.2.2.1 u9.2.1 u9.2.2.2.1 u9.2.2.2.2.1 ∧ RDC (gZ (tS F t (dg (tA F 3) (31 * t + k))) (tS F t (dg (tA F 4) (31 * t + k))) (nR F t (dg (tA F 3) (31 * t + k)) + tW F t) (nR F t (dg (tA F 4) (31 * t + k)) + tW F t) (nR F t k + tW F t)) (Ppf F t * Ppf F t * ((nR F t (dg (tA F 3) (31 * t + k)) + tW F t) * (nR F t (dg (tA F 4) (31 * t + k)) + tW F t) * (nR F t k + tW F t))) u9.2.2.2.1 u9.2.2.2.2.1 ∧ OUTp cT ad u9.1 u9.2.1 u9.2.2.1 ∧ (∀ z8, (z8 < 41 ∨ 47 < z8) → (z8 < 52 ∨ 55 < z8) → u9.1 z8 = gg z8) ∧ (∃ z8, WHO cT ad u9.1 52 53 24 z8) ∧ ∃ z8, WHO cT ad u9.1 54 55 48 z8) (BW D vwCl (va_A ([(zo, .inl (cT 1, 1, .inr (.inl zw)))] ++ pg cds ad gg) sz) (fun u9 : (Nat → Option va_E) × Nat × (Nat → Int32) × Int × Nat × Int32 => ([(zo, .inl (cT 1, 1, .inr (.inl (vp_updL zw 0 (Int32.toInt64 u9.2.2.2.2.2)))))] ++ pg cds ad u9.1))) (va_A ([(zo, .inl (cT 1, 1, .inr (.inl zw)))] ++ pg cds ad gg) sz)) 0 0 (va_A ([(zo, .inl (cT 1, 1, .inr (.inl zw)))] ++ pg cds ad gg) sz) := by
  refine va_MetW (hh := [(0, 10, 13, 13)]) (cc := cL_tell) (maxL := 5) (ret := (some .int)) (by decide) rfl ?_
  intro p e s m args below meth c s₁ B hml hv
  obtain ⟨rfl, hsz, hZ, hP, hK, hD0⟩ := hv
  have hx := B.exec
  have hb := B.bytes
  have hr := B.returns
  have hts := atoms_spec (ws := WL_tell) B.pre
  have hT : ∀ w ∈ TB, w.before _ s = true := fun w h => hts w (List.mem_cons_of_mem _ h)
  have hown : s.vm.findClass R_L = some m.cls := findClass_of_methodNamed B.named
  have htab := tx_table B (bytes := cL_tell) (maxL := 5) (ret := (some .int)) (hh := [(0, 10, 13, 13)]) (hts _ List.mem_cons_self)
  subst hsz
  have hD := hD0.self (sz := s.heap.size)
  generalize hAe : va_A ([(zo, .inl (cT 1, 1, .inr (.inl zw)))] ++ pg cds ad gg) s.heap.size = A at hD hZ ⊢
  have hA : ∀ q : Nat, s.heap.size ≤ q → A q := fun q h => by rw [← hAe]; exact Or.inr h
  have hS : va_S A s.heap s.heap [] := va_S.rf
  have hl := lv_entry ([.ref (ad 0), .int (nI t), .int (nI k), .ref zo]) (n := 5) (Nat.le_of_ble_eq_true rfl)
  rw [lg_entry_eq]
  generalize (lg_sl ([.ref (ad 0), .int (nI t), .int (nI k), .ref zo]) ++ List.replicate (5 - (lg_sl ([.ref (ad 0), .int (nI t), .int (nI k), .ref zo])).length) Slot.unset).toArray = ls at hl ⊢
  have hl : lv_has ls 5 [(0, .ref (ad 0)), (1, .int (nI t)), (2, .int (nI k)), (3, .ref zo)] := hl
  refine lv_aload_n hx hb dL_tell_0 rfl (lv_at hl 3 rfl) ?_
  refine lv_iconst (v := 0) hx hb dL_tell_1 (by decide) ?_
  refine lv_aload_n hx hb dL_tell_2 rfl (lv_at hl 0 rfl) ?_
  refine lv_iload_n hx hb dL_tell_3 rfl (lv_at hl 1 rfl) ?_
  refine lv_iload_n hx hb dL_tell_4 rfl (lv_at hl 2 rfl) ?_
  refine hy_iP (X := [(zo, .inl (cT 1, 1, .inr (.inl zw)))]) (pl := pg cds ad gg) (cx := []) (wr := [(zo, .inl (cT 1, 1, .inr (.inl zw)))]) hP hD hS hA [] [0] rfl rfl (by decide) (by decide) (va_runV (As := [.int (nI t), .int (nI k)]) (rest := [.int 0, .ref zo]) ⟨hx, hb, hml, hown, hT⟩ (k_tellS l D cT cds ad gg T fm F t k L0 fo zc zq wd9 rw9 hcd hob hFr hTm hTs hT16 htT hc0 hk0 hkm hTOK htb hOut hCm hS1 hnl hlr _) ⟨callB_of 2 hT (tb_gd w1037) rfl rfl rfl (hT _ w1) (hT _ w1034) hR_tell ⟨Nat.le_of_ble_eq_true rfl, Nat.le_of_ble_eq_true rfl⟩, (hT _ w1035), (hT _ w1036)⟩ (RW.preW (ci := 0) (q0 := 0) hZ hS (va_freeP (cx := []) hD hS hA [] rfl) (hP.part (cx := []) [] rfl) hK (hD.part (cx := []) [] (by decide) rfl) (pg_1 (x := 0) hcd hP (by decide) hob) rfl rfl) rfl rfl hl.1 rfl (lv_room (Nat.le_of_ble_eq_true rfl)) dL_tell_5 ⟨Nat.le_of_ble_eq_true rfl, Nat.le_of_ble_eq_true rfl⟩) (fun ru1 u9 H locs hpu1 hP hD hS => ?_)
  obtain ⟨gg7u1, L7u1, fo7u1, z7u1, d7u1⟩ := u9
  have hpu1 : ru1 = nI L7u1 ∧ L7u1 ≤ 866 ∧ WRT fo7u1 L7u1 z7u1 d7u1 ∧ RDC (gZ (tS F t (dg (tA F 3) (31 * t + k))) (tS F t (dg (tA F 4) (31 * t + k))) (nR F t (dg (tA F 3) (31 * t + k)) + tW F t) (nR F t (dg (tA F 4) (31 * t + k)) + tW F t) (nR F t k + tW F t)) (Ppf F t * Ppf F t * ((nR F t (dg (tA F 3) (31 * t + k)) + tW F t) * (nR F t (dg (tA F 4) (31 * t + k)) + tW F t) * (nR F t k + tW F t))) z7u1 d7u1 ∧ OUTp cT ad gg7u1 L7u1 fo7u1 ∧ (∀ z8, (z8 < 41 ∨ 47 < z8) → (z8 < 52 ∨ 55 < z8) → gg7u1 z8 = gg z8) ∧ (∃ z8, WHO cT ad gg7u1 52 53 24 z8) ∧ ∃ z8, WHO cT ad gg7u1 54 55 48 z8 := hpu1
  have hP : va_P D vwCl ([(zo, .inl (cT 1, 1, .inr (.inl zw)))] ++ pg cds ad gg7u1) _ := hP
  have hD : va_D A ([(zo, .inl (cT 1, 1, .inr (.inl zw)))] ++ pg cds ad gg7u1) := hD
  refine lv_i2l hx hb dL_tell_8 rfl ?_
  refine va_last hx hb hK hP hD hS 0 1 rfl rfl (by unfold vp_in; decide) dL_tell_9 (fun H locs hP hD hS => ?_)
  have hP : va_P D vwCl ([(zo, .inl (cT 1, 1, .inr (.inl (vp_updL zw 0 ((ru1 : Int32).toInt64)))))] ++ pg cds ad gg7u1) _ := hP
  have hD : va_D A ([(zo, .inl (cT 1, 1, .inr (.inl (vp_updL zw 0 ((ru1 : Int32).toInt64)))))] ++ pg cds ad gg7u1) := hD
  refine lv_goto (tgt := 17) hx hb dL_tell_10 rfl ?_
  refine lv_iconst (v := 0) hx hb dL_tell_17 (by decide) ?_
  have hP9 : va_P D vwCl ([(zo, .inl (cT 1, 1, .inr (.inl (vp_updL zw 0 (Int32.toInt64 ru1)))))] ++ pg cds ad gg7u1) _ := hP.part (cx := [(zo, .inl (cT 1, 1, .inr (.inl (vp_updL zw 0 (Int32.toInt64 ru1)))))]) [0] rfl
  have hD9 : va_D A ([(zo, .inl (cT 1, 1, .inr (.inl (vp_updL zw 0 (Int32.toInt64 ru1)))))] ++ pg cds ad gg7u1) := hD.part (cx := [(zo, .inl (cT 1, 1, .inr (.inl (vp_updL zw 0 (Int32.toInt64 ru1)))))]) [0] (by decide) rfl
  refine W.widen (k := 0) (n := 0) (Nat.le_of_ble_eq_true rfl) (Nat.le_of_ble_eq_true rfl) ?_
  exact W.iret (v := 0) hx hb hr (fun t9 ht9 hW9 => ⟨⟨0, (gg7u1, L7u1, fo7u1, z7u1, d7u1, ru1), rfl, (show 0 = 0 ∧ ru1 = nI L7u1 ∧ L7u1 ≤ 866 ∧ WRT fo7u1 L7u1 z7u1 d7u1 ∧ RDC (gZ (tS F t (dg (tA F 3) (31 * t + k))) (tS F t (dg (tA F 4) (31 * t + k))) (nR F t (dg (tA F 3) (31 * t + k)) + tW F t) (nR F t (dg (tA F 4) (31 * t + k)) + tW F t) (nR F t k + tW F t)) (Ppf F t * Ppf F t * ((nR F t (dg (tA F 3) (31 * t + k)) + tW F t) * (nR F t (dg (tA F 4) (31 * t + k)) + tW F t) * (nR F t k + tW F t))) z7u1 d7u1 ∧ OUTp cT ad gg7u1 L7u1 fo7u1 ∧ (∀ z8, (z8 < 41 ∨ 47 < z8) → (z8 < 52 ∨ 55 < z8) → gg7u1 z8 = gg z8) ∧ (∃ z8, WHO cT ad gg7u1 52 53 24 z8) ∧ ∃ z8, WHO cT ad gg7u1 54 55 48 z8 from ⟨rfl, hpu1⟩), by rw [ht9]; exact hP9, hD9⟩, hS.F ht9⟩) hS.2.2 dL_tell_18
set_option maxHeartbeats 4000000 in
set_option maxRecDepth 100000 in
theorem l_tell_not (l : Launch) (D : va_G) (cT : Nat → ClassId) (cds : List Nat) (ad : Nat → Nat) (gg : Nat → Option va_E) (T : Nat) (fm : Nat) (F : TFR) (v : Int32) (a2 : Int32) (zo : Nat) (zw : Nat → Int64) (hlt : l.stackTraces = false) (hcd : CD cds) (hob : gg 0 = some (eOB ad (nI T))) (hFr : FRp cT ad gg fm) (hTm : T ≤ fm) (hTs : TRS cT ad gg F T) (hT16 : T ≤ 16) (hq : ¬ (0 ≤ v ∧ v ≤ nI T - 1)) (sz : Nat) : Met l yL_tell WL_tell ({ frames := 8, cells := 1, slots := 6, locals := 135 } : Room) (RW D vwCl [.ref (ad 0), .int v, .int a2, .ref zo] ([(zo, .inl (cT 1, 1, .inr (.inl zw)))] ++ pg cds ad gg) (TY cT) sz) (va_Qi (fun (r9 : Int32) (u9 : Unit) => r9 = 1) (BW D vwCl (va_A ([(zo, .inl (cT 1, 1, .inr (.inl zw)))] ++ pg cds ad gg) sz) (fun u9 : Unit => ([(zo, .inl (cT 1, 1, .inr (.inl zw)))] ++ pg cds ad gg))) (va_A ([(zo, .inl (cT 1, 1, .inr (.inl zw)))] ++ pg cds ad gg) sz)) 1 6 (va_A ([(zo, .inl (cT 1, 1, .inr (.inl zw)))] ++ pg cds ad gg) sz) := by
  refine va_MetW (hh := [(0, 10, 13, 13)]) (cc := cL_tell) (maxL := 5) (ret := (some .int)) (by decide) rfl ?_
  intro p e s m args below meth c s₁ B hml hv
  obtain ⟨rfl, hsz, hZ, hP, hK, hD0⟩ := hv
  have hx := B.exec
  have hb := B.bytes
  have hr := B.returns
  have hts := atoms_spec (ws := WL_tell) B.pre
  have hT : ∀ w ∈ TB, w.before _ s = true := fun w h => hts w (List.mem_cons_of_mem _ h)
  have hown : s.vm.findClass R_L = some m.cls := findClass_of_methodNamed B.named
  have htab := tx_table B (bytes := cL_tell) (maxL := 5) (ret := (some .int)) (hh := [(0, 10, 13, 13)]) (hts _ List.mem_cons_self)
  subst hsz
  have hD := hD0.self (sz := s.heap.size)
  generalize hAe : va_A ([(zo, .inl (cT 1, 1, .inr (.inl zw)))] ++ pg cds ad gg) s.heap.size = A at hD hZ ⊢
  have hA : ∀ q : Nat, s.heap.size ≤ q → A q := fun q h => by rw [← hAe]; exact Or.inr h
  have hS : va_S A s.heap s.heap [] := va_S.rf
  have hl := lv_entry ([.ref (ad 0), .int v, .int a2, .ref zo]) (n := 5) (Nat.le_of_ble_eq_true rfl)
  rw [lg_entry_eq]
  generalize (lg_sl ([.ref (ad 0), .int v, .int a2, .ref zo]) ++ List.replicate (5 - (lg_sl ([.ref (ad 0), .int v, .int a2, .ref zo])).length) Slot.unset).toArray = ls at hl ⊢
  have hl : lv_has ls 5 [(0, .ref (ad 0)), (1, .int v), (2, .int a2), (3, .ref zo)] := hl
  refine lv_aload_n hx hb dL_tell_0 rfl (lv_at hl 3 rfl) ?_
  refine lv_iconst (v := 0) hx hb dL_tell_1 (by decide) ?_
  refine lv_aload_n hx hb dL_tell_2 rfl (lv_at hl 0 rfl) ?_
  refine lv_iload_n hx hb dL_tell_3 rfl (lv_at hl 1 rfl) ?_
  refine lv_iload_n hx hb dL_tell_4 rfl (lv_at hl 2 rfl) ?_
  refine tx_catch1 (name := "java/lang/IllegalArgumentException") (tx_goV (As := [.int v, .int a2]) (rest := [.int 0, .ref zo]) ⟨hx, hb, hml, hown, hT⟩ (k_tell_not l D cT cds ad gg T fm F v a2 hlt hcd hob hFr hTm hTs hT16 hq) ⟨callB_of 2 hT (tb_gd w1037) rfl rfl rfl (hT _ w1) (hT _ w1034) hR_tell ⟨Nat.le_of_ble_eq_true rfl, Nat.le_of_ble_eq_true rfl⟩, (hT _ w1035), (hT _ w1036)⟩ (RO.preW (ci := 0) (q0 := 0) hZ hS ((show va_P D vwCl ([] ++ pg cds ad gg) _ from (pv_p hP))) hK (pg_1 (x := 0) hcd hP (by decide) hob) rfl rfl) rfl hl.1 rfl (Nat.le_of_ble_eq_true rfl) dL_tell_5 ⟨Nat.le_of_ble_eq_true rfl, Nat.le_of_ble_eq_true rfl⟩) hown htab rfl (by decide) (hT _ w503) (tc_c rfl (hZ.1.1 ("java/lang/IllegalArgumentException", "java/lang/IllegalArgumentException") (List.mem_of_getElem? (i := 0) rfl))) (fun q9 H hsz9 hag9 => ?_)
  have hP := tc_P hP hag9
  have hS := tc_S hS hsz9 hag9
  refine W.eq (g2 := F0 m 13 ls [.ref q9]) rfl ?_
  refine lv_astore hx hb dL_tell_13 hl (by decide) rfl (fun ls hl => ?_)
  have hl : lv_has ls 5 [(4, .ref q9), (0, .ref (ad 0)), (1, .int v), (2, .int a2), (3, .ref zo)] := hl
  refine lv_iconst (v := 1) hx hb dL_tell_15 (by decide) ?_
  have hP9 : va_P D vwCl ([(zo, .inl (cT 1, 1, .inr (.inl zw)))] ++ pg cds ad gg) _ := hP.part (cx := [(zo, .inl (cT 1, 1, .inr (.inl zw)))]) [0] rfl
  have hD9 : va_D A ([(zo, .inl (cT 1, 1, .inr (.inl zw)))] ++ pg cds ad gg) := hD.part (cx := [(zo, .inl (cT 1, 1, .inr (.inl zw)))]) [0] (by decide) rfl
  refine W.widen (k := 1) (n := 6) (Nat.le_of_ble_eq_true rfl) (Nat.le_of_ble_eq_true rfl) ?_
  exact W.iret (v := 1) hx hb hr (fun t9 ht9 hW9 => ⟨⟨1, (), rfl, (show 1 = 1 from rfl), by rw [ht9]; exact hP9, hD9⟩, hS.F ht9⟩) hS.2.2 dL_tell_16
set_option maxHeartbeats 4000000 in
set_option maxRecDepth 100000 in
theorem l_tell_nok (l : Launch) (D : va_G) (cT : Nat → ClassId) (cds : List Nat) (ad : Nat → Nat) (gg : Nat → Option va_E) (T : Nat) (fm : Nat) (F : TFR) (t : Nat) (a2 : Int32) (zo : Nat) (zw : Nat → Int64) (hlt : l.stackTraces = false) (hcd : CD cds) (hob : gg 0 = some (eOB ad (nI T))) (hFr : FRp cT ad gg fm) (hTm : T ≤ fm) (hTs : TRS cT ad gg F T) (hT16 : T ≤ 16) (htT : t < T) (hc0 : 0 ≤ nI t ∧ nI t ≤ nI T - 1) (hq : ¬ (0 ≤ a2 ∧ a2 ≤ nI (tM F t) - 1)) (sz : Nat) : Met l yL_tell WL_tell ({ frames := 8, cells := 1, slots := 6, locals := 135 } : Room) (RW D vwCl [.ref (ad 0), .int (nI t), .int a2, .ref zo] ([(zo, .inl (cT 1, 1, .inr (.inl zw)))] ++ pg cds ad gg) (TY cT) sz) (va_Qi (fun (r9 : Int32) (u9 : Unit) => r9 = 1) (BW D vwCl (va_A ([(zo, .inl (cT 1, 1, .inr (.inl zw)))] ++ pg cds ad gg) sz) (fun u9 : Unit => ([(zo, .inl (cT 1, 1, .inr (.inl zw)))] ++ pg cds ad gg))) (va_A ([(zo, .inl (cT 1, 1, .inr (.inl zw)))] ++ pg cds ad gg) sz)) 1 6 (va_A ([(zo, .inl (cT 1, 1, .inr (.inl zw)))] ++ pg cds ad gg) sz) := by
  refine va_MetW (hh := [(0, 10, 13, 13)]) (cc := cL_tell) (maxL := 5) (ret := (some .int)) (by decide) rfl ?_
  intro p e s m args below meth c s₁ B hml hv
  obtain ⟨rfl, hsz, hZ, hP, hK, hD0⟩ := hv
  have hx := B.exec
  have hb := B.bytes
  have hr := B.returns
  have hts := atoms_spec (ws := WL_tell) B.pre
  have hT : ∀ w ∈ TB, w.before _ s = true := fun w h => hts w (List.mem_cons_of_mem _ h)
  have hown : s.vm.findClass R_L = some m.cls := findClass_of_methodNamed B.named
  have htab := tx_table B (bytes := cL_tell) (maxL := 5) (ret := (some .int)) (hh := [(0, 10, 13, 13)]) (hts _ List.mem_cons_self)
  subst hsz
  have hD := hD0.self (sz := s.heap.size)
  generalize hAe : va_A ([(zo, .inl (cT 1, 1, .inr (.inl zw)))] ++ pg cds ad gg) s.heap.size = A at hD hZ ⊢
  have hA : ∀ q : Nat, s.heap.size ≤ q → A q := fun q h => by rw [← hAe]; exact Or.inr h
  have hS : va_S A s.heap s.heap [] := va_S.rf
  have hl := lv_entry ([.ref (ad 0), .int (nI t), .int a2, .ref zo]) (n := 5) (Nat.le_of_ble_eq_true rfl)
  rw [lg_entry_eq]
  generalize (lg_sl ([.ref (ad 0), .int (nI t), .int a2, .ref zo]) ++ List.replicate (5 - (lg_sl ([.ref (ad 0), .int (nI t), .int a2, .ref zo])).length) Slot.unset).toArray = ls at hl ⊢
  have hl : lv_has ls 5 [(0, .ref (ad 0)), (1, .int (nI t)), (2, .int a2), (3, .ref zo)] := hl
  refine lv_aload_n hx hb dL_tell_0 rfl (lv_at hl 3 rfl) ?_
  refine lv_iconst (v := 0) hx hb dL_tell_1 (by decide) ?_
  refine lv_aload_n hx hb dL_tell_2 rfl (lv_at hl 0 rfl) ?_
  refine lv_iload_n hx hb dL_tell_3 rfl (lv_at hl 1 rfl) ?_
  refine lv_iload_n hx hb dL_tell_4 rfl (lv_at hl 2 rfl) ?_
  refine tx_catch1 (name := "java/lang/IllegalArgumentException") (tx_goV (As := [.int (nI t), .int a2]) (rest := [.int 0, .ref zo]) ⟨hx, hb, hml, hown, hT⟩ (k_tell_nok l D cT cds ad gg T fm F t a2 hlt hcd hob hFr hTm hTs hT16 htT hc0 hq) ⟨callB_of 2 hT (tb_gd w1037) rfl rfl rfl (hT _ w1) (hT _ w1034) hR_tell ⟨Nat.le_of_ble_eq_true rfl, Nat.le_of_ble_eq_true rfl⟩, (hT _ w1035), (hT _ w1036)⟩ (RO.preW (ci := 0) (q0 := 0) hZ hS ((show va_P D vwCl ([] ++ pg cds ad gg) _ from (pv_p hP))) hK (pg_1 (x := 0) hcd hP (by decide) hob) rfl rfl) rfl hl.1 rfl (Nat.le_of_ble_eq_true rfl) dL_tell_5 ⟨Nat.le_of_ble_eq_true rfl, Nat.le_of_ble_eq_true rfl⟩) hown htab rfl (by decide) (hT _ w503) (tc_c rfl (hZ.1.1 ("java/lang/IllegalArgumentException", "java/lang/IllegalArgumentException") (List.mem_of_getElem? (i := 0) rfl))) (fun q9 H hsz9 hag9 => ?_)
  have hP := tc_P hP hag9
  have hS := tc_S hS hsz9 hag9
  refine W.eq (g2 := F0 m 13 ls [.ref q9]) rfl ?_
  refine lv_astore hx hb dL_tell_13 hl (by decide) rfl (fun ls hl => ?_)
  have hl : lv_has ls 5 [(4, .ref q9), (0, .ref (ad 0)), (1, .int (nI t)), (2, .int a2), (3, .ref zo)] := hl
  refine lv_iconst (v := 1) hx hb dL_tell_15 (by decide) ?_
  have hP9 : va_P D vwCl ([(zo, .inl (cT 1, 1, .inr (.inl zw)))] ++ pg cds ad gg) _ := hP.part (cx := [(zo, .inl (cT 1, 1, .inr (.inl zw)))]) [0] rfl
  have hD9 : va_D A ([(zo, .inl (cT 1, 1, .inr (.inl zw)))] ++ pg cds ad gg) := hD.part (cx := [(zo, .inl (cT 1, 1, .inr (.inl zw)))]) [0] (by decide) rfl
  refine W.widen (k := 1) (n := 6) (Nat.le_of_ble_eq_true rfl) (Nat.le_of_ble_eq_true rfl) ?_
  exact W.iret (v := 1) hx hb hr (fun t9 ht9 hW9 => ⟨⟨1, (), rfl, (show 1 = 1 from rfl), by rw [ht9]; exact hP9, hD9⟩, hS.F ht9⟩) hS.2.2 dL_tell_16
