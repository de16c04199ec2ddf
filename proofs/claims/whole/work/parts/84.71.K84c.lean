set_option maxHeartbeats 4000000 in
set_option maxRecDepth 100000 in
theorem l_shape (l : Launch) (D : va_G) (cT : Nat → ClassId) (cds : List Nat) (ad : Nat → Nat) (gg : Nat → Option va_E) (tc : Int32) (pd : Int32) (pl9 : Int32) (pw : Int32) (pu : Int32) (pq9 : Int32) (psb : Int64) (pcb : Int32) (a1 : Int32) (a2 : Int32) (a3 : Int32) (hcd : CD cds) (hob : gg 0 = some (eOB ad tc)) (hpl : gg 4 = some (ePL pd pl9 pw pu pq9 psb pcb)) (hs1 : 1 ≤ a1 ∧ a1 ≤ 4) (hs2 : 1 ≤ a2 ∧ a2 ≤ 24) (hs3 : 0 ≤ a3 ∧ a3 ≤ 20) (sz : Nat) : Met l yL_shape WL_shape ({ frames := 2, cells := 0, slots := 0, locals := 45 } : Room) (RW D vwCl [.ref (ad 0), .int a1, .int a2, .int a3] ([] ++ pg cds ad gg) (TY cT) sz) (va_Qi (fun (r9 : Int32) (u9 : (Nat → Option va_E)) => r9 = 0 ∧ (∀ z8, z8 ≠ 4 → u9 z8 = gg z8) ∧ u9 4 = some (ePL a1 a2 a3 pu pq9 psb pcb)) (BW D vwCl (va_A ([] ++ pg cds ad gg) sz) (fun u9 : (Nat → Option va_E) => ([] ++ pg cds ad u9))) (va_A ([] ++ pg cds ad gg) sz)) 0 0 (va_A ([] ++ pg cds ad gg) sz) := by
  refine va_MetW (hh := [(0, 7, 10, 13)]) (cc := cL_shape) (maxL := 5) (ret := (some .int)) (by decide) rfl ?_
  intro p e s m args below meth c s₁ B hml hv
  obtain ⟨rfl, hsz, hZ, hP, hK, hD0⟩ := hv
  have hx := B.exec
  have hb := B.bytes
  have hr := B.returns
  have hts := atoms_spec (ws := WL_shape) B.pre
  have hT : ∀ w ∈ TB, w.before _ s = true := fun w h => hts w (List.mem_cons_of_mem _ h)
  have hown : s.vm.findClass R_L = some m.cls := findClass_of_methodNamed B.named
  have htab := tx_table B (bytes := cL_shape) (maxL := 5) (ret := (some .int)) (hh := [(0, 7, 10, 13)]) (hts _ List.mem_cons_self)
  subst hsz
  have hD := hD0.self (sz := s.heap.size)
  generalize hAe : va_A ([] ++ pg cds ad gg) s.heap.size = A at hD hZ ⊢
  have hA : ∀ q : Nat, s.heap.size ≤ q → A q := fun q h => by rw [← hAe]; exact Or.inr h
  have hS : va_S A s.heap s.heap [] := va_S.rf
  have hl := lv_entry ([.ref (ad 0), .int a1, .int a2, .int a3]) (n := 5) (Nat.le_of_ble_eq_true rfl)
  rw [lg_entry_eq]
  generalize (lg_sl ([.ref (ad 0), .int a1, .int a2, .int a3]) ++ List.replicate (5 - (lg_sl ([.ref (ad 0), .int a1, .int a2, .int a3])).length) Slot.unset).toArray = ls at hl ⊢
  have hl : lv_has ls 5 [(0, .ref (ad 0)), (1, .int a1), (2, .int a2), (3, .int a3)] := hl
  refine lv_aload_n hx hb dL_shape_0 rfl (lv_at hl 0 rfl) ?_
  refine lv_iload_n hx hb dL_shape_1 rfl (lv_at hl 1 rfl) ?_
  refine lv_iload_n hx hb dL_shape_2 rfl (lv_at hl 2 rfl) ?_
  refine lv_iload_n hx hb dL_shape_3 rfl (lv_at hl 3 rfl) ?_
  refine hy_vP (X := []) (pl := pg cds ad gg) (cx := []) (wr := []) hP hD hS hA [] [] rfl rfl (by decide) (by decide) (va_runV (As := [.int a1, .int a2, .int a3]) (rest := []) ⟨hx, hb, hml, hown, hT⟩ (k_shape l D cT cds ad gg tc pd pl9 pw pu pq9 psb pcb a1 a2 a3 hcd hob hpl hs1 hs2 hs3 _) ⟨callB_of 3 hT (tb_gd w696) rfl rfl rfl (hT _ w1) (hT _ w693) hR_shape ⟨Nat.le_of_ble_eq_true rfl, Nat.le_of_ble_eq_true rfl⟩, (hT _ w694), (hT _ w695)⟩ (RW.preW (ci := 0) (q0 := 0) hZ hS (va_freeP (cx := []) hD hS hA [] rfl) (hP.part (cx := []) [] rfl) hK (hD.part (cx := []) [] (by decide) rfl) (pg_1 (x := 0) hcd hP (by decide) hob) rfl rfl) rfl rfl hl.1 rfl (lv_room (Nat.le_of_ble_eq_true rfl)) dL_shape_4 ⟨Nat.le_of_ble_eq_true rfl, Nat.le_of_ble_eq_true rfl⟩) (fun u9 H locs hpu1 hP hD hS => ?_)
  obtain ⟨gg7u1, rfl⟩ : ∃ q9, q9 = u9 := ⟨_, rfl⟩
  have hpu1 : (∀ z8, z8 ≠ 4 → gg7u1 z8 = gg z8) ∧ gg7u1 4 = some (ePL a1 a2 a3 pu pq9 psb pcb) := hpu1
  have hP : va_P D vwCl ([] ++ pg cds ad gg7u1) _ := hP
  have hD : va_D A ([] ++ pg cds ad gg7u1) := hD
  refine lv_goto (tgt := 14) hx hb dL_shape_7 rfl ?_
  refine lv_iconst (v := 0) hx hb dL_shape_14 (by decide) ?_
  have hP9 : va_P D vwCl ([] ++ pg cds ad gg7u1) _ := hP.part (cx := []) [] rfl
  have hD9 : va_D A ([] ++ pg cds ad gg7u1) := hD.part (cx := []) [] (by decide) rfl
  refine W.widen (k := 0) (n := 0) (Nat.le_of_ble_eq_true rfl) (Nat.le_of_ble_eq_true rfl) ?_
  exact W.iret (v := 0) hx hb hr (fun t9 ht9 hW9 => ⟨⟨0, gg7u1, rfl, (show 0 = 0 ∧ (∀ z8, z8 ≠ 4 → gg7u1 z8 = gg z8) ∧ gg7u1 4 = some (ePL a1 a2 a3 pu pq9 psb pcb) from ⟨rfl, hpu1⟩), by rw [ht9]; exact hP9, hD9⟩, hS.F ht9⟩) hS.2.2 dL_shape_15
set_option maxHeartbeats 4000000 in
set_option maxRecDepth 100000 in
theorem l_shape_no (l : Launch) (D : va_G) (cT : Nat → ClassId) (cds : List Nat) (ad : Nat → Nat) (gg : Nat → Option va_E) (a1 : Int32) (a2 : Int32) (a3 : Int32) (tc : Int32) (hlt : l.stackTraces = false) (hcd : CD cds) (hob : gg 0 = some (eOB ad tc)) (hq : ¬ ((1 ≤ a1 ∧ a1 ≤ 4) ∧ (1 ≤ a2 ∧ a2 ≤ 24) ∧ (0 ≤ a3 ∧ a3 ≤ 20))) (sz : Nat) : Met l yL_shape WL_shape ({ frames := 8, cells := 1, slots := 6, locals := 134 } : Room) (RW D vwCl [.ref (ad 0), .int a1, .int a2, .int a3] ([] ++ pg cds ad gg) (TY cT) sz) (va_Qi (fun (r9 : Int32) (u9 : Unit) => r9 = 1) (BW D vwCl (va_A ([] ++ pg cds ad gg) sz) (fun u9 : Unit => ([] ++ pg cds ad gg))) (va_A ([] ++ pg cds ad gg) sz)) 1 6 (va_A ([] ++ pg cds ad gg) sz) := by
  refine va_MetW (hh := [(0, 7, 10, 13)]) (cc := cL_shape) (maxL := 5) (ret := (some .int)) (by decide) rfl ?_
  intro p e s m args below meth c s₁ B hml hv
  obtain ⟨rfl, hsz, hZ, hP, hK, hD0⟩ := hv
  have hx := B.exec
  have hb := B.bytes
  have hr := B.returns
  have hts := atoms_spec (ws := WL_shape) B.pre
  have hT : ∀ w ∈ TB, w.before _ s = true := fun w h => hts w (List.mem_cons_of_mem _ h)
  have hown : s.vm.findClass R_L = some m.cls := findClass_of_methodNamed B.named
  have htab := tx_table B (bytes := cL_shape) (maxL := 5) (ret := (some .int)) (hh := [(0, 7, 10, 13)]) (hts _ List.mem_cons_self)
  subst hsz
  have hD := hD0.self (sz := s.heap.size)
  generalize hAe : va_A ([] ++ pg cds ad gg) s.heap.size = A at hD hZ ⊢
  have hA : ∀ q : Nat, s.heap.size ≤ q → A q := fun q h => by rw [← hAe]; exact Or.inr h
  have hS : va_S A s.heap s.heap [] := va_S.rf
  have hl := lv_entry ([.ref (ad 0), .int a1, .int a2, .int a3]) (n := 5) (Nat.le_of_ble_eq_true rfl)
  rw [lg_entry_eq]
  generalize (lg_sl ([.ref (ad 0), .int a1, .int a2, .int a3]) ++ List.replicate (5 - (lg_sl ([.ref (ad 0), .int a1, .int a2, .int a3])).length) Slot.unset).toArray = ls at hl ⊢
  have hl : lv_has ls 5 [(0, .ref (ad 0)), (1, .int a1), (2, .int a2), (3, .int a3)] := hl
  refine lv_aload_n hx hb dL_shape_0 rfl (lv_at hl 0 rfl) ?_
  refine lv_iload_n hx hb dL_shape_1 rfl (lv_at hl 1 rfl) ?_
  refine lv_iload_n hx hb dL_shape_2 rfl (lv_at hl 2 rfl) ?_
  refine lv_iload_n hx hb dL_shape_3 rfl (lv_at hl 3 rfl) ?_
  refine tx_catch1 (name := "java/lang/IllegalArgumentException") (tx_goV (As := [.int a1, .int a2, .int a3]) (rest := []) ⟨hx, hb, hml, hown, hT⟩ (k_shape_no l D cT cds ad gg a1 a2 a3 hlt hq) ⟨callB_of 3 hT (tb_gd w696) rfl rfl rfl (hT _ w1) (hT _ w693) hR_shape ⟨Nat.le_of_ble_eq_true rfl, Nat.le_of_ble_eq_true rfl⟩, (hT _ w694), (hT _ w695)⟩ (RO.preW (ci := 0) (q0 := 0) hZ hS ((show va_P D vwCl ([] ++ pg cds ad gg) _ from (pv_p hP))) hK (pg_1 (x := 0) hcd hP (by decide) hob) rfl rfl) rfl hl.1 rfl (Nat.le_of_ble_eq_true rfl) dL_shape_4 ⟨Nat.le_of_ble_eq_true rfl, Nat.le_of_ble_eq_true rfl⟩) hown htab rfl (by decide) (hT _ w503) (tc_c rfl (hZ.1.1 ("java/lang/IllegalArgumentException", "java/lang/IllegalArgumentException") (List.mem_of_getElem? (i := 0) rfl))) (fun q9 H hsz9 hag9 => ?_)
  have hP := tc_P hP hag9
  have hS := tc_S hS hsz9 hag9
  refine W.eq (g2 := F0 m 10 ls [.ref q9]) rfl ?_
  refine lv_astore hx hb dL_shape_10 hl (by decide) rfl (fun ls hl => ?_)
  have hl : lv_has ls 5 [(4, .ref q9), (0, .ref (ad 0)), (1, .int a1), (2, .int a2), (3, .int a3)] := hl
  refine lv_iconst (v := 1) hx hb dL_shape_12 (by decide) ?_
  have hP9 : va_P D vwCl ([] ++ pg cds ad gg) _ := hP.part (cx := []) [] rfl
  have hD9 : va_D A ([] ++ pg cds ad gg) := hD.part (cx := []) [] (by decide) rfl
  refine W.widen (k := 1) (n := 6) (Nat.le_of_ble_eq_true rfl) (Nat.le_of_ble_eq_true rfl) ?_
  exact W.iret (v := 1) hx hb hr (fun t9 ht9 hW9 => ⟨⟨1, (), rfl, (show 1 = 1 from rfl), by rw [ht9]; exact hP9, hD9⟩, hS.F ht9⟩) hS.2.2 dL_shape_13
set_option maxHeartbeats 4000000 in
set_option maxRecDepth 100000 in
theorem l_rate (l : Launch) (D : va_G) (cT : Nat → ClassId) (cds : List Nat) (ad : Nat → Nat) (gg : Nat → Option va_E) (tc : Int32) (pd : Int32) (pl9 : Int32) (pw : Int32) (pu : Int32) (pq9 : Int32) (psb : Int64) (pcb : Int32) (p1 : Int32) (q1 : Int32) (hcd : CD cds) (hob : gg 0 = some (eOB ad tc)) (hpl : gg 4 = some (ePL pd pl9 pw pu pq9 psb pcb)) (hs1 : 1 ≤ q1 ∧ q1 ≤ 16) (hs2 : 1 ≤ p1 ∧ p1 ≤ q1) (sz : Nat) : Met l yL_rate WL_rate ({ frames := 2, cells := 0, slots := 0, locals := 44 } : Room) (RW D vwCl [.ref (ad 0), .int p1, .int q1] ([] ++ pg cds ad gg) (TY cT) sz) (va_Qi (fun (r9 : Int32) (u9 : (Nat → Option va_E)) => r9 = 0 ∧ (∀ z8, z8 ≠ 4 → u9 z8 = gg z8) ∧ u9 4 = some (ePL pd pl9 pw p1 q1 psb pcb)) (BW D vwCl (va_A ([] ++ pg cds ad gg) sz) (fun u9 : (Nat → Option va_E) => ([] ++ pg cds ad u9))) (va_A ([] ++ pg cds ad gg) sz)) 0 0 (va_A ([] ++ pg cds ad gg) sz) := by
  refine va_MetW (hh := [(0, 6, 9, 13)]) (cc := cL_rate) (maxL := 4) (ret := (some .int)) (by decide) rfl ?_
  intro p e s m args below meth c s₁ B hml hv
  obtain ⟨rfl, hsz, hZ, hP, hK, hD0⟩ := hv
  have hx := B.exec
  have hb := B.bytes
  have hr := B.returns
  have hts := atoms_spec (ws := WL_rate) B.pre
  have hT : ∀ w ∈ TB, w.before _ s = true := fun w h => hts w (List.mem_cons_of_mem _ h)
  have hown : s.vm.findClass R_L = some m.cls := findClass_of_methodNamed B.named
  have htab := tx_table B (bytes := cL_rate) (maxL := 4) (ret := (some .int)) (hh := [(0, 6, 9, 13)]) (hts _ List.mem_cons_self)
  subst hsz
  have hD := hD0.self (sz := s.heap.size)
  generalize hAe : va_A ([] ++ pg cds ad gg) s.heap.size = A at hD hZ ⊢
  have hA : ∀ q : Nat, s.heap.size ≤ q → A q := fun q h => by rw [← hAe]; exact Or.inr h
  have hS : va_S A s.heap s.heap [] := va_S.rf
  have hl := lv_entry ([.ref (ad 0), .int p1, .int q1]) (n := 4) (Nat.le_of_ble_eq_true rfl)
  rw [lg_entry_eq]
  generalize (lg_sl ([.ref (ad 0), .int p1, .int q1]) ++ List.replicate (4 - (lg_sl ([.ref (ad 0), .int p1, .int q1])).length) Slot.unset).toArray = ls at hl ⊢
  have hl : lv_has ls 4 [(0, .ref (ad 0)), (1, .int p1), (2, .int q1)] := hl
  refine lv_aload_n hx hb dL_rate_0 rfl (lv_at hl 0 rfl) ?_
  refine lv_iload_n hx hb dL_rate_1 rfl (lv_at hl 1 rfl) ?_
  refine lv_iload_n hx hb dL_rate_2 rfl (lv_at hl 2 rfl) ?_
  refine hy_vP (X := []) (pl := pg cds ad gg) (cx := []) (wr := []) hP hD hS hA [] [] rfl rfl (by decide) (by decide) (va_runV (As := [.int p1, .int q1]) (rest := []) ⟨hx, hb, hml, hown, hT⟩ (k_rate l D cT cds ad gg tc pd pl9 pw pu pq9 psb pcb p1 q1 hcd hob hpl hs1 hs2 _) ⟨callB_of 2 hT (tb_gd w703) rfl rfl rfl (hT _ w1) (hT _ w700) hR_rate ⟨Nat.le_of_ble_eq_true rfl, Nat.le_of_ble_eq_true rfl⟩, (hT _ w701), (hT _ w702)⟩ (RW.preW (ci := 0) (q0 := 0) hZ hS (va_freeP (cx := []) hD hS hA [] rfl) (hP.part (cx := []) [] rfl) hK (hD.part (cx := []) [] (by decide) rfl) (pg_1 (x := 0) hcd hP (by decide) hob) rfl rfl) rfl rfl hl.1 rfl (lv_room (Nat.le_of_ble_eq_true rfl)) dL_rate_3 ⟨Nat.le_of_ble_eq_true rfl, Nat.le_of_ble_eq_true rfl⟩) (fun u9 H locs hpu1 hP hD hS => ?_)
  obtain ⟨gg7u1, rfl⟩ : ∃ q9, q9 = u9 := ⟨_, rfl⟩
  have hpu1 : (∀ z8, z8 ≠ 4 → gg7u1 z8 = gg z8) ∧ gg7u1 4 = some (ePL pd pl9 pw p1 q1 psb pcb) := hpu1
  have hP : va_P D vwCl ([] ++ pg cds ad gg7u1) _ := hP
  have hD : va_D A ([] ++ pg cds ad gg7u1) := hD
  refine lv_goto (tgt := 12) hx hb dL_rate_6 rfl ?_
  refine lv_iconst (v := 0) hx hb dL_rate_12 (by decide) ?_
  have hP9 : va_P D vwCl ([] ++ pg cds ad gg7u1) _ := hP.part (cx := []) [] rfl
  have hD9 : va_D A ([] ++ pg cds ad gg7u1) := hD.part (cx := []) [] (by decide) rfl
  refine W.widen (k := 0) (n := 0) (Nat.le_of_ble_eq_true rfl) (Nat.le_of_ble_eq_true rfl) ?_
  exact W.iret (v := 0) hx hb hr (fun t9 ht9 hW9 => ⟨⟨0, gg7u1, rfl, (show 0 = 0 ∧ (∀ z8, z8 ≠ 4 → gg7u1 z8 = gg z8) ∧ gg7u1 4 = some (ePL pd pl9 pw p1 q1 psb pcb) from ⟨rfl, hpu1⟩), by rw [ht9]; exact hP9, hD9⟩, hS.F ht9⟩) hS.2.2 dL_rate_13
set_option maxHeartbeats 4000000 in
set_option maxRecDepth 100000 in
theorem l_rate_no (l : Launch) (D : va_G) (cT : Nat → ClassId) (cds : List Nat) (ad : Nat → Nat) (gg : Nat → Option va_E) (p1 : Int32) (q1 : Int32) (tc : Int32) (hlt : l.stackTraces = false) (hcd : CD cds) (hob : gg 0 = some (eOB ad tc)) (hq : ¬ ((1 ≤ q1 ∧ q1 ≤ 16) ∧ (1 ≤ p1 ∧ p1 ≤ q1))) (sz : Nat) : Met l yL_rate WL_rate ({ frames := 8, cells := 1, slots := 6, locals := 133 } : Room) (RW D vwCl [.ref (ad 0), .int p1, .int q1] ([] ++ pg cds ad gg) (TY cT) sz) (va_Qi (fun (r9 : Int32) (u9 : Unit) => r9 = 1) (BW D vwCl (va_A ([] ++ pg cds ad gg) sz) (fun u9 : Unit => ([] ++ pg cds ad gg))) (va_A ([] ++ pg cds ad gg) sz)) 1 6 (va_A ([] ++ pg cds ad gg) sz) := by
  refine va_MetW (hh := [(0, 6, 9, 13)]) (cc := cL_rate) (maxL := 4) (ret := (some .int)) (by decide) rfl ?_
  intro p e s m args below meth c s₁ B hml hv
  obtain ⟨rfl, hsz, hZ, hP, hK, hD0⟩ := hv
  have hx := B.exec
  have hb := B.bytes
  have hr := B.returns
  have hts := atoms_spec (ws := WL_rate) B.pre
  have hT : ∀ w ∈ TB, w.before _ s = true := fun w h => hts w (List.mem_cons_of_mem _ h)
  have hown : s.vm.findClass R_L = some m.cls := findClass_of_methodNamed B.named
  have htab := tx_table B (bytes := cL_rate) (maxL := 4) (ret := (some .int)) (hh := [(0, 6, 9, 13)]) (hts _ List.mem_cons_self)
  subst hsz
  have hD := hD0.self (sz := s.heap.size)
  generalize hAe : va_A ([] ++ pg cds ad gg) s.heap.size = A at hD hZ ⊢
  have hA : ∀ q : Nat, s.heap.size ≤ q → A q := fun q h => by rw [← hAe]; exact Or.inr h
  have hS : va_S A s.heap s.heap [] := va_S.rf
  have hl := lv_entry ([.ref (ad 0), .int p1, .int q1]) (n := 4) (Nat.le_of_ble_eq_true rfl)
  rw [lg_entry_eq]
  generalize (lg_sl ([.ref (ad 0), .int p1, .int q1]) ++ List.replicate (4 - (lg_sl ([.ref (ad 0), .int p1, .int q1])).length) Slot.unset).toArray = ls at hl ⊢
  have hl : lv_has ls 4 [(0, .ref (ad 0)), (1, .int p1), (2, .int q1)] := hl
  refine lv_aload_n hx hb dL_rate_0 rfl (lv_at hl 0 rfl) ?_
  refine lv_iload_n hx hb dL_rate_1 rfl (lv_at hl 1 rfl) ?_
  refine lv_iload_n hx hb dL_rate_2 rfl (lv_at hl 2 rfl) ?_
  refine tx_catch1 (name := "java/lang/IllegalArgumentException") (tx_goV (As := [.int p1, .int q1]) (rest := []) ⟨hx, hb, hml, hown, hT⟩ (k_rate_no l D cT cds ad gg p1 q1 hlt hq) ⟨callB_of 2 hT (tb_gd w703) rfl rfl rfl (hT _ w1) (hT _ w700) hR_rate ⟨Nat.le_of_ble_eq_true rfl, Nat.le_of_ble_eq_true rfl⟩, (hT _ w701), (hT _ w702)⟩ (RO.preW (ci := 0) (q0 := 0) hZ hS ((show va_P D vwCl ([] ++ pg cds ad gg) _ from (pv_p hP))) hK (pg_1 (x := 0) hcd hP (by decide) hob) rfl rfl) rfl hl.1 rfl (Nat.le_of_ble_eq_true rfl) dL_rate_3 ⟨Nat.le_of_ble_eq_true rfl, Nat.le_of_ble_eq_true rfl⟩) hown htab rfl (by decide) (hT _ w503) (tc_c rfl (hZ.1.1 ("java/lang/IllegalArgumentException", "java/lang/IllegalArgumentException") (List.mem_of_getElem? (i := 0) rfl))) (fun q9 H hsz9 hag9 => ?_)
  have hP := tc_P hP hag9
  have hS := tc_S hS hsz9 hag9
  refine W.eq (g2 := F0 m 9 ls [.ref q9]) rfl ?_
  refine lv_astore_n hx hb dL_rate_9 rfl hl (by decide) rfl (fun ls hl => ?_)
  have hl : lv_has ls 4 [(3, .ref q9), (0, .ref (ad 0)), (1, .int p1), (2, .int q1)] := hl
  refine lv_iconst (v := 1) hx hb dL_rate_10 (by decide) ?_
  have hP9 : va_P D vwCl ([] ++ pg cds ad gg) _ := hP.part (cx := []) [] rfl
  have hD9 : va_D A ([] ++ pg cds ad gg) := hD.part (cx := []) [] (by decide) rfl
  refine W.widen (k := 1) (n := 6) (Nat.le_of_ble_eq_true rfl) (Nat.le_of_ble_eq_true rfl) ?_
  exact W.iret (v := 1) hx hb hr (fun t9 ht9 hW9 => ⟨⟨1, (), rfl, (show 1 = 1 from rfl), by rw [ht9]; exact hP9, hD9⟩, hS.F ht9⟩) hS.2.2 dL_rate_11
set_option maxHeartbeats 4000000 in
set_option maxRecDepth 100000 in
theorem l_train (l : Launch) (D : va_G) (cT : Nat → ClassId) (cds : List Nat) (ad : Nat → Nat) (gg : Nat → Option va_E) (tE : Nat) (mE : Nat) (T : Nat) (fm : Nat) (mk : Nat → Nat) (F : TFR) (n : Nat) (wd : Nat) (vv : Nat → Int32) (vq : Nat → Int32) (eg : Nat → Int32) (ik : Nat → Int32) (ne : Nat → Nat) (tg : Nat → Int32) (dpt : Nat) (lst : Nat) (w : Nat) (ru : Nat) (rl : Nat) (psb : Int64) (pcb : Int32) (rr : Nat) (zo : Nat) (zw : Nat → Int64) (hcd : CD cds) (hTV : TRV cT ad gg tE T fm mk F n wd vv vq eg ik ne tg dpt lst w ru rl psb pcb) (hTf : T ≤ fm) (hTr : T + rr ≤ 16) (hc0 : 1 ≤ nI rr ∧ nI rr ≤ 16) (hn48 : n ≤ 48) (hne : ∀ c, c < 6 → ne c ≤ 11) (hik : ∀ c, c < 6 → ik c = 0 ∨ ik c = 1) (hls2 : 1 ≤ lst ∧ lst ≤ 24) (hw20 : w ≤ 20) (hwd6 : wd ≤ 6) (hS9 : ∀ c, c < 6 → ik c = 0 → RIS eg (11 * c) (ne c)) (hVk : ∀ c, c < 6 → ¬ ik c = 0 → ∀ r, r < n → ¬ vv (6 * r + c) = (-2147483648) → 0 ≤ vv (6 * r + c) ∧ vv (6 * r + c) < 12) (htg : ∀ i, i < n → -1000 ≤ (tg i).toInt ∧ (tg i).toInt ≤ 1000) (hTOK : TOK F T) (hdp4 : 1 ≤ dpt ∧ dpt ≤ 4) (hr9 : 0 < ru ∧ ru ≤ rl ∧ rl ≤ 16) (hA0 : 0 < cb (psb &&& (thr n))) (hS0 : ¬ psb &&& (thr n) = 0) (hC0 : ¬ pcb &&& (((1 : Int32) <<< (nI wd &&& 31)) - 1) = 0) (sz : Nat) : Met l yL_train WL_train ({ frames := 14, cells := 3 * (max fm (T + rr)) + 4 * SM (mkr F T n w lst dpt wd ru rl vv eg ik ne pcb (psb &&& (thr n)) tg mk rr) 16 - (3 * fm + 4 * SM mk 16), slots := 42 * (max fm (T + rr)) + 69 * SM (mkr F T n w lst dpt wd ru rl vv eg ik ne pcb (psb &&& (thr n)) tg mk rr) 16 - (42 * fm + 69 * SM mk 16), locals := 360 } : Room) (RWE tE mE D vwCl [.ref (ad 0), .int (nI rr), .ref zo] ([(zo, .inl (cT 1, 1, .inr (.inl zw)))] ++ pg cds ad gg) (TY cT) sz) (va_Qi (fun (r9 : Int32) (u9 : (Nat → Nat) × (Nat → Option va_E) × Int32) => r9 = 0 ∧ u9.2.2 = nI rr ∧ TOK (rds F T n w lst dpt wd ru rl vv eg ik ne pcb (psb &&& (thr n)) tg rr) (T + rr) ∧ TRV cT u9.1 u9.2.1 tE (T + rr) (max fm (T + rr)) (mkr F T n w lst dpt wd ru rl vv eg ik ne pcb (psb &&& (thr n)) tg mk rr) (rds F T n w lst dpt wd ru rl vv eg ik ne pcb (psb &&& (thr n)) tg rr) n wd vv vq eg ik ne tg dpt lst w ru rl psb pcb ∧ (∀ z8, z8 ≠ 40 → z8 < 1000 → u9.1 z8 = ad z8) ∧ (∀ z8, ((40 < z8 ∧ z8 < 50) ∨ (53 < z8 ∧ z8 < 60)) → u9.2.1 z8 = gg z8) ∧ (∀ z8, 5000 ≤ z8 → u9.1 z8 = ad z8 ∧ u9.2.1 z8 = gg z8)) (BW D vwCl (va_A ([(zo, .inl (cT 1, 1, .inr (.inl zw)))] ++ pg cds ad gg) sz) (fun u9 : (Nat → Nat) × (Nat → Option va_E) × Int32 => ([(zo, .inl (cT 1, 1, .inr (.inl (vp_updL zw 0 (Int32.toInt64 u9.2.2)))))] ++ pg cds u9.1 u9.2.1))) (va_A ([(zo, .inl (cT 1, 1, .inr (.inl zw)))] ++ pg cds ad gg) sz)) (3 * (max fm (T + rr)) + 4 * SM (mkr F T n w lst dpt wd ru rl vv eg ik ne pcb (psb &&& (thr n)) tg mk rr) 16 - (3 * fm + 4 * SM mk 16)) (42 * (max fm (T + rr)) + 69 * SM (mkr F T n w lst dpt wd ru rl vv eg ik ne pcb (psb &&& (thr n)) tg mk rr) 16 - (42 * fm + 69 * SM mk 16)) (va_A ([(zo, .inl (cT 1, 1, .inr (.inl zw)))] ++ pg cds ad gg) sz) := by
  refine va_MetW (hh := [(0, 9, 12, 13), (0, 9, 15, 19)]) (cc := cL_train) (maxL := 4) (ret := (some .int)) (by decide) rfl ?_
  intro p e s m args below meth c s₁ B hml hv
  obtain ⟨rfl, ⟨hsz, hZ, hP, hK, hD0⟩, hE0⟩ := hv
  have hx := B.exec
  have hb := B.bytes
  have hr := B.returns
  have hts := atoms_spec (ws := WL_train) B.pre
  have hT : ∀ w ∈ TB, w.before _ s = true := fun w h => hts w (List.mem_cons_of_mem _ h)
  have hown : s.vm.findClass R_L = some m.cls := findClass_of_methodNamed B.named
  have htab := tx_table B (bytes := cL_train) (maxL := 4) (ret := (some .int)) (hh := [(0, 9, 12, 13), (0, 9, 15, 19)]) (hts _ List.mem_cons_self)
  subst hsz
  have hD := hD0.self (sz := s.heap.size)
  generalize hAe : va_A ([(zo, .inl (cT 1, 1, .inr (.inl zw)))] ++ pg cds ad gg) s.heap.size = A at hD hZ hE0 ⊢
  have hA : ∀ q : Nat, s.heap.size ≤ q → A q := fun q h => by rw [← hAe]; exact Or.inr h
  have hS : va_S A s.heap s.heap [] := va_S.rf
  have hl := lv_entry ([.ref (ad 0), .int (nI rr), .ref zo]) (n := 4) (Nat.le_of_ble_eq_true rfl)
  rw [lg_entry_eq]
  generalize (lg_sl ([.ref (ad 0), .int (nI rr), .ref zo]) ++ List.replicate (4 - (lg_sl ([.ref (ad 0), .int (nI rr), .ref zo])).length) Slot.unset).toArray = ls at hl ⊢
  have hl : lv_has ls 4 [(0, .ref (ad 0)), (1, .int (nI rr)), (2, .ref zo)] := hl
  refine lv_aload_n hx hb dL_train_0 rfl (lv_at hl 2 rfl) ?_
  refine lv_iconst (v := 0) hx hb dL_train_1 (by decide) ?_
  refine lv_aload_n hx hb dL_train_2 rfl (lv_at hl 0 rfl) ?_
  refine lv_iload_n hx hb dL_train_3 rfl (lv_at hl 1 rfl) ?_
  refine hy_iP (X := [(zo, .inl (cT 1, 1, .inr (.inl zw)))]) (pl := pg cds ad gg) (cx := []) (wr := [(zo, .inl (cT 1, 1, .inr (.inl zw)))]) hP hD hS hA [] [0] rfl rfl (by decide) (by decide) (va_runV (As := [.int (nI rr)]) (rest := [.int 0, .ref zo]) ⟨hx, hb, hml, hown, hT⟩ (k_train l D cT cds ad gg tE mE T fm mk F n wd vv vq eg ik ne tg dpt lst w ru rl psb pcb rr hcd hTV hTf hTr hc0 hn48 hne hik hls2 hw20 hwd6 hS9 hVk htg hTOK hdp4 hr9 hA0 hS0 hC0 _) ⟨callB_of 1 hT (tb_gd w710) rfl rfl rfl (hT _ w1) (hT _ w707) hR_train ⟨Nat.le_of_ble_eq_true rfl, Nat.le_of_ble_eq_true rfl⟩, (hT _ w708), (hT _ w709)⟩ (RWE.preW (ci := 0) (q0 := 0) hE0 hZ hS (va_freeP (cx := []) hD hS hA [] rfl) (hP.part (cx := []) [] rfl) hK (hD.part (cx := []) [] (by decide) rfl) (pg_1 (x := 0) hcd hP (by decide) hTV.1) rfl rfl) rfl rfl hl.1 rfl (lv_room (Nat.le_of_ble_eq_true rfl)) dL_train_4 ⟨(by show 0 + (3 * (max fm (T + rr)) + 4 * SM (mkr F T n w lst dpt wd ru rl vv eg ik ne pcb (psb &&& (thr n)) tg mk rr) 16 - (3 * fm + 4 * SM mk 16)) ≤ (3 * (max fm (T + rr)) + 4 * SM (mkr F T n w lst dpt wd ru rl vv eg ik ne pcb (psb &&& (thr n)) tg mk rr) 16 - (3 * fm + 4 * SM mk 16)); omega), (by show 0 + (42 * (max fm (T + rr)) + 69 * SM (mkr F T n w lst dpt wd ru rl vv eg ik ne pcb (psb &&& (thr n)) tg mk rr) 16 - (42 * fm + 69 * SM mk 16)) ≤ (42 * (max fm (T + rr)) + 69 * SM (mkr F T n w lst dpt wd ru rl vv eg ik ne pcb (psb &&& (thr n)) tg mk rr) 16 - (42 * fm + 69 * SM mk 16)); omega)⟩) (fun ru1 u9 H locs hpu1 hP hD hS => ?_)
  obtain ⟨ad7u1, gg7u1⟩ := u9
  have hpu1 : ru1 = nI rr ∧ TOK (rds F T n w lst dpt wd ru rl vv eg ik ne pcb (psb &&& (thr n)) tg rr) (T + rr) ∧ TRV cT ad7u1 gg7u1 tE (T + rr) (max fm (T + rr)) (mkr F T n w lst dpt wd ru rl vv eg ik ne pcb (psb &&& (thr n)) tg mk rr) (rds F T n w lst dpt wd ru rl vv eg ik ne pcb (psb &&& (thr n)) tg rr) n wd vv vq eg ik ne tg dpt lst w ru rl psb pcb ∧ (∀ z8, z8 ≠ 40 → z8 < 1000 → ad7u1 z8 = ad z8) ∧ (∀ z8, ((40 < z8 ∧ z8 < 50) ∨ (53 < z8 ∧ z8 < 60)) → gg7u1 z8 = gg z8) ∧ (∀ z8, 5000 ≤ z8 → ad7u1 z8 = ad z8 ∧ gg7u1 z8 = gg z8) := hpu1
  have hP : va_P D vwCl ([(zo, .inl (cT 1, 1, .inr (.inl zw)))] ++ pg cds ad7u1 gg7u1) _ := hP
  have hD : va_D A ([(zo, .inl (cT 1, 1, .inr (.inl zw)))] ++ pg cds ad7u1 gg7u1) := hD
  refine lv_i2l hx hb dL_train_7 rfl ?_
  refine va_last hx hb hK hP hD hS 0 1 rfl rfl (by unfold vp_in; decide) dL_train_8 (fun H locs hP hD hS => ?_)
  have hP : va_P D vwCl ([(zo, .inl (cT 1, 1, .inr (.inl (vp_updL zw 0 ((ru1 : Int32).toInt64)))))] ++ pg cds ad7u1 gg7u1) _ := hP
  have hD : va_D A ([(zo, .inl (cT 1, 1, .inr (.inl (vp_updL zw 0 ((ru1 : Int32).toInt64)))))] ++ pg cds ad7u1 gg7u1) := hD
  refine lv_goto (tgt := 18) hx hb dL_train_9 rfl ?_
  refine lv_iconst (v := 0) hx hb dL_train_18 (by decide) ?_
  have hP9 : va_P D vwCl ([(zo, .inl (cT 1, 1, .inr (.inl (vp_updL zw 0 (Int32.toInt64 ru1)))))] ++ pg cds ad7u1 gg7u1) _ := hP.part (cx := [(zo, .inl (cT 1, 1, .inr (.inl (vp_updL zw 0 (Int32.toInt64 ru1)))))]) [0] rfl
  have hD9 : va_D A ([(zo, .inl (cT 1, 1, .inr (.inl (vp_updL zw 0 (Int32.toInt64 ru1)))))] ++ pg cds ad7u1 gg7u1) := hD.part (cx := [(zo, .inl (cT 1, 1, .inr (.inl (vp_updL zw 0 (Int32.toInt64 ru1)))))]) [0] (by decide) rfl
  refine W.widen (k := 3 * (max fm (T + rr)) + 4 * SM (mkr F T n w lst dpt wd ru rl vv eg ik ne pcb (psb &&& (thr n)) tg mk rr) 16 - (3 * fm + 4 * SM mk 16)) (n := 42 * (max fm (T + rr)) + 69 * SM (mkr F T n w lst dpt wd ru rl vv eg ik ne pcb (psb &&& (thr n)) tg mk rr) 16 - (42 * fm + 69 * SM mk 16)) ((by show 0 + (3 * (max fm (T + rr)) + 4 * SM (mkr F T n w lst dpt wd ru rl vv eg ik ne pcb (psb &&& (thr n)) tg mk rr) 16 - (3 * fm + 4 * SM mk 16)) ≤ 3 * (max fm (T + rr)) + 4 * SM (mkr F T n w lst dpt wd ru rl vv eg ik ne pcb (psb &&& (thr n)) tg mk rr) 16 - (3 * fm + 4 * SM mk 16); omega)) ((by show 0 + (42 * (max fm (T + rr)) + 69 * SM (mkr F T n w lst dpt wd ru rl vv eg ik ne pcb (psb &&& (thr n)) tg mk rr) 16 - (42 * fm + 69 * SM mk 16)) ≤ 42 * (max fm (T + rr)) + 69 * SM (mkr F T n w lst dpt wd ru rl vv eg ik ne pcb (psb &&& (thr n)) tg mk rr) 16 - (42 * fm + 69 * SM mk 16); omega)) ?_
  exact W.iret (v := 0) hx hb hr (fun t9 ht9 hW9 => ⟨⟨0, (ad7u1, gg7u1, ru1), rfl, (show 0 = 0 ∧ ru1 = nI rr ∧ TOK (rds F T n w lst dpt wd ru rl vv eg ik ne pcb (psb &&& (thr n)) tg rr) (T + rr) ∧ TRV cT ad7u1 gg7u1 tE (T + rr) (max fm (T + rr)) (mkr F T n w lst dpt wd ru rl vv eg ik ne pcb (psb &&& (thr n)) tg mk rr) (rds F T n w lst dpt wd ru rl vv eg ik ne pcb (psb &&& (thr n)) tg rr) n wd vv vq eg ik ne tg dpt lst w ru rl psb pcb ∧ (∀ z8, z8 ≠ 40 → z8 < 1000 → ad7u1 z8 = ad z8) ∧ (∀ z8, ((40 < z8 ∧ z8 < 50) ∨ (53 < z8 ∧ z8 < 60)) → gg7u1 z8 = gg z8) ∧ (∀ z8, 5000 ≤ z8 → ad7u1 z8 = ad z8 ∧ gg7u1 z8 = gg z8) from ⟨rfl, hpu1⟩), by rw [ht9]; exact hP9, hD9⟩, hS.F ht9⟩) hS.2.2 dL_train_19
set_option maxHeartbeats 4000000 in
set_option maxRecDepth 100000 in
theorem l_train_no1 (l : Launch) (D : va_G) (cT : Nat → ClassId) (cds : List Nat) (ad : Nat → Nat) (gg : Nat → Option va_E) (v : Int32) (tc : Int32) (zo : Nat) (zw : Nat → Int64) (hlt : l.stackTraces = false) (hcd : CD cds) (hob : gg 0 = some (eOB ad tc)) (hq : ¬ (1 ≤ v ∧ v ≤ 16)) (sz : Nat) : Met l yL_train WL_train ({ frames := 8, cells := 1, slots := 6, locals := 137 } : Room) (RW D vwCl [.ref (ad 0), .int v, .ref zo] ([(zo, .inl (cT 1, 1, .inr (.inl zw)))] ++ pg cds ad gg) (TY cT) sz) (va_Qi (fun (r9 : Int32) (u9 : Unit) => r9 = 1) (BW D vwCl (va_A ([(zo, .inl (cT 1, 1, .inr (.inl zw)))] ++ pg cds ad gg) sz) (fun u9 : Unit => ([(zo, .inl (cT 1, 1, .inr (.inl zw)))] ++ pg cds ad gg))) (va_A ([(zo, .inl (cT 1, 1, .inr (.inl zw)))] ++ pg cds ad gg) sz)) 1 6 (va_A ([(zo, .inl (cT 1, 1, .inr (.inl zw)))] ++ pg cds ad gg) sz) := by
  refine va_MetW (hh := [(0, 9, 12, 13), (0, 9, 15, 19)]) (cc := cL_train) (maxL := 4) (ret := (some .int)) (by decide) rfl ?_
  intro p e s m args below meth c s₁ B hml hv
  obtain ⟨rfl, hsz, hZ, hP, hK, hD0⟩ := hv
  have hx := B.exec
  have hb := B.bytes
  have hr := B.returns
  have hts := atoms_spec (ws := WL_train) B.pre
  have hT : ∀ w ∈ TB, w.before _ s = true := fun w h => hts w (List.mem_cons_of_mem _ h)
  have hown : s.vm.findClass R_L = some m.cls := findClass_of_methodNamed B.named
  have htab := tx_table B (bytes := cL_train) (maxL := 4) (ret := (some .int)) (hh := [(0, 9, 12, 13), (0, 9, 15, 19)]) (hts _ List.mem_cons_self)
  subst hsz
  have hD := hD0.self (sz := s.heap.size)
  generalize hAe : va_A ([(zo, .inl (cT 1, 1, .inr (.inl zw)))] ++ pg cds ad gg) s.heap.size = A at hD hZ ⊢
  have hA : ∀ q : Nat, s.heap.size ≤ q → A q := fun q h => by rw [← hAe]; exact Or.inr h
  have hS : va_S A s.heap s.heap [] := va_S.rf
  have hl := lv_entry ([.ref (ad 0), .int v, .ref zo]) (n := 4) (Nat.le_of_ble_eq_true rfl)
  rw [lg_entry_eq]
  generalize (lg_sl ([.ref (ad 0), .int v, .ref zo]) ++ List.replicate (4 - (lg_sl ([.ref (ad 0), .int v, .ref zo])).length) Slot.unset).toArray = ls at hl ⊢
  have hl : lv_has ls 4 [(0, .ref (ad 0)), (1, .int v), (2, .ref zo)] := hl
  refine lv_aload_n hx hb dL_train_0 rfl (lv_at hl 2 rfl) ?_
  refine lv_iconst (v := 0) hx hb dL_train_1 (by decide) ?_
  refine lv_aload_n hx hb dL_train_2 rfl (lv_at hl 0 rfl) ?_
  refine lv_iload_n hx hb dL_train_3 rfl (lv_at hl 1 rfl) ?_
  refine tx_catch1 (name := "java/lang/IllegalArgumentException") (tx_goV (As := [.int v]) (rest := [.int 0, .ref zo]) ⟨hx, hb, hml, hown, hT⟩ (k_train_no1 l D cT cds ad gg v hlt hq) ⟨callB_of 1 hT (tb_gd w710) rfl rfl rfl (hT _ w1) (hT _ w707) hR_train ⟨Nat.le_of_ble_eq_true rfl, Nat.le_of_ble_eq_true rfl⟩, (hT _ w708), (hT _ w709)⟩ (RO.preW (ci := 0) (q0 := 0) hZ hS ((show va_P D vwCl ([] ++ pg cds ad gg) _ from (pv_p hP))) hK (pg_1 (x := 0) hcd hP (by decide) hob) rfl rfl) rfl hl.1 rfl (Nat.le_of_ble_eq_true rfl) dL_train_4 ⟨Nat.le_of_ble_eq_true rfl, Nat.le_of_ble_eq_true rfl⟩) hown htab rfl (by decide) (hT _ w503) (tc_c rfl (hZ.1.1 ("java/lang/IllegalArgumentException", "java/lang/IllegalArgumentException") (List.mem_of_getElem? (i := 0) rfl))) (fun q9 H hsz9 hag9 => ?_)
  have hP := tc_P hP hag9
  have hS := tc_S hS hsz9 hag9
  refine W.eq (g2 := F0 m 12 ls [.ref q9]) rfl ?_
  refine lv_astore_n hx hb dL_train_12 rfl hl (by decide) rfl (fun ls hl => ?_)
  have hl : lv_has ls 4 [(3, .ref q9), (0, .ref (ad 0)), (1, .int v), (2, .ref zo)] := hl
  refine lv_iconst (v := 1) hx hb dL_train_13 (by decide) ?_
  have hP9 : va_P D vwCl ([(zo, .inl (cT 1, 1, .inr (.inl zw)))] ++ pg cds ad gg) _ := hP.part (cx := [(zo, .inl (cT 1, 1, .inr (.inl zw)))]) [0] rfl
  have hD9 : va_D A ([(zo, .inl (cT 1, 1, .inr (.inl zw)))] ++ pg cds ad gg) := hD.part (cx := [(zo, .inl (cT 1, 1, .inr (.inl zw)))]) [0] (by decide) rfl
  refine W.widen (k := 1) (n := 6) (Nat.le_of_ble_eq_true rfl) (Nat.le_of_ble_eq_true rfl) ?_
  exact W.iret (v := 1) hx hb hr (fun t9 ht9 hW9 => ⟨⟨1, (), rfl, (show 1 = 1 from rfl), by rw [ht9]; exact hP9, hD9⟩, hS.F ht9⟩) hS.2.2 dL_train_14
set_option maxHeartbeats 4000000 in
set_option maxRecDepth 100000 in
theorem l_train_no2 (l : Launch) (D : va_G) (cT : Nat → ClassId) (cds : List Nat) (ad : Nat → Nat) (gg : Nat → Option va_E) (T : Nat) (n : Nat) (wd : Nat) (pd : Int32) (pl9 : Int32) (pw : Int32) (pu : Int32) (pq9 : Int32) (psb : Int64) (pcb : Int32) (rr : Nat) (zo : Nat) (zw : Nat → Int64) (hlt : l.stackTraces = false) (hcd : CD cds) (hob : gg 0 = some (eOB ad (nI T))) (htb : gg 1 = some (eTB ad (nI wd) (nI n))) (hpl : gg 4 = some (ePL pd pl9 pw pu pq9 psb pcb)) (hn48 : n ≤ 48) (hT16 : T ≤ 16) (hr16 : rr ≤ 16) (hc0 : 1 ≤ nI rr ∧ nI rr ≤ 16) (hq : psb &&& (thr n) = 0 ∨ pcb &&& (((1 : Int32) <<< (nI wd &&& 31)) - 1) = 0 ∨ 16 < T + rr) (sz : Nat) : Met l yL_train WL_train ({ frames := 8, cells := 1, slots := 6, locals := 137 } : Room) (RW D vwCl [.ref (ad 0), .int (nI rr), .ref zo] ([(zo, .inl (cT 1, 1, .inr (.inl zw)))] ++ pg cds ad gg) (TY cT) sz) (va_Qi (fun (r9 : Int32) (u9 : Unit) => r9 = 2) (BW D vwCl (va_A ([(zo, .inl (cT 1, 1, .inr (.inl zw)))] ++ pg cds ad gg) sz) (fun u9 : Unit => ([(zo, .inl (cT 1, 1, .inr (.inl zw)))] ++ pg cds ad gg))) (va_A ([(zo, .inl (cT 1, 1, .inr (.inl zw)))] ++ pg cds ad gg) sz)) 1 6 (va_A ([(zo, .inl (cT 1, 1, .inr (.inl zw)))] ++ pg cds ad gg) sz) := by
  refine va_MetW (hh := [(0, 9, 12, 13), (0, 9, 15, 19)]) (cc := cL_train) (maxL := 4) (ret := (some .int)) (by decide) rfl ?_
  intro p e s m args below meth c s₁ B hml hv
  obtain ⟨rfl, hsz, hZ, hP, hK, hD0⟩ := hv
  have hx := B.exec
  have hb := B.bytes
  have hr := B.returns
  have hts := atoms_spec (ws := WL_train) B.pre
  have hT : ∀ w ∈ TB, w.before _ s = true := fun w h => hts w (List.mem_cons_of_mem _ h)
  have hown : s.vm.findClass R_L = some m.cls := findClass_of_methodNamed B.named
  have htab := tx_table B (bytes := cL_train) (maxL := 4) (ret := (some .int)) (hh := [(0, 9, 12, 13), (0, 9, 15, 19)]) (hts _ List.mem_cons_self)
  subst hsz
  have hD := hD0.self (sz := s.heap.size)
  generalize hAe : va_A ([(zo, .inl (cT 1, 1, .inr (.inl zw)))] ++ pg cds ad gg) s.heap.size = A at hD hZ ⊢
  have hA : ∀ q : Nat, s.heap.size ≤ q → A q := fun q h => by rw [← hAe]; exact Or.inr h
  have hS : va_S A s.heap s.heap [] := va_S.rf
  have hl := lv_entry ([.ref (ad 0), .int (nI rr), .ref zo]) (n := 4) (Nat.le_of_ble_eq_true rfl)
  rw [lg_entry_eq]
  generalize (lg_sl ([.ref (ad 0), .int (nI rr), .ref zo]) ++ List.replicate (4 - (lg_sl ([.ref (ad 0), .int (nI rr), .ref zo])).length) Slot.unset).toArray = ls at hl ⊢
  have hl : lv_has ls 4 [(0, .ref (ad 0)), (1, .int (nI rr)), (2, .ref zo)] := hl
  refine lv_aload_n hx hb dL_train_0 rfl (lv_at hl 2 rfl) ?_
  refine lv_iconst (v := 0) hx hb dL_train_1 (by decide) ?_
  refine lv_aload_n hx hb dL_train_2 rfl (lv_at hl 0 rfl) ?_
  refine lv_iload_n hx hb dL_train_3 rfl (lv_at hl 1 rfl) ?_
  refine tx_catch2 (name0 := "java/lang/IllegalArgumentException") (name := "java/lang/IllegalStateException") (tx_goV (As := [.int (nI rr)]) (rest := [.int 0, .ref zo]) ⟨hx, hb, hml, hown, hT⟩ (k_train_no2 l D cT cds ad gg T n wd pd pl9 pw pu pq9 psb pcb rr hlt hcd hob htb hpl hn48 hT16 hr16 hc0 hq) ⟨callB_of 1 hT (tb_gd w710) rfl rfl rfl (hT _ w1) (hT _ w707) hR_train ⟨Nat.le_of_ble_eq_true rfl, Nat.le_of_ble_eq_true rfl⟩, (hT _ w708), (hT _ w709)⟩ (RO.preW (ci := 0) (q0 := 0) hZ hS ((show va_P D vwCl ([] ++ pg cds ad gg) _ from (pv_p hP))) hK (pg_1 (x := 0) hcd hP (by decide) hob) rfl rfl) rfl hl.1 rfl (Nat.le_of_ble_eq_true rfl) dL_train_4 ⟨Nat.le_of_ble_eq_true rfl, Nat.le_of_ble_eq_true rfl⟩) hown htab rfl (by decide) (hT _ w503) hZ.1.2.2.2.2 rfl (by decide) (hT _ w576) (tc_c rfl (hZ.1.1 ("java/lang/IllegalStateException", "java/lang/IllegalStateException") (List.mem_of_getElem? (i := 1) rfl))) (fun q9 H hsz9 hag9 => ?_)
  have hP := tc_P hP hag9
  have hS := tc_S hS hsz9 hag9
  refine W.eq (g2 := F0 m 15 ls [.ref q9]) rfl ?_
  refine lv_astore_n hx hb dL_train_15 rfl hl (by decide) rfl (fun ls hl => ?_)
  have hl : lv_has ls 4 [(3, .ref q9), (0, .ref (ad 0)), (1, .int (nI rr)), (2, .ref zo)] := hl
  refine lv_iconst (v := 2) hx hb dL_train_16 (by decide) ?_
  have hP9 : va_P D vwCl ([(zo, .inl (cT 1, 1, .inr (.inl zw)))] ++ pg cds ad gg) _ := hP.part (cx := [(zo, .inl (cT 1, 1, .inr (.inl zw)))]) [0] rfl
  have hD9 : va_D A ([(zo, .inl (cT 1, 1, .inr (.inl zw)))] ++ pg cds ad gg) := hD.part (cx := [(zo, .inl (cT 1, 1, .inr (.inl zw)))]) [0] (by decide) rfl
  refine W.widen (k := 1) (n := 6) (Nat.le_of_ble_eq_true rfl) (Nat.le_of_ble_eq_true rfl) ?_
  exact W.iret (v := 2) hx hb hr (fun t9 ht9 hW9 => ⟨⟨2, (), rfl, (show 2 = 2 from rfl), by rw [ht9]; exact hP9, hD9⟩, hS.F ht9⟩) hS.2.2 dL_train_17
set_option maxHeartbeats 4000000 in
set_option maxRecDepth 100000 in
theorem l_drop (l : Launch) (D : va_G) (cT : Nat → ClassId) (cds : List Nat) (ad : Nat → Nat) (gg : Nat → Option va_E) (T : Nat) (k : Nat) (zo : Nat) (zw : Nat → Int64) (hcd : CD cds) (hob : gg 0 = some (eOB ad (nI T))) (hk0 : 0 ≤ nI k ∧ nI k ≤ nI T) (hkT : k ≤ T) (sz : Nat) : Met l yL_drop WL_drop ({ frames := 2, cells := 0, slots := 0, locals := 44 } : Room) (RW D vwCl [.ref (ad 0), .int (nI k), .ref zo] ([(zo, .inl (cT 1, 1, .inr (.inl zw)))] ++ pg cds ad gg) (TY cT) sz) (va_Qi (fun (r9 : Int32) (u9 : (Nat → Option va_E) × Int32) => r9 = 0 ∧ u9.2 = nI (T - k) ∧ (∀ z8, z8 ≠ 0 → u9.1 z8 = gg z8) ∧ u9.1 0 = some (eOB ad (nI k))) (BW D vwCl (va_A ([(zo, .inl (cT 1, 1, .inr (.inl zw)))] ++ pg cds ad gg) sz) (fun u9 : (Nat → Option va_E) × Int32 => ([(zo, .inl (cT 1, 1, .inr (.inl (vp_updL zw 0 (Int32.toInt64 u9.2)))))] ++ pg cds ad u9.1))) (va_A ([(zo, .inl (cT 1, 1, .inr (.inl zw)))] ++ pg cds ad gg) sz)) 0 0 (va_A ([(zo, .inl (cT 1, 1, .inr (.inl zw)))] ++ pg cds ad gg) sz) := by
  refine va_MetW (hh := [(0, 9, 12, 13)]) (cc := cL_drop) (maxL := 4) (ret := (some .int)) (by decide) rfl ?_
  intro p e s m args below meth c s₁ B hml hv
  obtain ⟨rfl, hsz, hZ, hP, hK, hD0⟩ := hv
  have hx := B.exec
  have hb := B.bytes
  have hr := B.returns
  have hts := atoms_spec (ws := WL_drop) B.pre
  have hT : ∀ w ∈ TB, w.before _ s = true := fun w h => hts w (List.mem_cons_of_mem _ h)
  have hown : s.vm.findClass R_L = some m.cls := findClass_of_methodNamed B.named
  have htab := tx_table B (bytes := cL_drop) (maxL := 4) (ret := (some .int)) (hh := [(0, 9, 12, 13)]) (hts _ List.mem_cons_self)
  subst hsz
  have hD := hD0.self (sz := s.heap.size)
  generalize hAe : va_A ([(zo, .inl (cT 1, 1, .inr (.inl zw)))] ++ pg cds ad gg) s.heap.size = A at hD hZ ⊢
  have hA : ∀ q : Nat, s.heap.size ≤ q → A q := fun q h => by rw [← hAe]; exact Or.inr h
  have hS : va_S A s.heap s.heap [] := va_S.rf
  have hl := lv_entry ([.ref (ad 0), .int (nI k), .ref zo]) (n := 4) (Nat.le_of_ble_eq_true rfl)
  rw [lg_entry_eq]
  generalize (lg_sl ([.ref (ad 0), .int (nI k), .ref zo]) ++ List.replicate (4 - (lg_sl ([.ref (ad 0), .int (nI k), .ref zo])).length) Slot.unset).toArray = ls at hl ⊢
  have hl : lv_has ls 4 [(0, .ref (ad 0)), (1, .int (nI k)), (2, .ref zo)] := hl
  refine lv_aload_n hx hb dL_drop_0 rfl (lv_at hl 2 rfl) ?_
  refine lv_iconst (v := 0) hx hb dL_drop_1 (by decide) ?_
  refine lv_aload_n hx hb dL_drop_2 rfl (lv_at hl 0 rfl) ?_
  refine lv_iload_n hx hb dL_drop_3 rfl (lv_at hl 1 rfl) ?_
  refine hy_iP (X := [(zo, .inl (cT 1, 1, .inr (.inl zw)))]) (pl := pg cds ad gg) (cx := []) (wr := [(zo, .inl (cT 1, 1, .inr (.inl zw)))]) hP hD hS hA [] [0] rfl rfl (by decide) (by decide) (va_runV (As := [.int (nI k)]) (rest := [.int 0, .ref zo]) ⟨hx, hb, hml, hown, hT⟩ (k_drop l D cT cds ad gg T k hcd hob hk0 hkT _) ⟨callB_of 1 hT (tb_gd w993) rfl rfl rfl (hT _ w1) (hT _ w990) hR_drop ⟨Nat.le_of_ble_eq_true rfl, Nat.le_of_ble_eq_true rfl⟩, (hT _ w991), (hT _ w992)⟩ (RW.preW (ci := 0) (q0 := 0) hZ hS (va_freeP (cx := []) hD hS hA [] rfl) (hP.part (cx := []) [] rfl) hK (hD.part (cx := []) [] (by decide) rfl) (pg_1 (x := 0) hcd hP (by decide) hob) rfl rfl) rfl rfl hl.1 rfl (lv_room (Nat.le_of_ble_eq_true rfl)) dL_drop_4 ⟨Nat.le_of_ble_eq_true rfl, Nat.le_of_ble_eq_true rfl⟩) (fun ru1 u9 H locs hpu1 hP hD hS => ?_)
  obtain ⟨gg7u1, rfl⟩ : ∃ q9, q9 = u9 := ⟨_, rfl⟩
  have hpu1 : ru1 = nI (T - k) ∧ (∀ z8, z8 ≠ 0 → gg7u1 z8 = gg z8) ∧ gg7u1 0 = some (eOB ad (nI k)) := hpu1
  have hP : va_P D vwCl ([(zo, .inl (cT 1, 1, .inr (.inl zw)))] ++ pg cds ad gg7u1) _ := hP
  have hD : va_D A ([(zo, .inl (cT 1, 1, .inr (.inl zw)))] ++ pg cds ad gg7u1) := hD
  refine lv_i2l hx hb dL_drop_7 rfl ?_
  refine va_last hx hb hK hP hD hS 0 1 rfl rfl (by unfold vp_in; decide) dL_drop_8 (fun H locs hP hD hS => ?_)
  have hP : va_P D vwCl ([(zo, .inl (cT 1, 1, .inr (.inl (vp_updL zw 0 ((ru1 : Int32).toInt64)))))] ++ pg cds ad gg7u1) _ := hP
  have hD : va_D A ([(zo, .inl (cT 1, 1, .inr (.inl (vp_updL zw 0 ((ru1 : Int32).toInt64)))))] ++ pg cds ad gg7u1) := hD
  refine lv_goto (tgt := 15) hx hb dL_drop_9 rfl ?_
  refine lv_iconst (v := 0) hx hb dL_drop_15 (by decide) ?_
  have hP9 : va_P D vwCl ([(zo, .inl (cT 1, 1, .inr (.inl (vp_updL zw 0 (Int32.toInt64 ru1)))))] ++ pg cds ad gg7u1) _ := hP.part (cx := [(zo, .inl (cT 1, 1, .inr (.inl (vp_updL zw 0 (Int32.toInt64 ru1)))))]) [0] rfl
  have hD9 : va_D A ([(zo, .inl (cT 1, 1, .inr (.inl (vp_updL zw 0 (Int32.toInt64 ru1)))))] ++ pg cds ad gg7u1) := hD.part (cx := [(zo, .inl (cT 1, 1, .inr (.inl (vp_updL zw 0 (Int32.toInt64 ru1)))))]) [0] (by decide) rfl
  refine W.widen (k := 0) (n := 0) (Nat.le_of_ble_eq_true rfl) (Nat.le_of_ble_eq_true rfl) ?_
  exact W.iret (v := 0) hx hb hr (fun t9 ht9 hW9 => ⟨⟨0, (gg7u1, ru1), rfl, (show 0 = 0 ∧ ru1 = nI (T - k) ∧ (∀ z8, z8 ≠ 0 → gg7u1 z8 = gg z8) ∧ gg7u1 0 = some (eOB ad (nI k)) from ⟨rfl, hpu1⟩), by rw [ht9]; exact hP9, hD9⟩, hS.F ht9⟩) hS.2.2 dL_drop_16
set_option maxHeartbeats 4000000 in
set_option maxRecDepth 100000 in
theorem l_drop_no (l : Launch) (D : va_G) (cT : Nat → ClassId) (cds : List Nat) (ad : Nat → Nat) (gg : Nat → Option va_E) (T : Nat) (v : Int32) (zo : Nat) (zw : Nat → Int64) (hlt : l.stackTraces = false) (hcd : CD cds) (hob : gg 0 = some (eOB ad (nI T))) (hq : ¬ (0 ≤ v ∧ v ≤ nI T)) (sz : Nat) : Met l yL_drop WL_drop ({ frames := 8, cells := 1, slots := 6, locals := 133 } : Room) (RW D vwCl [.ref (ad 0), .int v, .ref zo] ([(zo, .inl (cT 1, 1, .inr (.inl zw)))] ++ pg cds ad gg) (TY cT) sz) (va_Qi (fun (r9 : Int32) (u9 : Unit) => r9 = 1) (BW D vwCl (va_A ([(zo, .inl (cT 1, 1, .inr (.inl zw)))] ++ pg cds ad gg) sz) (fun u9 : Unit => ([(zo, .inl (cT 1, 1, .inr (.inl zw)))] ++ pg cds ad gg))) (va_A ([(zo, .inl (cT 1, 1, .inr (.inl zw)))] ++ pg cds ad gg) sz)) 1 6 (va_A ([(zo, .inl (cT 1, 1, .inr (.inl zw)))] ++ pg cds ad gg) sz) := by
  refine va_MetW (hh := [(0, 9, 12, 13)]) (cc := cL_drop) (maxL := 4) (ret := (some .int)) (by decide) rfl ?_
  intro p e s m args below meth c s₁ B hml hv
  obtain ⟨rfl, hsz, hZ, hP, hK, hD0⟩ := hv
  have hx := B.exec
  have hb := B.bytes
  have hr := B.returns
  have hts := atoms_spec (ws := WL_drop) B.pre
  have hT : ∀ w ∈ TB, w.before _ s = true := fun w h => hts w (List.mem_cons_of_mem _ h)
  have hown : s.vm.findClass R_L = some m.cls := findClass_of_methodNamed B.named
  have htab := tx_table B (bytes := cL_drop) (maxL := 4) (ret := (some .int)) (hh := [(0, 9, 12, 13)]) (hts _ List.mem_cons_self)
  subst hsz
  have hD := hD0.self (sz := s.heap.size)
  generalize hAe : va_A ([(zo, .inl (cT 1, 1, .inr (.inl zw)))] ++ pg cds ad gg) s.heap.size = A at hD hZ ⊢
  have hA : ∀ q : Nat, s.heap.size ≤ q → A q := fun q h => by rw [← hAe]; exact Or.inr h
  have hS : va_S A s.heap s.heap [] := va_S.rf
  have hl := lv_entry ([.ref (ad 0), .int v, .ref zo]) (n := 4) (Nat.le_of_ble_eq_true rfl)
  rw [lg_entry_eq]
  generalize (lg_sl ([.ref (ad 0), .int v, .ref zo]) ++ List.replicate (4 - (lg_sl ([.ref (ad 0), .int v, .ref zo])).length) Slot.unset).toArray = ls at hl ⊢
  have hl : lv_has ls 4 [(0, .ref (ad 0)), (1, .int v), (2, .ref zo)] := hl
  refine lv_aload_n hx hb dL_drop_0 rfl (lv_at hl 2 rfl) ?_
  refine lv_iconst (v := 0) hx hb dL_drop_1 (by decide) ?_
  refine lv_aload_n hx hb dL_drop_2 rfl (lv_at hl 0 rfl) ?_
  refine lv_iload_n hx hb dL_drop_3 rfl (lv_at hl 1 rfl) ?_
  refine tx_catch1 (name := "java/lang/IllegalArgumentException") (tx_goV (As := [.int v]) (rest := [.int 0, .ref zo]) ⟨hx, hb, hml, hown, hT⟩ (k_drop_no l D cT cds ad gg T v hlt hcd hob hq) ⟨callB_of 1 hT (tb_gd w993) rfl rfl rfl (hT _ w1) (hT _ w990) hR_drop ⟨Nat.le_of_ble_eq_true rfl, Nat.le_of_ble_eq_true rfl⟩, (hT _ w991), (hT _ w992)⟩ (RO.preW (ci := 0) (q0 := 0) hZ hS ((show va_P D vwCl ([] ++ pg cds ad gg) _ from (pv_p hP))) hK (pg_1 (x := 0) hcd hP (by decide) hob) rfl rfl) rfl hl.1 rfl (Nat.le_of_ble_eq_true rfl) dL_drop_4 ⟨Nat.le_of_ble_eq_true rfl, Nat.le_of_ble_eq_true rfl⟩) hown htab rfl (by decide) (hT _ w503) (tc_c rfl (hZ.1.1 ("java/lang/IllegalArgumentException", "java/lang/IllegalArgumentException") (List.mem_of_getElem? (i := 0) rfl))) (fun q9 H hsz9 hag9 => ?_)
  have hP := tc_P hP hag9
  have hS := tc_S hS hsz9 hag9
  refine W.eq (g2 := F0 m 12 ls [.ref q9]) rfl ?_
  refine lv_astore_n hx hb dL_drop_12 rfl hl (by decide) rfl (fun ls hl => ?_)
  have hl : lv_has ls 4 [(3, .ref q9), (0, .ref (ad 0)), (1, .int v), (2, .ref zo)] := hl
  refine lv_iconst (v := 1) hx hb dL_drop_13 (by decide) ?_
  have hP9 : va_P D vwCl ([(zo, .inl (cT 1, 1, .inr (.inl zw)))] ++ pg cds ad gg) _ := hP.part (cx := [(zo, .inl (cT 1, 1, .inr (.inl zw)))]) [0] rfl
  have hD9 : va_D A ([(zo, .inl (cT 1, 1, .inr (.inl zw)))] ++ pg cds ad gg) := hD.part (cx := [(zo, .inl (cT 1, 1, .inr (.inl zw)))]) [0] (by decide) rfl
  refine W.widen (k := 1) (n := 6) (Nat.le_of_ble_eq_true rfl) (Nat.le_of_ble_eq_true rfl) ?_
  exact W.iret (v := 1) hx hb hr (fun t9 ht9 hW9 => ⟨⟨1, (), rfl, (show 1 = 1 from rfl), by rw [ht9]; exact hP9, hD9⟩, hS.F ht9⟩) hS.2.2 dL_drop_14
set_option maxHeartbeats 4000000 in
set_option maxRecDepth 100000 in
theorem l_node0 (l : Launch) (D : va_G) (cT : Nat → ClassId) (cds : List Nat) (ad : Nat → Nat) (gg : Nat → Option va_E) (T : Nat) (fm : Nat) (F : TFR) (t : Nat) (k : Nat) (zo : Nat) (zw : Nat → Int64) (hcd : CD cds) (hob : gg 0 = some (eOB ad (nI T))) (hFr : FRp cT ad gg fm) (hTm : T ≤ fm) (hTs : TRS cT ad gg F T) (hT16 : T ≤ 16) (htT : t < T) (hc0 : 0 ≤ nI t ∧ nI t ≤ nI T - 1) (hk0 : 0 ≤ nI k ∧ nI k ≤ nI (tM F t) - 1) (hkm : k < tM F t) (sz : Nat) : Met l yL_node WL_node ({ frames := 5, cells := 0, slots := 0, locals := 110 } : Room) (RW D vwCl [.ref (ad 0), .int (nI t), .int (nI k), .int 0, .ref zo] ([(zo, .inl (cT 1, 1, .inr (.inl zw)))] ++ pg cds ad gg) (TY cT) sz) (va_Qi (fun (r9 : Int32) (u9 : Unit) => r9 = 0) (BW D vwCl (va_A ([(zo, .inl (cT 1, 1, .inr (.inl zw)))] ++ pg cds ad gg) sz) (fun u9 : Unit => ([(zo, .inl (cT 1, 1, .inr (.inl (vp_updL zw 0 (Int32.toInt64 (tA F 0 (31 * t + k)))))))] ++ pg cds ad gg))) (va_A ([(zo, .inl (cT 1, 1, .inr (.inl zw)))] ++ pg cds ad gg) sz)) 0 0 (va_A ([(zo, .inl (cT 1, 1, .inr (.inl zw)))] ++ pg cds ad gg) sz) := by
  refine va_MetW (hh := [(0, 12, 15, 13)]) (cc := cL_node) (maxL := 6) (ret := (some .int)) (by decide) rfl ?_
  intro p e s m args below meth c s₁ B hml hv
  obtain ⟨rfl, hsz, hZ, hP, hK, hD0⟩ := hv
  have hx := B.exec
  have hb := B.bytes
  have hr := B.returns
  have hts := atoms_spec (ws := WL_node) B.pre
  have hT : ∀ w ∈ TB, w.before _ s = true := fun w h => hts w (List.mem_cons_of_mem _ h)
  have hown : s.vm.findClass R_L = some m.cls := findClass_of_methodNamed B.named
  have htab := tx_table B (bytes := cL_node) (maxL := 6) (ret := (some .int)) (hh := [(0, 12, 15, 13)]) (hts _ List.mem_cons_self)
  subst hsz
  have hD := hD0.self (sz := s.heap.size)
  generalize hAe : va_A ([(zo, .inl (cT 1, 1, .inr (.inl zw)))] ++ pg cds ad gg) s.heap.size = A at hD hZ ⊢
  have hA : ∀ q : Nat, s.heap.size ≤ q → A q := fun q h => by rw [← hAe]; exact Or.inr h
  have hS : va_S A s.heap s.heap [] := va_S.rf
  have hl := lv_entry ([.ref (ad 0), .int (nI t), .int (nI k), .int 0, .ref zo]) (n := 6) (Nat.le_of_ble_eq_true rfl)
  rw [lg_entry_eq]
  generalize (lg_sl ([.ref (ad 0), .int (nI t), .int (nI k), .int 0, .ref zo]) ++ List.replicate (6 - (lg_sl ([.ref (ad 0), .int (nI t), .int (nI k), .int 0, .ref zo])).length) Slot.unset).toArray = ls at hl ⊢
  have hl : lv_has ls 6 [(0, .ref (ad 0)), (1, .int (nI t)), (2, .int (nI k)), (3, .int 0), (4, .ref zo)] := hl
  refine lv_aload hx hb dL_node_0 (lv_at hl 4 rfl) ?_
  refine lv_iconst (v := 0) hx hb dL_node_2 (by decide) ?_
  refine lv_aload_n hx hb dL_node_3 rfl (lv_at hl 0 rfl) ?_
  refine lv_iload_n hx hb dL_node_4 rfl (lv_at hl 1 rfl) ?_
  refine lv_iload_n hx hb dL_node_5 rfl (lv_at hl 2 rfl) ?_
  refine lv_iload_n hx hb dL_node_6 rfl (lv_at hl 3 rfl) ?_
  refine ro_i (va_Run.run (va_runV (As := [.int (nI t), .int (nI k), .int 0]) (rest := [.int 0, .ref zo]) ⟨hx, hb, hml, hown, hT⟩ (k_node0 l D cT cds ad gg T fm F t k hcd hob hFr hTm hTs hT16 htT hc0 hk0 hkm) ⟨callB_of 3 hT (tb_gd w1000) rfl rfl rfl (hT _ w1) (hT _ w997) hR_node ⟨Nat.le_of_ble_eq_true rfl, Nat.le_of_ble_eq_true rfl⟩, (hT _ w998), (hT _ w999)⟩ (RO.preW (ci := 0) (q0 := 0) hZ hS ((show va_P D vwCl ([] ++ pg cds ad gg) _ from (pv_p hP))) hK (pg_1 (x := 0) hcd hP (by decide) hob) rfl rfl) rfl rfl hl.1 rfl (lv_room (Nat.le_of_ble_eq_true rfl)) dL_node_7 ⟨Nat.le_of_ble_eq_true rfl, Nat.le_of_ble_eq_true rfl⟩)) ?_
  refine lv_i2l hx hb dL_node_10 rfl ?_
  refine va_last hx hb hK hP hD hS 0 1 rfl rfl (by unfold vp_in; decide) dL_node_11 (fun H locs hP hD hS => ?_)
  have hP : va_P D vwCl ([(zo, .inl (cT 1, 1, .inr (.inl (vp_updL zw 0 ((tA F 0 (31 * t + k) : Int32).toInt64)))))] ++ pg cds ad gg) _ := hP
  have hD : va_D A ([(zo, .inl (cT 1, 1, .inr (.inl (vp_updL zw 0 ((tA F 0 (31 * t + k) : Int32).toInt64)))))] ++ pg cds ad gg) := hD
  refine lv_goto (tgt := 19) hx hb dL_node_12 rfl ?_
  refine lv_iconst (v := 0) hx hb dL_node_19 (by decide) ?_
  have hP9 : va_P D vwCl ([(zo, .inl (cT 1, 1, .inr (.inl (vp_updL zw 0 (Int32.toInt64 (tA F 0 (31 * t + k)))))))] ++ pg cds ad gg) _ := hP.part (cx := [(zo, .inl (cT 1, 1, .inr (.inl (vp_updL zw 0 (Int32.toInt64 (tA F 0 (31 * t + k)))))))]) [0] rfl
  have hD9 : va_D A ([(zo, .inl (cT 1, 1, .inr (.inl (vp_updL zw 0 (Int32.toInt64 (tA F 0 (31 * t + k)))))))] ++ pg cds ad gg) := hD.part (cx := [(zo, .inl (cT 1, 1, .inr (.inl (vp_updL zw 0 (Int32.toInt64 (tA F 0 (31 * t + k)))))))]) [0] (by decide) rfl
  refine W.widen (k := 0) (n := 0) (Nat.le_of_ble_eq_true rfl) (Nat.le_of_ble_eq_true rfl) ?_
  exact W.iret (v := 0) hx hb hr (fun t9 ht9 hW9 => ⟨⟨0, (), rfl, (show 0 = 0 from rfl), by rw [ht9]; exact hP9, hD9⟩, hS.F ht9⟩) hS.2.2 dL_node_20
set_option maxHeartbeats 4000000 in
set_option maxRecDepth 100000 in
theorem l_node1 (l : Launch) (D : va_G) (cT : Nat → ClassId) (cds : List Nat) (ad : Nat → Nat) (gg : Nat → Option va_E) (T : Nat) (fm : Nat) (F : TFR) (t : Nat) (k : Nat) (zo : Nat) (zw : Nat → Int64) (hcd : CD cds) (hob : gg 0 = some (eOB ad (nI T))) (hFr : FRp cT ad gg fm) (hTm : T ≤ fm) (hTs : TRS cT ad gg F T) (hT16 : T ≤ 16) (htT : t < T) (hc0 : 0 ≤ nI t ∧ nI t ≤ nI T - 1) (hk0 : 0 ≤ nI k ∧ nI k ≤ nI (tM F t) - 1) (hkm : k < tM F t) (sz : Nat) : Met l yL_node WL_node ({ frames := 5, cells := 0, slots := 0, locals := 110 } : Room) (RW D vwCl [.ref (ad 0), .int (nI t), .int (nI k), .int 1, .ref zo] ([(zo, .inl (cT 1, 1, .inr (.inl zw)))] ++ pg cds ad gg) (TY cT) sz) (va_Qi (fun (r9 : Int32) (u9 : Unit) => r9 = 0) (BW D vwCl (va_A ([(zo, .inl (cT 1, 1, .inr (.inl zw)))] ++ pg cds ad gg) sz) (fun u9 : Unit => ([(zo, .inl (cT 1, 1, .inr (.inl (vp_updL zw 0 (Int32.toInt64 (tA F 1 (31 * t + k)))))))] ++ pg cds ad gg))) (va_A ([(zo, .inl (cT 1, 1, .inr (.inl zw)))] ++ pg cds ad gg) sz)) 0 0 (va_A ([(zo, .inl (cT 1, 1, .inr (.inl zw)))] ++ pg cds ad gg) sz) := by
  refine va_MetW (hh := [(0, 12, 15, 13)]) (cc := cL_node) (maxL := 6) (ret := (some .int)) (by decide) rfl ?_
  intro p e s m args below meth c s₁ B hml hv
  obtain ⟨rfl, hsz, hZ, hP, hK, hD0⟩ := hv
  have hx := B.exec
  have hb := B.bytes
  have hr := B.returns
  have hts := atoms_spec (ws := WL_node) B.pre
  have hT : ∀ w ∈ TB, w.before _ s = true := fun w h => hts w (List.mem_cons_of_mem _ h)
  have hown : s.vm.findClass R_L = some m.cls := findClass_of_methodNamed B.named
  have htab := tx_table B (bytes := cL_node) (maxL := 6) (ret := (some .int)) (hh := [(0, 12, 15, 13)]) (hts _ List.mem_cons_self)
  subst hsz
  have hD := hD0.self (sz := s.heap.size)
  generalize hAe : va_A ([(zo, .inl (cT 1, 1, .inr (.inl zw)))] ++ pg cds ad gg) s.heap.size = A at hD hZ ⊢
  have hA : ∀ q : Nat, s.heap.size ≤ q → A q := fun q h => by rw [← hAe]; exact Or.inr h
  have hS : va_S A s.heap s.heap [] := va_S.rf
  have hl := lv_entry ([.ref (ad 0), .int (nI t), .int (nI k), .int 1, .ref zo]) (n := 6) (Nat.le_of_ble_eq_true rfl)
  rw [lg_entry_eq]
  generalize (lg_sl ([.ref (ad 0), .int (nI t), .int (nI k), .int 1, .ref zo]) ++ List.replicate (6 - (lg_sl ([.ref (ad 0), .int (nI t), .int (nI k), .int 1, .ref zo])).length) Slot.unset).toArray = ls at hl ⊢
  have hl : lv_has ls 6 [(0, .ref (ad 0)), (1, .int (nI t)), (2, .int (nI k)), (3, .int 1), (4, .ref zo)] := hl
  refine lv_aload hx hb dL_node_0 (lv_at hl 4 rfl) ?_
  refine lv_iconst (v := 0) hx hb dL_node_2 (by decide) ?_
  refine lv_aload_n hx hb dL_node_3 rfl (lv_at hl 0 rfl) ?_
  refine lv_iload_n hx hb dL_node_4 rfl (lv_at hl 1 rfl) ?_
  refine lv_iload_n hx hb dL_node_5 rfl (lv_at hl 2 rfl) ?_
  refine lv_iload_n hx hb dL_node_6 rfl (lv_at hl 3 rfl) ?_
  refine ro_i (va_Run.run (va_runV (As := [.int (nI t), .int (nI k), .int 1]) (rest := [.int 0, .ref zo]) ⟨hx, hb, hml, hown, hT⟩ (k_node1 l D cT cds ad gg T fm F t k hcd hob hFr hTm hTs hT16 htT hc0 hk0 hkm) ⟨callB_of 3 hT (tb_gd w1000) rfl rfl rfl (hT _ w1) (hT _ w997) hR_node ⟨Nat.le_of_ble_eq_true rfl, Nat.le_of_ble_eq_true rfl⟩, (hT _ w998), (hT _ w999)⟩ (RO.preW (ci := 0) (q0 := 0) hZ hS ((show va_P D vwCl ([] ++ pg cds ad gg) _ from (pv_p hP))) hK (pg_1 (x := 0) hcd hP (by decide) hob) rfl rfl) rfl rfl hl.1 rfl (lv_room (Nat.le_of_ble_eq_true rfl)) dL_node_7 ⟨Nat.le_of_ble_eq_true rfl, Nat.le_of_ble_eq_true rfl⟩)) ?_
  refine lv_i2l hx hb dL_node_10 rfl ?_
  refine va_last hx hb hK hP hD hS 0 1 rfl rfl (by unfold vp_in; decide) dL_node_11 (fun H locs hP hD hS => ?_)
  have hP : va_P D vwCl ([(zo, .inl (cT 1, 1, .inr (.inl (vp_updL zw 0 ((tA F 1 (31 * t + k) : Int32).toInt64)))))] ++ pg cds ad gg) _ := hP
  have hD : va_D A ([(zo, .inl (cT 1, 1, .inr (.inl (vp_updL zw 0 ((tA F 1 (31 * t + k) : Int32).toInt64)))))] ++ pg cds ad gg) := hD
  refine lv_goto (tgt := 19) hx hb dL_node_12 rfl ?_
  refine lv_iconst (v := 0) hx hb dL_node_19 (by decide) ?_
  have hP9 : va_P D vwCl ([(zo, .inl (cT 1, 1, .inr (.inl (vp_updL zw 0 (Int32.toInt64 (tA F 1 (31 * t + k)))))))] ++ pg cds ad gg) _ := hP.part (cx := [(zo, .inl (cT 1, 1, .inr (.inl (vp_updL zw 0 (Int32.toInt64 (tA F 1 (31 * t + k)))))))]) [0] rfl
  have hD9 : va_D A ([(zo, .inl (cT 1, 1, .inr (.inl (vp_updL zw 0 (Int32.toInt64 (tA F 1 (31 * t + k)))))))] ++ pg cds ad gg) := hD.part (cx := [(zo, .inl (cT 1, 1, .inr (.inl (vp_updL zw 0 (Int32.toInt64 (tA F 1 (31 * t + k)))))))]) [0] (by decide) rfl
  refine W.widen (k := 0) (n := 0) (Nat.le_of_ble_eq_true rfl) (Nat.le_of_ble_eq_true rfl) ?_
  exact W.iret (v := 0) hx hb hr (fun t9 ht9 hW9 => ⟨⟨0, (), rfl, (show 0 = 0 from rfl), by rw [ht9]; exact hP9, hD9⟩, hS.F ht9⟩) hS.2.2 dL_node_20
set_option maxHeartbeats 4000000 in
set_option maxRecDepth 100000 in
theorem l_node2 (l : Launch) (D : va_G) (cT : Nat → ClassId) (cds : List Nat) (ad : Nat → Nat) (gg : Nat → Option va_E) (T : Nat) (fm : Nat) (F : TFR) (t : Nat) (k : Nat) (zo : Nat) (zw : Nat → Int64) (hcd : CD cds) (hob : gg 0 = some (eOB ad (nI T))) (hFr : FRp cT ad gg fm) (hTm : T ≤ fm) (hTs : TRS cT ad gg F T) (hT16 : T ≤ 16) (htT : t < T) (hc0 : 0 ≤ nI t ∧ nI t ≤ nI T - 1) (hk0 : 0 ≤ nI k ∧ nI k ≤ nI (tM F t) - 1) (hkm : k < tM F t) (hz9 : tA F 2 (31 * t + k) = 0 ∨ tA F 2 (31 * t + k) = 1) (sz : Nat) : Met l yL_node WL_node ({ frames := 5, cells := 0, slots := 0, locals := 110 } : Room) (RW D vwCl [.ref (ad 0), .int (nI t), .int (nI k), .int 2, .ref zo] ([(zo, .inl (cT 1, 1, .inr (.inl zw)))] ++ pg cds ad gg) (TY cT) sz) (va_Qi (fun (r9 : Int32) (u9 : Unit) => r9 = 0) (BW D vwCl (va_A ([(zo, .inl (cT 1, 1, .inr (.inl zw)))] ++ pg cds ad gg) sz) (fun u9 : Unit => ([(zo, .inl (cT 1, 1, .inr (.inl (vp_updL zw 0 (Int32.toInt64 (tA F 2 (31 * t + k)))))))] ++ pg cds ad gg))) (va_A ([(zo, .inl (cT 1, 1, .inr (.inl zw)))] ++ pg cds ad gg) sz)) 0 0 (va_A ([(zo, .inl (cT 1, 1, .inr (.inl zw)))] ++ pg cds ad gg) sz) := by
  refine va_MetW (hh := [(0, 12, 15, 13)]) (cc := cL_node) (maxL := 6) (ret := (some .int)) (by decide) rfl ?_
  intro p e s m args below meth c s₁ B hml hv
  obtain ⟨rfl, hsz, hZ, hP, hK, hD0⟩ := hv
  have hx := B.exec
  have hb := B.bytes
  have hr := B.returns
  have hts := atoms_spec (ws := WL_node) B.pre
  have hT : ∀ w ∈ TB, w.before _ s = true := fun w h => hts w (List.mem_cons_of_mem _ h)
  have hown : s.vm.findClass R_L = some m.cls := findClass_of_methodNamed B.named
  have htab := tx_table B (bytes := cL_node) (maxL := 6) (ret := (some .int)) (hh := [(0, 12, 15, 13)]) (hts _ List.mem_cons_self)
  subst hsz
  have hD := hD0.self (sz := s.heap.size)
  generalize hAe : va_A ([(zo, .inl (cT 1, 1, .inr (.inl zw)))] ++ pg cds ad gg) s.heap.size = A at hD hZ ⊢
  have hA : ∀ q : Nat, s.heap.size ≤ q → A q := fun q h => by rw [← hAe]; exact Or.inr h
  have hS : va_S A s.heap s.heap [] := va_S.rf
  have hl := lv_entry ([.ref (ad 0), .int (nI t), .int (nI k), .int 2, .ref zo]) (n := 6) (Nat.le_of_ble_eq_true rfl)
  rw [lg_entry_eq]
  generalize (lg_sl ([.ref (ad 0), .int (nI t), .int (nI k), .int 2, .ref zo]) ++ List.replicate (6 - (lg_sl ([.ref (ad 0), .int (nI t), .int (nI k), .int 2, .ref zo])).length) Slot.unset).toArray = ls at hl ⊢
  have hl : lv_has ls 6 [(0, .ref (ad 0)), (1, .int (nI t)), (2, .int (nI k)), (3, .int 2), (4, .ref zo)] := hl
  refine lv_aload hx hb dL_node_0 (lv_at hl 4 rfl) ?_
  refine lv_iconst (v := 0) hx hb dL_node_2 (by decide) ?_
  refine lv_aload_n hx hb dL_node_3 rfl (lv_at hl 0 rfl) ?_
  refine lv_iload_n hx hb dL_node_4 rfl (lv_at hl 1 rfl) ?_
  refine lv_iload_n hx hb dL_node_5 rfl (lv_at hl 2 rfl) ?_
  refine lv_iload_n hx hb dL_node_6 rfl (lv_at hl 3 rfl) ?_
  refine ro_i (va_Run.run (va_runV (As := [.int (nI t), .int (nI k), .int 2]) (rest := [.int 0, .ref zo]) ⟨hx, hb, hml, hown, hT⟩ (k_node2 l D cT cds ad gg T fm F t k hcd hob hFr hTm hTs hT16 htT hc0 hk0 hkm hz9) ⟨callB_of 3 hT (tb_gd w1000) rfl rfl rfl (hT _ w1) (hT _ w997) hR_node ⟨Nat.le_of_ble_eq_true rfl, Nat.le_of_ble_eq_true rfl⟩, (hT _ w998), (hT _ w999)⟩ (RO.preW (ci := 0) (q0 := 0) hZ hS ((show va_P D vwCl ([] ++ pg cds ad gg) _ from (pv_p hP))) hK (pg_1 (x := 0) hcd hP (by decide) hob) rfl rfl) rfl rfl hl.1 rfl (lv_room (Nat.le_of_ble_eq_true rfl)) dL_node_7 ⟨Nat.le_of_ble_eq_true rfl, Nat.le_of_ble_eq_true rfl⟩)) ?_
  refine lv_i2l hx hb dL_node_10 rfl ?_
  refine va_last hx hb hK hP hD hS 0 1 rfl rfl (by unfold vp_in; decide) dL_node_11 (fun H locs hP hD hS => ?_)
  have hP : va_P D vwCl ([(zo, .inl (cT 1, 1, .inr (.inl (vp_updL zw 0 ((tA F 2 (31 * t + k) : Int32).toInt64)))))] ++ pg cds ad gg) _ := hP
  have hD : va_D A ([(zo, .inl (cT 1, 1, .inr (.inl (vp_updL zw 0 ((tA F 2 (31 * t + k) : Int32).toInt64)))))] ++ pg cds ad gg) := hD
  refine lv_goto (tgt := 19) hx hb dL_node_12 rfl ?_
  refine lv_iconst (v := 0) hx hb dL_node_19 (by decide) ?_
  have hP9 : va_P D vwCl ([(zo, .inl (cT 1, 1, .inr (.inl (vp_updL zw 0 (Int32.toInt64 (tA F 2 (31 * t + k)))))))] ++ pg cds ad gg) _ := hP.part (cx := [(zo, .inl (cT 1, 1, .inr (.inl (vp_updL zw 0 (Int32.toInt64 (tA F 2 (31 * t + k)))))))]) [0] rfl
  have hD9 : va_D A ([(zo, .inl (cT 1, 1, .inr (.inl (vp_updL zw 0 (Int32.toInt64 (tA F 2 (31 * t + k)))))))] ++ pg cds ad gg) := hD.part (cx := [(zo, .inl (cT 1, 1, .inr (.inl (vp_updL zw 0 (Int32.toInt64 (tA F 2 (31 * t + k)))))))]) [0] (by decide) rfl
  refine W.widen (k := 0) (n := 0) (Nat.le_of_ble_eq_true rfl) (Nat.le_of_ble_eq_true rfl) ?_
  exact W.iret (v := 0) hx hb hr (fun t9 ht9 hW9 => ⟨⟨0, (), rfl, (show 0 = 0 from rfl), by rw [ht9]; exact hP9, hD9⟩, hS.F ht9⟩) hS.2.2 dL_node_20
set_option maxHeartbeats 4000000 in
set_option maxRecDepth 100000 in
theorem l_node3 (l : Launch) (D : va_G) (cT : Nat → ClassId) (cds : List Nat) (ad : Nat → Nat) (gg : Nat → Option va_E) (T : Nat) (fm : Nat) (F : TFR) (t : Nat) (k : Nat) (zo : Nat) (zw : Nat → Int64) (hcd : CD cds) (hob : gg 0 = some (eOB ad (nI T))) (hFr : FRp cT ad gg fm) (hTm : T ≤ fm) (hTs : TRS cT ad gg F T) (hT16 : T ≤ 16) (htT : t < T) (hc0 : 0 ≤ nI t ∧ nI t ≤ nI T - 1) (hk0 : 0 ≤ nI k ∧ nI k ≤ nI (tM F t) - 1) (hkm : k < tM F t) (sz : Nat) : Met l yL_node WL_node ({ frames := 5, cells := 0, slots := 0, locals := 110 } : Room) (RW D vwCl [.ref (ad 0), .int (nI t), .int (nI k), .int 3, .ref zo] ([(zo, .inl (cT 1, 1, .inr (.inl zw)))] ++ pg cds ad gg) (TY cT) sz) (va_Qi (fun (r9 : Int32) (u9 : Unit) => r9 = 0) (BW D vwCl (va_A ([(zo, .inl (cT 1, 1, .inr (.inl zw)))] ++ pg cds ad gg) sz) (fun u9 : Unit => ([(zo, .inl (cT 1, 1, .inr (.inl (vp_updL zw 0 (Int32.toInt64 (tA F 3 (31 * t + k)))))))] ++ pg cds ad gg))) (va_A ([(zo, .inl (cT 1, 1, .inr (.inl zw)))] ++ pg cds ad gg) sz)) 0 0 (va_A ([(zo, .inl (cT 1, 1, .inr (.inl zw)))] ++ pg cds ad gg) sz) := by
  refine va_MetW (hh := [(0, 12, 15, 13)]) (cc := cL_node) (maxL := 6) (ret := (some .int)) (by decide) rfl ?_
  intro p e s m args below meth c s₁ B hml hv
  obtain ⟨rfl, hsz, hZ, hP, hK, hD0⟩ := hv
  have hx := B.exec
  have hb := B.bytes
  have hr := B.returns
  have hts := atoms_spec (ws := WL_node) B.pre
  have hT : ∀ w ∈ TB, w.before _ s = true := fun w h => hts w (List.mem_cons_of_mem _ h)
  have hown : s.vm.findClass R_L = some m.cls := findClass_of_methodNamed B.named
  have htab := tx_table B (bytes := cL_node) (maxL := 6) (ret := (some .int)) (hh := [(0, 12, 15, 13)]) (hts _ List.mem_cons_self)
  subst hsz
  have hD := hD0.self (sz := s.heap.size)
  generalize hAe : va_A ([(zo, .inl (cT 1, 1, .inr (.inl zw)))] ++ pg cds ad gg) s.heap.size = A at hD hZ ⊢
  have hA : ∀ q : Nat, s.heap.size ≤ q → A q := fun q h => by rw [← hAe]; exact Or.inr h
  have hS : va_S A s.heap s.heap [] := va_S.rf
  have hl := lv_entry ([.ref (ad 0), .int (nI t), .int (nI k), .int 3, .ref zo]) (n := 6) (Nat.le_of_ble_eq_true rfl)
  rw [lg_entry_eq]
  generalize (lg_sl ([.ref (ad 0), .int (nI t), .int (nI k), .int 3, .ref zo]) ++ List.replicate (6 - (lg_sl ([.ref (ad 0), .int (nI t), .int (nI k), .int 3, .ref zo])).length) Slot.unset).toArray = ls at hl ⊢
  have hl : lv_has ls 6 [(0, .ref (ad 0)), (1, .int (nI t)), (2, .int (nI k)), (3, .int 3), (4, .ref zo)] := hl
  refine lv_aload hx hb dL_node_0 (lv_at hl 4 rfl) ?_
  refine lv_iconst (v := 0) hx hb dL_node_2 (by decide) ?_
  refine lv_aload_n hx hb dL_node_3 rfl (lv_at hl 0 rfl) ?_
  refine lv_iload_n hx hb dL_node_4 rfl (lv_at hl 1 rfl) ?_
  refine lv_iload_n hx hb dL_node_5 rfl (lv_at hl 2 rfl) ?_
  refine lv_iload_n hx hb dL_node_6 rfl (lv_at hl 3 rfl) ?_
  refine ro_i (va_Run.run (va_runV (As := [.int (nI t), .int (nI k), .int 3]) (rest := [.int 0, .ref zo]) ⟨hx, hb, hml, hown, hT⟩ (k_node3 l D cT cds ad gg T fm F t k hcd hob hFr hTm hTs hT16 htT hc0 hk0 hkm) ⟨callB_of 3 hT (tb_gd w1000) rfl rfl rfl (hT _ w1) (hT _ w997) hR_node ⟨Nat.le_of_ble_eq_true rfl, Nat.le_of_ble_eq_true rfl⟩, (hT _ w998), (hT _ w999)⟩ (RO.preW (ci := 0) (q0 := 0) hZ hS ((show va_P D vwCl ([] ++ pg cds ad gg) _ from (pv_p hP))) hK (pg_1 (x := 0) hcd hP (by decide) hob) rfl rfl) rfl rfl hl.1 rfl (lv_room (Nat.le_of_ble_eq_true rfl)) dL_node_7 ⟨Nat.le_of_ble_eq_true rfl, Nat.le_of_ble_eq_true rfl⟩)) ?_
  refine lv_i2l hx hb dL_node_10 rfl ?_
  refine va_last hx hb hK hP hD hS 0 1 rfl rfl (by unfold vp_in; decide) dL_node_11 (fun H locs hP hD hS => ?_)
  have hP : va_P D vwCl ([(zo, .inl (cT 1, 1, .inr (.inl (vp_updL zw 0 ((tA F 3 (31 * t + k) : Int32).toInt64)))))] ++ pg cds ad gg) _ := hP
  have hD : va_D A ([(zo, .inl (cT 1, 1, .inr (.inl (vp_updL zw 0 ((tA F 3 (31 * t + k) : Int32).toInt64)))))] ++ pg cds ad gg) := hD
  refine lv_goto (tgt := 19) hx hb dL_node_12 rfl ?_
  refine lv_iconst (v := 0) hx hb dL_node_19 (by decide) ?_
  have hP9 : va_P D vwCl ([(zo, .inl (cT 1, 1, .inr (.inl (vp_updL zw 0 (Int32.toInt64 (tA F 3 (31 * t + k)))))))] ++ pg cds ad gg) _ := hP.part (cx := [(zo, .inl (cT 1, 1, .inr (.inl (vp_updL zw 0 (Int32.toInt64 (tA F 3 (31 * t + k)))))))]) [0] rfl
  have hD9 : va_D A ([(zo, .inl (cT 1, 1, .inr (.inl (vp_updL zw 0 (Int32.toInt64 (tA F 3 (31 * t + k)))))))] ++ pg cds ad gg) := hD.part (cx := [(zo, .inl (cT 1, 1, .inr (.inl (vp_updL zw 0 (Int32.toInt64 (tA F 3 (31 * t + k)))))))]) [0] (by decide) rfl
  refine W.widen (k := 0) (n := 0) (Nat.le_of_ble_eq_true rfl) (Nat.le_of_ble_eq_true rfl) ?_
  exact W.iret (v := 0) hx hb hr (fun t9 ht9 hW9 => ⟨⟨0, (), rfl, (show 0 = 0 from rfl), by rw [ht9]; exact hP9, hD9⟩, hS.F ht9⟩) hS.2.2 dL_node_20
set_option maxHeartbeats 4000000 in
set_option maxRecDepth 100000 in
theorem l_node4 (l : Launch) (D : va_G) (cT : Nat → ClassId) (cds : List Nat) (ad : Nat → Nat) (gg : Nat → Option va_E) (T : Nat) (fm : Nat) (F : TFR) (t : Nat) (k : Nat) (zo : Nat) (zw : Nat → Int64) (hcd : CD cds) (hob : gg 0 = some (eOB ad (nI T))) (hFr : FRp cT ad gg fm) (hTm : T ≤ fm) (hTs : TRS cT ad gg F T) (hT16 : T ≤ 16) (htT : t < T) (hc0 : 0 ≤ nI t ∧ nI t ≤ nI T - 1) (hk0 : 0 ≤ nI k ∧ nI k ≤ nI (tM F t) - 1) (hkm : k < tM F t) (sz : Nat) : Met l yL_node WL_node ({ frames := 5, cells := 0, slots := 0, locals := 110 } : Room) (RW D vwCl [.ref (ad 0), .int (nI t), .int (nI k), .int 4, .ref zo] ([(zo, .inl (cT 1, 1, .inr (.inl zw)))] ++ pg cds ad gg) (TY cT) sz) (va_Qi (fun (r9 : Int32) (u9 : Unit) => r9 = 0) (BW D vwCl (va_A ([(zo, .inl (cT 1, 1, .inr (.inl zw)))] ++ pg cds ad gg) sz) (fun u9 : Unit => ([(zo, .inl (cT 1, 1, .inr (.inl (vp_updL zw 0 (Int32.toInt64 (tA F 4 (31 * t + k)))))))] ++ pg cds ad gg))) (va_A ([(zo, .inl (cT 1, 1, .inr (.inl zw)))] ++ pg cds ad gg) sz)) 0 0 (va_A ([(zo, .inl (cT 1, 1, .inr (.inl zw)))] ++ pg cds ad gg) sz) := by
  refine va_MetW (hh := [(0, 12, 15, 13)]) (cc := cL_node) (maxL := 6) (ret := (some .int)) (by decide) rfl ?_
  intro p e s m args below meth c s₁ B hml hv
  obtain ⟨rfl, hsz, hZ, hP, hK, hD0⟩ := hv
  have hx := B.exec
  have hb := B.bytes
  have hr := B.returns
  have hts := atoms_spec (ws := WL_node) B.pre
  have hT : ∀ w ∈ TB, w.before _ s = true := fun w h => hts w (List.mem_cons_of_mem _ h)
  have hown : s.vm.findClass R_L = some m.cls := findClass_of_methodNamed B.named
  have htab := tx_table B (bytes := cL_node) (maxL := 6) (ret := (some .int)) (hh := [(0, 12, 15, 13)]) (hts _ List.mem_cons_self)
  subst hsz
  have hD := hD0.self (sz := s.heap.size)
  generalize hAe : va_A ([(zo, .inl (cT 1, 1, .inr (.inl zw)))] ++ pg cds ad gg) s.heap.size = A at hD hZ ⊢
  have hA : ∀ q : Nat, s.heap.size ≤ q → A q := fun q h => by rw [← hAe]; exact Or.inr h
  have hS : va_S A s.heap s.heap [] := va_S.rf
  have hl := lv_entry ([.ref (ad 0), .int (nI t), .int (nI k), .int 4, .ref zo]) (n := 6) (Nat.le_of_ble_eq_true rfl)
  rw [lg_entry_eq]
  generalize (lg_sl ([.ref (ad 0), .int (nI t), .int (nI k), .int 4, .ref zo]) ++ List.replicate (6 - (lg_sl ([.ref (ad 0), .int (nI t), .int (nI k), .int 4, .ref zo])).length) Slot.unset).toArray = ls at hl ⊢
  have hl : lv_has ls 6 [(0, .ref (ad 0)), (1, .int (nI t)), (2, .int (nI k)), (3, .int 4), (4, .ref zo)] := hl
  refine lv_aload hx hb dL_node_0 (lv_at hl 4 rfl) ?_
  refine lv_iconst (v := 0) hx hb dL_node_2 (by decide) ?_
  refine lv_aload_n hx hb dL_node_3 rfl (lv_at hl 0 rfl) ?_
  refine lv_iload_n hx hb dL_node_4 rfl (lv_at hl 1 rfl) ?_
  refine lv_iload_n hx hb dL_node_5 rfl (lv_at hl 2 rfl) ?_
  refine lv_iload_n hx hb dL_node_6 rfl (lv_at hl 3 rfl) ?_
  refine ro_i (va_Run.run (va_runV (As := [.int (nI t), .int (nI k), .int 4]) (rest := [.int 0, .ref zo]) ⟨hx, hb, hml, hown, hT⟩ (k_node4 l D cT cds ad gg T fm F t k hcd hob hFr hTm hTs hT16 htT hc0 hk0 hkm) ⟨callB_of 3 hT (tb_gd w1000) rfl rfl rfl (hT _ w1) (hT _ w997) hR_node ⟨Nat.le_of_ble_eq_true rfl, Nat.le_of_ble_eq_true rfl⟩, (hT _ w998), (hT _ w999)⟩ (RO.preW (ci := 0) (q0 := 0) hZ hS ((show va_P D vwCl ([] ++ pg cds ad gg) _ from (pv_p hP))) hK (pg_1 (x := 0) hcd hP (by decide) hob) rfl rfl) rfl rfl hl.1 rfl (lv_room (Nat.le_of_ble_eq_true rfl)) dL_node_7 ⟨Nat.le_of_ble_eq_true rfl, Nat.le_of_ble_eq_true rfl⟩)) ?_
  refine lv_i2l hx hb dL_node_10 rfl ?_
  refine va_last hx hb hK hP hD hS 0 1 rfl rfl (by unfold vp_in; decide) dL_node_11 (fun H locs hP hD hS => ?_)
  have hP : va_P D vwCl ([(zo, .inl (cT 1, 1, .inr (.inl (vp_updL zw 0 ((tA F 4 (31 * t + k) : Int32).toInt64)))))] ++ pg cds ad gg) _ := hP
  have hD : va_D A ([(zo, .inl (cT 1, 1, .inr (.inl (vp_updL zw 0 ((tA F 4 (31 * t + k) : Int32).toInt64)))))] ++ pg cds ad gg) := hD
  refine lv_goto (tgt := 19) hx hb dL_node_12 rfl ?_
  refine lv_iconst (v := 0) hx hb dL_node_19 (by decide) ?_
  have hP9 : va_P D vwCl ([(zo, .inl (cT 1, 1, .inr (.inl (vp_updL zw 0 (Int32.toInt64 (tA F 4 (31 * t + k)))))))] ++ pg cds ad gg) _ := hP.part (cx := [(zo, .inl (cT 1, 1, .inr (.inl (vp_updL zw 0 (Int32.toInt64 (tA F 4 (31 * t + k)))))))]) [0] rfl
  have hD9 : va_D A ([(zo, .inl (cT 1, 1, .inr (.inl (vp_updL zw 0 (Int32.toInt64 (tA F 4 (31 * t + k)))))))] ++ pg cds ad gg) := hD.part (cx := [(zo, .inl (cT 1, 1, .inr (.inl (vp_updL zw 0 (Int32.toInt64 (tA F 4 (31 * t + k)))))))]) [0] (by decide) rfl
  refine W.widen (k := 0) (n := 0) (Nat.le_of_ble_eq_true rfl) (Nat.le_of_ble_eq_true rfl) ?_
  exact W.iret (v := 0) hx hb hr (fun t9 ht9 hW9 => ⟨⟨0, (), rfl, (show 0 = 0 from rfl), by rw [ht9]; exact hP9, hD9⟩, hS.F ht9⟩) hS.2.2 dL_node_20
set_option maxHeartbeats 4000000 in
set_option maxRecDepth 100000 in
theorem l_node5 (l : Launch) (D : va_G) (cT : Nat → ClassId) (cds : List Nat) (ad : Nat → Nat) (gg : Nat → Option va_E) (T : Nat) (fm : Nat) (F : TFR) (t : Nat) (k : Nat) (zo : Nat) (zw : Nat → Int64) (hcd : CD cds) (hob : gg 0 = some (eOB ad (nI T))) (hFr : FRp cT ad gg fm) (hTm : T ≤ fm) (hTs : TRS cT ad gg F T) (hT16 : T ≤ 16) (htT : t < T) (hc0 : 0 ≤ nI t ∧ nI t ≤ nI T - 1) (hk0 : 0 ≤ nI k ∧ nI k ≤ nI (tM F t) - 1) (hkm : k < tM F t) (sz : Nat) : Met l yL_node WL_node ({ frames := 5, cells := 0, slots := 0, locals := 110 } : Room) (RW D vwCl [.ref (ad 0), .int (nI t), .int (nI k), .int 5, .ref zo] ([(zo, .inl (cT 1, 1, .inr (.inl zw)))] ++ pg cds ad gg) (TY cT) sz) (va_Qi (fun (r9 : Int32) (u9 : Unit) => r9 = 0) (BW D vwCl (va_A ([(zo, .inl (cT 1, 1, .inr (.inl zw)))] ++ pg cds ad gg) sz) (fun u9 : Unit => ([(zo, .inl (cT 1, 1, .inr (.inl (vp_updL zw 0 (Int32.toInt64 (tA F 5 (31 * t + k)))))))] ++ pg cds ad gg))) (va_A ([(zo, .inl (cT 1, 1, .inr (.inl zw)))] ++ pg cds ad gg) sz)) 0 0 (va_A ([(zo, .inl (cT 1, 1, .inr (.inl zw)))] ++ pg cds ad gg) sz) := by
  refine va_MetW (hh := [(0, 12, 15, 13)]) (cc := cL_node) (maxL := 6) (ret := (some .int)) (by decide) rfl ?_
  intro p e s m args below meth c s₁ B hml hv
  obtain ⟨rfl, hsz, hZ, hP, hK, hD0⟩ := hv
  have hx := B.exec
  have hb := B.bytes
  have hr := B.returns
  have hts := atoms_spec (ws := WL_node) B.pre
  have hT : ∀ w ∈ TB, w.before _ s = true := fun w h => hts w (List.mem_cons_of_mem _ h)
  have hown : s.vm.findClass R_L = some m.cls := findClass_of_methodNamed B.named
  have htab := tx_table B (bytes := cL_node) (maxL := 6) (ret := (some .int)) (hh := [(0, 12, 15, 13)]) (hts _ List.mem_cons_self)
  subst hsz
  have hD := hD0.self (sz := s.heap.size)
  generalize hAe : va_A ([(zo, .inl (cT 1, 1, .inr (.inl zw)))] ++ pg cds ad gg) s.heap.size = A at hD hZ ⊢
  have hA : ∀ q : Nat, s.heap.size ≤ q → A q := fun q h => by rw [← hAe]; exact Or.inr h
  have hS : va_S A s.heap s.heap [] := va_S.rf
  have hl := lv_entry ([.ref (ad 0), .int (nI t), .int (nI k), .int 5, .ref zo]) (n := 6) (Nat.le_of_ble_eq_true rfl)
  rw [lg_entry_eq]
  generalize (lg_sl ([.ref (ad 0), .int (nI t), .int (nI k), .int 5, .ref zo]) ++ List.replicate (6 - (lg_sl ([.ref (ad 0), .int (nI t), .int (nI k), .int 5, .ref zo])).length) Slot.unset).toArray = ls at hl ⊢
  have hl : lv_has ls 6 [(0, .ref (ad 0)), (1, .int (nI t)), (2, .int (nI k)), (3, .int 5), (4, .ref zo)] := hl
  refine lv_aload hx hb dL_node_0 (lv_at hl 4 rfl) ?_
  refine lv_iconst (v := 0) hx hb dL_node_2 (by decide) ?_
  refine lv_aload_n hx hb dL_node_3 rfl (lv_at hl 0 rfl) ?_
  refine lv_iload_n hx hb dL_node_4 rfl (lv_at hl 1 rfl) ?_
  refine lv_iload_n hx hb dL_node_5 rfl (lv_at hl 2 rfl) ?_
  refine lv_iload_n hx hb dL_node_6 rfl (lv_at hl 3 rfl) ?_
  refine ro_i (va_Run.run (va_runV (As := [.int (nI t), .int (nI k), .int 5]) (rest := [.int 0, .ref zo]) ⟨hx, hb, hml, hown, hT⟩ (k_node5 l D cT cds ad gg T fm F t k hcd hob hFr hTm hTs hT16 htT hc0 hk0 hkm) ⟨callB_of 3 hT (tb_gd w1000) rfl rfl rfl (hT _ w1) (hT _ w997) hR_node ⟨Nat.le_of_ble_eq_true rfl, Nat.le_of_ble_eq_true rfl⟩, (hT _ w998), (hT _ w999)⟩ (RO.preW (ci := 0) (q0 := 0) hZ hS ((show va_P D vwCl ([] ++ pg cds ad gg) _ from (pv_p hP))) hK (pg_1 (x := 0) hcd hP (by decide) hob) rfl rfl) rfl rfl hl.1 rfl (lv_room (Nat.le_of_ble_eq_true rfl)) dL_node_7 ⟨Nat.le_of_ble_eq_true rfl, Nat.le_of_ble_eq_true rfl⟩)) ?_
  refine lv_i2l hx hb dL_node_10 rfl ?_
  refine va_last hx hb hK hP hD hS 0 1 rfl rfl (by unfold vp_in; decide) dL_node_11 (fun H locs hP hD hS => ?_)
  have hP : va_P D vwCl ([(zo, .inl (cT 1, 1, .inr (.inl (vp_updL zw 0 ((tA F 5 (31 * t + k) : Int32).toInt64)))))] ++ pg cds ad gg) _ := hP
  have hD : va_D A ([(zo, .inl (cT 1, 1, .inr (.inl (vp_updL zw 0 ((tA F 5 (31 * t + k) : Int32).toInt64)))))] ++ pg cds ad gg) := hD
  refine lv_goto (tgt := 19) hx hb dL_node_12 rfl ?_
  refine lv_iconst (v := 0) hx hb dL_node_19 (by decide) ?_
  have hP9 : va_P D vwCl ([(zo, .inl (cT 1, 1, .inr (.inl (vp_updL zw 0 (Int32.toInt64 (tA F 5 (31 * t + k)))))))] ++ pg cds ad gg) _ := hP.part (cx := [(zo, .inl (cT 1, 1, .inr (.inl (vp_updL zw 0 (Int32.toInt64 (tA F 5 (31 * t + k)))))))]) [0] rfl
  have hD9 : va_D A ([(zo, .inl (cT 1, 1, .inr (.inl (vp_updL zw 0 (Int32.toInt64 (tA F 5 (31 * t + k)))))))] ++ pg cds ad gg) := hD.part (cx := [(zo, .inl (cT 1, 1, .inr (.inl (vp_updL zw 0 (Int32.toInt64 (tA F 5 (31 * t + k)))))))]) [0] (by decide) rfl
  refine W.widen (k := 0) (n := 0) (Nat.le_of_ble_eq_true rfl) (Nat.le_of_ble_eq_true rfl) ?_
  exact W.iret (v := 0) hx hb hr (fun t9 ht9 hW9 => ⟨⟨0, (), rfl, (show 0 = 0 from rfl), by rw [ht9]; exact hP9, hD9⟩, hS.F ht9⟩) hS.2.2 dL_node_20
set_option maxHeartbeats 4000000 in
set_option maxRecDepth 100000 in
theorem l_node6 (l : Launch) (D : va_G) (cT : Nat → ClassId) (cds : List Nat) (ad : Nat → Nat) (gg : Nat → Option va_E) (T : Nat) (fm : Nat) (F : TFR) (t : Nat) (k : Nat) (zo : Nat) (zw : Nat → Int64) (hcd : CD cds) (hob : gg 0 = some (eOB ad (nI T))) (hFr : FRp cT ad gg fm) (hTm : T ≤ fm) (hTs : TRS cT ad gg F T) (hT16 : T ≤ 16) (htT : t < T) (hc0 : 0 ≤ nI t ∧ nI t ≤ nI T - 1) (hk0 : 0 ≤ nI k ∧ nI k ≤ nI (tM F t) - 1) (hkm : k < tM F t) (sz : Nat) : Met l yL_node WL_node ({ frames := 5, cells := 0, slots := 0, locals := 110 } : Room) (RW D vwCl [.ref (ad 0), .int (nI t), .int (nI k), .int 6, .ref zo] ([(zo, .inl (cT 1, 1, .inr (.inl zw)))] ++ pg cds ad gg) (TY cT) sz) (va_Qi (fun (r9 : Int32) (u9 : Unit) => r9 = 0) (BW D vwCl (va_A ([(zo, .inl (cT 1, 1, .inr (.inl zw)))] ++ pg cds ad gg) sz) (fun u9 : Unit => ([(zo, .inl (cT 1, 1, .inr (.inl (vp_updL zw 0 (Int32.toInt64 (tA F 6 (31 * t + k)))))))] ++ pg cds ad gg))) (va_A ([(zo, .inl (cT 1, 1, .inr (.inl zw)))] ++ pg cds ad gg) sz)) 0 0 (va_A ([(zo, .inl (cT 1, 1, .inr (.inl zw)))] ++ pg cds ad gg) sz) := by
  refine va_MetW (hh := [(0, 12, 15, 13)]) (cc := cL_node) (maxL := 6) (ret := (some .int)) (by decide) rfl ?_
  intro p e s m args below meth c s₁ B hml hv
  obtain ⟨rfl, hsz, hZ, hP, hK, hD0⟩ := hv
  have hx := B.exec
  have hb := B.bytes
  have hr := B.returns
  have hts := atoms_spec (ws := WL_node) B.pre
  have hT : ∀ w ∈ TB, w.before _ s = true := fun w h => hts w (List.mem_cons_of_mem _ h)
  have hown : s.vm.findClass R_L = some m.cls := findClass_of_methodNamed B.named
  have htab := tx_table B (bytes := cL_node) (maxL := 6) (ret := (some .int)) (hh := [(0, 12, 15, 13)]) (hts _ List.mem_cons_self)
  subst hsz
  have hD := hD0.self (sz := s.heap.size)
  generalize hAe : va_A ([(zo, .inl (cT 1, 1, .inr (.inl zw)))] ++ pg cds ad gg) s.heap.size = A at hD hZ ⊢
  have hA : ∀ q : Nat, s.heap.size ≤ q → A q := fun q h => by rw [← hAe]; exact Or.inr h
  have hS : va_S A s.heap s.heap [] := va_S.rf
  have hl := lv_entry ([.ref (ad 0), .int (nI t), .int (nI k), .int 6, .ref zo]) (n := 6) (Nat.le_of_ble_eq_true rfl)
  rw [lg_entry_eq]
  generalize (lg_sl ([.ref (ad 0), .int (nI t), .int (nI k), .int 6, .ref zo]) ++ List.replicate (6 - (lg_sl ([.ref (ad 0), .int (nI t), .int (nI k), .int 6, .ref zo])).length) Slot.unset).toArray = ls at hl ⊢
  have hl : lv_has ls 6 [(0, .ref (ad 0)), (1, .int (nI t)), (2, .int (nI k)), (3, .int 6), (4, .ref zo)] := hl
  refine lv_aload hx hb dL_node_0 (lv_at hl 4 rfl) ?_
  refine lv_iconst (v := 0) hx hb dL_node_2 (by decide) ?_
  refine lv_aload_n hx hb dL_node_3 rfl (lv_at hl 0 rfl) ?_
  refine lv_iload_n hx hb dL_node_4 rfl (lv_at hl 1 rfl) ?_
  refine lv_iload_n hx hb dL_node_5 rfl (lv_at hl 2 rfl) ?_
  refine lv_iload_n hx hb dL_node_6 rfl (lv_at hl 3 rfl) ?_
  refine ro_i (va_Run.run (va_runV (As := [.int (nI t), .int (nI k), .int 6]) (rest := [.int 0, .ref zo]) ⟨hx, hb, hml, hown, hT⟩ (k_node6 l D cT cds ad gg T fm F t k hcd hob hFr hTm hTs hT16 htT hc0 hk0 hkm) ⟨callB_of 3 hT (tb_gd w1000) rfl rfl rfl (hT _ w1) (hT _ w997) hR_node ⟨Nat.le_of_ble_eq_true rfl, Nat.le_of_ble_eq_true rfl⟩, (hT _ w998), (hT _ w999)⟩ (RO.preW (ci := 0) (q0 := 0) hZ hS ((show va_P D vwCl ([] ++ pg cds ad gg) _ from (pv_p hP))) hK (pg_1 (x := 0) hcd hP (by decide) hob) rfl rfl) rfl rfl hl.1 rfl (lv_room (Nat.le_of_ble_eq_true rfl)) dL_node_7 ⟨Nat.le_of_ble_eq_true rfl, Nat.le_of_ble_eq_true rfl⟩)) ?_
  refine lv_i2l hx hb dL_node_10 rfl ?_
  refine va_last hx hb hK hP hD hS 0 1 rfl rfl (by unfold vp_in; decide) dL_node_11 (fun H locs hP hD hS => ?_)
  have hP : va_P D vwCl ([(zo, .inl (cT 1, 1, .inr (.inl (vp_updL zw 0 ((tA F 6 (31 * t + k) : Int32).toInt64)))))] ++ pg cds ad gg) _ := hP
  have hD : va_D A ([(zo, .inl (cT 1, 1, .inr (.inl (vp_updL zw 0 ((tA F 6 (31 * t + k) : Int32).toInt64)))))] ++ pg cds ad gg) := hD
  refine lv_goto (tgt := 19) hx hb dL_node_12 rfl ?_
  refine lv_iconst (v := 0) hx hb dL_node_19 (by decide) ?_
  have hP9 : va_P D vwCl ([(zo, .inl (cT 1, 1, .inr (.inl (vp_updL zw 0 (Int32.toInt64 (tA F 6 (31 * t + k)))))))] ++ pg cds ad gg) _ := hP.part (cx := [(zo, .inl (cT 1, 1, .inr (.inl (vp_updL zw 0 (Int32.toInt64 (tA F 6 (31 * t + k)))))))]) [0] rfl
  have hD9 : va_D A ([(zo, .inl (cT 1, 1, .inr (.inl (vp_updL zw 0 (Int32.toInt64 (tA F 6 (31 * t + k)))))))] ++ pg cds ad gg) := hD.part (cx := [(zo, .inl (cT 1, 1, .inr (.inl (vp_updL zw 0 (Int32.toInt64 (tA F 6 (31 * t + k)))))))]) [0] (by decide) rfl
  refine W.widen (k := 0) (n := 0) (Nat.le_of_ble_eq_true rfl) (Nat.le_of_ble_eq_true rfl) ?_
  exact W.iret (v := 0) hx hb hr (fun t9 ht9 hW9 => ⟨⟨0, (), rfl, (show 0 = 0 from rfl), by rw [ht9]; exact hP9, hD9⟩, hS.F ht9⟩) hS.2.2 dL_node_20
set_option maxHeartbeats 4000000 in
set_option maxRecDepth 100000 in
theorem l_node7 (l : Launch) (D : va_G) (cT : Nat → ClassId) (cds : List Nat) (ad : Nat → Nat) (gg : Nat → Option va_E) (T : Nat) (fm : Nat) (F : TFR) (t : Nat) (k : Nat) (zo : Nat) (zw : Nat → Int64) (hcd : CD cds) (hob : gg 0 = some (eOB ad (nI T))) (hFr : FRp cT ad gg fm) (hTm : T ≤ fm) (hTs : TRS cT ad gg F T) (hT16 : T ≤ 16) (htT : t < T) (hc0 : 0 ≤ nI t ∧ nI t ≤ nI T - 1) (hk0 : 0 ≤ nI k ∧ nI k ≤ nI (tM F t) - 1) (hkm : k < tM F t) (hz9 : tA F 7 (31 * t + k) = 0 ∨ tA F 7 (31 * t + k) = 1) (sz : Nat) : Met l yL_node WL_node ({ frames := 5, cells := 0, slots := 0, locals := 110 } : Room) (RW D vwCl [.ref (ad 0), .int (nI t), .int (nI k), .int 7, .ref zo] ([(zo, .inl (cT 1, 1, .inr (.inl zw)))] ++ pg cds ad gg) (TY cT) sz) (va_Qi (fun (r9 : Int32) (u9 : Unit) => r9 = 0) (BW D vwCl (va_A ([(zo, .inl (cT 1, 1, .inr (.inl zw)))] ++ pg cds ad gg) sz) (fun u9 : Unit => ([(zo, .inl (cT 1, 1, .inr (.inl (vp_updL zw 0 (Int32.toInt64 (tA F 7 (31 * t + k)))))))] ++ pg cds ad gg))) (va_A ([(zo, .inl (cT 1, 1, .inr (.inl zw)))] ++ pg cds ad gg) sz)) 0 0 (va_A ([(zo, .inl (cT 1, 1, .inr (.inl zw)))] ++ pg cds ad gg) sz) := by
  refine va_MetW (hh := [(0, 12, 15, 13)]) (cc := cL_node) (maxL := 6) (ret := (some .int)) (by decide) rfl ?_
  intro p e s m args below meth c s₁ B hml hv
  obtain ⟨rfl, hsz, hZ, hP, hK, hD0⟩ := hv
  have hx := B.exec
  have hb := B.bytes
  have hr := B.returns
  have hts := atoms_spec (ws := WL_node) B.pre
  have hT : ∀ w ∈ TB, w.before _ s = true := fun w h => hts w (List.mem_cons_of_mem _ h)
  have hown : s.vm.findClass R_L = some m.cls := findClass_of_methodNamed B.named
  have htab := tx_table B (bytes := cL_node) (maxL := 6) (ret := (some .int)) (hh := [(0, 12, 15, 13)]) (hts _ List.mem_cons_self)
  subst hsz
  have hD := hD0.self (sz := s.heap.size)
  generalize hAe : va_A ([(zo, .inl (cT 1, 1, .inr (.inl zw)))] ++ pg cds ad gg) s.heap.size = A at hD hZ ⊢
  have hA : ∀ q : Nat, s.heap.size ≤ q → A q := fun q h => by rw [← hAe]; exact Or.inr h
  have hS : va_S A s.heap s.heap [] := va_S.rf
  have hl := lv_entry ([.ref (ad 0), .int (nI t), .int (nI k), .int 7, .ref zo]) (n := 6) (Nat.le_of_ble_eq_true rfl)
  rw [lg_entry_eq]
  generalize (lg_sl ([.ref (ad 0), .int (nI t), .int (nI k), .int 7, .ref zo]) ++ List.replicate (6 - (lg_sl ([.ref (ad 0), .int (nI t), .int (nI k), .int 7, .ref zo])).length) Slot.unset).toArray = ls at hl ⊢
  have hl : lv_has ls 6 [(0, .ref (ad 0)), (1, .int (nI t)), (2, .int (nI k)), (3, .int 7), (4, .ref zo)] := hl
  refine lv_aload hx hb dL_node_0 (lv_at hl 4 rfl) ?_
  refine lv_iconst (v := 0) hx hb dL_node_2 (by decide) ?_
  refine lv_aload_n hx hb dL_node_3 rfl (lv_at hl 0 rfl) ?_
  refine lv_iload_n hx hb dL_node_4 rfl (lv_at hl 1 rfl) ?_
  refine lv_iload_n hx hb dL_node_5 rfl (lv_at hl 2 rfl) ?_
  refine lv_iload_n hx hb dL_node_6 rfl (lv_at hl 3 rfl) ?_
  refine ro_i (va_Run.run (va_runV (As := [.int (nI t), .int (nI k), .int 7]) (rest := [.int 0, .ref zo]) ⟨hx, hb, hml, hown, hT⟩ (k_node7 l D cT cds ad gg T fm F t k hcd hob hFr hTm hTs hT16 htT hc0 hk0 hkm hz9) ⟨callB_of 3 hT (tb_gd w1000) rfl rfl rfl (hT _ w1) (hT _ w997) hR_node ⟨Nat.le_of_ble_eq_true rfl, Nat.le_of_ble_eq_true rfl⟩, (hT _ w998), (hT _ w999)⟩ (RO.preW (ci := 0) (q0 := 0) hZ hS ((show va_P D vwCl ([] ++ pg cds ad gg) _ from (pv_p hP))) hK (pg_1 (x := 0) hcd hP (by decide) hob) rfl rfl) rfl rfl hl.1 rfl (lv_room (Nat.le_of_ble_eq_true rfl)) dL_node_7 ⟨Nat.le_of_ble_eq_true rfl, Nat.le_of_ble_eq_true rfl⟩)) ?_
  refine lv_i2l hx hb dL_node_10 rfl ?_
  refine va_last hx hb hK hP hD hS 0 1 rfl rfl (by unfold vp_in; decide) dL_node_11 (fun H locs hP hD hS => ?_)
  have hP : va_P D vwCl ([(zo, .inl (cT 1, 1, .inr (.inl (vp_updL zw 0 ((tA F 7 (31 * t + k) : Int32).toInt64)))))] ++ pg cds ad gg) _ := hP
  have hD : va_D A ([(zo, .inl (cT 1, 1, .inr (.inl (vp_updL zw 0 ((tA F 7 (31 * t + k) : Int32).toInt64)))))] ++ pg cds ad gg) := hD
  refine lv_goto (tgt := 19) hx hb dL_node_12 rfl ?_
  refine lv_iconst (v := 0) hx hb dL_node_19 (by decide) ?_
  have hP9 : va_P D vwCl ([(zo, .inl (cT 1, 1, .inr (.inl (vp_updL zw 0 (Int32.toInt64 (tA F 7 (31 * t + k)))))))] ++ pg cds ad gg) _ := hP.part (cx := [(zo, .inl (cT 1, 1, .inr (.inl (vp_updL zw 0 (Int32.toInt64 (tA F 7 (31 * t + k)))))))]) [0] rfl
  have hD9 : va_D A ([(zo, .inl (cT 1, 1, .inr (.inl (vp_updL zw 0 (Int32.toInt64 (tA F 7 (31 * t + k)))))))] ++ pg cds ad gg) := hD.part (cx := [(zo, .inl (cT 1, 1, .inr (.inl (vp_updL zw 0 (Int32.toInt64 (tA F 7 (31 * t + k)))))))]) [0] (by decide) rfl
  refine W.widen (k := 0) (n := 0) (Nat.le_of_ble_eq_true rfl) (Nat.le_of_ble_eq_true rfl) ?_
  exact W.iret (v := 0) hx hb hr (fun t9 ht9 hW9 => ⟨⟨0, (), rfl, (show 0 = 0 from rfl), by rw [ht9]; exact hP9, hD9⟩, hS.F ht9⟩) hS.2.2 dL_node_20
set_option maxHeartbeats 4000000 in
set_option maxRecDepth 100000 in
theorem l_node_not (l : Launch) (D : va_G) (cT : Nat → ClassId) (cds : List Nat) (ad : Nat → Nat) (gg : Nat → Option va_E) (T : Nat) (fm : Nat) (F : TFR) (v : Int32) (a2 : Int32) (a3 : Int32) (zo : Nat) (zw : Nat → Int64) (hlt : l.stackTraces = false) (hcd : CD cds) (hob : gg 0 = some (eOB ad (nI T))) (hFr : FRp cT ad gg fm) (hTm : T ≤ fm) (hTs : TRS cT ad gg F T) (hT16 : T ≤ 16) (hq : ¬ (0 ≤ v ∧ v ≤ nI T - 1)) (sz : Nat) : Met l yL_node WL_node ({ frames := 8, cells := 1, slots := 6, locals := 135 } : Room) (RW D vwCl [.ref (ad 0), .int v, .int a2, .int a3, .ref zo] ([(zo, .inl (cT 1, 1, .inr (.inl zw)))] ++ pg cds ad gg) (TY cT) sz) (va_Qi (fun (r9 : Int32) (u9 : Unit) => r9 = 1) (BW D vwCl (va_A ([(zo, .inl (cT 1, 1, .inr (.inl zw)))] ++ pg cds ad gg) sz) (fun u9 : Unit => ([(zo, .inl (cT 1, 1, .inr (.inl zw)))] ++ pg cds ad gg))) (va_A ([(zo, .inl (cT 1, 1, .inr (.inl zw)))] ++ pg cds ad gg) sz)) 1 6 (va_A ([(zo, .inl (cT 1, 1, .inr (.inl zw)))] ++ pg cds ad gg) sz) := by
  refine va_MetW (hh := [(0, 12, 15, 13)]) (cc := cL_node) (maxL := 6) (ret := (some .int)) (by decide) rfl ?_
  intro p e s m args below meth c s₁ B hml hv
  obtain ⟨rfl, hsz, hZ, hP, hK, hD0⟩ := hv
  have hx := B.exec
  have hb := B.bytes
  have hr := B.returns
  have hts := atoms_spec (ws := WL_node) B.pre
  have hT : ∀ w ∈ TB, w.before _ s = true := fun w h => hts w (List.mem_cons_of_mem _ h)
  have hown : s.vm.findClass R_L = some m.cls := findClass_of_methodNamed B.named
  have htab := tx_table B (bytes := cL_node) (maxL := 6) (ret := (some .int)) (hh := [(0, 12, 15, 13)]) (hts _ List.mem_cons_self)
  subst hsz
  have hD := hD0.self (sz := s.heap.size)
  generalize hAe : va_A ([(zo, .inl (cT 1, 1, .inr (.inl zw)))] ++ pg cds ad gg) s.heap.size = A at hD hZ ⊢
  have hA : ∀ q : Nat, s.heap.size ≤ q → A q := fun q h => by rw [← hAe]; exact Or.inr h
  have hS : va_S A s.heap s.heap [] := va_S.rf
  have hl := lv_entry ([.ref (ad 0), .int v, .int a2, .int a3, .ref zo]) (n := 6) (Nat.le_of_ble_eq_true rfl)
  rw [lg_entry_eq]
  generalize (lg_sl ([.ref (ad 0), .int v, .int a2, .int a3, .ref zo]) ++ List.replicate (6 - (lg_sl ([.ref (ad 0), .int v, .int a2, .int a3, .ref zo])).length) Slot.unset).toArray = ls at hl ⊢
  have hl : lv_has ls 6 [(0, .ref (ad 0)), (1, .int v), (2, .int a2), (3, .int a3), (4, .ref zo)] := hl
  refine lv_aload hx hb dL_node_0 (lv_at hl 4 rfl) ?_
  refine lv_iconst (v := 0) hx hb dL_node_2 (by decide) ?_
  refine lv_aload_n hx hb dL_node_3 rfl (lv_at hl 0 rfl) ?_
  refine lv_iload_n hx hb dL_node_4 rfl (lv_at hl 1 rfl) ?_
  refine lv_iload_n hx hb dL_node_5 rfl (lv_at hl 2 rfl) ?_
  refine lv_iload_n hx hb dL_node_6 rfl (lv_at hl 3 rfl) ?_
  refine tx_catch1 (name := "java/lang/IllegalArgumentException") (tx_goV (As := [.int v, .int a2, .int a3]) (rest := [.int 0, .ref zo]) ⟨hx, hb, hml, hown, hT⟩ (k_node_not l D cT cds ad gg T fm F v a2 a3 hlt hcd hob hFr hTm hTs hT16 hq) ⟨callB_of 3 hT (tb_gd w1000) rfl rfl rfl (hT _ w1) (hT _ w997) hR_node ⟨Nat.le_of_ble_eq_true rfl, Nat.le_of_ble_eq_true rfl⟩, (hT _ w998), (hT _ w999)⟩ (RO.preW (ci := 0) (q0 := 0) hZ hS ((show va_P D vwCl ([] ++ pg cds ad gg) _ from (pv_p hP))) hK (pg_1 (x := 0) hcd hP (by decide) hob) rfl rfl) rfl hl.1 rfl (Nat.le_of_ble_eq_true rfl) dL_node_7 ⟨Nat.le_of_ble_eq_true rfl, Nat.le_of_ble_eq_true rfl⟩) hown htab rfl (by decide) (hT _ w503) (tc_c rfl (hZ.1.1 ("java/lang/IllegalArgumentException", "java/lang/IllegalArgumentException") (List.mem_of_getElem? (i := 0) rfl))) (fun q9 H hsz9 hag9 => ?_)
  have hP := tc_P hP hag9
  have hS := tc_S hS hsz9 hag9
  refine W.eq (g2 := F0 m 15 ls [.ref q9]) rfl ?_
  refine lv_astore hx hb dL_node_15 hl (by decide) rfl (fun ls hl => ?_)
  have hl : lv_has ls 6 [(5, .ref q9), (0, .ref (ad 0)), (1, .int v), (2, .int a2), (3, .int a3), (4, .ref zo)] := hl
  refine lv_iconst (v := 1) hx hb dL_node_17 (by decide) ?_
  have hP9 : va_P D vwCl ([(zo, .inl (cT 1, 1, .inr (.inl zw)))] ++ pg cds ad gg) _ := hP.part (cx := [(zo, .inl (cT 1, 1, .inr (.inl zw)))]) [0] rfl
  have hD9 : va_D A ([(zo, .inl (cT 1, 1, .inr (.inl zw)))] ++ pg cds ad gg) := hD.part (cx := [(zo, .inl (cT 1, 1, .inr (.inl zw)))]) [0] (by decide) rfl
  refine W.widen (k := 1) (n := 6) (Nat.le_of_ble_eq_true rfl) (Nat.le_of_ble_eq_true rfl) ?_
  exact W.iret (v := 1) hx hb hr (fun t9 ht9 hW9 => ⟨⟨1, (), rfl, (show 1 = 1 from rfl), by rw [ht9]; exact hP9, hD9⟩, hS.F ht9⟩) hS.2.2 dL_node_18
set_option maxHeartbeats 4000000 in
set_option maxRecDepth 100000 in
theorem l_node_nok (l : Launch) (D : va_G) (cT : Nat → ClassId) (cds : List Nat) (ad : Nat → Nat) (gg : Nat → Option va_E) (T : Nat) (fm : Nat) (F : TFR) (t : Nat) (a2 : Int32) (a3 : Int32) (zo : Nat) (zw : Nat → Int64) (hlt : l.stackTraces = false) (hcd : CD cds) (hob : gg 0 = some (eOB ad (nI T))) (hFr : FRp cT ad gg fm) (hTm : T ≤ fm) (hTs : TRS cT ad gg F T) (hT16 : T ≤ 16) (htT : t < T) (hc0 : 0 ≤ nI t ∧ nI t ≤ nI T - 1) (hq : ¬ (0 ≤ a2 ∧ a2 ≤ nI (tM F t) - 1)) (sz : Nat) : Met l yL_node WL_node ({ frames := 8, cells := 1, slots := 6, locals := 135 } : Room) (RW D vwCl [.ref (ad 0), .int (nI t), .int a2, .int a3, .ref zo] ([(zo, .inl (cT 1, 1, .inr (.inl zw)))] ++ pg cds ad gg) (TY cT) sz) (va_Qi (fun (r9 : Int32) (u9 : Unit) => r9 = 1) (BW D vwCl (va_A ([(zo, .inl (cT 1, 1, .inr (.inl zw)))] ++ pg cds ad gg) sz) (fun u9 : Unit => ([(zo, .inl (cT 1, 1, .inr (.inl zw)))] ++ pg cds ad gg))) (va_A ([(zo, .inl (cT 1, 1, .inr (.inl zw)))] ++ pg cds ad gg) sz)) 1 6 (va_A ([(zo, .inl (cT 1, 1, .inr (.inl zw)))] ++ pg cds ad gg) sz) := by
  refine va_MetW (hh := [(0, 12, 15, 13)]) (cc := cL_node) (maxL := 6) (ret := (some .int)) (by decide) rfl ?_
  intro p e s m args below meth c s₁ B hml hv
  obtain ⟨rfl, hsz, hZ, hP, hK, hD0⟩ := hv
  have hx := B.exec
  have hb := B.bytes
  have hr := B.returns
  have hts := atoms_spec (ws := WL_node) B.pre
  have hT : ∀ w ∈ TB, w.before _ s = true := fun w h => hts w (List.mem_cons_of_mem _ h)
  have hown : s.vm.findClass R_L = some m.cls := findClass_of_methodNamed B.named
  have htab := tx_table B (bytes := cL_node) (maxL := 6) (ret := (some .int)) (hh := [(0, 12, 15, 13)]) (hts _ List.mem_cons_self)
  subst hsz
  have hD := hD0.self (sz := s.heap.size)
  generalize hAe : va_A ([(zo, .inl (cT 1, 1, .inr (.inl zw)))] ++ pg cds ad gg) s.heap.size = A at hD hZ ⊢
  have hA : ∀ q : Nat, s.heap.size ≤ q → A q := fun q h => by rw [← hAe]; exact Or.inr h
  have hS : va_S A s.heap s.heap [] := va_S.rf
  have hl := lv_entry ([.ref (ad 0), .int (nI t), .int a2, .int a3, .ref zo]) (n := 6) (Nat.le_of_ble_eq_true rfl)
  rw [lg_entry_eq]
  generalize (lg_sl ([.ref (ad 0), .int (nI t), .int a2, .int a3, .ref zo]) ++ List.replicate (6 - (lg_sl ([.ref (ad 0), .int (nI t), .int a2, .int a3, .ref zo])).length) Slot.unset).toArray = ls at hl ⊢
  have hl : lv_has ls 6 [(0, .ref (ad 0)), (1, .int (nI t)), (2, .int a2), (3, .int a3), (4, .ref zo)] := hl
  refine lv_aload hx hb dL_node_0 (lv_at hl 4 rfl) ?_
  refine lv_iconst (v := 0) hx hb dL_node_2 (by decide) ?_
  refine lv_aload_n hx hb dL_node_3 rfl (lv_at hl 0 rfl) ?_
  refine lv_iload_n hx hb dL_node_4 rfl (lv_at hl 1 rfl) ?_
  refine lv_iload_n hx hb dL_node_5 rfl (lv_at hl 2 rfl) ?_
  refine lv_iload_n hx hb dL_node_6 rfl (lv_at hl 3 rfl) ?_
  refine tx_catch1 (name := "java/lang/IllegalArgumentException") (tx_goV (As := [.int (nI t), .int a2, .int a3]) (rest := [.int 0, .ref zo]) ⟨hx, hb, hml, hown, hT⟩ (k_node_nok l D cT cds ad gg T fm F t a2 a3 hlt hcd hob hFr hTm hTs hT16 htT hc0 hq) ⟨callB_of 3 hT (tb_gd w1000) rfl rfl rfl (hT _ w1) (hT _ w997) hR_node ⟨Nat.le_of_ble_eq_true rfl, Nat.le_of_ble_eq_true rfl⟩, (hT _ w998), (hT _ w999)⟩ (RO.preW (ci := 0) (q0 := 0) hZ hS ((show va_P D vwCl ([] ++ pg cds ad gg) _ from (pv_p hP))) hK (pg_1 (x := 0) hcd hP (by decide) hob) rfl rfl) rfl hl.1 rfl (Nat.le_of_ble_eq_true rfl) dL_node_7 ⟨Nat.le_of_ble_eq_true rfl, Nat.le_of_ble_eq_true rfl⟩) hown htab rfl (by decide) (hT _ w503) (tc_c rfl (hZ.1.1 ("java/lang/IllegalArgumentException", "java/lang/IllegalArgumentException") (List.mem_of_getElem? (i := 0) rfl))) (fun q9 H hsz9 hag9 => ?_)
  have hP := tc_P hP hag9
  have hS := tc_S hS hsz9 hag9
  refine W.eq (g2 := F0 m 15 ls [.ref q9]) rfl ?_
  refine lv_astore hx hb dL_node_15 hl (by decide) rfl (fun ls hl => ?_)
  have hl : lv_has ls 6 [(5, .ref q9), (0, .ref (ad 0)), (1, .int (nI t)), (2, .int a2), (3, .int a3), (4, .ref zo)] := hl
  refine lv_iconst (v := 1) hx hb dL_node_17 (by decide) ?_
  have hP9 : va_P D vwCl ([(zo, .inl (cT 1, 1, .inr (.inl zw)))] ++ pg cds ad gg) _ := hP.part (cx := [(zo, .inl (cT 1, 1, .inr (.inl zw)))]) [0] rfl
  have hD9 : va_D A ([(zo, .inl (cT 1, 1, .inr (.inl zw)))] ++ pg cds ad gg) := hD.part (cx := [(zo, .inl (cT 1, 1, .inr (.inl zw)))]) [0] (by decide) rfl
  refine W.widen (k := 1) (n := 6) (Nat.le_of_ble_eq_true rfl) (Nat.le_of_ble_eq_true rfl) ?_
  exact W.iret (v := 1) hx hb hr (fun t9 ht9 hW9 => ⟨⟨1, (), rfl, (show 1 = 1 from rfl), by rw [ht9]; exact hP9, hD9⟩, hS.F ht9⟩) hS.2.2 dL_node_18
set_option maxHeartbeats 4000000 in
set_option maxRecDepth 100000 in
theorem l_node_now (l : Launch) (D : va_G) (cT : Nat → ClassId) (cds : List Nat) (ad : Nat → Nat) (gg : Nat → Option va_E) (T : Nat) (fm : Nat) (F : TFR) (t : Nat) (k : Nat) (a3 : Int32) (zo : Nat) (zw : Nat → Int64) (hlt : l.stackTraces = false) (hcd : CD cds) (hob : gg 0 = some (eOB ad (nI T))) (hFr : FRp cT ad gg fm) (hTm : T ≤ fm) (hTs : TRS cT ad gg F T) (hT16 : T ≤ 16) (htT : t < T) (hc0 : 0 ≤ nI t ∧ nI t ≤ nI T - 1) (hk0 : 0 ≤ nI k ∧ nI k ≤ nI (tM F t) - 1) (hkm : k < tM F t) (hsw : a3.toInt < 0 ∨ 7 < a3.toInt) (sz : Nat) : Met l yL_node WL_node ({ frames := 7, cells := 1, slots := 6, locals := 115 } : Room) (RW D vwCl [.ref (ad 0), .int (nI t), .int (nI k), .int a3, .ref zo] ([(zo, .inl (cT 1, 1, .inr (.inl zw)))] ++ pg cds ad gg) (TY cT) sz) (va_Qi (fun (r9 : Int32) (u9 : Unit) => r9 = 1) (BW D vwCl (va_A ([(zo, .inl (cT 1, 1, .inr (.inl zw)))] ++ pg cds ad gg) sz) (fun u9 : Unit => ([(zo, .inl (cT 1, 1, .inr (.inl zw)))] ++ pg cds ad gg))) (va_A ([(zo, .inl (cT 1, 1, .inr (.inl zw)))] ++ pg cds ad gg) sz)) 1 6 (va_A ([(zo, .inl (cT 1, 1, .inr (.inl zw)))] ++ pg cds ad gg) sz) := by
  refine va_MetW (hh := [(0, 12, 15, 13)]) (cc := cL_node) (maxL := 6) (ret := (some .int)) (by decide) rfl ?_
  intro p e s m args below meth c s₁ B hml hv
  obtain ⟨rfl, hsz, hZ, hP, hK, hD0⟩ := hv
  have hx := B.exec
  have hb := B.bytes
  have hr := B.returns
  have hts := atoms_spec (ws := WL_node) B.pre
  have hT : ∀ w ∈ TB, w.before _ s = true := fun w h => hts w (List.mem_cons_of_mem _ h)
  have hown : s.vm.findClass R_L = some m.cls := findClass_of_methodNamed B.named
  have htab := tx_table B (bytes := cL_node) (maxL := 6) (ret := (some .int)) (hh := [(0, 12, 15, 13)]) (hts _ List.mem_cons_self)
  subst hsz
  have hD := hD0.self (sz := s.heap.size)
  generalize hAe : va_A ([(zo, .inl (cT 1, 1, .inr (.inl zw)))] ++ pg cds ad gg) s.heap.size = A at hD hZ ⊢
  have hA : ∀ q : Nat, s.heap.size ≤ q → A q := fun q h => by rw [← hAe]; exact Or.inr h
  have hS : va_S A s.heap s.heap [] := va_S.rf
  have hl := lv_entry ([.ref (ad 0), .int (nI t), .int (nI k), .int a3, .ref zo]) (n := 6) (Nat.le_of_ble_eq_true rfl)
  rw [lg_entry_eq]
  generalize (lg_sl ([.ref (ad 0), .int (nI t), .int (nI k), .int a3, .ref zo]) ++ List.replicate (6 - (lg_sl ([.ref (ad 0), .int (nI t), .int (nI k), .int a3, .ref zo])).length) Slot.unset).toArray = ls at hl ⊢
  have hl : lv_has ls 6 [(0, .ref (ad 0)), (1, .int (nI t)), (2, .int (nI k)), (3, .int a3), (4, .ref zo)] := hl
  refine lv_aload hx hb dL_node_0 (lv_at hl 4 rfl) ?_
  refine lv_iconst (v := 0) hx hb dL_node_2 (by decide) ?_
  refine lv_aload_n hx hb dL_node_3 rfl (lv_at hl 0 rfl) ?_
  refine lv_iload_n hx hb dL_node_4 rfl (lv_at hl 1 rfl) ?_
  refine lv_iload_n hx hb dL_node_5 rfl (lv_at hl 2 rfl) ?_
  refine lv_iload_n hx hb dL_node_6 rfl (lv_at hl 3 rfl) ?_
  refine tx_catch1 (name := "java/lang/IllegalArgumentException") (tx_goV (As := [.int (nI t), .int (nI k), .int a3]) (rest := [.int 0, .ref zo]) ⟨hx, hb, hml, hown, hT⟩ (k_node_now l D cT cds ad gg T fm F t k a3 hlt hcd hob hFr hTm hTs hT16 htT hc0 hk0 hkm hsw) ⟨callB_of 3 hT (tb_gd w1000) rfl rfl rfl (hT _ w1) (hT _ w997) hR_node ⟨Nat.le_of_ble_eq_true rfl, Nat.le_of_ble_eq_true rfl⟩, (hT _ w998), (hT _ w999)⟩ (RO.preW (ci := 0) (q0 := 0) hZ hS ((show va_P D vwCl ([] ++ pg cds ad gg) _ from (pv_p hP))) hK (pg_1 (x := 0) hcd hP (by decide) hob) rfl rfl) rfl hl.1 rfl (Nat.le_of_ble_eq_true rfl) dL_node_7 ⟨Nat.le_of_ble_eq_true rfl, Nat.le_of_ble_eq_true rfl⟩) hown htab rfl (by decide) (hT _ w503) (tc_c rfl (hZ.1.1 ("java/lang/IllegalArgumentException", "java/lang/IllegalArgumentException") (List.mem_of_getElem? (i := 0) rfl))) (fun q9 H hsz9 hag9 => ?_)
  have hP := tc_P hP hag9
  have hS := tc_S hS hsz9 hag9
  refine W.eq (g2 := F0 m 15 ls [.ref q9]) rfl ?_
  refine lv_astore hx hb dL_node_15 hl (by decide) rfl (fun ls hl => ?_)
  have hl : lv_has ls 6 [(5, .ref q9), (0, .ref (ad 0)), (1, .int (nI t)), (2, .int (nI k)), (3, .int a3), (4, .ref zo)] := hl
  refine lv_iconst (v := 1) hx hb dL_node_17 (by decide) ?_
  have hP9 : va_P D vwCl ([(zo, .inl (cT 1, 1, .inr (.inl zw)))] ++ pg cds ad gg) _ := hP.part (cx := [(zo, .inl (cT 1, 1, .inr (.inl zw)))]) [0] rfl
  have hD9 : va_D A ([(zo, .inl (cT 1, 1, .inr (.inl zw)))] ++ pg cds ad gg) := hD.part (cx := [(zo, .inl (cT 1, 1, .inr (.inl zw)))]) [0] (by decide) rfl
  refine W.widen (k := 1) (n := 6) (Nat.le_of_ble_eq_true rfl) (Nat.le_of_ble_eq_true rfl) ?_
  exact W.iret (v := 1) hx hb hr (fun t9 ht9 hW9 => ⟨⟨1, (), rfl, (show 1 = 1 from rfl), by rw [ht9]; exact hP9, hD9⟩, hS.F ht9⟩) hS.2.2 dL_node_18
