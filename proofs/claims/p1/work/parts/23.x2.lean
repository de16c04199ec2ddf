set_option maxHeartbeats 4000000 in
set_option maxRecDepth 100000 in
theorem k_begin_no (l : Launch) (D : va_G) (cT : Nat → ClassId) (x : Nat) (xT : Nat) (xP : Nat) (xR : Nat) (xG : Nat) (xF : Nat) (tc : Int32) (xO : Nat) (xS : Nat) (xL : Nat) (xC : Nat) (xQ : Nat) (xU : Nat) (xW : Nat) (a1 : Int32) (hlt : l.stackTraces = false) (hq : ¬ (1 ≤ a1 ∧ a1 ≤ 6)) : MetT l yR_begin WR_begin ({ frames := 7, cells := 1, slots := 6, locals := 111 } : Room) (RO D vwCl [.ref x, .int a1] [(x, .inr (0, [.ref xT, .ref xP, .ref xR, .ref xG, .ref xF, .int tc, .ref xO, .ref xS, .ref xL, .ref xC, .ref xQ, .ref xU, .ref xW]))] (TY cT)) "java/lang/IllegalArgumentException" 1 6 := by
  refine MetT.ofW (cc := cR_begin) (maxL := 2) (ret := none) (by decide) rfl ?_
  intro p e s m args below meth c s₁ B hml hno hv
  obtain ⟨rfl, hZ, hP, hK⟩ := hv
  have hx := B.exec
  have hb := B.bytes
  have hr := B.returns
  have hts := atoms_spec (ws := WR_begin) B.pre
  have hT : ∀ w ∈ TB, w.before _ s = true := fun w h => hts w (List.mem_cons_of_mem _ h)
  have hown : s.vm.findClass R_R = some m.cls := findClass_of_methodNamed B.named
  have hlocks := B.notSynchronized
  have hS : va_S (fun _ => False) s.heap s.heap [] := va_S.rf
  have hl := lv_entry ([.ref x, .int a1]) (n := 2) (Nat.le_of_ble_eq_true rfl)
  rw [lg_entry_eq]
  generalize (lg_sl ([.ref x, .int a1]) ++ List.replicate (2 - (lg_sl ([.ref x, .int a1])).length) Slot.unset).toArray = ls at hl ⊢
  have hl : lv_has ls 2 [(0, .ref x), (1, .int a1)] := hl
  refine lv_iload_n hx hb dR_begin_0 rfl (lv_at hl 1 rfl) ?_
  refine lv_iconst (v := 1) hx hb dR_begin_1 (by decide) ?_
  refine lv_bipush (v := 6) hx hb dR_begin_2 (by decide) ?_
  refine ro_i (va_Run.run (va_runS (As := [.int a1, .int 1, .int 6]) (rest := []) ⟨hx, hb, hml, hown, hT⟩ (k_isWithin l D cT a1 1 6) ⟨callB_of 3 hT (tb_gd w499) rfl rfl rfl (hT _ w1) (hT _ w497) hR_isWithin ⟨Nat.le_of_ble_eq_true rfl, Nat.le_of_ble_eq_true rfl⟩, (hT _ w498)⟩ (RO.preS hZ hS ((show va_P D vwCl [] _ from fun _ _ h => nomatch h)) hK) rfl rfl hl.1 rfl (lv_room (Nat.le_of_ble_eq_true rfl)) dR_begin_4 ⟨Nat.le_of_ble_eq_true rfl, Nat.le_of_ble_eq_true rfl⟩)) ?_
  by_cases hc1 : 1 ≤ a1 ∧ a1 ≤ 6
  · refine ro_v (va_Run.run (va_runS (As := [.int (bi (1 ≤ a1 ∧ a1 ≤ 6))]) (rest := []) ⟨hx, hb, hml, hown, hT⟩ (k_demand_ok l D cT (bi (1 ≤ a1 ∧ a1 ≤ 6)) (by rw [bi_t hc1]; decide)) ⟨callB_of 1 hT (tb_gd w510) rfl rfl rfl (hT _ w1) (hT _ w508) hR_demand ⟨Nat.le_of_ble_eq_true rfl, Nat.le_of_ble_eq_true rfl⟩, (hT _ w509)⟩ (RO.preS hZ hS ((show va_P D vwCl [] _ from fun _ _ h => nomatch h)) hK) rfl rfl hl.1 rfl (lv_room (Nat.le_of_ble_eq_true rfl)) dR_begin_7 ⟨Nat.le_of_ble_eq_true rfl, Nat.le_of_ble_eq_true rfl⟩)) ?_
    exact absurd hc1 hq
  · exact tx_out (tx_goS (As := [.int (bi (1 ≤ a1 ∧ a1 ≤ 6))]) (rest := []) ⟨hx, hb, hml, hown, hT⟩ (k_demand_no l D cT (bi (1 ≤ a1 ∧ a1 ≤ 6)) hlt (bi_f hc1)) ⟨callB_of 1 hT (tb_gd w510) rfl rfl rfl (hT _ w1) (hT _ w508) hR_demand ⟨Nat.le_of_ble_eq_true rfl, Nat.le_of_ble_eq_true rfl⟩, (hT _ w509)⟩ (RO.preS hZ hS ((show va_P D vwCl [] _ from fun _ _ h => nomatch h)) hK) rfl hl.1 rfl (Nat.le_of_ble_eq_true rfl) dR_begin_7 ⟨Nat.le_of_ble_eq_true rfl, Nat.le_of_ble_eq_true rfl⟩) hno hlocks
set_option maxHeartbeats 4000000 in
set_option maxRecDepth 100000 in
theorem k_add_no (l : Launch) (D : va_G) (cT : Nat → ClassId) (x : Nat) (xT : Nat) (xP : Nat) (xR : Nat) (xG : Nat) (xF : Nat) (tc : Int32) (xO : Nat) (xS : Nat) (xL : Nat) (xC : Nat) (xQ : Nat) (xU : Nat) (xW : Nat) (a1 : Int32) (hlt : l.stackTraces = false) (hq : ¬ ((-1000) ≤ a1 ∧ a1 ≤ 1000)) : MetT l yR_add WR_add ({ frames := 7, cells := 1, slots := 6, locals := 111 } : Room) (RO D vwCl [.ref x, .int a1] [(x, .inr (0, [.ref xT, .ref xP, .ref xR, .ref xG, .ref xF, .int tc, .ref xO, .ref xS, .ref xL, .ref xC, .ref xQ, .ref xU, .ref xW]))] (TY cT)) "java/lang/IllegalArgumentException" 1 6 := by
  refine MetT.ofW (cc := cR_add) (maxL := 2) (ret := (some .int)) (by decide) rfl ?_
  intro p e s m args below meth c s₁ B hml hno hv
  obtain ⟨rfl, hZ, hP, hK⟩ := hv
  have hx := B.exec
  have hb := B.bytes
  have hr := B.returns
  have hts := atoms_spec (ws := WR_add) B.pre
  have hT : ∀ w ∈ TB, w.before _ s = true := fun w h => hts w (List.mem_cons_of_mem _ h)
  have hown : s.vm.findClass R_R = some m.cls := findClass_of_methodNamed B.named
  have hlocks := B.notSynchronized
  have hS : va_S (fun _ => False) s.heap s.heap [] := va_S.rf
  have hl := lv_entry ([.ref x, .int a1]) (n := 2) (Nat.le_of_ble_eq_true rfl)
  rw [lg_entry_eq]
  generalize (lg_sl ([.ref x, .int a1]) ++ List.replicate (2 - (lg_sl ([.ref x, .int a1])).length) Slot.unset).toArray = ls at hl ⊢
  have hl : lv_has ls 2 [(0, .ref x), (1, .int a1)] := hl
  refine lv_iload_n hx hb dR_add_0 rfl (lv_at hl 1 rfl) ?_
  refine ro_i (va_Run.run (va_runS (As := [.int a1]) (rest := []) ⟨hx, hb, hml, hown, hT⟩ (k_isTarget l D cT a1) ⟨callB_of 1 hT (tb_gd w583) rfl rfl rfl (hT _ w1) (hT _ w581) hR_isTarget ⟨Nat.le_of_ble_eq_true rfl, Nat.le_of_ble_eq_true rfl⟩, (hT _ w582)⟩ (RO.preS hZ hS ((show va_P D vwCl [] _ from fun _ _ h => nomatch h)) hK) rfl rfl hl.1 rfl (lv_room (Nat.le_of_ble_eq_true rfl)) dR_add_1 ⟨Nat.le_of_ble_eq_true rfl, Nat.le_of_ble_eq_true rfl⟩)) ?_
  by_cases hc1 : (-1000) ≤ a1 ∧ a1 ≤ 1000
  · refine ro_v (va_Run.run (va_runS (As := [.int (bi ((-1000) ≤ a1 ∧ a1 ≤ 1000))]) (rest := []) ⟨hx, hb, hml, hown, hT⟩ (k_demand_ok l D cT (bi ((-1000) ≤ a1 ∧ a1 ≤ 1000)) (by rw [bi_t hc1]; decide)) ⟨callB_of 1 hT (tb_gd w510) rfl rfl rfl (hT _ w1) (hT _ w508) hR_demand ⟨Nat.le_of_ble_eq_true rfl, Nat.le_of_ble_eq_true rfl⟩, (hT _ w509)⟩ (RO.preS hZ hS ((show va_P D vwCl [] _ from fun _ _ h => nomatch h)) hK) rfl rfl hl.1 rfl (lv_room (Nat.le_of_ble_eq_true rfl)) dR_add_4 ⟨Nat.le_of_ble_eq_true rfl, Nat.le_of_ble_eq_true rfl⟩)) ?_
    exact absurd hc1 hq
  · exact tx_out (tx_goS (As := [.int (bi ((-1000) ≤ a1 ∧ a1 ≤ 1000))]) (rest := []) ⟨hx, hb, hml, hown, hT⟩ (k_demand_no l D cT (bi ((-1000) ≤ a1 ∧ a1 ≤ 1000)) hlt (bi_f hc1)) ⟨callB_of 1 hT (tb_gd w510) rfl rfl rfl (hT _ w1) (hT _ w508) hR_demand ⟨Nat.le_of_ble_eq_true rfl, Nat.le_of_ble_eq_true rfl⟩, (hT _ w509)⟩ (RO.preS hZ hS ((show va_P D vwCl [] _ from fun _ _ h => nomatch h)) hK) rfl hl.1 rfl (Nat.le_of_ble_eq_true rfl) dR_add_4 ⟨Nat.le_of_ble_eq_true rfl, Nat.le_of_ble_eq_true rfl⟩) hno hlocks
set_option maxHeartbeats 4000000 in
set_option maxRecDepth 100000 in
theorem k_put_no (l : Launch) (D : va_G) (cT : Nat → ClassId) (x : Nat) (xT : Nat) (xP : Nat) (xR : Nat) (xG : Nat) (xF : Nat) (tc : Int32) (xO : Nat) (xS : Nat) (xL : Nat) (xC : Nat) (xQ : Nat) (xU : Nat) (xW : Nat) (ca : Nat) (ta : Nat) (w : Int32) (r : Int32) (a1 : Int32) (a2 : Int32) (a3 : Int32) (hlt : l.stackTraces = false) (hq : ¬ ((0 ≤ a1 ∧ a1 ≤ r - 1) ∧ (0 ≤ a2 ∧ a2 ≤ w - 1))) : MetT l yR_put WR_put ({ frames := 7, cells := 1, slots := 6, locals := 111 } : Room) (RO D vwCl [.ref x, .int a1, .int a2, .int a3] [(x, .inr (0, [.ref xT, .ref xP, .ref xR, .ref xG, .ref xF, .int tc, .ref xO, .ref xS, .ref xL, .ref xC, .ref xQ, .ref xU, .ref xW])), (xT, .inr (2, [.ref ca, .ref ta, .int w, .int r]))] (TY cT)) "java/lang/IllegalArgumentException" 1 6 := by
  refine MetT.ofW (cc := cR_put) (maxL := 4) (ret := (some .int)) (by decide) rfl ?_
  intro p e s m args below meth c s₁ B hml hno hv
  obtain ⟨rfl, hZ, hP, hK⟩ := hv
  have hx := B.exec
  have hb := B.bytes
  have hr := B.returns
  have hts := atoms_spec (ws := WR_put) B.pre
  have hT : ∀ w ∈ TB, w.before _ s = true := fun w h => hts w (List.mem_cons_of_mem _ h)
  have hown : s.vm.findClass R_R = some m.cls := findClass_of_methodNamed B.named
  have hlocks := B.notSynchronized
  have hS : va_S (fun _ => False) s.heap s.heap [] := va_S.rf
  have hl := lv_entry ([.ref x, .int a1, .int a2, .int a3]) (n := 4) (Nat.le_of_ble_eq_true rfl)
  rw [lg_entry_eq]
  generalize (lg_sl ([.ref x, .int a1, .int a2, .int a3]) ++ List.replicate (4 - (lg_sl ([.ref x, .int a1, .int a2, .int a3])).length) Slot.unset).toArray = ls at hl ⊢
  have hl : lv_has ls 4 [(0, .ref x), (1, .int a1), (2, .int a2), (3, .int a3)] := hl
  refine lv_aload_n hx hb dR_put_0 rfl (lv_at hl 0 rfl) ?_
  refine va_get (D := D) (ci := 0) (v := .ref xT) (C := R_R) (T := T_R) (N := 13) hx hb hT in_R hown hK hP 0 rfl rfl 0 (by decide) (hT _ w324) (fun _ h9 => h9) rfl dR_put_1 ?_
  refine lv_iload_n hx hb dR_put_4 rfl (lv_at hl 1 rfl) ?_
  refine ro_i (va_Run.run (va_runV (As := [.int a1]) (rest := []) ⟨hx, hb, hml, hown, hT⟩ (k_hasRow l D cT xT ca ta w r a1) ⟨callB_of 1 hT (tb_gd w616) rfl rfl rfl (hT _ w2) (hT _ w613) hT_hasRow ⟨Nat.le_of_ble_eq_true rfl, Nat.le_of_ble_eq_true rfl⟩, (hT _ w614), (hT _ w615)⟩ (RO.preV (ci := 2) (q0 := 0) hZ hS (hP.sub (ws' := [(xT, .inr (2, [.ref ca, .ref ta, .int w, .int r]))]) [1] rfl) hK rfl rfl) rfl rfl hl.1 rfl (lv_room (Nat.le_of_ble_eq_true rfl)) dR_put_5 ⟨Nat.le_of_ble_eq_true rfl, Nat.le_of_ble_eq_true rfl⟩)) ?_
  refine lv_if_eq (tgt := 26) hx hb dR_put_8 rfl (fun h1 => ?_) (fun h1 => ?_)
  · refine lv_iconst (v := 0) hx hb dR_put_26 (by decide) ?_
    exact tx_out (tx_goS (As := [.int 0]) (rest := []) ⟨hx, hb, hml, hown, hT⟩ (k_demand_no l D cT 0 hlt rfl) ⟨callB_of 1 hT (tb_gd w510) rfl rfl rfl (hT _ w1) (hT _ w508) hR_demand ⟨Nat.le_of_ble_eq_true rfl, Nat.le_of_ble_eq_true rfl⟩, (hT _ w509)⟩ (RO.preS hZ hS ((show va_P D vwCl [] _ from fun _ _ h => nomatch h)) hK) rfl hl.1 rfl (Nat.le_of_ble_eq_true rfl) dR_put_27 ⟨Nat.le_of_ble_eq_true rfl, Nat.le_of_ble_eq_true rfl⟩) hno hlocks
  · refine lv_aload_n hx hb dR_put_11 rfl (lv_at hl 0 rfl) ?_
    refine va_get (D := D) (ci := 0) (v := .ref xT) (C := R_R) (T := T_R) (N := 13) hx hb hT in_R hown hK hP 0 rfl rfl 0 (by decide) (hT _ w324) (fun _ h9 => h9) rfl dR_put_12 ?_
    refine lv_iload_n hx hb dR_put_15 rfl (lv_at hl 2 rfl) ?_
    refine ro_i (va_Run.run (va_runV (As := [.int a2]) (rest := []) ⟨hx, hb, hml, hown, hT⟩ (k_hasColumn l D cT xT ca ta w r a2) ⟨callB_of 1 hT (tb_gd w621) rfl rfl rfl (hT _ w2) (hT _ w618) hT_hasColumn ⟨Nat.le_of_ble_eq_true rfl, Nat.le_of_ble_eq_true rfl⟩, (hT _ w619), (hT _ w620)⟩ (RO.preV (ci := 2) (q0 := 0) hZ hS (hP.sub (ws' := [(xT, .inr (2, [.ref ca, .ref ta, .int w, .int r]))]) [1] rfl) hK rfl rfl) rfl rfl hl.1 rfl (lv_room (Nat.le_of_ble_eq_true rfl)) dR_put_16 ⟨Nat.le_of_ble_eq_true rfl, Nat.le_of_ble_eq_true rfl⟩)) ?_
    refine lv_if_eq (tgt := 26) hx hb dR_put_19 rfl (fun h2 => ?_) (fun h2 => ?_)
    · refine lv_iconst (v := 0) hx hb dR_put_26 (by decide) ?_
      exact tx_out (tx_goS (As := [.int 0]) (rest := []) ⟨hx, hb, hml, hown, hT⟩ (k_demand_no l D cT 0 hlt rfl) ⟨callB_of 1 hT (tb_gd w510) rfl rfl rfl (hT _ w1) (hT _ w508) hR_demand ⟨Nat.le_of_ble_eq_true rfl, Nat.le_of_ble_eq_true rfl⟩, (hT _ w509)⟩ (RO.preS hZ hS ((show va_P D vwCl [] _ from fun _ _ h => nomatch h)) hK) rfl hl.1 rfl (Nat.le_of_ble_eq_true rfl) dR_put_27 ⟨Nat.le_of_ble_eq_true rfl, Nat.le_of_ble_eq_true rfl⟩) hno hlocks
    · refine lv_iconst (v := 1) hx hb dR_put_22 (by decide) ?_
      refine lv_goto (tgt := 27) hx hb dR_put_23 rfl ?_
      refine ro_v (va_Run.run (va_runS (As := [.int 1]) (rest := []) ⟨hx, hb, hml, hown, hT⟩ (k_demand_ok l D cT 1 (by decide)) ⟨callB_of 1 hT (tb_gd w510) rfl rfl rfl (hT _ w1) (hT _ w508) hR_demand ⟨Nat.le_of_ble_eq_true rfl, Nat.le_of_ble_eq_true rfl⟩, (hT _ w509)⟩ (RO.preS hZ hS ((show va_P D vwCl [] _ from fun _ _ h => nomatch h)) hK) rfl rfl hl.1 rfl (lv_room (Nat.le_of_ble_eq_true rfl)) dR_put_27 ⟨Nat.le_of_ble_eq_true rfl, Nat.le_of_ble_eq_true rfl⟩)) ?_
      exact absurd ⟨bi_1 h1, bi_1 h2⟩ hq
set_option maxHeartbeats 4000000 in
set_option maxRecDepth 100000 in
theorem k_target_no (l : Launch) (D : va_G) (cT : Nat → ClassId) (x : Nat) (xT : Nat) (xP : Nat) (xR : Nat) (xG : Nat) (xF : Nat) (tc : Int32) (xO : Nat) (xS : Nat) (xL : Nat) (xC : Nat) (xQ : Nat) (xU : Nat) (xW : Nat) (ca : Nat) (ta : Nat) (w : Int32) (r : Int32) (a1 : Int32) (a2 : Int32) (hlt : l.stackTraces = false) (hq : ¬ ((0 ≤ a1 ∧ a1 ≤ r - 1) ∧ ((-1000) ≤ a2 ∧ a2 ≤ 1000))) : MetT l yR_target WR_target ({ frames := 7, cells := 1, slots := 6, locals := 111 } : Room) (RO D vwCl [.ref x, .int a1, .int a2] [(x, .inr (0, [.ref xT, .ref xP, .ref xR, .ref xG, .ref xF, .int tc, .ref xO, .ref xS, .ref xL, .ref xC, .ref xQ, .ref xU, .ref xW])), (xT, .inr (2, [.ref ca, .ref ta, .int w, .int r]))] (TY cT)) "java/lang/IllegalArgumentException" 1 6 := by
  refine MetT.ofW (cc := cR_target) (maxL := 4) (ret := (some .int)) (by decide) rfl ?_
  intro p e s m args below meth c s₁ B hml hno hv
  obtain ⟨rfl, hZ, hP, hK⟩ := hv
  have hx := B.exec
  have hb := B.bytes
  have hr := B.returns
  have hts := atoms_spec (ws := WR_target) B.pre
  have hT : ∀ w ∈ TB, w.before _ s = true := fun w h => hts w (List.mem_cons_of_mem _ h)
  have hown : s.vm.findClass R_R = some m.cls := findClass_of_methodNamed B.named
  have hlocks := B.notSynchronized
  have hS : va_S (fun _ => False) s.heap s.heap [] := va_S.rf
  have hl := lv_entry ([.ref x, .int a1, .int a2]) (n := 4) (Nat.le_of_ble_eq_true rfl)
  rw [lg_entry_eq]
  generalize (lg_sl ([.ref x, .int a1, .int a2]) ++ List.replicate (4 - (lg_sl ([.ref x, .int a1, .int a2])).length) Slot.unset).toArray = ls at hl ⊢
  have hl : lv_has ls 4 [(0, .ref x), (1, .int a1), (2, .int a2)] := hl
  refine lv_aload_n hx hb dR_target_0 rfl (lv_at hl 0 rfl) ?_
  refine va_get (D := D) (ci := 0) (v := .ref xT) (C := R_R) (T := T_R) (N := 13) hx hb hT in_R hown hK hP 0 rfl rfl 0 (by decide) (hT _ w324) (fun _ h9 => h9) rfl dR_target_1 ?_
  refine lv_iload_n hx hb dR_target_4 rfl (lv_at hl 1 rfl) ?_
  refine ro_i (va_Run.run (va_runV (As := [.int a1]) (rest := []) ⟨hx, hb, hml, hown, hT⟩ (k_hasRow l D cT xT ca ta w r a1) ⟨callB_of 1 hT (tb_gd w616) rfl rfl rfl (hT _ w2) (hT _ w613) hT_hasRow ⟨Nat.le_of_ble_eq_true rfl, Nat.le_of_ble_eq_true rfl⟩, (hT _ w614), (hT _ w615)⟩ (RO.preV (ci := 2) (q0 := 0) hZ hS (hP.sub (ws' := [(xT, .inr (2, [.ref ca, .ref ta, .int w, .int r]))]) [1] rfl) hK rfl rfl) rfl rfl hl.1 rfl (lv_room (Nat.le_of_ble_eq_true rfl)) dR_target_5 ⟨Nat.le_of_ble_eq_true rfl, Nat.le_of_ble_eq_true rfl⟩)) ?_
  refine lv_if_eq (tgt := 22) hx hb dR_target_8 rfl (fun h1 => ?_) (fun h1 => ?_)
  · refine lv_iconst (v := 0) hx hb dR_target_22 (by decide) ?_
    exact tx_out (tx_goS (As := [.int 0]) (rest := []) ⟨hx, hb, hml, hown, hT⟩ (k_demand_no l D cT 0 hlt rfl) ⟨callB_of 1 hT (tb_gd w510) rfl rfl rfl (hT _ w1) (hT _ w508) hR_demand ⟨Nat.le_of_ble_eq_true rfl, Nat.le_of_ble_eq_true rfl⟩, (hT _ w509)⟩ (RO.preS hZ hS ((show va_P D vwCl [] _ from fun _ _ h => nomatch h)) hK) rfl hl.1 rfl (Nat.le_of_ble_eq_true rfl) dR_target_23 ⟨Nat.le_of_ble_eq_true rfl, Nat.le_of_ble_eq_true rfl⟩) hno hlocks
  · refine lv_iload_n hx hb dR_target_11 rfl (lv_at hl 2 rfl) ?_
    refine ro_i (va_Run.run (va_runS (As := [.int a2]) (rest := []) ⟨hx, hb, hml, hown, hT⟩ (k_isTarget l D cT a2) ⟨callB_of 1 hT (tb_gd w583) rfl rfl rfl (hT _ w1) (hT _ w581) hR_isTarget ⟨Nat.le_of_ble_eq_true rfl, Nat.le_of_ble_eq_true rfl⟩, (hT _ w582)⟩ (RO.preS hZ hS ((show va_P D vwCl [] _ from fun _ _ h => nomatch h)) hK) rfl rfl hl.1 rfl (lv_room (Nat.le_of_ble_eq_true rfl)) dR_target_12 ⟨Nat.le_of_ble_eq_true rfl, Nat.le_of_ble_eq_true rfl⟩)) ?_
    refine lv_if_eq (tgt := 22) hx hb dR_target_15 rfl (fun h2 => ?_) (fun h2 => ?_)
    · refine lv_iconst (v := 0) hx hb dR_target_22 (by decide) ?_
      exact tx_out (tx_goS (As := [.int 0]) (rest := []) ⟨hx, hb, hml, hown, hT⟩ (k_demand_no l D cT 0 hlt rfl) ⟨callB_of 1 hT (tb_gd w510) rfl rfl rfl (hT _ w1) (hT _ w508) hR_demand ⟨Nat.le_of_ble_eq_true rfl, Nat.le_of_ble_eq_true rfl⟩, (hT _ w509)⟩ (RO.preS hZ hS ((show va_P D vwCl [] _ from fun _ _ h => nomatch h)) hK) rfl hl.1 rfl (Nat.le_of_ble_eq_true rfl) dR_target_23 ⟨Nat.le_of_ble_eq_true rfl, Nat.le_of_ble_eq_true rfl⟩) hno hlocks
    · refine lv_iconst (v := 1) hx hb dR_target_18 (by decide) ?_
      refine lv_goto (tgt := 23) hx hb dR_target_19 rfl ?_
      refine ro_v (va_Run.run (va_runS (As := [.int 1]) (rest := []) ⟨hx, hb, hml, hown, hT⟩ (k_demand_ok l D cT 1 (by decide)) ⟨callB_of 1 hT (tb_gd w510) rfl rfl rfl (hT _ w1) (hT _ w508) hR_demand ⟨Nat.le_of_ble_eq_true rfl, Nat.le_of_ble_eq_true rfl⟩, (hT _ w509)⟩ (RO.preS hZ hS ((show va_P D vwCl [] _ from fun _ _ h => nomatch h)) hK) rfl rfl hl.1 rfl (lv_room (Nat.le_of_ble_eq_true rfl)) dR_target_23 ⟨Nat.le_of_ble_eq_true rfl, Nat.le_of_ble_eq_true rfl⟩)) ?_
      exact absurd ⟨bi_1 h1, bi_1 h2⟩ hq
set_option maxHeartbeats 4000000 in
set_option maxRecDepth 100000 in
theorem k_kinds_no (l : Launch) (D : va_G) (cT : Nat → ClassId) (x : Nat) (xT : Nat) (xP : Nat) (xR : Nat) (xG : Nat) (xF : Nat) (tc : Int32) (xO : Nat) (xS : Nat) (xL : Nat) (xC : Nat) (xQ : Nat) (xU : Nat) (xW : Nat) (ca : Nat) (ta : Nat) (w : Int32) (r : Int32) (a1 : Int32) (a2 : Int32) (hlt : l.stackTraces = false) (hq : ¬ (0 ≤ a1 ∧ a1 ≤ w - 1)) : MetT l yR_kinds WR_kinds ({ frames := 7, cells := 1, slots := 6, locals := 111 } : Room) (RO D vwCl [.ref x, .int a1, .int a2] [(x, .inr (0, [.ref xT, .ref xP, .ref xR, .ref xG, .ref xF, .int tc, .ref xO, .ref xS, .ref xL, .ref xC, .ref xQ, .ref xU, .ref xW])), (xT, .inr (2, [.ref ca, .ref ta, .int w, .int r]))] (TY cT)) "java/lang/IllegalArgumentException" 1 6 := by
  refine MetT.ofW (cc := cR_kinds) (maxL := 3) (ret := (some .boolean)) (by decide) rfl ?_
  intro p e s m args below meth c s₁ B hml hno hv
  obtain ⟨rfl, hZ, hP, hK⟩ := hv
  have hx := B.exec
  have hb := B.bytes
  have hr := B.returns
  have hts := atoms_spec (ws := WR_kinds) B.pre
  have hT : ∀ w ∈ TB, w.before _ s = true := fun w h => hts w (List.mem_cons_of_mem _ h)
  have hown : s.vm.findClass R_R = some m.cls := findClass_of_methodNamed B.named
  have hlocks := B.notSynchronized
  have hS : va_S (fun _ => False) s.heap s.heap [] := va_S.rf
  have hl := lv_entry ([.ref x, .int a1, .int a2]) (n := 3) (Nat.le_of_ble_eq_true rfl)
  rw [lg_entry_eq]
  generalize (lg_sl ([.ref x, .int a1, .int a2]) ++ List.replicate (3 - (lg_sl ([.ref x, .int a1, .int a2])).length) Slot.unset).toArray = ls at hl ⊢
  have hl : lv_has ls 3 [(0, .ref x), (1, .int a1), (2, .int a2)] := hl
  refine lv_aload_n hx hb dR_kinds_0 rfl (lv_at hl 0 rfl) ?_
  refine va_get (D := D) (ci := 0) (v := .ref xT) (C := R_R) (T := T_R) (N := 13) hx hb hT in_R hown hK hP 0 rfl rfl 0 (by decide) (hT _ w324) (fun _ h9 => h9) rfl dR_kinds_1 ?_
  refine lv_iload_n hx hb dR_kinds_4 rfl (lv_at hl 1 rfl) ?_
  refine ro_i (va_Run.run (va_runV (As := [.int a1]) (rest := []) ⟨hx, hb, hml, hown, hT⟩ (k_hasColumn l D cT xT ca ta w r a1) ⟨callB_of 1 hT (tb_gd w621) rfl rfl rfl (hT _ w2) (hT _ w618) hT_hasColumn ⟨Nat.le_of_ble_eq_true rfl, Nat.le_of_ble_eq_true rfl⟩, (hT _ w619), (hT _ w620)⟩ (RO.preV (ci := 2) (q0 := 0) hZ hS (hP.sub (ws' := [(xT, .inr (2, [.ref ca, .ref ta, .int w, .int r]))]) [1] rfl) hK rfl rfl) rfl rfl hl.1 rfl (lv_room (Nat.le_of_ble_eq_true rfl)) dR_kinds_5 ⟨Nat.le_of_ble_eq_true rfl, Nat.le_of_ble_eq_true rfl⟩)) ?_
  by_cases hc1 : 0 ≤ a1 ∧ a1 ≤ w - 1
  · refine ro_v (va_Run.run (va_runS (As := [.int (bi (0 ≤ a1 ∧ a1 ≤ w - 1))]) (rest := []) ⟨hx, hb, hml, hown, hT⟩ (k_demand_ok l D cT (bi (0 ≤ a1 ∧ a1 ≤ w - 1)) (by rw [bi_t hc1]; decide)) ⟨callB_of 1 hT (tb_gd w510) rfl rfl rfl (hT _ w1) (hT _ w508) hR_demand ⟨Nat.le_of_ble_eq_true rfl, Nat.le_of_ble_eq_true rfl⟩, (hT _ w509)⟩ (RO.preS hZ hS ((show va_P D vwCl [] _ from fun _ _ h => nomatch h)) hK) rfl rfl hl.1 rfl (lv_room (Nat.le_of_ble_eq_true rfl)) dR_kinds_8 ⟨Nat.le_of_ble_eq_true rfl, Nat.le_of_ble_eq_true rfl⟩)) ?_
    exact absurd hc1 hq
  · exact tx_out (tx_goS (As := [.int (bi (0 ≤ a1 ∧ a1 ≤ w - 1))]) (rest := []) ⟨hx, hb, hml, hown, hT⟩ (k_demand_no l D cT (bi (0 ≤ a1 ∧ a1 ≤ w - 1)) hlt (bi_f hc1)) ⟨callB_of 1 hT (tb_gd w510) rfl rfl rfl (hT _ w1) (hT _ w508) hR_demand ⟨Nat.le_of_ble_eq_true rfl, Nat.le_of_ble_eq_true rfl⟩, (hT _ w509)⟩ (RO.preS hZ hS ((show va_P D vwCl [] _ from fun _ _ h => nomatch h)) hK) rfl hl.1 rfl (Nat.le_of_ble_eq_true rfl) dR_kinds_8 ⟨Nat.le_of_ble_eq_true rfl, Nat.le_of_ble_eq_true rfl⟩) hno hlocks
set_option maxHeartbeats 4000000 in
set_option maxRecDepth 100000 in
theorem k_cut_no (l : Launch) (D : va_G) (cT : Nat → ClassId) (x : Nat) (xT : Nat) (xP : Nat) (xR : Nat) (xG : Nat) (xF : Nat) (tc : Int32) (xO : Nat) (xS : Nat) (xL : Nat) (xC : Nat) (xQ : Nat) (xU : Nat) (xW : Nat) (ca : Nat) (ta : Nat) (w : Int32) (r : Int32) (a1 : Int32) (a2 : Int32) (a3 : Int32) (hlt : l.stackTraces = false) (hq : ¬ ((0 ≤ a1 ∧ a1 ≤ w - 1) ∧ (2 ≤ a3 ∧ a3 ≤ 12))) : MetT l yR_cut WR_cut ({ frames := 7, cells := 1, slots := 6, locals := 111 } : Room) (RO D vwCl [.ref x, .int a1, .int a2, .int a3] [(x, .inr (0, [.ref xT, .ref xP, .ref xR, .ref xG, .ref xF, .int tc, .ref xO, .ref xS, .ref xL, .ref xC, .ref xQ, .ref xU, .ref xW])), (xT, .inr (2, [.ref ca, .ref ta, .int w, .int r]))] (TY cT)) "java/lang/IllegalArgumentException" 1 6 := by
  refine MetT.ofW (cc := cR_cut) (maxL := 5) (ret := (some .int)) (by decide) rfl ?_
  intro p e s m args below meth c s₁ B hml hno hv
  obtain ⟨rfl, hZ, hP, hK⟩ := hv
  have hx := B.exec
  have hb := B.bytes
  have hr := B.returns
  have hts := atoms_spec (ws := WR_cut) B.pre
  have hT : ∀ w ∈ TB, w.before _ s = true := fun w h => hts w (List.mem_cons_of_mem _ h)
  have hown : s.vm.findClass R_R = some m.cls := findClass_of_methodNamed B.named
  have hlocks := B.notSynchronized
  have hS : va_S (fun _ => False) s.heap s.heap [] := va_S.rf
  have hl := lv_entry ([.ref x, .int a1, .int a2, .int a3]) (n := 5) (Nat.le_of_ble_eq_true rfl)
  rw [lg_entry_eq]
  generalize (lg_sl ([.ref x, .int a1, .int a2, .int a3]) ++ List.replicate (5 - (lg_sl ([.ref x, .int a1, .int a2, .int a3])).length) Slot.unset).toArray = ls at hl ⊢
  have hl : lv_has ls 5 [(0, .ref x), (1, .int a1), (2, .int a2), (3, .int a3)] := hl
  refine lv_aload_n hx hb dR_cut_0 rfl (lv_at hl 0 rfl) ?_
  refine va_get (D := D) (ci := 0) (v := .ref xT) (C := R_R) (T := T_R) (N := 13) hx hb hT in_R hown hK hP 0 rfl rfl 0 (by decide) (hT _ w324) (fun _ h9 => h9) rfl dR_cut_1 ?_
  refine lv_iload_n hx hb dR_cut_4 rfl (lv_at hl 1 rfl) ?_
  refine ro_i (va_Run.run (va_runV (As := [.int a1]) (rest := []) ⟨hx, hb, hml, hown, hT⟩ (k_hasColumn l D cT xT ca ta w r a1) ⟨callB_of 1 hT (tb_gd w621) rfl rfl rfl (hT _ w2) (hT _ w618) hT_hasColumn ⟨Nat.le_of_ble_eq_true rfl, Nat.le_of_ble_eq_true rfl⟩, (hT _ w619), (hT _ w620)⟩ (RO.preV (ci := 2) (q0 := 0) hZ hS (hP.sub (ws' := [(xT, .inr (2, [.ref ca, .ref ta, .int w, .int r]))]) [1] rfl) hK rfl rfl) rfl rfl hl.1 rfl (lv_room (Nat.le_of_ble_eq_true rfl)) dR_cut_5 ⟨Nat.le_of_ble_eq_true rfl, Nat.le_of_ble_eq_true rfl⟩)) ?_
  refine lv_if_eq (tgt := 25) hx hb dR_cut_8 rfl (fun h1 => ?_) (fun h1 => ?_)
  · refine lv_iconst (v := 0) hx hb dR_cut_25 (by decide) ?_
    exact tx_out (tx_goS (As := [.int 0]) (rest := []) ⟨hx, hb, hml, hown, hT⟩ (k_demand_no l D cT 0 hlt rfl) ⟨callB_of 1 hT (tb_gd w510) rfl rfl rfl (hT _ w1) (hT _ w508) hR_demand ⟨Nat.le_of_ble_eq_true rfl, Nat.le_of_ble_eq_true rfl⟩, (hT _ w509)⟩ (RO.preS hZ hS ((show va_P D vwCl [] _ from fun _ _ h => nomatch h)) hK) rfl hl.1 rfl (Nat.le_of_ble_eq_true rfl) dR_cut_26 ⟨Nat.le_of_ble_eq_true rfl, Nat.le_of_ble_eq_true rfl⟩) hno hlocks
  · refine lv_iload_n hx hb dR_cut_11 rfl (lv_at hl 3 rfl) ?_
    refine lv_iconst (v := 2) hx hb dR_cut_12 (by decide) ?_
    refine lv_bipush (v := 12) hx hb dR_cut_13 (by decide) ?_
    refine ro_i (va_Run.run (va_runS (As := [.int a3, .int 2, .int 12]) (rest := []) ⟨hx, hb, hml, hown, hT⟩ (k_isWithin l D cT a3 2 12) ⟨callB_of 3 hT (tb_gd w499) rfl rfl rfl (hT _ w1) (hT _ w497) hR_isWithin ⟨Nat.le_of_ble_eq_true rfl, Nat.le_of_ble_eq_true rfl⟩, (hT _ w498)⟩ (RO.preS hZ hS ((show va_P D vwCl [] _ from fun _ _ h => nomatch h)) hK) rfl rfl hl.1 rfl (lv_room (Nat.le_of_ble_eq_true rfl)) dR_cut_15 ⟨Nat.le_of_ble_eq_true rfl, Nat.le_of_ble_eq_true rfl⟩)) ?_
    refine lv_if_eq (tgt := 25) hx hb dR_cut_18 rfl (fun h2 => ?_) (fun h2 => ?_)
    · refine lv_iconst (v := 0) hx hb dR_cut_25 (by decide) ?_
      exact tx_out (tx_goS (As := [.int 0]) (rest := []) ⟨hx, hb, hml, hown, hT⟩ (k_demand_no l D cT 0 hlt rfl) ⟨callB_of 1 hT (tb_gd w510) rfl rfl rfl (hT _ w1) (hT _ w508) hR_demand ⟨Nat.le_of_ble_eq_true rfl, Nat.le_of_ble_eq_true rfl⟩, (hT _ w509)⟩ (RO.preS hZ hS ((show va_P D vwCl [] _ from fun _ _ h => nomatch h)) hK) rfl hl.1 rfl (Nat.le_of_ble_eq_true rfl) dR_cut_26 ⟨Nat.le_of_ble_eq_true rfl, Nat.le_of_ble_eq_true rfl⟩) hno hlocks
    · refine lv_iconst (v := 1) hx hb dR_cut_21 (by decide) ?_
      refine lv_goto (tgt := 26) hx hb dR_cut_22 rfl ?_
      refine ro_v (va_Run.run (va_runS (As := [.int 1]) (rest := []) ⟨hx, hb, hml, hown, hT⟩ (k_demand_ok l D cT 1 (by decide)) ⟨callB_of 1 hT (tb_gd w510) rfl rfl rfl (hT _ w1) (hT _ w508) hR_demand ⟨Nat.le_of_ble_eq_true rfl, Nat.le_of_ble_eq_true rfl⟩, (hT _ w509)⟩ (RO.preS hZ hS ((show va_P D vwCl [] _ from fun _ _ h => nomatch h)) hK) rfl rfl hl.1 rfl (lv_room (Nat.le_of_ble_eq_true rfl)) dR_cut_26 ⟨Nat.le_of_ble_eq_true rfl, Nat.le_of_ble_eq_true rfl⟩)) ?_
      exact absurd ⟨bi_1 h1, bi_1 h2⟩ hq
set_option maxHeartbeats 4000000 in
set_option maxRecDepth 100000 in
theorem k_edge_noc (l : Launch) (D : va_G) (cT : Nat → ClassId) (x : Nat) (xT : Nat) (xP : Nat) (xR : Nat) (xG : Nat) (xF : Nat) (tc : Int32) (xO : Nat) (xS : Nat) (xL : Nat) (xC : Nat) (xQ : Nat) (xU : Nat) (xW : Nat) (ca : Nat) (ta : Nat) (w : Int32) (r : Int32) (a1 : Int32) (a2 : Int32) (hlt : l.stackTraces = false) (hq : ¬ (0 ≤ a1 ∧ a1 ≤ w - 1)) : MetT l yR_edge WR_edge ({ frames := 7, cells := 1, slots := 6, locals := 111 } : Room) (RO D vwCl [.ref x, .int a1, .int a2] [(x, .inr (0, [.ref xT, .ref xP, .ref xR, .ref xG, .ref xF, .int tc, .ref xO, .ref xS, .ref xL, .ref xC, .ref xQ, .ref xU, .ref xW])), (xT, .inr (2, [.ref ca, .ref ta, .int w, .int r]))] (TY cT)) "java/lang/IllegalArgumentException" 1 6 := by
  refine MetT.ofW (cc := cR_edge) (maxL := 3) (ret := (some .int)) (by decide) rfl ?_
  intro p e s m args below meth c s₁ B hml hno hv
  obtain ⟨rfl, hZ, hP, hK⟩ := hv
  have hx := B.exec
  have hb := B.bytes
  have hr := B.returns
  have hts := atoms_spec (ws := WR_edge) B.pre
  have hT : ∀ w ∈ TB, w.before _ s = true := fun w h => hts w (List.mem_cons_of_mem _ h)
  have hown : s.vm.findClass R_R = some m.cls := findClass_of_methodNamed B.named
  have hlocks := B.notSynchronized
  have hS : va_S (fun _ => False) s.heap s.heap [] := va_S.rf
  have hl := lv_entry ([.ref x, .int a1, .int a2]) (n := 3) (Nat.le_of_ble_eq_true rfl)
  rw [lg_entry_eq]
  generalize (lg_sl ([.ref x, .int a1, .int a2]) ++ List.replicate (3 - (lg_sl ([.ref x, .int a1, .int a2])).length) Slot.unset).toArray = ls at hl ⊢
  have hl : lv_has ls 3 [(0, .ref x), (1, .int a1), (2, .int a2)] := hl
  refine lv_aload_n hx hb dR_edge_0 rfl (lv_at hl 0 rfl) ?_
  refine va_get (D := D) (ci := 0) (v := .ref xT) (C := R_R) (T := T_R) (N := 13) hx hb hT in_R hown hK hP 0 rfl rfl 0 (by decide) (hT _ w324) (fun _ h9 => h9) rfl dR_edge_1 ?_
  refine lv_iload_n hx hb dR_edge_4 rfl (lv_at hl 1 rfl) ?_
  refine ro_i (va_Run.run (va_runV (As := [.int a1]) (rest := []) ⟨hx, hb, hml, hown, hT⟩ (k_hasColumn l D cT xT ca ta w r a1) ⟨callB_of 1 hT (tb_gd w621) rfl rfl rfl (hT _ w2) (hT _ w618) hT_hasColumn ⟨Nat.le_of_ble_eq_true rfl, Nat.le_of_ble_eq_true rfl⟩, (hT _ w619), (hT _ w620)⟩ (RO.preV (ci := 2) (q0 := 0) hZ hS (hP.sub (ws' := [(xT, .inr (2, [.ref ca, .ref ta, .int w, .int r]))]) [1] rfl) hK rfl rfl) rfl rfl hl.1 rfl (lv_room (Nat.le_of_ble_eq_true rfl)) dR_edge_5 ⟨Nat.le_of_ble_eq_true rfl, Nat.le_of_ble_eq_true rfl⟩)) ?_
  by_cases hc1 : 0 ≤ a1 ∧ a1 ≤ w - 1
  · refine ro_v (va_Run.run (va_runS (As := [.int (bi (0 ≤ a1 ∧ a1 ≤ w - 1))]) (rest := []) ⟨hx, hb, hml, hown, hT⟩ (k_demand_ok l D cT (bi (0 ≤ a1 ∧ a1 ≤ w - 1)) (by rw [bi_t hc1]; decide)) ⟨callB_of 1 hT (tb_gd w510) rfl rfl rfl (hT _ w1) (hT _ w508) hR_demand ⟨Nat.le_of_ble_eq_true rfl, Nat.le_of_ble_eq_true rfl⟩, (hT _ w509)⟩ (RO.preS hZ hS ((show va_P D vwCl [] _ from fun _ _ h => nomatch h)) hK) rfl rfl hl.1 rfl (lv_room (Nat.le_of_ble_eq_true rfl)) dR_edge_8 ⟨Nat.le_of_ble_eq_true rfl, Nat.le_of_ble_eq_true rfl⟩)) ?_
    exact absurd hc1 hq
  · exact tx_out (tx_goS (As := [.int (bi (0 ≤ a1 ∧ a1 ≤ w - 1))]) (rest := []) ⟨hx, hb, hml, hown, hT⟩ (k_demand_no l D cT (bi (0 ≤ a1 ∧ a1 ≤ w - 1)) hlt (bi_f hc1)) ⟨callB_of 1 hT (tb_gd w510) rfl rfl rfl (hT _ w1) (hT _ w508) hR_demand ⟨Nat.le_of_ble_eq_true rfl, Nat.le_of_ble_eq_true rfl⟩, (hT _ w509)⟩ (RO.preS hZ hS ((show va_P D vwCl [] _ from fun _ _ h => nomatch h)) hK) rfl hl.1 rfl (Nat.le_of_ble_eq_true rfl) dR_edge_8 ⟨Nat.le_of_ble_eq_true rfl, Nat.le_of_ble_eq_true rfl⟩) hno hlocks
set_option maxHeartbeats 4000000 in
set_option maxRecDepth 100000 in
theorem k_bin_noc (l : Launch) (D : va_G) (cT : Nat → ClassId) (x : Nat) (xT : Nat) (xP : Nat) (xR : Nat) (xG : Nat) (xF : Nat) (tc : Int32) (xO : Nat) (xS : Nat) (xL : Nat) (xC : Nat) (xQ : Nat) (xU : Nat) (xW : Nat) (ca : Nat) (ta : Nat) (w : Int32) (r : Int32) (a1 : Int32) (a2 : Int32) (hlt : l.stackTraces = false) (hq : ¬ ((0 ≤ a1 ∧ a1 ≤ w - 1) ∧ (¬ a2 = (-2147483648)))) : MetT l yR_bin WR_bin ({ frames := 7, cells := 1, slots := 6, locals := 111 } : Room) (RO D vwCl [.ref x, .int a1, .int a2] [(x, .inr (0, [.ref xT, .ref xP, .ref xR, .ref xG, .ref xF, .int tc, .ref xO, .ref xS, .ref xL, .ref xC, .ref xQ, .ref xU, .ref xW])), (xT, .inr (2, [.ref ca, .ref ta, .int w, .int r]))] (TY cT)) "java/lang/IllegalArgumentException" 1 6 := by
  refine MetT.ofW (cc := cR_bin) (maxL := 3) (ret := (some .int)) (by decide) rfl ?_
  intro p e s m args below meth c s₁ B hml hno hv
  obtain ⟨rfl, hZ, hP, hK⟩ := hv
  have hx := B.exec
  have hb := B.bytes
  have hr := B.returns
  have hts := atoms_spec (ws := WR_bin) B.pre
  have hT : ∀ w ∈ TB, w.before _ s = true := fun w h => hts w (List.mem_cons_of_mem _ h)
  have hown : s.vm.findClass R_R = some m.cls := findClass_of_methodNamed B.named
  have hlocks := B.notSynchronized
  have hS : va_S (fun _ => False) s.heap s.heap [] := va_S.rf
  have hl := lv_entry ([.ref x, .int a1, .int a2]) (n := 3) (Nat.le_of_ble_eq_true rfl)
  rw [lg_entry_eq]
  generalize (lg_sl ([.ref x, .int a1, .int a2]) ++ List.replicate (3 - (lg_sl ([.ref x, .int a1, .int a2])).length) Slot.unset).toArray = ls at hl ⊢
  have hl : lv_has ls 3 [(0, .ref x), (1, .int a1), (2, .int a2)] := hl
  refine lv_aload_n hx hb dR_bin_0 rfl (lv_at hl 0 rfl) ?_
  refine va_get (D := D) (ci := 0) (v := .ref xT) (C := R_R) (T := T_R) (N := 13) hx hb hT in_R hown hK hP 0 rfl rfl 0 (by decide) (hT _ w324) (fun _ h9 => h9) rfl dR_bin_1 ?_
  refine lv_iload_n hx hb dR_bin_4 rfl (lv_at hl 1 rfl) ?_
  refine ro_i (va_Run.run (va_runV (As := [.int a1]) (rest := []) ⟨hx, hb, hml, hown, hT⟩ (k_hasColumn l D cT xT ca ta w r a1) ⟨callB_of 1 hT (tb_gd w621) rfl rfl rfl (hT _ w2) (hT _ w618) hT_hasColumn ⟨Nat.le_of_ble_eq_true rfl, Nat.le_of_ble_eq_true rfl⟩, (hT _ w619), (hT _ w620)⟩ (RO.preV (ci := 2) (q0 := 0) hZ hS (hP.sub (ws' := [(xT, .inr (2, [.ref ca, .ref ta, .int w, .int r]))]) [1] rfl) hK rfl rfl) rfl rfl hl.1 rfl (lv_room (Nat.le_of_ble_eq_true rfl)) dR_bin_5 ⟨Nat.le_of_ble_eq_true rfl, Nat.le_of_ble_eq_true rfl⟩)) ?_
  refine lv_if_eq (tgt := 21) hx hb dR_bin_8 rfl (fun h1 => ?_) (fun h1 => ?_)
  · refine lv_iconst (v := 0) hx hb dR_bin_21 (by decide) ?_
    exact tx_out (tx_goS (As := [.int 0]) (rest := []) ⟨hx, hb, hml, hown, hT⟩ (k_demand_no l D cT 0 hlt rfl) ⟨callB_of 1 hT (tb_gd w510) rfl rfl rfl (hT _ w1) (hT _ w508) hR_demand ⟨Nat.le_of_ble_eq_true rfl, Nat.le_of_ble_eq_true rfl⟩, (hT _ w509)⟩ (RO.preS hZ hS ((show va_P D vwCl [] _ from fun _ _ h => nomatch h)) hK) rfl hl.1 rfl (Nat.le_of_ble_eq_true rfl) dR_bin_22 ⟨Nat.le_of_ble_eq_true rfl, Nat.le_of_ble_eq_true rfl⟩) hno hlocks
  · refine lv_iload_n hx hb dR_bin_11 rfl (lv_at hl 2 rfl) ?_
    refine lv_ldc (v := (-2147483648)) hx hb hown (hT _ w685) dR_bin_12 ?_
    refine lv_icmp_eq (tgt := 21) hx hb dR_bin_14 rfl (fun h2 => ?_) (fun h2 => ?_)
    · refine lv_iconst (v := 0) hx hb dR_bin_21 (by decide) ?_
      exact tx_out (tx_goS (As := [.int 0]) (rest := []) ⟨hx, hb, hml, hown, hT⟩ (k_demand_no l D cT 0 hlt rfl) ⟨callB_of 1 hT (tb_gd w510) rfl rfl rfl (hT _ w1) (hT _ w508) hR_demand ⟨Nat.le_of_ble_eq_true rfl, Nat.le_of_ble_eq_true rfl⟩, (hT _ w509)⟩ (RO.preS hZ hS ((show va_P D vwCl [] _ from fun _ _ h => nomatch h)) hK) rfl hl.1 rfl (Nat.le_of_ble_eq_true rfl) dR_bin_22 ⟨Nat.le_of_ble_eq_true rfl, Nat.le_of_ble_eq_true rfl⟩) hno hlocks
    · refine lv_iconst (v := 1) hx hb dR_bin_17 (by decide) ?_
      refine lv_goto (tgt := 22) hx hb dR_bin_18 rfl ?_
      refine ro_v (va_Run.run (va_runS (As := [.int 1]) (rest := []) ⟨hx, hb, hml, hown, hT⟩ (k_demand_ok l D cT 1 (by decide)) ⟨callB_of 1 hT (tb_gd w510) rfl rfl rfl (hT _ w1) (hT _ w508) hR_demand ⟨Nat.le_of_ble_eq_true rfl, Nat.le_of_ble_eq_true rfl⟩, (hT _ w509)⟩ (RO.preS hZ hS ((show va_P D vwCl [] _ from fun _ _ h => nomatch h)) hK) rfl rfl hl.1 rfl (lv_room (Nat.le_of_ble_eq_true rfl)) dR_bin_22 ⟨Nat.le_of_ble_eq_true rfl, Nat.le_of_ble_eq_true rfl⟩)) ?_
      exact absurd ⟨bi_1 h1, h2⟩ hq
set_option maxHeartbeats 4000000 in
set_option maxRecDepth 100000 in
theorem k_shape_no (l : Launch) (D : va_G) (cT : Nat → ClassId) (x : Nat) (xT : Nat) (xP : Nat) (xR : Nat) (xG : Nat) (xF : Nat) (tc : Int32) (xO : Nat) (xS : Nat) (xL : Nat) (xC : Nat) (xQ : Nat) (xU : Nat) (xW : Nat) (a1 : Int32) (a2 : Int32) (a3 : Int32) (hlt : l.stackTraces = false) (hq : ¬ ((1 ≤ a1 ∧ a1 ≤ 4) ∧ (1 ≤ a2 ∧ a2 ≤ 24) ∧ (0 ≤ a3 ∧ a3 ≤ 20))) : MetT l yR_shape WR_shape ({ frames := 7, cells := 1, slots := 6, locals := 111 } : Room) (RO D vwCl [.ref x, .int a1, .int a2, .int a3] [(x, .inr (0, [.ref xT, .ref xP, .ref xR, .ref xG, .ref xF, .int tc, .ref xO, .ref xS, .ref xL, .ref xC, .ref xQ, .ref xU, .ref xW]))] (TY cT)) "java/lang/IllegalArgumentException" 1 6 := by
  refine MetT.ofW (cc := cR_shape) (maxL := 4) (ret := none) (by decide) rfl ?_
  intro p e s m args below meth c s₁ B hml hno hv
  obtain ⟨rfl, hZ, hP, hK⟩ := hv
  have hx := B.exec
  have hb := B.bytes
  have hr := B.returns
  have hts := atoms_spec (ws := WR_shape) B.pre
  have hT : ∀ w ∈ TB, w.before _ s = true := fun w h => hts w (List.mem_cons_of_mem _ h)
  have hown : s.vm.findClass R_R = some m.cls := findClass_of_methodNamed B.named
  have hlocks := B.notSynchronized
  have hS : va_S (fun _ => False) s.heap s.heap [] := va_S.rf
  have hl := lv_entry ([.ref x, .int a1, .int a2, .int a3]) (n := 4) (Nat.le_of_ble_eq_true rfl)
  rw [lg_entry_eq]
  generalize (lg_sl ([.ref x, .int a1, .int a2, .int a3]) ++ List.replicate (4 - (lg_sl ([.ref x, .int a1, .int a2, .int a3])).length) Slot.unset).toArray = ls at hl ⊢
  have hl : lv_has ls 4 [(0, .ref x), (1, .int a1), (2, .int a2), (3, .int a3)] := hl
  refine lv_iload_n hx hb dR_shape_0 rfl (lv_at hl 1 rfl) ?_
  refine lv_iconst (v := 1) hx hb dR_shape_1 (by decide) ?_
  refine lv_iconst (v := 4) hx hb dR_shape_2 (by decide) ?_
  refine ro_i (va_Run.run (va_runS (As := [.int a1, .int 1, .int 4]) (rest := []) ⟨hx, hb, hml, hown, hT⟩ (k_isWithin l D cT a1 1 4) ⟨callB_of 3 hT (tb_gd w499) rfl rfl rfl (hT _ w1) (hT _ w497) hR_isWithin ⟨Nat.le_of_ble_eq_true rfl, Nat.le_of_ble_eq_true rfl⟩, (hT _ w498)⟩ (RO.preS hZ hS ((show va_P D vwCl [] _ from fun _ _ h => nomatch h)) hK) rfl rfl hl.1 rfl (lv_room (Nat.le_of_ble_eq_true rfl)) dR_shape_3 ⟨Nat.le_of_ble_eq_true rfl, Nat.le_of_ble_eq_true rfl⟩)) ?_
  refine lv_if_eq (tgt := 33) hx hb dR_shape_6 rfl (fun h1 => ?_) (fun h1 => ?_)
  · refine lv_iconst (v := 0) hx hb dR_shape_33 (by decide) ?_
    exact tx_out (tx_goS (As := [.int 0]) (rest := []) ⟨hx, hb, hml, hown, hT⟩ (k_demand_no l D cT 0 hlt rfl) ⟨callB_of 1 hT (tb_gd w510) rfl rfl rfl (hT _ w1) (hT _ w508) hR_demand ⟨Nat.le_of_ble_eq_true rfl, Nat.le_of_ble_eq_true rfl⟩, (hT _ w509)⟩ (RO.preS hZ hS ((show va_P D vwCl [] _ from fun _ _ h => nomatch h)) hK) rfl hl.1 rfl (Nat.le_of_ble_eq_true rfl) dR_shape_34 ⟨Nat.le_of_ble_eq_true rfl, Nat.le_of_ble_eq_true rfl⟩) hno hlocks
  · refine lv_iload_n hx hb dR_shape_9 rfl (lv_at hl 2 rfl) ?_
    refine lv_iconst (v := 1) hx hb dR_shape_10 (by decide) ?_
    refine lv_bipush (v := 24) hx hb dR_shape_11 (by decide) ?_
    refine ro_i (va_Run.run (va_runS (As := [.int a2, .int 1, .int 24]) (rest := []) ⟨hx, hb, hml, hown, hT⟩ (k_isWithin l D cT a2 1 24) ⟨callB_of 3 hT (tb_gd w499) rfl rfl rfl (hT _ w1) (hT _ w497) hR_isWithin ⟨Nat.le_of_ble_eq_true rfl, Nat.le_of_ble_eq_true rfl⟩, (hT _ w498)⟩ (RO.preS hZ hS ((show va_P D vwCl [] _ from fun _ _ h => nomatch h)) hK) rfl rfl hl.1 rfl (lv_room (Nat.le_of_ble_eq_true rfl)) dR_shape_13 ⟨Nat.le_of_ble_eq_true rfl, Nat.le_of_ble_eq_true rfl⟩)) ?_
    refine lv_if_eq (tgt := 33) hx hb dR_shape_16 rfl (fun h2 => ?_) (fun h2 => ?_)
    · refine lv_iconst (v := 0) hx hb dR_shape_33 (by decide) ?_
      exact tx_out (tx_goS (As := [.int 0]) (rest := []) ⟨hx, hb, hml, hown, hT⟩ (k_demand_no l D cT 0 hlt rfl) ⟨callB_of 1 hT (tb_gd w510) rfl rfl rfl (hT _ w1) (hT _ w508) hR_demand ⟨Nat.le_of_ble_eq_true rfl, Nat.le_of_ble_eq_true rfl⟩, (hT _ w509)⟩ (RO.preS hZ hS ((show va_P D vwCl [] _ from fun _ _ h => nomatch h)) hK) rfl hl.1 rfl (Nat.le_of_ble_eq_true rfl) dR_shape_34 ⟨Nat.le_of_ble_eq_true rfl, Nat.le_of_ble_eq_true rfl⟩) hno hlocks
    · refine lv_iload_n hx hb dR_shape_19 rfl (lv_at hl 3 rfl) ?_
      refine lv_iconst (v := 0) hx hb dR_shape_20 (by decide) ?_
      refine lv_bipush (v := 20) hx hb dR_shape_21 (by decide) ?_
      refine ro_i (va_Run.run (va_runS (As := [.int a3, .int 0, .int 20]) (rest := []) ⟨hx, hb, hml, hown, hT⟩ (k_isWithin l D cT a3 0 20) ⟨callB_of 3 hT (tb_gd w499) rfl rfl rfl (hT _ w1) (hT _ w497) hR_isWithin ⟨Nat.le_of_ble_eq_true rfl, Nat.le_of_ble_eq_true rfl⟩, (hT _ w498)⟩ (RO.preS hZ hS ((show va_P D vwCl [] _ from fun _ _ h => nomatch h)) hK) rfl rfl hl.1 rfl (lv_room (Nat.le_of_ble_eq_true rfl)) dR_shape_23 ⟨Nat.le_of_ble_eq_true rfl, Nat.le_of_ble_eq_true rfl⟩)) ?_
      refine lv_if_eq (tgt := 33) hx hb dR_shape_26 rfl (fun h3 => ?_) (fun h3 => ?_)
      · refine lv_iconst (v := 0) hx hb dR_shape_33 (by decide) ?_
        exact tx_out (tx_goS (As := [.int 0]) (rest := []) ⟨hx, hb, hml, hown, hT⟩ (k_demand_no l D cT 0 hlt rfl) ⟨callB_of 1 hT (tb_gd w510) rfl rfl rfl (hT _ w1) (hT _ w508) hR_demand ⟨Nat.le_of_ble_eq_true rfl, Nat.le_of_ble_eq_true rfl⟩, (hT _ w509)⟩ (RO.preS hZ hS ((show va_P D vwCl [] _ from fun _ _ h => nomatch h)) hK) rfl hl.1 rfl (Nat.le_of_ble_eq_true rfl) dR_shape_34 ⟨Nat.le_of_ble_eq_true rfl, Nat.le_of_ble_eq_true rfl⟩) hno hlocks
      · refine lv_iconst (v := 1) hx hb dR_shape_29 (by decide) ?_
        refine lv_goto (tgt := 34) hx hb dR_shape_30 rfl ?_
        refine ro_v (va_Run.run (va_runS (As := [.int 1]) (rest := []) ⟨hx, hb, hml, hown, hT⟩ (k_demand_ok l D cT 1 (by decide)) ⟨callB_of 1 hT (tb_gd w510) rfl rfl rfl (hT _ w1) (hT _ w508) hR_demand ⟨Nat.le_of_ble_eq_true rfl, Nat.le_of_ble_eq_true rfl⟩, (hT _ w509)⟩ (RO.preS hZ hS ((show va_P D vwCl [] _ from fun _ _ h => nomatch h)) hK) rfl rfl hl.1 rfl (lv_room (Nat.le_of_ble_eq_true rfl)) dR_shape_34 ⟨Nat.le_of_ble_eq_true rfl, Nat.le_of_ble_eq_true rfl⟩)) ?_
        exact absurd ⟨bi_1 h1, bi_1 h2, bi_1 h3⟩ hq
set_option maxHeartbeats 4000000 in
set_option maxRecDepth 100000 in
theorem k_drop_no (l : Launch) (D : va_G) (cT : Nat → ClassId) (x : Nat) (xT : Nat) (xP : Nat) (xR : Nat) (xG : Nat) (xF : Nat) (tc : Int32) (xO : Nat) (xS : Nat) (xL : Nat) (xC : Nat) (xQ : Nat) (xU : Nat) (xW : Nat) (a1 : Int32) (hlt : l.stackTraces = false) (hq : ¬ (0 ≤ a1 ∧ a1 ≤ tc)) : MetT l yR_drop WR_drop ({ frames := 7, cells := 1, slots := 6, locals := 111 } : Room) (RO D vwCl [.ref x, .int a1] [(x, .inr (0, [.ref xT, .ref xP, .ref xR, .ref xG, .ref xF, .int tc, .ref xO, .ref xS, .ref xL, .ref xC, .ref xQ, .ref xU, .ref xW]))] (TY cT)) "java/lang/IllegalArgumentException" 1 6 := by
  refine MetT.ofW (cc := cR_drop) (maxL := 3) (ret := (some .int)) (by decide) rfl ?_
  intro p e s m args below meth c s₁ B hml hno hv
  obtain ⟨rfl, hZ, hP, hK⟩ := hv
  have hx := B.exec
  have hb := B.bytes
  have hr := B.returns
  have hts := atoms_spec (ws := WR_drop) B.pre
  have hT : ∀ w ∈ TB, w.before _ s = true := fun w h => hts w (List.mem_cons_of_mem _ h)
  have hown : s.vm.findClass R_R = some m.cls := findClass_of_methodNamed B.named
  have hlocks := B.notSynchronized
  have hS : va_S (fun _ => False) s.heap s.heap [] := va_S.rf
  have hl := lv_entry ([.ref x, .int a1]) (n := 3) (Nat.le_of_ble_eq_true rfl)
  rw [lg_entry_eq]
  generalize (lg_sl ([.ref x, .int a1]) ++ List.replicate (3 - (lg_sl ([.ref x, .int a1])).length) Slot.unset).toArray = ls at hl ⊢
  have hl : lv_has ls 3 [(0, .ref x), (1, .int a1)] := hl
  refine lv_iload_n hx hb dR_drop_0 rfl (lv_at hl 1 rfl) ?_
  refine lv_iconst (v := 0) hx hb dR_drop_1 (by decide) ?_
  refine lv_aload_n hx hb dR_drop_2 rfl (lv_at hl 0 rfl) ?_
  refine va_get (D := D) (ci := 0) (v := .int tc) (C := R_R) (T := T_R) (N := 13) hx hb hT in_R hown hK hP 0 rfl rfl 5 (by decide) (hT _ w329) (fun _ h9 => h9) rfl dR_drop_3 ?_
  refine ro_i (va_Run.run (va_runS (As := [.int a1, .int 0, .int tc]) (rest := []) ⟨hx, hb, hml, hown, hT⟩ (k_isWithin l D cT a1 0 tc) ⟨callB_of 3 hT (tb_gd w499) rfl rfl rfl (hT _ w1) (hT _ w497) hR_isWithin ⟨Nat.le_of_ble_eq_true rfl, Nat.le_of_ble_eq_true rfl⟩, (hT _ w498)⟩ (RO.preS hZ hS ((show va_P D vwCl [] _ from fun _ _ h => nomatch h)) hK) rfl rfl hl.1 rfl (lv_room (Nat.le_of_ble_eq_true rfl)) dR_drop_6 ⟨Nat.le_of_ble_eq_true rfl, Nat.le_of_ble_eq_true rfl⟩)) ?_
  by_cases hc1 : 0 ≤ a1 ∧ a1 ≤ tc
  · refine ro_v (va_Run.run (va_runS (As := [.int (bi (0 ≤ a1 ∧ a1 ≤ tc))]) (rest := []) ⟨hx, hb, hml, hown, hT⟩ (k_demand_ok l D cT (bi (0 ≤ a1 ∧ a1 ≤ tc)) (by rw [bi_t hc1]; decide)) ⟨callB_of 1 hT (tb_gd w510) rfl rfl rfl (hT _ w1) (hT _ w508) hR_demand ⟨Nat.le_of_ble_eq_true rfl, Nat.le_of_ble_eq_true rfl⟩, (hT _ w509)⟩ (RO.preS hZ hS ((show va_P D vwCl [] _ from fun _ _ h => nomatch h)) hK) rfl rfl hl.1 rfl (lv_room (Nat.le_of_ble_eq_true rfl)) dR_drop_9 ⟨Nat.le_of_ble_eq_true rfl, Nat.le_of_ble_eq_true rfl⟩)) ?_
    exact absurd hc1 hq
  · exact tx_out (tx_goS (As := [.int (bi (0 ≤ a1 ∧ a1 ≤ tc))]) (rest := []) ⟨hx, hb, hml, hown, hT⟩ (k_demand_no l D cT (bi (0 ≤ a1 ∧ a1 ≤ tc)) hlt (bi_f hc1)) ⟨callB_of 1 hT (tb_gd w510) rfl rfl rfl (hT _ w1) (hT _ w508) hR_demand ⟨Nat.le_of_ble_eq_true rfl, Nat.le_of_ble_eq_true rfl⟩, (hT _ w509)⟩ (RO.preS hZ hS ((show va_P D vwCl [] _ from fun _ _ h => nomatch h)) hK) rfl hl.1 rfl (Nat.le_of_ble_eq_true rfl) dR_drop_9 ⟨Nat.le_of_ble_eq_true rfl, Nat.le_of_ble_eq_true rfl⟩) hno hlocks
set_option maxHeartbeats 4000000 in
set_option maxRecDepth 100000 in
theorem k_nodes_no (l : Launch) (D : va_G) (cT : Nat → ClassId) (x : Nat) (xT : Nat) (xP : Nat) (xR : Nat) (xG : Nat) (xF : Nat) (tc : Int32) (xO : Nat) (xS : Nat) (xL : Nat) (xC : Nat) (xQ : Nat) (xU : Nat) (xW : Nat) (a1 : Int32) (hlt : l.stackTraces = false) (hq : ¬ (0 ≤ a1 ∧ a1 ≤ (tc - 1))) : MetT l yR_nodes WR_nodes ({ frames := 7, cells := 1, slots := 6, locals := 111 } : Room) (RO D vwCl [.ref x, .int a1] [(x, .inr (0, [.ref xT, .ref xP, .ref xR, .ref xG, .ref xF, .int tc, .ref xO, .ref xS, .ref xL, .ref xC, .ref xQ, .ref xU, .ref xW]))] (TY cT)) "java/lang/IllegalArgumentException" 1 6 := by
  refine MetT.ofW (cc := cR_nodes) (maxL := 2) (ret := (some .int)) (by decide) rfl ?_
  intro p e s m args below meth c s₁ B hml hno hv
  obtain ⟨rfl, hZ, hP, hK⟩ := hv
  have hx := B.exec
  have hb := B.bytes
  have hr := B.returns
  have hts := atoms_spec (ws := WR_nodes) B.pre
  have hT : ∀ w ∈ TB, w.before _ s = true := fun w h => hts w (List.mem_cons_of_mem _ h)
  have hown : s.vm.findClass R_R = some m.cls := findClass_of_methodNamed B.named
  have hlocks := B.notSynchronized
  have hS : va_S (fun _ => False) s.heap s.heap [] := va_S.rf
  have hl := lv_entry ([.ref x, .int a1]) (n := 2) (Nat.le_of_ble_eq_true rfl)
  rw [lg_entry_eq]
  generalize (lg_sl ([.ref x, .int a1]) ++ List.replicate (2 - (lg_sl ([.ref x, .int a1])).length) Slot.unset).toArray = ls at hl ⊢
  have hl : lv_has ls 2 [(0, .ref x), (1, .int a1)] := hl
  refine lv_iload_n hx hb dR_nodes_0 rfl (lv_at hl 1 rfl) ?_
  refine lv_iconst (v := 0) hx hb dR_nodes_1 (by decide) ?_
  refine lv_aload_n hx hb dR_nodes_2 rfl (lv_at hl 0 rfl) ?_
  refine va_get (D := D) (ci := 0) (v := .int tc) (C := R_R) (T := T_R) (N := 13) hx hb hT in_R hown hK hP 0 rfl rfl 5 (by decide) (hT _ w329) (fun _ h9 => h9) rfl dR_nodes_3 ?_
  refine lv_iconst (v := 1) hx hb dR_nodes_6 (by decide) ?_
  refine lv_isub hx hb dR_nodes_7 ?_
  refine ro_i (va_Run.run (va_runS (As := [.int a1, .int 0, .int (tc - 1)]) (rest := []) ⟨hx, hb, hml, hown, hT⟩ (k_isWithin l D cT a1 0 (tc - 1)) ⟨callB_of 3 hT (tb_gd w499) rfl rfl rfl (hT _ w1) (hT _ w497) hR_isWithin ⟨Nat.le_of_ble_eq_true rfl, Nat.le_of_ble_eq_true rfl⟩, (hT _ w498)⟩ (RO.preS hZ hS ((show va_P D vwCl [] _ from fun _ _ h => nomatch h)) hK) rfl rfl hl.1 rfl (lv_room (Nat.le_of_ble_eq_true rfl)) dR_nodes_8 ⟨Nat.le_of_ble_eq_true rfl, Nat.le_of_ble_eq_true rfl⟩)) ?_
  by_cases hc1 : 0 ≤ a1 ∧ a1 ≤ (tc - 1)
  · refine ro_v (va_Run.run (va_runS (As := [.int (bi (0 ≤ a1 ∧ a1 ≤ (tc - 1)))]) (rest := []) ⟨hx, hb, hml, hown, hT⟩ (k_demand_ok l D cT (bi (0 ≤ a1 ∧ a1 ≤ (tc - 1))) (by rw [bi_t hc1]; decide)) ⟨callB_of 1 hT (tb_gd w510) rfl rfl rfl (hT _ w1) (hT _ w508) hR_demand ⟨Nat.le_of_ble_eq_true rfl, Nat.le_of_ble_eq_true rfl⟩, (hT _ w509)⟩ (RO.preS hZ hS ((show va_P D vwCl [] _ from fun _ _ h => nomatch h)) hK) rfl rfl hl.1 rfl (lv_room (Nat.le_of_ble_eq_true rfl)) dR_nodes_11 ⟨Nat.le_of_ble_eq_true rfl, Nat.le_of_ble_eq_true rfl⟩)) ?_
    exact absurd hc1 hq
  · exact tx_out (tx_goS (As := [.int (bi (0 ≤ a1 ∧ a1 ≤ (tc - 1)))]) (rest := []) ⟨hx, hb, hml, hown, hT⟩ (k_demand_no l D cT (bi (0 ≤ a1 ∧ a1 ≤ (tc - 1))) hlt (bi_f hc1)) ⟨callB_of 1 hT (tb_gd w510) rfl rfl rfl (hT _ w1) (hT _ w508) hR_demand ⟨Nat.le_of_ble_eq_true rfl, Nat.le_of_ble_eq_true rfl⟩, (hT _ w509)⟩ (RO.preS hZ hS ((show va_P D vwCl [] _ from fun _ _ h => nomatch h)) hK) rfl hl.1 rfl (Nat.le_of_ble_eq_true rfl) dR_nodes_11 ⟨Nat.le_of_ble_eq_true rfl, Nat.le_of_ble_eq_true rfl⟩) hno hlocks
set_option maxHeartbeats 4000000 in
set_option maxRecDepth 100000 in
theorem k_uses_no (l : Launch) (D : va_G) (cT : Nat → ClassId) (x : Nat) (xT : Nat) (xP : Nat) (xR : Nat) (xG : Nat) (xF : Nat) (tc : Int32) (xO : Nat) (xS : Nat) (xL : Nat) (xC : Nat) (xQ : Nat) (xU : Nat) (xW : Nat) (ca : Nat) (ta : Nat) (w : Int32) (r : Int32) (a1 : Int32) (hlt : l.stackTraces = false) (hq : ¬ (0 ≤ a1 ∧ a1 ≤ w - 1)) : MetT l yR_uses WR_uses ({ frames := 7, cells := 1, slots := 6, locals := 111 } : Room) (RO D vwCl [.ref x, .int a1] [(x, .inr (0, [.ref xT, .ref xP, .ref xR, .ref xG, .ref xF, .int tc, .ref xO, .ref xS, .ref xL, .ref xC, .ref xQ, .ref xU, .ref xW])), (xT, .inr (2, [.ref ca, .ref ta, .int w, .int r]))] (TY cT)) "java/lang/IllegalArgumentException" 1 6 := by
  refine MetT.ofW (cc := cR_uses) (maxL := 4) (ret := (some .int)) (by decide) rfl ?_
  intro p e s m args below meth c s₁ B hml hno hv
  obtain ⟨rfl, hZ, hP, hK⟩ := hv
  have hx := B.exec
  have hb := B.bytes
  have hr := B.returns
  have hts := atoms_spec (ws := WR_uses) B.pre
  have hT : ∀ w ∈ TB, w.before _ s = true := fun w h => hts w (List.mem_cons_of_mem _ h)
  have hown : s.vm.findClass R_R = some m.cls := findClass_of_methodNamed B.named
  have hlocks := B.notSynchronized
  have hS : va_S (fun _ => False) s.heap s.heap [] := va_S.rf
  have hl := lv_entry ([.ref x, .int a1]) (n := 4) (Nat.le_of_ble_eq_true rfl)
  rw [lg_entry_eq]
  generalize (lg_sl ([.ref x, .int a1]) ++ List.replicate (4 - (lg_sl ([.ref x, .int a1])).length) Slot.unset).toArray = ls at hl ⊢
  have hl : lv_has ls 4 [(0, .ref x), (1, .int a1)] := hl
  refine lv_aload_n hx hb dR_uses_0 rfl (lv_at hl 0 rfl) ?_
  refine va_get (D := D) (ci := 0) (v := .ref xT) (C := R_R) (T := T_R) (N := 13) hx hb hT in_R hown hK hP 0 rfl rfl 0 (by decide) (hT _ w324) (fun _ h9 => h9) rfl dR_uses_1 ?_
  refine lv_iload_n hx hb dR_uses_4 rfl (lv_at hl 1 rfl) ?_
  refine ro_i (va_Run.run (va_runV (As := [.int a1]) (rest := []) ⟨hx, hb, hml, hown, hT⟩ (k_hasColumn l D cT xT ca ta w r a1) ⟨callB_of 1 hT (tb_gd w621) rfl rfl rfl (hT _ w2) (hT _ w618) hT_hasColumn ⟨Nat.le_of_ble_eq_true rfl, Nat.le_of_ble_eq_true rfl⟩, (hT _ w619), (hT _ w620)⟩ (RO.preV (ci := 2) (q0 := 0) hZ hS (hP.sub (ws' := [(xT, .inr (2, [.ref ca, .ref ta, .int w, .int r]))]) [1] rfl) hK rfl rfl) rfl rfl hl.1 rfl (lv_room (Nat.le_of_ble_eq_true rfl)) dR_uses_5 ⟨Nat.le_of_ble_eq_true rfl, Nat.le_of_ble_eq_true rfl⟩)) ?_
  by_cases hc1 : 0 ≤ a1 ∧ a1 ≤ w - 1
  · refine ro_v (va_Run.run (va_runS (As := [.int (bi (0 ≤ a1 ∧ a1 ≤ w - 1))]) (rest := []) ⟨hx, hb, hml, hown, hT⟩ (k_demand_ok l D cT (bi (0 ≤ a1 ∧ a1 ≤ w - 1)) (by rw [bi_t hc1]; decide)) ⟨callB_of 1 hT (tb_gd w510) rfl rfl rfl (hT _ w1) (hT _ w508) hR_demand ⟨Nat.le_of_ble_eq_true rfl, Nat.le_of_ble_eq_true rfl⟩, (hT _ w509)⟩ (RO.preS hZ hS ((show va_P D vwCl [] _ from fun _ _ h => nomatch h)) hK) rfl rfl hl.1 rfl (lv_room (Nat.le_of_ble_eq_true rfl)) dR_uses_8 ⟨Nat.le_of_ble_eq_true rfl, Nat.le_of_ble_eq_true rfl⟩)) ?_
    exact absurd hc1 hq
  · exact tx_out (tx_goS (As := [.int (bi (0 ≤ a1 ∧ a1 ≤ w - 1))]) (rest := []) ⟨hx, hb, hml, hown, hT⟩ (k_demand_no l D cT (bi (0 ≤ a1 ∧ a1 ≤ w - 1)) hlt (bi_f hc1)) ⟨callB_of 1 hT (tb_gd w510) rfl rfl rfl (hT _ w1) (hT _ w508) hR_demand ⟨Nat.le_of_ble_eq_true rfl, Nat.le_of_ble_eq_true rfl⟩, (hT _ w509)⟩ (RO.preS hZ hS ((show va_P D vwCl [] _ from fun _ _ h => nomatch h)) hK) rfl hl.1 rfl (Nat.le_of_ble_eq_true rfl) dR_uses_8 ⟨Nat.le_of_ble_eq_true rfl, Nat.le_of_ble_eq_true rfl⟩) hno hlocks
set_option maxHeartbeats 4000000 in
set_option maxRecDepth 100000 in
theorem k_residual_no (l : Launch) (D : va_G) (cT : Nat → ClassId) (x : Nat) (xT : Nat) (xP : Nat) (xR : Nat) (xG : Nat) (xF : Nat) (tc : Int32) (xO : Nat) (xS : Nat) (xL : Nat) (xC : Nat) (xQ : Nat) (xU : Nat) (xW : Nat) (ca : Nat) (ta : Nat) (w : Int32) (r : Int32) (a1 : Int32) (a2 : Int32) (hlt : l.stackTraces = false) (hq : ¬ ((0 ≤ a1 ∧ a1 ≤ r - 1) ∧ (0 ≤ a2 ∧ a2 ≤ tc))) : MetT l yR_residual WR_residual ({ frames := 7, cells := 1, slots := 6, locals := 111 } : Room) (RO D vwCl [.ref x, .int a1, .int a2] [(x, .inr (0, [.ref xT, .ref xP, .ref xR, .ref xG, .ref xF, .int tc, .ref xO, .ref xS, .ref xL, .ref xC, .ref xQ, .ref xU, .ref xW])), (xT, .inr (2, [.ref ca, .ref ta, .int w, .int r]))] (TY cT)) "java/lang/IllegalArgumentException" 1 6 := by
  refine MetT.ofW (cc := cR_residual) (maxL := 3) (ret := (some .int)) (by decide) rfl ?_
  intro p e s m args below meth c s₁ B hml hno hv
  obtain ⟨rfl, hZ, hP, hK⟩ := hv
  have hx := B.exec
  have hb := B.bytes
  have hr := B.returns
  have hts := atoms_spec (ws := WR_residual) B.pre
  have hT : ∀ w ∈ TB, w.before _ s = true := fun w h => hts w (List.mem_cons_of_mem _ h)
  have hown : s.vm.findClass R_R = some m.cls := findClass_of_methodNamed B.named
  have hlocks := B.notSynchronized
  have hS : va_S (fun _ => False) s.heap s.heap [] := va_S.rf
  have hl := lv_entry ([.ref x, .int a1, .int a2]) (n := 3) (Nat.le_of_ble_eq_true rfl)
  rw [lg_entry_eq]
  generalize (lg_sl ([.ref x, .int a1, .int a2]) ++ List.replicate (3 - (lg_sl ([.ref x, .int a1, .int a2])).length) Slot.unset).toArray = ls at hl ⊢
  have hl : lv_has ls 3 [(0, .ref x), (1, .int a1), (2, .int a2)] := hl
  refine lv_aload_n hx hb dR_residual_0 rfl (lv_at hl 0 rfl) ?_
  refine va_get (D := D) (ci := 0) (v := .ref xT) (C := R_R) (T := T_R) (N := 13) hx hb hT in_R hown hK hP 0 rfl rfl 0 (by decide) (hT _ w324) (fun _ h9 => h9) rfl dR_residual_1 ?_
  refine lv_iload_n hx hb dR_residual_4 rfl (lv_at hl 1 rfl) ?_
  refine ro_i (va_Run.run (va_runV (As := [.int a1]) (rest := []) ⟨hx, hb, hml, hown, hT⟩ (k_hasRow l D cT xT ca ta w r a1) ⟨callB_of 1 hT (tb_gd w616) rfl rfl rfl (hT _ w2) (hT _ w613) hT_hasRow ⟨Nat.le_of_ble_eq_true rfl, Nat.le_of_ble_eq_true rfl⟩, (hT _ w614), (hT _ w615)⟩ (RO.preV (ci := 2) (q0 := 0) hZ hS (hP.sub (ws' := [(xT, .inr (2, [.ref ca, .ref ta, .int w, .int r]))]) [1] rfl) hK rfl rfl) rfl rfl hl.1 rfl (lv_room (Nat.le_of_ble_eq_true rfl)) dR_residual_5 ⟨Nat.le_of_ble_eq_true rfl, Nat.le_of_ble_eq_true rfl⟩)) ?_
  refine lv_if_eq (tgt := 27) hx hb dR_residual_8 rfl (fun h1 => ?_) (fun h1 => ?_)
  · refine lv_iconst (v := 0) hx hb dR_residual_27 (by decide) ?_
    exact tx_out (tx_goS (As := [.int 0]) (rest := []) ⟨hx, hb, hml, hown, hT⟩ (k_demand_no l D cT 0 hlt rfl) ⟨callB_of 1 hT (tb_gd w510) rfl rfl rfl (hT _ w1) (hT _ w508) hR_demand ⟨Nat.le_of_ble_eq_true rfl, Nat.le_of_ble_eq_true rfl⟩, (hT _ w509)⟩ (RO.preS hZ hS ((show va_P D vwCl [] _ from fun _ _ h => nomatch h)) hK) rfl hl.1 rfl (Nat.le_of_ble_eq_true rfl) dR_residual_28 ⟨Nat.le_of_ble_eq_true rfl, Nat.le_of_ble_eq_true rfl⟩) hno hlocks
  · refine lv_iload_n hx hb dR_residual_11 rfl (lv_at hl 2 rfl) ?_
    refine lv_iconst (v := 0) hx hb dR_residual_12 (by decide) ?_
    refine lv_aload_n hx hb dR_residual_13 rfl (lv_at hl 0 rfl) ?_
    refine va_get (D := D) (ci := 0) (v := .int tc) (C := R_R) (T := T_R) (N := 13) hx hb hT in_R hown hK hP 0 rfl rfl 5 (by decide) (hT _ w329) (fun _ h9 => h9) rfl dR_residual_14 ?_
    refine ro_i (va_Run.run (va_runS (As := [.int a2, .int 0, .int tc]) (rest := []) ⟨hx, hb, hml, hown, hT⟩ (k_isWithin l D cT a2 0 tc) ⟨callB_of 3 hT (tb_gd w499) rfl rfl rfl (hT _ w1) (hT _ w497) hR_isWithin ⟨Nat.le_of_ble_eq_true rfl, Nat.le_of_ble_eq_true rfl⟩, (hT _ w498)⟩ (RO.preS hZ hS ((show va_P D vwCl [] _ from fun _ _ h => nomatch h)) hK) rfl rfl hl.1 rfl (lv_room (Nat.le_of_ble_eq_true rfl)) dR_residual_17 ⟨Nat.le_of_ble_eq_true rfl, Nat.le_of_ble_eq_true rfl⟩)) ?_
    refine lv_if_eq (tgt := 27) hx hb dR_residual_20 rfl (fun h2 => ?_) (fun h2 => ?_)
    · refine lv_iconst (v := 0) hx hb dR_residual_27 (by decide) ?_
      exact tx_out (tx_goS (As := [.int 0]) (rest := []) ⟨hx, hb, hml, hown, hT⟩ (k_demand_no l D cT 0 hlt rfl) ⟨callB_of 1 hT (tb_gd w510) rfl rfl rfl (hT _ w1) (hT _ w508) hR_demand ⟨Nat.le_of_ble_eq_true rfl, Nat.le_of_ble_eq_true rfl⟩, (hT _ w509)⟩ (RO.preS hZ hS ((show va_P D vwCl [] _ from fun _ _ h => nomatch h)) hK) rfl hl.1 rfl (Nat.le_of_ble_eq_true rfl) dR_residual_28 ⟨Nat.le_of_ble_eq_true rfl, Nat.le_of_ble_eq_true rfl⟩) hno hlocks
    · refine lv_iconst (v := 1) hx hb dR_residual_23 (by decide) ?_
      refine lv_goto (tgt := 28) hx hb dR_residual_24 rfl ?_
      refine ro_v (va_Run.run (va_runS (As := [.int 1]) (rest := []) ⟨hx, hb, hml, hown, hT⟩ (k_demand_ok l D cT 1 (by decide)) ⟨callB_of 1 hT (tb_gd w510) rfl rfl rfl (hT _ w1) (hT _ w508) hR_demand ⟨Nat.le_of_ble_eq_true rfl, Nat.le_of_ble_eq_true rfl⟩, (hT _ w509)⟩ (RO.preS hZ hS ((show va_P D vwCl [] _ from fun _ _ h => nomatch h)) hK) rfl rfl hl.1 rfl (lv_room (Nat.le_of_ble_eq_true rfl)) dR_residual_28 ⟨Nat.le_of_ble_eq_true rfl, Nat.le_of_ble_eq_true rfl⟩)) ?_
      exact absurd ⟨bi_1 h1, bi_1 h2⟩ hq
set_option maxHeartbeats 4000000 in
set_option maxRecDepth 100000 in
theorem k_predict_no (l : Launch) (D : va_G) (cT : Nat → ClassId) (x : Nat) (xT : Nat) (xP : Nat) (xR : Nat) (xG : Nat) (xF : Nat) (tc : Int32) (xO : Nat) (xS : Nat) (xL : Nat) (xC : Nat) (xQ : Nat) (xU : Nat) (xW : Nat) (a1 : Int32) (hlt : l.stackTraces = false) (hq : ¬ (0 ≤ a1 ∧ a1 ≤ tc)) : MetT l yR_predict WR_predict ({ frames := 7, cells := 1, slots := 6, locals := 111 } : Room) (RO D vwCl [.ref x, .int a1] [(x, .inr (0, [.ref xT, .ref xP, .ref xR, .ref xG, .ref xF, .int tc, .ref xO, .ref xS, .ref xL, .ref xC, .ref xQ, .ref xU, .ref xW]))] (TY cT)) "java/lang/IllegalArgumentException" 1 6 := by
  refine MetT.ofW (cc := cR_predict) (maxL := 2) (ret := (some .int)) (by decide) rfl ?_
  intro p e s m args below meth c s₁ B hml hno hv
  obtain ⟨rfl, hZ, hP, hK⟩ := hv
  have hx := B.exec
  have hb := B.bytes
  have hr := B.returns
  have hts := atoms_spec (ws := WR_predict) B.pre
  have hT : ∀ w ∈ TB, w.before _ s = true := fun w h => hts w (List.mem_cons_of_mem _ h)
  have hown : s.vm.findClass R_R = some m.cls := findClass_of_methodNamed B.named
  have hlocks := B.notSynchronized
  have hS : va_S (fun _ => False) s.heap s.heap [] := va_S.rf
  have hl := lv_entry ([.ref x, .int a1]) (n := 2) (Nat.le_of_ble_eq_true rfl)
  rw [lg_entry_eq]
  generalize (lg_sl ([.ref x, .int a1]) ++ List.replicate (2 - (lg_sl ([.ref x, .int a1])).length) Slot.unset).toArray = ls at hl ⊢
  have hl : lv_has ls 2 [(0, .ref x), (1, .int a1)] := hl
  refine lv_iload_n hx hb dR_predict_0 rfl (lv_at hl 1 rfl) ?_
  refine lv_iconst (v := 0) hx hb dR_predict_1 (by decide) ?_
  refine lv_aload_n hx hb dR_predict_2 rfl (lv_at hl 0 rfl) ?_
  refine va_get (D := D) (ci := 0) (v := .int tc) (C := R_R) (T := T_R) (N := 13) hx hb hT in_R hown hK hP 0 rfl rfl 5 (by decide) (hT _ w329) (fun _ h9 => h9) rfl dR_predict_3 ?_
  refine ro_i (va_Run.run (va_runS (As := [.int a1, .int 0, .int tc]) (rest := []) ⟨hx, hb, hml, hown, hT⟩ (k_isWithin l D cT a1 0 tc) ⟨callB_of 3 hT (tb_gd w499) rfl rfl rfl (hT _ w1) (hT _ w497) hR_isWithin ⟨Nat.le_of_ble_eq_true rfl, Nat.le_of_ble_eq_true rfl⟩, (hT _ w498)⟩ (RO.preS hZ hS ((show va_P D vwCl [] _ from fun _ _ h => nomatch h)) hK) rfl rfl hl.1 rfl (lv_room (Nat.le_of_ble_eq_true rfl)) dR_predict_6 ⟨Nat.le_of_ble_eq_true rfl, Nat.le_of_ble_eq_true rfl⟩)) ?_
  by_cases hc1 : 0 ≤ a1 ∧ a1 ≤ tc
  · refine ro_v (va_Run.run (va_runS (As := [.int (bi (0 ≤ a1 ∧ a1 ≤ tc))]) (rest := []) ⟨hx, hb, hml, hown, hT⟩ (k_demand_ok l D cT (bi (0 ≤ a1 ∧ a1 ≤ tc)) (by rw [bi_t hc1]; decide)) ⟨callB_of 1 hT (tb_gd w510) rfl rfl rfl (hT _ w1) (hT _ w508) hR_demand ⟨Nat.le_of_ble_eq_true rfl, Nat.le_of_ble_eq_true rfl⟩, (hT _ w509)⟩ (RO.preS hZ hS ((show va_P D vwCl [] _ from fun _ _ h => nomatch h)) hK) rfl rfl hl.1 rfl (lv_room (Nat.le_of_ble_eq_true rfl)) dR_predict_9 ⟨Nat.le_of_ble_eq_true rfl, Nat.le_of_ble_eq_true rfl⟩)) ?_
    exact absurd hc1 hq
  · exact tx_out (tx_goS (As := [.int (bi (0 ≤ a1 ∧ a1 ≤ tc))]) (rest := []) ⟨hx, hb, hml, hown, hT⟩ (k_demand_no l D cT (bi (0 ≤ a1 ∧ a1 ≤ tc)) hlt (bi_f hc1)) ⟨callB_of 1 hT (tb_gd w510) rfl rfl rfl (hT _ w1) (hT _ w508) hR_demand ⟨Nat.le_of_ble_eq_true rfl, Nat.le_of_ble_eq_true rfl⟩, (hT _ w509)⟩ (RO.preS hZ hS ((show va_P D vwCl [] _ from fun _ _ h => nomatch h)) hK) rfl hl.1 rfl (Nat.le_of_ble_eq_true rfl) dR_predict_9 ⟨Nat.le_of_ble_eq_true rfl, Nat.le_of_ble_eq_true rfl⟩) hno hlocks
set_option maxHeartbeats 4000000 in
set_option maxRecDepth 100000 in
theorem k_error_no (l : Launch) (D : va_G) (cT : Nat → ClassId) (x : Nat) (xT : Nat) (xP : Nat) (xR : Nat) (xG : Nat) (xF : Nat) (tc : Int32) (xO : Nat) (xS : Nat) (xL : Nat) (xC : Nat) (xQ : Nat) (xU : Nat) (xW : Nat) (a1 : Int64) (a2 : Int32) (hlt : l.stackTraces = false) (hq : ¬ (0 ≤ a2 ∧ a2 ≤ tc)) : MetT l yR_error WR_error ({ frames := 7, cells := 1, slots := 6, locals := 111 } : Room) (RO D vwCl [.ref x, .long a1, .int a2] [(x, .inr (0, [.ref xT, .ref xP, .ref xR, .ref xG, .ref xF, .int tc, .ref xO, .ref xS, .ref xL, .ref xC, .ref xQ, .ref xU, .ref xW]))] (TY cT)) "java/lang/IllegalArgumentException" 1 6 := by
  refine MetT.ofW (cc := cR_error) (maxL := 4) (ret := (some .int)) (by decide) rfl ?_
  intro p e s m args below meth c s₁ B hml hno hv
  obtain ⟨rfl, hZ, hP, hK⟩ := hv
  have hx := B.exec
  have hb := B.bytes
  have hr := B.returns
  have hts := atoms_spec (ws := WR_error) B.pre
  have hT : ∀ w ∈ TB, w.before _ s = true := fun w h => hts w (List.mem_cons_of_mem _ h)
  have hown : s.vm.findClass R_R = some m.cls := findClass_of_methodNamed B.named
  have hlocks := B.notSynchronized
  have hS : va_S (fun _ => False) s.heap s.heap [] := va_S.rf
  have hl := lv_entry ([.ref x, .long a1, .int a2]) (n := 4) (Nat.le_of_ble_eq_true rfl)
  rw [lg_entry_eq]
  generalize (lg_sl ([.ref x, .long a1, .int a2]) ++ List.replicate (4 - (lg_sl ([.ref x, .long a1, .int a2])).length) Slot.unset).toArray = ls at hl ⊢
  have hl : lv_has ls 4 [(0, .ref x), (1, .long a1), (3, .int a2)] := hl
  refine lv_iload_n hx hb dR_error_0 rfl (lv_at hl 2 rfl) ?_
  refine lv_iconst (v := 0) hx hb dR_error_1 (by decide) ?_
  refine lv_aload_n hx hb dR_error_2 rfl (lv_at hl 0 rfl) ?_
  refine va_get (D := D) (ci := 0) (v := .int tc) (C := R_R) (T := T_R) (N := 13) hx hb hT in_R hown hK hP 0 rfl rfl 5 (by decide) (hT _ w329) (fun _ h9 => h9) rfl dR_error_3 ?_
  refine ro_i (va_Run.run (va_runS (As := [.int a2, .int 0, .int tc]) (rest := []) ⟨hx, hb, hml, hown, hT⟩ (k_isWithin l D cT a2 0 tc) ⟨callB_of 3 hT (tb_gd w499) rfl rfl rfl (hT _ w1) (hT _ w497) hR_isWithin ⟨Nat.le_of_ble_eq_true rfl, Nat.le_of_ble_eq_true rfl⟩, (hT _ w498)⟩ (RO.preS hZ hS ((show va_P D vwCl [] _ from fun _ _ h => nomatch h)) hK) rfl rfl hl.1 rfl (lv_room (Nat.le_of_ble_eq_true rfl)) dR_error_6 ⟨Nat.le_of_ble_eq_true rfl, Nat.le_of_ble_eq_true rfl⟩)) ?_
  by_cases hc1 : 0 ≤ a2 ∧ a2 ≤ tc
  · refine ro_v (va_Run.run (va_runS (As := [.int (bi (0 ≤ a2 ∧ a2 ≤ tc))]) (rest := []) ⟨hx, hb, hml, hown, hT⟩ (k_demand_ok l D cT (bi (0 ≤ a2 ∧ a2 ≤ tc)) (by rw [bi_t hc1]; decide)) ⟨callB_of 1 hT (tb_gd w510) rfl rfl rfl (hT _ w1) (hT _ w508) hR_demand ⟨Nat.le_of_ble_eq_true rfl, Nat.le_of_ble_eq_true rfl⟩, (hT _ w509)⟩ (RO.preS hZ hS ((show va_P D vwCl [] _ from fun _ _ h => nomatch h)) hK) rfl rfl hl.1 rfl (lv_room (Nat.le_of_ble_eq_true rfl)) dR_error_9 ⟨Nat.le_of_ble_eq_true rfl, Nat.le_of_ble_eq_true rfl⟩)) ?_
    exact absurd hc1 hq
  · exact tx_out (tx_goS (As := [.int (bi (0 ≤ a2 ∧ a2 ≤ tc))]) (rest := []) ⟨hx, hb, hml, hown, hT⟩ (k_demand_no l D cT (bi (0 ≤ a2 ∧ a2 ≤ tc)) hlt (bi_f hc1)) ⟨callB_of 1 hT (tb_gd w510) rfl rfl rfl (hT _ w1) (hT _ w508) hR_demand ⟨Nat.le_of_ble_eq_true rfl, Nat.le_of_ble_eq_true rfl⟩, (hT _ w509)⟩ (RO.preS hZ hS ((show va_P D vwCl [] _ from fun _ _ h => nomatch h)) hK) rfl hl.1 rfl (Nat.le_of_ble_eq_true rfl) dR_error_9 ⟨Nat.le_of_ble_eq_true rfl, Nat.le_of_ble_eq_true rfl⟩) hno hlocks
set_option maxHeartbeats 4000000 in
set_option maxRecDepth 100000 in
theorem k_train_no (l : Launch) (D : va_G) (cT : Nat → ClassId) (x : Nat) (xT : Nat) (xP : Nat) (xR : Nat) (xG : Nat) (xF : Nat) (tc : Int32) (xO : Nat) (xS : Nat) (xL : Nat) (xC : Nat) (xQ : Nat) (xU : Nat) (xW : Nat) (a1 : Int32) (hlt : l.stackTraces = false) (hq : ¬ (1 ≤ a1 ∧ a1 ≤ 16)) : MetT l yR_train WR_train ({ frames := 7, cells := 1, slots := 6, locals := 111 } : Room) (RO D vwCl [.ref x, .int a1] [(x, .inr (0, [.ref xT, .ref xP, .ref xR, .ref xG, .ref xF, .int tc, .ref xO, .ref xS, .ref xL, .ref xC, .ref xQ, .ref xU, .ref xW]))] (TY cT)) "java/lang/IllegalArgumentException" 1 6 := by
  refine MetT.ofW (cc := cR_train) (maxL := 7) (ret := (some .int)) (by decide) rfl ?_
  intro p e s m args below meth c s₁ B hml hno hv
  obtain ⟨rfl, hZ, hP, hK⟩ := hv
  have hx := B.exec
  have hb := B.bytes
  have hr := B.returns
  have hts := atoms_spec (ws := WR_train) B.pre
  have hT : ∀ w ∈ TB, w.before _ s = true := fun w h => hts w (List.mem_cons_of_mem _ h)
  have hown : s.vm.findClass R_R = some m.cls := findClass_of_methodNamed B.named
  have hlocks := B.notSynchronized
  have hS : va_S (fun _ => False) s.heap s.heap [] := va_S.rf
  have hl := lv_entry ([.ref x, .int a1]) (n := 7) (Nat.le_of_ble_eq_true rfl)
  rw [lg_entry_eq]
  generalize (lg_sl ([.ref x, .int a1]) ++ List.replicate (7 - (lg_sl ([.ref x, .int a1])).length) Slot.unset).toArray = ls at hl ⊢
  have hl : lv_has ls 7 [(0, .ref x), (1, .int a1)] := hl
  refine lv_iload_n hx hb dR_train_0 rfl (lv_at hl 1 rfl) ?_
  refine lv_iconst (v := 1) hx hb dR_train_1 (by decide) ?_
  refine lv_bipush (v := 16) hx hb dR_train_2 (by decide) ?_
  refine ro_i (va_Run.run (va_runS (As := [.int a1, .int 1, .int 16]) (rest := []) ⟨hx, hb, hml, hown, hT⟩ (k_isWithin l D cT a1 1 16) ⟨callB_of 3 hT (tb_gd w499) rfl rfl rfl (hT _ w1) (hT _ w497) hR_isWithin ⟨Nat.le_of_ble_eq_true rfl, Nat.le_of_ble_eq_true rfl⟩, (hT _ w498)⟩ (RO.preS hZ hS ((show va_P D vwCl [] _ from fun _ _ h => nomatch h)) hK) rfl rfl hl.1 rfl (lv_room (Nat.le_of_ble_eq_true rfl)) dR_train_4 ⟨Nat.le_of_ble_eq_true rfl, Nat.le_of_ble_eq_true rfl⟩)) ?_
  by_cases hc1 : 1 ≤ a1 ∧ a1 ≤ 16
  · refine ro_v (va_Run.run (va_runS (As := [.int (bi (1 ≤ a1 ∧ a1 ≤ 16))]) (rest := []) ⟨hx, hb, hml, hown, hT⟩ (k_demand_ok l D cT (bi (1 ≤ a1 ∧ a1 ≤ 16)) (by rw [bi_t hc1]; decide)) ⟨callB_of 1 hT (tb_gd w510) rfl rfl rfl (hT _ w1) (hT _ w508) hR_demand ⟨Nat.le_of_ble_eq_true rfl, Nat.le_of_ble_eq_true rfl⟩, (hT _ w509)⟩ (RO.preS hZ hS ((show va_P D vwCl [] _ from fun _ _ h => nomatch h)) hK) rfl rfl hl.1 rfl (lv_room (Nat.le_of_ble_eq_true rfl)) dR_train_7 ⟨Nat.le_of_ble_eq_true rfl, Nat.le_of_ble_eq_true rfl⟩)) ?_
    exact absurd hc1 hq
  · exact tx_out (tx_goS (As := [.int (bi (1 ≤ a1 ∧ a1 ≤ 16))]) (rest := []) ⟨hx, hb, hml, hown, hT⟩ (k_demand_no l D cT (bi (1 ≤ a1 ∧ a1 ≤ 16)) hlt (bi_f hc1)) ⟨callB_of 1 hT (tb_gd w510) rfl rfl rfl (hT _ w1) (hT _ w508) hR_demand ⟨Nat.le_of_ble_eq_true rfl, Nat.le_of_ble_eq_true rfl⟩, (hT _ w509)⟩ (RO.preS hZ hS ((show va_P D vwCl [] _ from fun _ _ h => nomatch h)) hK) rfl hl.1 rfl (Nat.le_of_ble_eq_true rfl) dR_train_7 ⟨Nat.le_of_ble_eq_true rfl, Nat.le_of_ble_eq_true rfl⟩) hno hlocks
set_option maxHeartbeats 4000000 in
set_option maxRecDepth 100000 in
theorem k_rate_no (l : Launch) (D : va_G) (cT : Nat → ClassId) (x : Nat) (xT : Nat) (xP : Nat) (xR : Nat) (xG : Nat) (xF : Nat) (tc : Int32) (xO : Nat) (xS : Nat) (xL : Nat) (xC : Nat) (xQ : Nat) (xU : Nat) (xW : Nat) (a1 : Int32) (a2 : Int32) (hlt : l.stackTraces = false) (hq : ¬ ((1 ≤ a2 ∧ a2 ≤ 16) ∧ (1 ≤ a1 ∧ a1 ≤ a2))) : MetT l yR_rate WR_rate ({ frames := 7, cells := 1, slots := 6, locals := 111 } : Room) (RO D vwCl [.ref x, .int a1, .int a2] [(x, .inr (0, [.ref xT, .ref xP, .ref xR, .ref xG, .ref xF, .int tc, .ref xO, .ref xS, .ref xL, .ref xC, .ref xQ, .ref xU, .ref xW]))] (TY cT)) "java/lang/IllegalArgumentException" 1 6 := by
  refine MetT.ofW (cc := cR_rate) (maxL := 3) (ret := none) (by decide) rfl ?_
  intro p e s m args below meth c s₁ B hml hno hv
  obtain ⟨rfl, hZ, hP, hK⟩ := hv
  have hx := B.exec
  have hb := B.bytes
  have hr := B.returns
  have hts := atoms_spec (ws := WR_rate) B.pre
  have hT : ∀ w ∈ TB, w.before _ s = true := fun w h => hts w (List.mem_cons_of_mem _ h)
  have hown : s.vm.findClass R_R = some m.cls := findClass_of_methodNamed B.named
  have hlocks := B.notSynchronized
  have hS : va_S (fun _ => False) s.heap s.heap [] := va_S.rf
  have hl := lv_entry ([.ref x, .int a1, .int a2]) (n := 3) (Nat.le_of_ble_eq_true rfl)
  rw [lg_entry_eq]
  generalize (lg_sl ([.ref x, .int a1, .int a2]) ++ List.replicate (3 - (lg_sl ([.ref x, .int a1, .int a2])).length) Slot.unset).toArray = ls at hl ⊢
  have hl : lv_has ls 3 [(0, .ref x), (1, .int a1), (2, .int a2)] := hl
  refine lv_iload_n hx hb dR_rate_0 rfl (lv_at hl 2 rfl) ?_
  refine lv_iconst (v := 1) hx hb dR_rate_1 (by decide) ?_
  refine lv_bipush (v := 16) hx hb dR_rate_2 (by decide) ?_
  refine ro_i (va_Run.run (va_runS (As := [.int a2, .int 1, .int 16]) (rest := []) ⟨hx, hb, hml, hown, hT⟩ (k_isWithin l D cT a2 1 16) ⟨callB_of 3 hT (tb_gd w499) rfl rfl rfl (hT _ w1) (hT _ w497) hR_isWithin ⟨Nat.le_of_ble_eq_true rfl, Nat.le_of_ble_eq_true rfl⟩, (hT _ w498)⟩ (RO.preS hZ hS ((show va_P D vwCl [] _ from fun _ _ h => nomatch h)) hK) rfl rfl hl.1 rfl (lv_room (Nat.le_of_ble_eq_true rfl)) dR_rate_4 ⟨Nat.le_of_ble_eq_true rfl, Nat.le_of_ble_eq_true rfl⟩)) ?_
  refine lv_if_eq (tgt := 23) hx hb dR_rate_7 rfl (fun h1 => ?_) (fun h1 => ?_)
  · refine lv_iconst (v := 0) hx hb dR_rate_23 (by decide) ?_
    exact tx_out (tx_goS (As := [.int 0]) (rest := []) ⟨hx, hb, hml, hown, hT⟩ (k_demand_no l D cT 0 hlt rfl) ⟨callB_of 1 hT (tb_gd w510) rfl rfl rfl (hT _ w1) (hT _ w508) hR_demand ⟨Nat.le_of_ble_eq_true rfl, Nat.le_of_ble_eq_true rfl⟩, (hT _ w509)⟩ (RO.preS hZ hS ((show va_P D vwCl [] _ from fun _ _ h => nomatch h)) hK) rfl hl.1 rfl (Nat.le_of_ble_eq_true rfl) dR_rate_24 ⟨Nat.le_of_ble_eq_true rfl, Nat.le_of_ble_eq_true rfl⟩) hno hlocks
  · refine lv_iload_n hx hb dR_rate_10 rfl (lv_at hl 1 rfl) ?_
    refine lv_iconst (v := 1) hx hb dR_rate_11 (by decide) ?_
    refine lv_iload_n hx hb dR_rate_12 rfl (lv_at hl 2 rfl) ?_
    refine ro_i (va_Run.run (va_runS (As := [.int a1, .int 1, .int a2]) (rest := []) ⟨hx, hb, hml, hown, hT⟩ (k_isWithin l D cT a1 1 a2) ⟨callB_of 3 hT (tb_gd w499) rfl rfl rfl (hT _ w1) (hT _ w497) hR_isWithin ⟨Nat.le_of_ble_eq_true rfl, Nat.le_of_ble_eq_true rfl⟩, (hT _ w498)⟩ (RO.preS hZ hS ((show va_P D vwCl [] _ from fun _ _ h => nomatch h)) hK) rfl rfl hl.1 rfl (lv_room (Nat.le_of_ble_eq_true rfl)) dR_rate_13 ⟨Nat.le_of_ble_eq_true rfl, Nat.le_of_ble_eq_true rfl⟩)) ?_
    refine lv_if_eq (tgt := 23) hx hb dR_rate_16 rfl (fun h2 => ?_) (fun h2 => ?_)
    · refine lv_iconst (v := 0) hx hb dR_rate_23 (by decide) ?_
      exact tx_out (tx_goS (As := [.int 0]) (rest := []) ⟨hx, hb, hml, hown, hT⟩ (k_demand_no l D cT 0 hlt rfl) ⟨callB_of 1 hT (tb_gd w510) rfl rfl rfl (hT _ w1) (hT _ w508) hR_demand ⟨Nat.le_of_ble_eq_true rfl, Nat.le_of_ble_eq_true rfl⟩, (hT _ w509)⟩ (RO.preS hZ hS ((show va_P D vwCl [] _ from fun _ _ h => nomatch h)) hK) rfl hl.1 rfl (Nat.le_of_ble_eq_true rfl) dR_rate_24 ⟨Nat.le_of_ble_eq_true rfl, Nat.le_of_ble_eq_true rfl⟩) hno hlocks
    · refine lv_iconst (v := 1) hx hb dR_rate_19 (by decide) ?_
      refine lv_goto (tgt := 24) hx hb dR_rate_20 rfl ?_
      refine ro_v (va_Run.run (va_runS (As := [.int 1]) (rest := []) ⟨hx, hb, hml, hown, hT⟩ (k_demand_ok l D cT 1 (by decide)) ⟨callB_of 1 hT (tb_gd w510) rfl rfl rfl (hT _ w1) (hT _ w508) hR_demand ⟨Nat.le_of_ble_eq_true rfl, Nat.le_of_ble_eq_true rfl⟩, (hT _ w509)⟩ (RO.preS hZ hS ((show va_P D vwCl [] _ from fun _ _ h => nomatch h)) hK) rfl rfl hl.1 rfl (lv_room (Nat.le_of_ble_eq_true rfl)) dR_rate_24 ⟨Nat.le_of_ble_eq_true rfl, Nat.le_of_ble_eq_true rfl⟩)) ?_
      exact absurd ⟨bi_1 h1, bi_1 h2⟩ hq
set_option maxHeartbeats 4000000 in
set_option maxRecDepth 100000 in
theorem k_ask_no (l : Launch) (D : va_G) (cT : Nat → ClassId) (x : Nat) (xT : Nat) (xP : Nat) (xR : Nat) (xG : Nat) (xF : Nat) (tc : Int32) (xO : Nat) (xS : Nat) (xL : Nat) (xC : Nat) (xQ : Nat) (xU : Nat) (xW : Nat) (ca : Nat) (ta : Nat) (w : Int32) (r : Int32) (a1 : Int32) (a2 : Int32) (hlt : l.stackTraces = false) (hq : ¬ ((0 ≤ a1 ∧ a1 ≤ w - 1) ∧ (a2 = (-2147483648) ∨ ((-1000000) ≤ a2 ∧ a2 ≤ 1000000)))) : MetT l yR_ask WR_ask ({ frames := 7, cells := 1, slots := 6, locals := 111 } : Room) (RO D vwCl [.ref x, .int a1, .int a2] [(x, .inr (0, [.ref xT, .ref xP, .ref xR, .ref xG, .ref xF, .int tc, .ref xO, .ref xS, .ref xL, .ref xC, .ref xQ, .ref xU, .ref xW])), (xT, .inr (2, [.ref ca, .ref ta, .int w, .int r]))] (TY cT)) "java/lang/IllegalArgumentException" 1 6 := by
  refine MetT.ofW (cc := cR_ask) (maxL := 3) (ret := (some .int)) (by decide) rfl ?_
  intro p e s m args below meth c s₁ B hml hno hv
  obtain ⟨rfl, hZ, hP, hK⟩ := hv
  have hx := B.exec
  have hb := B.bytes
  have hr := B.returns
  have hts := atoms_spec (ws := WR_ask) B.pre
  have hT : ∀ w ∈ TB, w.before _ s = true := fun w h => hts w (List.mem_cons_of_mem _ h)
  have hown : s.vm.findClass R_R = some m.cls := findClass_of_methodNamed B.named
  have hlocks := B.notSynchronized
  have hS : va_S (fun _ => False) s.heap s.heap [] := va_S.rf
  have hl := lv_entry ([.ref x, .int a1, .int a2]) (n := 3) (Nat.le_of_ble_eq_true rfl)
  rw [lg_entry_eq]
  generalize (lg_sl ([.ref x, .int a1, .int a2]) ++ List.replicate (3 - (lg_sl ([.ref x, .int a1, .int a2])).length) Slot.unset).toArray = ls at hl ⊢
  have hl : lv_has ls 3 [(0, .ref x), (1, .int a1), (2, .int a2)] := hl
  refine lv_aload_n hx hb dR_ask_0 rfl (lv_at hl 0 rfl) ?_
  refine va_get (D := D) (ci := 0) (v := .ref xT) (C := R_R) (T := T_R) (N := 13) hx hb hT in_R hown hK hP 0 rfl rfl 0 (by decide) (hT _ w324) (fun _ h9 => h9) rfl dR_ask_1 ?_
  refine lv_iload_n hx hb dR_ask_4 rfl (lv_at hl 1 rfl) ?_
  refine ro_i (va_Run.run (va_runV (As := [.int a1]) (rest := []) ⟨hx, hb, hml, hown, hT⟩ (k_hasColumn l D cT xT ca ta w r a1) ⟨callB_of 1 hT (tb_gd w621) rfl rfl rfl (hT _ w2) (hT _ w618) hT_hasColumn ⟨Nat.le_of_ble_eq_true rfl, Nat.le_of_ble_eq_true rfl⟩, (hT _ w619), (hT _ w620)⟩ (RO.preV (ci := 2) (q0 := 0) hZ hS (hP.sub (ws' := [(xT, .inr (2, [.ref ca, .ref ta, .int w, .int r]))]) [1] rfl) hK rfl rfl) rfl rfl hl.1 rfl (lv_room (Nat.le_of_ble_eq_true rfl)) dR_ask_5 ⟨Nat.le_of_ble_eq_true rfl, Nat.le_of_ble_eq_true rfl⟩)) ?_
  refine lv_if_eq (tgt := 28) hx hb dR_ask_8 rfl (fun h1 => ?_) (fun h1 => ?_)
  · refine lv_iconst (v := 0) hx hb dR_ask_28 (by decide) ?_
    exact tx_out (tx_goS (As := [.int 0]) (rest := []) ⟨hx, hb, hml, hown, hT⟩ (k_demand_no l D cT 0 hlt rfl) ⟨callB_of 1 hT (tb_gd w510) rfl rfl rfl (hT _ w1) (hT _ w508) hR_demand ⟨Nat.le_of_ble_eq_true rfl, Nat.le_of_ble_eq_true rfl⟩, (hT _ w509)⟩ (RO.preS hZ hS ((show va_P D vwCl [] _ from fun _ _ h => nomatch h)) hK) rfl hl.1 rfl (Nat.le_of_ble_eq_true rfl) dR_ask_29 ⟨Nat.le_of_ble_eq_true rfl, Nat.le_of_ble_eq_true rfl⟩) hno hlocks
  · refine lv_iload_n hx hb dR_ask_11 rfl (lv_at hl 2 rfl) ?_
    refine lv_ldc (v := (-2147483648)) hx hb hown (hT _ w685) dR_ask_12 ?_
    refine lv_icmp_eq (tgt := 24) hx hb dR_ask_14 rfl (fun h2 => ?_) (fun h2 => ?_)
    · refine lv_iconst (v := 1) hx hb dR_ask_24 (by decide) ?_
      refine lv_goto (tgt := 29) hx hb dR_ask_25 rfl ?_
      refine ro_v (va_Run.run (va_runS (As := [.int 1]) (rest := []) ⟨hx, hb, hml, hown, hT⟩ (k_demand_ok l D cT 1 (by decide)) ⟨callB_of 1 hT (tb_gd w510) rfl rfl rfl (hT _ w1) (hT _ w508) hR_demand ⟨Nat.le_of_ble_eq_true rfl, Nat.le_of_ble_eq_true rfl⟩, (hT _ w509)⟩ (RO.preS hZ hS ((show va_P D vwCl [] _ from fun _ _ h => nomatch h)) hK) rfl rfl hl.1 rfl (lv_room (Nat.le_of_ble_eq_true rfl)) dR_ask_29 ⟨Nat.le_of_ble_eq_true rfl, Nat.le_of_ble_eq_true rfl⟩)) ?_
      exact absurd ⟨bi_1 h1, Or.inl h2⟩ hq
    · refine lv_iload_n hx hb dR_ask_17 rfl (lv_at hl 2 rfl) ?_
      refine ro_i (va_Run.run (va_runS (As := [.int a2]) (rest := []) ⟨hx, hb, hml, hown, hT⟩ (k_isNumber l D cT a2) ⟨callB_of 1 hT (tb_gd w630) rfl rfl rfl (hT _ w1) (hT _ w1072) hR_isNumber ⟨Nat.le_of_ble_eq_true rfl, Nat.le_of_ble_eq_true rfl⟩, (hT _ w629)⟩ (RO.preS hZ hS ((show va_P D vwCl [] _ from fun _ _ h => nomatch h)) hK) rfl rfl hl.1 rfl (lv_room (Nat.le_of_ble_eq_true rfl)) dR_ask_18 ⟨Nat.le_of_ble_eq_true rfl, Nat.le_of_ble_eq_true rfl⟩)) ?_
      refine lv_if_eq (tgt := 28) hx hb dR_ask_21 rfl (fun h3 => ?_) (fun h3 => ?_)
      · refine lv_iconst (v := 0) hx hb dR_ask_28 (by decide) ?_
        exact tx_out (tx_goS (As := [.int 0]) (rest := []) ⟨hx, hb, hml, hown, hT⟩ (k_demand_no l D cT 0 hlt rfl) ⟨callB_of 1 hT (tb_gd w510) rfl rfl rfl (hT _ w1) (hT _ w508) hR_demand ⟨Nat.le_of_ble_eq_true rfl, Nat.le_of_ble_eq_true rfl⟩, (hT _ w509)⟩ (RO.preS hZ hS ((show va_P D vwCl [] _ from fun _ _ h => nomatch h)) hK) rfl hl.1 rfl (Nat.le_of_ble_eq_true rfl) dR_ask_29 ⟨Nat.le_of_ble_eq_true rfl, Nat.le_of_ble_eq_true rfl⟩) hno hlocks
      · refine lv_iconst (v := 1) hx hb dR_ask_24 (by decide) ?_
        refine lv_goto (tgt := 29) hx hb dR_ask_25 rfl ?_
        refine ro_v (va_Run.run (va_runS (As := [.int 1]) (rest := []) ⟨hx, hb, hml, hown, hT⟩ (k_demand_ok l D cT 1 (by decide)) ⟨callB_of 1 hT (tb_gd w510) rfl rfl rfl (hT _ w1) (hT _ w508) hR_demand ⟨Nat.le_of_ble_eq_true rfl, Nat.le_of_ble_eq_true rfl⟩, (hT _ w509)⟩ (RO.preS hZ hS ((show va_P D vwCl [] _ from fun _ _ h => nomatch h)) hK) rfl rfl hl.1 rfl (lv_room (Nat.le_of_ble_eq_true rfl)) dR_ask_29 ⟨Nat.le_of_ble_eq_true rfl, Nat.le_of_ble_eq_true rfl⟩)) ?_
        exact absurd ⟨bi_1 h1, Or.inr (bi_1 h3)⟩ hq
set_option maxHeartbeats 4000000 in
set_option maxRecDepth 100000 in
theorem k_hasNode_no (l : Launch) (D : va_G) (cT : Nat → ClassId) (x : Nat) (xT : Nat) (xP : Nat) (xR : Nat) (xG : Nat) (xF : Nat) (tc : Int32) (xO : Nat) (xS : Nat) (xL : Nat) (xC : Nat) (xQ : Nat) (xU : Nat) (xW : Nat) (a1 : Int32) (a2 : Int32) (hq : ¬ (0 ≤ a1 ∧ a1 ≤ (tc - 1))) : Met l yR_hasNode WR_hasNode ({ frames := 1, cells := 0, slots := 0, locals := 22 } : Room) (RO D vwCl [.ref x, .int a1, .int a2] [(x, .inr (0, [.ref xT, .ref xP, .ref xR, .ref xG, .ref xF, .int tc, .ref xO, .ref xS, .ref xL, .ref xC, .ref xQ, .ref xU, .ref xW]))] (TY cT)) (QcRead 0) 0 0 (fun _ => False) := by
  refine Met.ofW (cc := cR_hasNode) (maxL := 3) (ret := (some .boolean)) (by decide) rfl ?_
  intro p e s m args below meth c s₁ B hml hv
  obtain ⟨rfl, hZ, hP, hK⟩ := hv
  have hx := B.exec
  have hb := B.bytes
  have hr := B.returns
  have hts := atoms_spec (ws := WR_hasNode) B.pre
  have hT : ∀ w ∈ TB, w.before _ s = true := fun w h => hts w (List.mem_cons_of_mem _ h)
  have hown : s.vm.findClass R_R = some m.cls := findClass_of_methodNamed B.named
  have hlocks := B.notSynchronized
  have hS : va_S (fun _ => False) s.heap s.heap [] := va_S.rf
  have hl := lv_entry ([.ref x, .int a1, .int a2]) (n := 3) (Nat.le_of_ble_eq_true rfl)
  rw [lg_entry_eq]
  generalize (lg_sl ([.ref x, .int a1, .int a2]) ++ List.replicate (3 - (lg_sl ([.ref x, .int a1, .int a2])).length) Slot.unset).toArray = ls at hl ⊢
  have hl : lv_has ls 3 [(0, .ref x), (1, .int a1), (2, .int a2)] := hl
  refine lv_iload_n hx hb dR_hasNode_0 rfl (lv_at hl 1 rfl) ?_
  refine lv_iconst (v := 0) hx hb dR_hasNode_1 (by decide) ?_
  refine lv_aload_n hx hb dR_hasNode_2 rfl (lv_at hl 0 rfl) ?_
  refine va_get (D := D) (ci := 0) (v := .int tc) (C := R_R) (T := T_R) (N := 13) hx hb hT in_R hown hK hP 0 rfl rfl 5 (by decide) (hT _ w329) (fun _ h9 => h9) rfl dR_hasNode_3 ?_
  refine lv_iconst (v := 1) hx hb dR_hasNode_6 (by decide) ?_
  refine lv_isub hx hb dR_hasNode_7 ?_
  refine ro_i (va_Run.run (va_runS (As := [.int a1, .int 0, .int (tc - 1)]) (rest := []) ⟨hx, hb, hml, hown, hT⟩ (k_isWithin l D cT a1 0 (tc - 1)) ⟨callB_of 3 hT (tb_gd w499) rfl rfl rfl (hT _ w1) (hT _ w497) hR_isWithin ⟨Nat.le_of_ble_eq_true rfl, Nat.le_of_ble_eq_true rfl⟩, (hT _ w498)⟩ (RO.preS hZ hS ((show va_P D vwCl [] _ from fun _ _ h => nomatch h)) hK) rfl rfl hl.1 rfl (lv_room (Nat.le_of_ble_eq_true rfl)) dR_hasNode_8 ⟨Nat.le_of_ble_eq_true rfl, Nat.le_of_ble_eq_true rfl⟩)) ?_
  refine lv_if_eq (tgt := 42) hx hb dR_hasNode_11 rfl (fun _ => ?_) (fun h1 => absurd (bi_f hq) h1)
  refine lv_iconst (v := 0) hx hb dR_hasNode_42 (by decide) ?_
  exact W.zret (v := 0) hx hb hr rfl (fun t ht hW => ⟨rfl, ht⟩) (fun q h => nomatch h) dR_hasNode_43
set_option maxHeartbeats 4000000 in
set_option maxRecDepth 100000 in
theorem k_node_no (l : Launch) (D : va_G) (cT : Nat → ClassId) (x : Nat) (xT : Nat) (xP : Nat) (xR : Nat) (xG : Nat) (xF : Nat) (tc : Int32) (xO : Nat) (xS : Nat) (xL : Nat) (xC : Nat) (xQ : Nat) (xU : Nat) (xW : Nat) (a1 : Int32) (a2 : Int32) (a3 : Int32) (hlt : l.stackTraces = false) (hq : ¬ (0 ≤ a1 ∧ a1 ≤ (tc - 1))) : MetT l yR_node WR_node ({ frames := 7, cells := 1, slots := 6, locals := 111 } : Room) (RO D vwCl [.ref x, .int a1, .int a2, .int a3] [(x, .inr (0, [.ref xT, .ref xP, .ref xR, .ref xG, .ref xF, .int tc, .ref xO, .ref xS, .ref xL, .ref xC, .ref xQ, .ref xU, .ref xW]))] (TY cT)) "java/lang/IllegalArgumentException" 1 6 := by
  refine MetT.ofW (cc := cR_node) (maxL := 5) (ret := (some .int)) (by decide) rfl ?_
  intro p e s m args below meth c s₁ B hml hno hv
  obtain ⟨rfl, hZ, hP, hK⟩ := hv
  have hx := B.exec
  have hb := B.bytes
  have hr := B.returns
  have hts := atoms_spec (ws := WR_node) B.pre
  have hT : ∀ w ∈ TB, w.before _ s = true := fun w h => hts w (List.mem_cons_of_mem _ h)
  have hown : s.vm.findClass R_R = some m.cls := findClass_of_methodNamed B.named
  have hlocks := B.notSynchronized
  have hS : va_S (fun _ => False) s.heap s.heap [] := va_S.rf
  have hl := lv_entry ([.ref x, .int a1, .int a2, .int a3]) (n := 5) (Nat.le_of_ble_eq_true rfl)
  rw [lg_entry_eq]
  generalize (lg_sl ([.ref x, .int a1, .int a2, .int a3]) ++ List.replicate (5 - (lg_sl ([.ref x, .int a1, .int a2, .int a3])).length) Slot.unset).toArray = ls at hl ⊢
  have hl : lv_has ls 5 [(0, .ref x), (1, .int a1), (2, .int a2), (3, .int a3)] := hl
  refine lv_aload_n hx hb dR_node_0 rfl (lv_at hl 0 rfl) ?_
  refine lv_iload_n hx hb dR_node_1 rfl (lv_at hl 1 rfl) ?_
  refine lv_iload_n hx hb dR_node_2 rfl (lv_at hl 2 rfl) ?_
  refine ro_i (va_Run.run (va_runV (As := [.int a1, .int a2]) (rest := []) ⟨hx, hb, hml, hown, hT⟩ (k_hasNode_no l D cT x xT xP xR xG xF tc xO xS xL xC xQ xU xW a1 a2 hq) ⟨callB_of 2 hT (tb_gd w1004) rfl rfl rfl (hT _ w1) (hT _ w1001) hR_hasNode ⟨Nat.le_of_ble_eq_true rfl, Nat.le_of_ble_eq_true rfl⟩, (hT _ w1003), (hT _ wp24)⟩ (RO.preV (ci := 0) (q0 := 0) hZ hS (hP.sub (ws' := [(x, .inr (0, [.ref xT, .ref xP, .ref xR, .ref xG, .ref xF, .int tc, .ref xO, .ref xS, .ref xL, .ref xC, .ref xQ, .ref xU, .ref xW]))]) [0] rfl) hK rfl rfl) rfl rfl hl.1 rfl (lv_room (Nat.le_of_ble_eq_true rfl)) dR_node_3 ⟨Nat.le_of_ble_eq_true rfl, Nat.le_of_ble_eq_true rfl⟩)) ?_
  exact tx_out (tx_goS (As := [.int 0]) (rest := []) ⟨hx, hb, hml, hown, hT⟩ (k_demand_no l D cT 0 hlt rfl) ⟨callB_of 1 hT (tb_gd w510) rfl rfl rfl (hT _ w1) (hT _ w508) hR_demand ⟨Nat.le_of_ble_eq_true rfl, Nat.le_of_ble_eq_true rfl⟩, (hT _ w509)⟩ (RO.preS hZ hS ((show va_P D vwCl [] _ from fun _ _ h => nomatch h)) hK) rfl hl.1 rfl (Nat.le_of_ble_eq_true rfl) dR_node_6 ⟨Nat.le_of_ble_eq_true rfl, Nat.le_of_ble_eq_true rfl⟩) hno hlocks
set_option maxHeartbeats 4000000 in
set_option maxRecDepth 100000 in
theorem k_tell_no (l : Launch) (D : va_G) (cT : Nat → ClassId) (x : Nat) (xT : Nat) (xP : Nat) (xR : Nat) (xG : Nat) (xF : Nat) (tc : Int32) (xO : Nat) (xS : Nat) (xL : Nat) (xC : Nat) (xQ : Nat) (xU : Nat) (xW : Nat) (a1 : Int32) (a2 : Int32) (hlt : l.stackTraces = false) (hq : ¬ (0 ≤ a1 ∧ a1 ≤ (tc - 1))) : MetT l yR_tell WR_tell ({ frames := 7, cells := 1, slots := 6, locals := 111 } : Room) (RO D vwCl [.ref x, .int a1, .int a2] [(x, .inr (0, [.ref xT, .ref xP, .ref xR, .ref xG, .ref xF, .int tc, .ref xO, .ref xS, .ref xL, .ref xC, .ref xQ, .ref xU, .ref xW]))] (TY cT)) "java/lang/IllegalArgumentException" 1 6 := by
  refine MetT.ofW (cc := cR_tell) (maxL := 5) (ret := (some .int)) (by decide) rfl ?_
  intro p e s m args below meth c s₁ B hml hno hv
  obtain ⟨rfl, hZ, hP, hK⟩ := hv
  have hx := B.exec
  have hb := B.bytes
  have hr := B.returns
  have hts := atoms_spec (ws := WR_tell) B.pre
  have hT : ∀ w ∈ TB, w.before _ s = true := fun w h => hts w (List.mem_cons_of_mem _ h)
  have hown : s.vm.findClass R_R = some m.cls := findClass_of_methodNamed B.named
  have hlocks := B.notSynchronized
  have hS : va_S (fun _ => False) s.heap s.heap [] := va_S.rf
  have hl := lv_entry ([.ref x, .int a1, .int a2]) (n := 5) (Nat.le_of_ble_eq_true rfl)
  rw [lg_entry_eq]
  generalize (lg_sl ([.ref x, .int a1, .int a2]) ++ List.replicate (5 - (lg_sl ([.ref x, .int a1, .int a2])).length) Slot.unset).toArray = ls at hl ⊢
  have hl : lv_has ls 5 [(0, .ref x), (1, .int a1), (2, .int a2)] := hl
  refine lv_aload_n hx hb dR_tell_0 rfl (lv_at hl 0 rfl) ?_
  refine lv_iload_n hx hb dR_tell_1 rfl (lv_at hl 1 rfl) ?_
  refine lv_iload_n hx hb dR_tell_2 rfl (lv_at hl 2 rfl) ?_
  refine ro_i (va_Run.run (va_runV (As := [.int a1, .int a2]) (rest := []) ⟨hx, hb, hml, hown, hT⟩ (k_hasNode_no l D cT x xT xP xR xG xF tc xO xS xL xC xQ xU xW a1 a2 hq) ⟨callB_of 2 hT (tb_gd w1004) rfl rfl rfl (hT _ w1) (hT _ w1001) hR_hasNode ⟨Nat.le_of_ble_eq_true rfl, Nat.le_of_ble_eq_true rfl⟩, (hT _ w1003), (hT _ wp24)⟩ (RO.preV (ci := 0) (q0 := 0) hZ hS (hP.sub (ws' := [(x, .inr (0, [.ref xT, .ref xP, .ref xR, .ref xG, .ref xF, .int tc, .ref xO, .ref xS, .ref xL, .ref xC, .ref xQ, .ref xU, .ref xW]))]) [0] rfl) hK rfl rfl) rfl rfl hl.1 rfl (lv_room (Nat.le_of_ble_eq_true rfl)) dR_tell_3 ⟨Nat.le_of_ble_eq_true rfl, Nat.le_of_ble_eq_true rfl⟩)) ?_
  exact tx_out (tx_goS (As := [.int 0]) (rest := []) ⟨hx, hb, hml, hown, hT⟩ (k_demand_no l D cT 0 hlt rfl) ⟨callB_of 1 hT (tb_gd w510) rfl rfl rfl (hT _ w1) (hT _ w508) hR_demand ⟨Nat.le_of_ble_eq_true rfl, Nat.le_of_ble_eq_true rfl⟩, (hT _ w509)⟩ (RO.preS hZ hS ((show va_P D vwCl [] _ from fun _ _ h => nomatch h)) hK) rfl hl.1 rfl (Nat.le_of_ble_eq_true rfl) dR_tell_6 ⟨Nat.le_of_ble_eq_true rfl, Nat.le_of_ble_eq_true rfl⟩) hno hlocks
set_option maxHeartbeats 4000000 in
set_option maxRecDepth 100000 in
theorem k_count_no (l : Launch) (D : va_G) (cT : Nat → ClassId) (x : Nat) (xT : Nat) (xP : Nat) (xR : Nat) (xG : Nat) (xF : Nat) (tc : Int32) (xO : Nat) (xS : Nat) (xL : Nat) (xC : Nat) (xQ : Nat) (xU : Nat) (xW : Nat) (a1 : Int32) (hlt : l.stackTraces = false) (hq : a1.toInt < 0 ∨ 4 < a1.toInt) : MetT l yR_count WR_count ({ frames := 6, cells := 1, slots := 6, locals := 91 } : Room) (RO D vwCl [.ref x, .int a1] [(x, .inr (0, [.ref xT, .ref xP, .ref xR, .ref xG, .ref xF, .int tc, .ref xO, .ref xS, .ref xL, .ref xC, .ref xQ, .ref xU, .ref xW]))] (TY cT)) "java/lang/IllegalArgumentException" 1 6 := by
  refine MetT.ofW (cc := cR_count) (maxL := 2) (ret := (some .int)) (by decide) rfl ?_
  intro p e s m args below meth c s₁ B hml hno hv
  obtain ⟨rfl, hZ, hP, hK⟩ := hv
  have hx := B.exec
  have hb := B.bytes
  have hr := B.returns
  have hts := atoms_spec (ws := WR_count) B.pre
  have hT : ∀ w ∈ TB, w.before _ s = true := fun w h => hts w (List.mem_cons_of_mem _ h)
  have hown : s.vm.findClass R_R = some m.cls := findClass_of_methodNamed B.named
  have hlocks := B.notSynchronized
  have hS : va_S (fun _ => False) s.heap s.heap [] := va_S.rf
  have hl := lv_entry ([.ref x, .int a1]) (n := 2) (Nat.le_of_ble_eq_true rfl)
  rw [lg_entry_eq]
  generalize (lg_sl ([.ref x, .int a1]) ++ List.replicate (2 - (lg_sl ([.ref x, .int a1])).length) Slot.unset).toArray = ls at hl ⊢
  have hl : lv_has ls 2 [(0, .ref x), (1, .int a1)] := hl
  refine lv_iload_n hx hb dR_count_0 rfl (lv_at hl 1 rfl) ?_
  refine lv_tableOut (tgt := 70) hx hb dR_count_1 hq rfl ?_
  exact tx_throw (names := ["java/lang/RuntimeException", "java/lang/Exception"]) hx hb hlt hown (by decide +kernel) (by decide +kernel) (hT _ w511) (hT _ w17) (at_R_249 hT hZ) (hl.1.trans hml.symm) dR_count_70 dR_count_73 dR_count_74 dR_count_77 hno (Nat.le_of_ble_eq_true rfl) (Nat.le_of_ble_eq_true rfl) (Nat.le_of_ble_eq_true rfl) (Nat.le_of_ble_eq_true rfl) hlocks
set_option maxHeartbeats 4000000 in
set_option maxRecDepth 100000 in
theorem k_train_none (l : Launch) (D : va_G) (cT : Nat → ClassId) (x : Nat) (xT : Nat) (xP : Nat) (xR : Nat) (xG : Nat) (xF : Nat) (tc : Int32) (xO : Nat) (xS : Nat) (xL : Nat) (xC : Nat) (xQ : Nat) (xU : Nat) (xW : Nat) (ca : Nat) (ta : Nat) (w : Int32) (r : Int32) (pd : Int32) (pl : Int32) (pw : Int32) (pu : Int32) (pv : Int32) (ps : Int64) (pc0 : Int32) (a1 : Int32) (hlt : l.stackTraces = false) (h1 : 1 ≤ a1 ∧ a1 ≤ 16) (hq : ps &&& ((1 <<< ((r : Int32).toInt64 &&& 63)) - 1) = 0) : MetT l yR_train WR_train ({ frames := 7, cells := 1, slots := 6, locals := 111 } : Room) (RO D vwCl [.ref x, .int a1] [(x, .inr (0, [.ref xT, .ref xP, .ref xR, .ref xG, .ref xF, .int tc, .ref xO, .ref xS, .ref xL, .ref xC, .ref xQ, .ref xU, .ref xW])), (xT, .inr (2, [.ref ca, .ref ta, .int w, .int r])), (xP, .inr (3, [.int pd, .int pl, .int pw, .int pu, .int pv, .long ps, .int pc0]))] (TY cT)) "java/lang/IllegalStateException" 1 6 := by
  refine MetT.ofW (cc := cR_train) (maxL := 7) (ret := (some .int)) (by decide) rfl ?_
  intro p e s m args below meth c s₁ B hml hno hv
  obtain ⟨rfl, hZ, hP, hK⟩ := hv
  have hx := B.exec
  have hb := B.bytes
  have hr := B.returns
  have hts := atoms_spec (ws := WR_train) B.pre
  have hT : ∀ w ∈ TB, w.before _ s = true := fun w h => hts w (List.mem_cons_of_mem _ h)
  have hown : s.vm.findClass R_R = some m.cls := findClass_of_methodNamed B.named
  have hlocks := B.notSynchronized
  have hS : va_S (fun _ => False) s.heap s.heap [] := va_S.rf
  have hl := lv_entry ([.ref x, .int a1]) (n := 7) (Nat.le_of_ble_eq_true rfl)
  rw [lg_entry_eq]
  generalize (lg_sl ([.ref x, .int a1]) ++ List.replicate (7 - (lg_sl ([.ref x, .int a1])).length) Slot.unset).toArray = ls at hl ⊢
  have hl : lv_has ls 7 [(0, .ref x), (1, .int a1)] := hl
  refine lv_iload_n hx hb dR_train_0 rfl (lv_at hl 1 rfl) ?_
  refine lv_iconst (v := 1) hx hb dR_train_1 (by decide) ?_
  refine lv_bipush (v := 16) hx hb dR_train_2 (by decide) ?_
  refine ro_i (va_Run.run (va_runS (As := [.int a1, .int 1, .int 16]) (rest := []) ⟨hx, hb, hml, hown, hT⟩ (k_isWithin l D cT a1 1 16) ⟨callB_of 3 hT (tb_gd w499) rfl rfl rfl (hT _ w1) (hT _ w497) hR_isWithin ⟨Nat.le_of_ble_eq_true rfl, Nat.le_of_ble_eq_true rfl⟩, (hT _ w498)⟩ (RO.preS hZ hS ((show va_P D vwCl [] _ from fun _ _ h => nomatch h)) hK) rfl rfl hl.1 rfl (lv_room (Nat.le_of_ble_eq_true rfl)) dR_train_4 ⟨Nat.le_of_ble_eq_true rfl, Nat.le_of_ble_eq_true rfl⟩)) ?_
  refine ro_v (va_Run.run (va_runS (As := [.int (bi (1 ≤ a1 ∧ a1 ≤ 16))]) (rest := []) ⟨hx, hb, hml, hown, hT⟩ (k_demand_ok l D cT (bi (1 ≤ a1 ∧ a1 ≤ 16)) (by rw [bi_t h1]; decide)) ⟨callB_of 1 hT (tb_gd w510) rfl rfl rfl (hT _ w1) (hT _ w508) hR_demand ⟨Nat.le_of_ble_eq_true rfl, Nat.le_of_ble_eq_true rfl⟩, (hT _ w509)⟩ (RO.preS hZ hS ((show va_P D vwCl [] _ from fun _ _ h => nomatch h)) hK) rfl rfl hl.1 rfl (lv_room (Nat.le_of_ble_eq_true rfl)) dR_train_7 ⟨Nat.le_of_ble_eq_true rfl, Nat.le_of_ble_eq_true rfl⟩)) ?_
  refine lv_aload_n hx hb dR_train_10 rfl (lv_at hl 0 rfl) ?_
  refine va_get (D := D) (ci := 0) (v := .ref xP) (C := R_R) (T := T_R) (N := 13) hx hb hT in_R hown hK hP 0 rfl rfl 1 (by decide) (hT _ w325) (fun _ h9 => h9) rfl dR_train_11 ?_
  refine va_get (D := D) (ci := 3) (v := .long ps) (C := R_P) (T := T_P) (N := 7) hx hb hT in_P hown hK hP 2 rfl rfl 5 (by decide) (hT _ w116) (fun _ h9 => h9) rfl dR_train_14 ?_
  refine lv_aload_n hx hb dR_train_17 rfl (lv_at hl 0 rfl) ?_
  refine va_get (D := D) (ci := 0) (v := .ref xT) (C := R_R) (T := T_R) (N := 13) hx hb hT in_R hown hK hP 0 rfl rfl 0 (by decide) (hT _ w324) (fun _ h9 => h9) rfl dR_train_18 ?_
  refine ro_l (va_Run.run (va_runV (As := []) (rest := [.long ps]) ⟨hx, hb, hml, hown, hT⟩ (k_rowBits l D cT xT ca ta w r) ⟨callB_of 0 hT (tb_gd w371) rfl rfl rfl (hT _ w2) (hT _ w368) hT_rowBits ⟨Nat.le_of_ble_eq_true rfl, Nat.le_of_ble_eq_true rfl⟩, (hT _ w369), (hT _ w370)⟩ (RO.preV (ci := 2) (q0 := 0) hZ hS (hP.sub (ws' := [(xT, .inr (2, [.ref ca, .ref ta, .int w, .int r]))]) [1] rfl) hK rfl rfl) rfl rfl hl.1 rfl (lv_room (Nat.le_of_ble_eq_true rfl)) dR_train_21 ⟨Nat.le_of_ble_eq_true rfl, Nat.le_of_ble_eq_true rfl⟩)) ?_
  refine lv_land hx hb dR_train_24 ?_
  refine lv_lstore_n hx hb dR_train_25 rfl hl (by decide) rfl (fun ls hl => ?_)
  have hl : lv_has ls 7 [(2, .long (ps &&& ((1 <<< ((r : Int32).toInt64 &&& 63)) - 1))), (0, .ref x), (1, .int a1)] := hl
  refine lv_lload_n hx hb dR_train_26 rfl (lv_at hl 0 rfl) ?_
  refine lv_lconst (v := 0) hx hb dR_train_27 (by decide) ?_
  refine W.lcmp hx hb dR_train_28 ?_
  refine lv_if_eq (tgt := 54) hx hb dR_train_29 rfl (fun _ => ?_) (fun h1 => absurd (by rw [hq]; decide) h1)
  refine lv_iconst (v := 0) hx hb dR_train_54 (by decide) ?_
  exact tx_out (tx_goS (As := [.int 0]) (rest := []) ⟨hx, hb, hml, hown, hT⟩ (k_demandState_no l D cT 0 hlt rfl) ⟨callB_of 1 hT (tb_gd w586) rfl rfl rfl (hT _ w1) (hT _ w584) hR_demandState ⟨Nat.le_of_ble_eq_true rfl, Nat.le_of_ble_eq_true rfl⟩, (hT _ w585)⟩ (RO.preS hZ hS ((show va_P D vwCl [] _ from fun _ _ h => nomatch h)) hK) rfl hl.1 rfl (Nat.le_of_ble_eq_true rfl) dR_train_55 ⟨Nat.le_of_ble_eq_true rfl, Nat.le_of_ble_eq_true rfl⟩) hno hlocks
