set_option maxHeartbeats 4000000 in
set_option maxRecDepth 100000 in
theorem y_node0 (l : Launch) (D : va_G) (cT : Nat → ClassId) (y : Nat) (yr : Nat → Nat) (yi : Nat → Int32) (ysb : Int64) (ybs : Int64) (nmA : Nat → Int32) (fx : Nat → Int32) (t : Nat) (k : Nat) (m9 : Nat) (hc0 : 0 ≤ nI t ∧ nI t ≤ yi 17 - 1) (ht16 : t < 16) (hm9 : nmA t = nI m9) (hm31 : m9 ≤ 31) (hk9 : k < m9) (sz : Nat) : Met l yM_node WM_node ({ frames := 3, cells := 0, slots := 0, locals := 65 } : Room) (RW D vwCl [.ref y, .int (nI t), .int (nI k), .int 0] [(y, .inr (11, MO yr yi ysb ybs)), (yr 18, .inl (cT 0, 16, .inl nmA)), (yr 19, .inl (cT 0, 496, .inl fx))] (TY cT) sz) (va_Qi (fun (r9 : Int32) (u9 : Unit) => r9 = fx (31 * t + k)) (BW D vwCl (va_A [(y, .inr (11, MO yr yi ysb ybs)), (yr 18, .inl (cT 0, 16, .inl nmA)), (yr 19, .inl (cT 0, 496, .inl fx))] sz) (fun u9 : Unit => [(y, .inr (11, MO yr (va_up yi 1 0) ysb ybs)), (yr 18, .inl (cT 0, 16, .inl nmA)), (yr 19, .inl (cT 0, 496, .inl fx))])) (va_A [(y, .inr (11, MO yr yi ysb ybs)), (yr 18, .inl (cT 0, 16, .inl nmA)), (yr 19, .inl (cT 0, 496, .inl fx))] sz)) 0 0 (va_A [(y, .inr (11, MO yr yi ysb ybs)), (yr 18, .inl (cT 0, 16, .inl nmA)), (yr 19, .inl (cT 0, 496, .inl fx))] sz) := by
  refine Met.ofW (cc := cM_node) (maxL := 5) (ret := (some .int)) (by decide) rfl ?_
  intro p e s m args below meth c s₁ B hml hv
  obtain ⟨rfl, hsz, hZ, hP, hK, hD0⟩ := hv
  have hx := B.exec
  have hb := B.bytes
  have hr := B.returns
  have hts := atoms_spec (ws := WM_node) B.pre
  have hT : ∀ w ∈ TB, w.before _ s = true := fun w h => hts w (List.mem_cons_of_mem _ h)
  have hown : s.vm.findClass R_M = some m.cls := findClass_of_methodNamed B.named
  have hlocks := B.notSynchronized
  subst hsz
  have hD := hD0.self (sz := s.heap.size)
  generalize hAe : va_A [(y, .inr (11, MO yr yi ysb ybs)), (yr 18, .inl (cT 0, 16, .inl nmA)), (yr 19, .inl (cT 0, 496, .inl fx))] s.heap.size = A at hD hZ ⊢
  have hA : ∀ q : Nat, s.heap.size ≤ q → A q := fun q h => by rw [← hAe]; exact Or.inr h
  have hS : va_S A s.heap s.heap [] := va_S.rf
  have hl := lv_entry ([.ref y, .int (nI t), .int (nI k), .int 0]) (n := 5) (Nat.le_of_ble_eq_true rfl)
  rw [lg_entry_eq]
  generalize (lg_sl ([.ref y, .int (nI t), .int (nI k), .int 0]) ++ List.replicate (5 - (lg_sl ([.ref y, .int (nI t), .int (nI k), .int 0])).length) Slot.unset).toArray = ls at hl ⊢
  have hl : lv_has ls 5 [(0, .ref y), (1, .int (nI t)), (2, .int (nI k)), (3, .int 0)] := hl
  refine lv_aload_n hx hb dM_node_0 rfl (lv_at hl 0 rfl) ?_
  refine lv_aload_n hx hb dM_node_1 rfl (lv_at hl 0 rfl) ?_
  refine lv_iload_n hx hb dM_node_2 rfl (lv_at hl 1 rfl) ?_
  refine lv_iload_n hx hb dM_node_3 rfl (lv_at hl 2 rfl) ?_
  refine ro_i (va_Run.run (va_runV (As := [.int (nI t), .int (nI k)]) (rest := [.ref y]) ⟨hx, hb, hml, hown, hT⟩ (m_noNode_ok l D cT y yr yi ysb ybs nmA t k m9 hc0 ht16 hm9 hm31 hk9) ⟨callB_of 2 hT (tb_gd w1535) rfl rfl rfl (hT _ w13) (hT _ w1532) hM_noNode ⟨Nat.le_of_ble_eq_true rfl, Nat.le_of_ble_eq_true rfl⟩, (hT _ w1534), (hT _ wp60)⟩ (RO.preV (ci := 11) (q0 := 0) hZ hS (hP.sub (ws' := [(y, .inr (11, MO yr yi ysb ybs)), (yr 18, .inl (cT 0, 16, .inl nmA))]) [0, 1] rfl) hK rfl rfl) rfl rfl hl.1 rfl (lv_room (Nat.le_of_ble_eq_true rfl)) dM_node_4 ⟨Nat.le_of_ble_eq_true rfl, Nat.le_of_ble_eq_true rfl⟩)) ?_
  refine lv_if_ne (tgt := 20) hx hb dM_node_7 rfl (fun h1 => absurd (by decide) h1) (fun _ => ?_)
  refine lv_iload_n hx hb dM_node_10 rfl (lv_at hl 3 rfl) ?_
  refine lv_iconst (v := 0) hx hb dM_node_11 (by decide) ?_
  refine lv_bipush (v := 7) hx hb dM_node_12 (by decide) ?_
  refine ro_i (va_Run.run (va_runS (As := [.int 0, .int 0, .int 7]) (rest := [.ref y]) ⟨hx, hb, hml, hown, hT⟩ (m_in l D cT 0 0 7) ⟨callB_of 3 hT (tb_gd w1297) rfl rfl rfl (hT _ w13) (hT _ w1295) hM_in ⟨Nat.le_of_ble_eq_true rfl, Nat.le_of_ble_eq_true rfl⟩, (hT _ w1296)⟩ (RO.preS hZ hS ((show va_P D vwCl [] _ from fun _ _ h => nomatch h)) hK) rfl rfl hl.1 rfl (lv_room (Nat.le_of_ble_eq_true rfl)) dM_node_14 ⟨Nat.le_of_ble_eq_true rfl, Nat.le_of_ble_eq_true rfl⟩)) ?_
  refine lv_if_ne (tgt := 24) hx hb dM_node_17 rfl (fun _ => ?_) (fun h2 => absurd h2 (by rw [bi_t (by decide)]; decide))
  refine lv_iconst (v := 0) hx hb dM_node_24 (by decide) ?_
  refine rw_i (wc := [(y, .inr (11, MO yr yi ysb ybs))]) (wr := [(yr 18, .inl (cT 0, 16, .inl nmA)), (yr 19, .inl (cT 0, 496, .inl fx))]) hP hD hS hA [0] [1, 2] rfl rfl (by decide) (by decide) (va_runV (As := [.int 0]) (rest := []) ⟨hx, hb, hml, hown, hT⟩ (m_ref0 l D cT y yr yi ysb ybs _) ⟨callB_of 1 hT (tb_gd w1301) rfl rfl rfl (hT _ w13) (hT _ w1298) hM_refused ⟨Nat.le_of_ble_eq_true rfl, Nat.le_of_ble_eq_true rfl⟩, (hT _ w1300), (hT _ wp29)⟩ (RW.preV (ci := 11) (q0 := 0) hZ hS (va_free (wc := [(y, .inr (11, MO yr yi ysb ybs))]) hD hS hA [0] rfl) (hP.sub (ws' := [(y, .inr (11, MO yr yi ysb ybs))]) [0] rfl) hK (hD.sub (ws' := [(y, .inr (11, MO yr yi ysb ybs))]) [0] (by decide) rfl) rfl rfl) rfl rfl hl.1 rfl (lv_room (Nat.le_of_ble_eq_true rfl)) dM_node_25 ⟨Nat.le_of_ble_eq_true rfl, Nat.le_of_ble_eq_true rfl⟩) (fun ru3 u9 H locs hpu3 hP hD hS => ?_)
  have hpu3 : ru3 = 0 := hpu3
  have hP : va_P D vwCl [(yr 18, .inl (cT 0, 16, .inl nmA)), (yr 19, .inl (cT 0, 496, .inl fx)), (y, .inr (11, MO yr (va_up yi 1 0) ysb ybs))] _ := hP
  have hD : va_D A [(yr 18, .inl (cT 0, 16, .inl nmA)), (yr 19, .inl (cT 0, 496, .inl fx)), (y, .inr (11, MO yr (va_up yi 1 0) ysb ybs))] := hD
  refine lv_topi (fun y9 e9 => ?_)
  cases (show y9 = 0 from e9.trans hpu3)
  refine lv_if_eq (tgt := 33) hx hb dM_node_28 rfl (fun _ => ?_) (fun h4 => absurd (by decide) h4)
  refine lv_bipush (v := 31) hx hb dM_node_33 (by decide) ?_
  refine lv_iload_n hx hb dM_node_35 rfl (lv_at hl 1 rfl) ?_
  refine lv_imul hx hb dM_node_36 ?_
  refine lv_topi (fun y9 e9 => ?_)
  cases (show y9 = nI (31 * t) from e9.trans (pk_mul 31 t))
  refine lv_iload_n hx hb dM_node_37 rfl (lv_at hl 2 rfl) ?_
  refine lv_iadd hx hb dM_node_38 ?_
  refine lv_topi (fun y9 e9 => ?_)
  cases (show y9 = nI ((31 * t) + k) from e9.trans (nI_add (31 * t) k))
  refine lv_istore hx hb dM_node_39 hl (by decide) rfl (fun ls hl => ?_)
  have hl : lv_has ls 5 [(4, .int (nI ((31 * t) + k))), (0, .ref y), (1, .int (nI t)), (2, .int (nI k)), (3, .int 0)] := hl
  refine lv_iload_n hx hb dM_node_41 rfl (lv_at hl 4 rfl) ?_
  refine lv_tableIn (off := 42) (tgt := 84) hx hb dM_node_42 (by decide) (by decide) rfl rfl ?_
  refine lv_aload_n hx hb dM_node_84 rfl (lv_at hl 1 rfl) ?_
  refine va_get (D := D) (ci := 11) (v := .ref (yr 19)) (C := R_M) (T := T_M) (N := 60) hx hb hT in_M hown hK hP 2 rfl rfl 19 (by decide) (hT _ w1123) (fun _ h9 => h9) rfl dM_node_85 ?_
  refine lv_iload hx hb dM_node_88 (lv_at hl 0 rfl) ?_
  refine lq_iald (j := (31 * t) + k) hx hb hK hP 1 0 rfl rfl rfl (by omega) (by omega) dM_node_90 ?_
  have hP9 := hP.sub (ws' := [(y, .inr (11, MO yr (va_up yi 1 0) ysb ybs)), (yr 18, .inl (cT 0, 16, .inl nmA)), (yr 19, .inl (cT 0, 496, .inl fx))]) [2, 0, 1] rfl
  have hD9 := hD.sub (ws' := [(y, .inr (11, MO yr (va_up yi 1 0) ysb ybs)), (yr 18, .inl (cT 0, 16, .inl nmA)), (yr 19, .inl (cT 0, 496, .inl fx))]) [2, 0, 1] (by decide) rfl
  refine W.widen (k := 0) (n := 0) (Nat.le_of_ble_eq_true rfl) (Nat.le_of_ble_eq_true rfl) ?_
  exact W.iret (v := fx ((31 * t) + k)) hx hb hr (fun t9 ht9 hW9 => ⟨⟨fx ((31 * t) + k), (), rfl, (show (fx ((31 * t) + k)) = fx (31 * t + k) from rfl), by rw [ht9]; exact hP9, hD9⟩, hS.F ht9⟩) hS.2.2 dM_node_91
set_option maxHeartbeats 4000000 in
set_option maxRecDepth 100000 in
theorem y_node1 (l : Launch) (D : va_G) (cT : Nat → ClassId) (y : Nat) (yr : Nat → Nat) (yi : Nat → Int32) (ysb : Int64) (ybs : Int64) (nmA : Nat → Int32) (fx : Nat → Int32) (t : Nat) (k : Nat) (m9 : Nat) (hc0 : 0 ≤ nI t ∧ nI t ≤ yi 17 - 1) (ht16 : t < 16) (hm9 : nmA t = nI m9) (hm31 : m9 ≤ 31) (hk9 : k < m9) (sz : Nat) : Met l yM_node WM_node ({ frames := 3, cells := 0, slots := 0, locals := 65 } : Room) (RW D vwCl [.ref y, .int (nI t), .int (nI k), .int 1] [(y, .inr (11, MO yr yi ysb ybs)), (yr 18, .inl (cT 0, 16, .inl nmA)), (yr 20, .inl (cT 0, 496, .inl fx))] (TY cT) sz) (va_Qi (fun (r9 : Int32) (u9 : Unit) => r9 = fx (31 * t + k)) (BW D vwCl (va_A [(y, .inr (11, MO yr yi ysb ybs)), (yr 18, .inl (cT 0, 16, .inl nmA)), (yr 20, .inl (cT 0, 496, .inl fx))] sz) (fun u9 : Unit => [(y, .inr (11, MO yr (va_up yi 1 0) ysb ybs)), (yr 18, .inl (cT 0, 16, .inl nmA)), (yr 20, .inl (cT 0, 496, .inl fx))])) (va_A [(y, .inr (11, MO yr yi ysb ybs)), (yr 18, .inl (cT 0, 16, .inl nmA)), (yr 20, .inl (cT 0, 496, .inl fx))] sz)) 0 0 (va_A [(y, .inr (11, MO yr yi ysb ybs)), (yr 18, .inl (cT 0, 16, .inl nmA)), (yr 20, .inl (cT 0, 496, .inl fx))] sz) := by
  refine Met.ofW (cc := cM_node) (maxL := 5) (ret := (some .int)) (by decide) rfl ?_
  intro p e s m args below meth c s₁ B hml hv
  obtain ⟨rfl, hsz, hZ, hP, hK, hD0⟩ := hv
  have hx := B.exec
  have hb := B.bytes
  have hr := B.returns
  have hts := atoms_spec (ws := WM_node) B.pre
  have hT : ∀ w ∈ TB, w.before _ s = true := fun w h => hts w (List.mem_cons_of_mem _ h)
  have hown : s.vm.findClass R_M = some m.cls := findClass_of_methodNamed B.named
  have hlocks := B.notSynchronized
  subst hsz
  have hD := hD0.self (sz := s.heap.size)
  generalize hAe : va_A [(y, .inr (11, MO yr yi ysb ybs)), (yr 18, .inl (cT 0, 16, .inl nmA)), (yr 20, .inl (cT 0, 496, .inl fx))] s.heap.size = A at hD hZ ⊢
  have hA : ∀ q : Nat, s.heap.size ≤ q → A q := fun q h => by rw [← hAe]; exact Or.inr h
  have hS : va_S A s.heap s.heap [] := va_S.rf
  have hl := lv_entry ([.ref y, .int (nI t), .int (nI k), .int 1]) (n := 5) (Nat.le_of_ble_eq_true rfl)
  rw [lg_entry_eq]
  generalize (lg_sl ([.ref y, .int (nI t), .int (nI k), .int 1]) ++ List.replicate (5 - (lg_sl ([.ref y, .int (nI t), .int (nI k), .int 1])).length) Slot.unset).toArray = ls at hl ⊢
  have hl : lv_has ls 5 [(0, .ref y), (1, .int (nI t)), (2, .int (nI k)), (3, .int 1)] := hl
  refine lv_aload_n hx hb dM_node_0 rfl (lv_at hl 0 rfl) ?_
  refine lv_aload_n hx hb dM_node_1 rfl (lv_at hl 0 rfl) ?_
  refine lv_iload_n hx hb dM_node_2 rfl (lv_at hl 1 rfl) ?_
  refine lv_iload_n hx hb dM_node_3 rfl (lv_at hl 2 rfl) ?_
  refine ro_i (va_Run.run (va_runV (As := [.int (nI t), .int (nI k)]) (rest := [.ref y]) ⟨hx, hb, hml, hown, hT⟩ (m_noNode_ok l D cT y yr yi ysb ybs nmA t k m9 hc0 ht16 hm9 hm31 hk9) ⟨callB_of 2 hT (tb_gd w1535) rfl rfl rfl (hT _ w13) (hT _ w1532) hM_noNode ⟨Nat.le_of_ble_eq_true rfl, Nat.le_of_ble_eq_true rfl⟩, (hT _ w1534), (hT _ wp60)⟩ (RO.preV (ci := 11) (q0 := 0) hZ hS (hP.sub (ws' := [(y, .inr (11, MO yr yi ysb ybs)), (yr 18, .inl (cT 0, 16, .inl nmA))]) [0, 1] rfl) hK rfl rfl) rfl rfl hl.1 rfl (lv_room (Nat.le_of_ble_eq_true rfl)) dM_node_4 ⟨Nat.le_of_ble_eq_true rfl, Nat.le_of_ble_eq_true rfl⟩)) ?_
  refine lv_if_ne (tgt := 20) hx hb dM_node_7 rfl (fun h1 => absurd (by decide) h1) (fun _ => ?_)
  refine lv_iload_n hx hb dM_node_10 rfl (lv_at hl 3 rfl) ?_
  refine lv_iconst (v := 0) hx hb dM_node_11 (by decide) ?_
  refine lv_bipush (v := 7) hx hb dM_node_12 (by decide) ?_
  refine ro_i (va_Run.run (va_runS (As := [.int 1, .int 0, .int 7]) (rest := [.ref y]) ⟨hx, hb, hml, hown, hT⟩ (m_in l D cT 1 0 7) ⟨callB_of 3 hT (tb_gd w1297) rfl rfl rfl (hT _ w13) (hT _ w1295) hM_in ⟨Nat.le_of_ble_eq_true rfl, Nat.le_of_ble_eq_true rfl⟩, (hT _ w1296)⟩ (RO.preS hZ hS ((show va_P D vwCl [] _ from fun _ _ h => nomatch h)) hK) rfl rfl hl.1 rfl (lv_room (Nat.le_of_ble_eq_true rfl)) dM_node_14 ⟨Nat.le_of_ble_eq_true rfl, Nat.le_of_ble_eq_true rfl⟩)) ?_
  refine lv_if_ne (tgt := 24) hx hb dM_node_17 rfl (fun _ => ?_) (fun h2 => absurd h2 (by rw [bi_t (by decide)]; decide))
  refine lv_iconst (v := 0) hx hb dM_node_24 (by decide) ?_
  refine rw_i (wc := [(y, .inr (11, MO yr yi ysb ybs))]) (wr := [(yr 18, .inl (cT 0, 16, .inl nmA)), (yr 20, .inl (cT 0, 496, .inl fx))]) hP hD hS hA [0] [1, 2] rfl rfl (by decide) (by decide) (va_runV (As := [.int 0]) (rest := []) ⟨hx, hb, hml, hown, hT⟩ (m_ref0 l D cT y yr yi ysb ybs _) ⟨callB_of 1 hT (tb_gd w1301) rfl rfl rfl (hT _ w13) (hT _ w1298) hM_refused ⟨Nat.le_of_ble_eq_true rfl, Nat.le_of_ble_eq_true rfl⟩, (hT _ w1300), (hT _ wp29)⟩ (RW.preV (ci := 11) (q0 := 0) hZ hS (va_free (wc := [(y, .inr (11, MO yr yi ysb ybs))]) hD hS hA [0] rfl) (hP.sub (ws' := [(y, .inr (11, MO yr yi ysb ybs))]) [0] rfl) hK (hD.sub (ws' := [(y, .inr (11, MO yr yi ysb ybs))]) [0] (by decide) rfl) rfl rfl) rfl rfl hl.1 rfl (lv_room (Nat.le_of_ble_eq_true rfl)) dM_node_25 ⟨Nat.le_of_ble_eq_true rfl, Nat.le_of_ble_eq_true rfl⟩) (fun ru3 u9 H locs hpu3 hP hD hS => ?_)
  have hpu3 : ru3 = 0 := hpu3
  have hP : va_P D vwCl [(yr 18, .inl (cT 0, 16, .inl nmA)), (yr 20, .inl (cT 0, 496, .inl fx)), (y, .inr (11, MO yr (va_up yi 1 0) ysb ybs))] _ := hP
  have hD : va_D A [(yr 18, .inl (cT 0, 16, .inl nmA)), (yr 20, .inl (cT 0, 496, .inl fx)), (y, .inr (11, MO yr (va_up yi 1 0) ysb ybs))] := hD
  refine lv_topi (fun y9 e9 => ?_)
  cases (show y9 = 0 from e9.trans hpu3)
  refine lv_if_eq (tgt := 33) hx hb dM_node_28 rfl (fun _ => ?_) (fun h4 => absurd (by decide) h4)
  refine lv_bipush (v := 31) hx hb dM_node_33 (by decide) ?_
  refine lv_iload_n hx hb dM_node_35 rfl (lv_at hl 1 rfl) ?_
  refine lv_imul hx hb dM_node_36 ?_
  refine lv_topi (fun y9 e9 => ?_)
  cases (show y9 = nI (31 * t) from e9.trans (pk_mul 31 t))
  refine lv_iload_n hx hb dM_node_37 rfl (lv_at hl 2 rfl) ?_
  refine lv_iadd hx hb dM_node_38 ?_
  refine lv_topi (fun y9 e9 => ?_)
  cases (show y9 = nI ((31 * t) + k) from e9.trans (nI_add (31 * t) k))
  refine lv_istore hx hb dM_node_39 hl (by decide) rfl (fun ls hl => ?_)
  have hl : lv_has ls 5 [(4, .int (nI ((31 * t) + k))), (0, .ref y), (1, .int (nI t)), (2, .int (nI k)), (3, .int 1)] := hl
  refine lv_iload_n hx hb dM_node_41 rfl (lv_at hl 4 rfl) ?_
  refine lv_tableIn (off := 50) (tgt := 92) hx hb dM_node_42 (by decide) (by decide) rfl rfl ?_
  refine lv_aload_n hx hb dM_node_92 rfl (lv_at hl 1 rfl) ?_
  refine va_get (D := D) (ci := 11) (v := .ref (yr 20)) (C := R_M) (T := T_M) (N := 60) hx hb hT in_M hown hK hP 2 rfl rfl 20 (by decide) (hT _ w1124) (fun _ h9 => h9) rfl dM_node_93 ?_
  refine lv_iload hx hb dM_node_96 (lv_at hl 0 rfl) ?_
  refine lq_iald (j := (31 * t) + k) hx hb hK hP 1 0 rfl rfl rfl (by omega) (by omega) dM_node_98 ?_
  have hP9 := hP.sub (ws' := [(y, .inr (11, MO yr (va_up yi 1 0) ysb ybs)), (yr 18, .inl (cT 0, 16, .inl nmA)), (yr 20, .inl (cT 0, 496, .inl fx))]) [2, 0, 1] rfl
  have hD9 := hD.sub (ws' := [(y, .inr (11, MO yr (va_up yi 1 0) ysb ybs)), (yr 18, .inl (cT 0, 16, .inl nmA)), (yr 20, .inl (cT 0, 496, .inl fx))]) [2, 0, 1] (by decide) rfl
  refine W.widen (k := 0) (n := 0) (Nat.le_of_ble_eq_true rfl) (Nat.le_of_ble_eq_true rfl) ?_
  exact W.iret (v := fx ((31 * t) + k)) hx hb hr (fun t9 ht9 hW9 => ⟨⟨fx ((31 * t) + k), (), rfl, (show (fx ((31 * t) + k)) = fx (31 * t + k) from rfl), by rw [ht9]; exact hP9, hD9⟩, hS.F ht9⟩) hS.2.2 dM_node_99
set_option maxHeartbeats 4000000 in
set_option maxRecDepth 100000 in
theorem y_node2 (l : Launch) (D : va_G) (cT : Nat → ClassId) (y : Nat) (yr : Nat → Nat) (yi : Nat → Int32) (ysb : Int64) (ybs : Int64) (nmA : Nat → Int32) (fx : Nat → Int32) (t : Nat) (k : Nat) (m9 : Nat) (hc0 : 0 ≤ nI t ∧ nI t ≤ yi 17 - 1) (ht16 : t < 16) (hm9 : nmA t = nI m9) (hm31 : m9 ≤ 31) (hk9 : k < m9) (hz9 : fx (31 * t + k) = 0 ∨ fx (31 * t + k) = 1) (sz : Nat) : Met l yM_node WM_node ({ frames := 3, cells := 0, slots := 0, locals := 65 } : Room) (RW D vwCl [.ref y, .int (nI t), .int (nI k), .int 2] [(y, .inr (11, MO yr yi ysb ybs)), (yr 18, .inl (cT 0, 16, .inl nmA)), (yr 21, .inl (cT 3, 496, .inl fx))] (TY cT) sz) (va_Qi (fun (r9 : Int32) (u9 : Unit) => r9 = fx (31 * t + k)) (BW D vwCl (va_A [(y, .inr (11, MO yr yi ysb ybs)), (yr 18, .inl (cT 0, 16, .inl nmA)), (yr 21, .inl (cT 3, 496, .inl fx))] sz) (fun u9 : Unit => [(y, .inr (11, MO yr (va_up yi 1 0) ysb ybs)), (yr 18, .inl (cT 0, 16, .inl nmA)), (yr 21, .inl (cT 3, 496, .inl fx))])) (va_A [(y, .inr (11, MO yr yi ysb ybs)), (yr 18, .inl (cT 0, 16, .inl nmA)), (yr 21, .inl (cT 3, 496, .inl fx))] sz)) 0 0 (va_A [(y, .inr (11, MO yr yi ysb ybs)), (yr 18, .inl (cT 0, 16, .inl nmA)), (yr 21, .inl (cT 3, 496, .inl fx))] sz) := by
  refine Met.ofW (cc := cM_node) (maxL := 5) (ret := (some .int)) (by decide) rfl ?_
  intro p e s m args below meth c s₁ B hml hv
  obtain ⟨rfl, hsz, hZ, hP, hK, hD0⟩ := hv
  have hx := B.exec
  have hb := B.bytes
  have hr := B.returns
  have hts := atoms_spec (ws := WM_node) B.pre
  have hT : ∀ w ∈ TB, w.before _ s = true := fun w h => hts w (List.mem_cons_of_mem _ h)
  have hown : s.vm.findClass R_M = some m.cls := findClass_of_methodNamed B.named
  have hlocks := B.notSynchronized
  subst hsz
  have hD := hD0.self (sz := s.heap.size)
  generalize hAe : va_A [(y, .inr (11, MO yr yi ysb ybs)), (yr 18, .inl (cT 0, 16, .inl nmA)), (yr 21, .inl (cT 3, 496, .inl fx))] s.heap.size = A at hD hZ ⊢
  have hA : ∀ q : Nat, s.heap.size ≤ q → A q := fun q h => by rw [← hAe]; exact Or.inr h
  have hS : va_S A s.heap s.heap [] := va_S.rf
  have hl := lv_entry ([.ref y, .int (nI t), .int (nI k), .int 2]) (n := 5) (Nat.le_of_ble_eq_true rfl)
  rw [lg_entry_eq]
  generalize (lg_sl ([.ref y, .int (nI t), .int (nI k), .int 2]) ++ List.replicate (5 - (lg_sl ([.ref y, .int (nI t), .int (nI k), .int 2])).length) Slot.unset).toArray = ls at hl ⊢
  have hl : lv_has ls 5 [(0, .ref y), (1, .int (nI t)), (2, .int (nI k)), (3, .int 2)] := hl
  refine lv_aload_n hx hb dM_node_0 rfl (lv_at hl 0 rfl) ?_
  refine lv_aload_n hx hb dM_node_1 rfl (lv_at hl 0 rfl) ?_
  refine lv_iload_n hx hb dM_node_2 rfl (lv_at hl 1 rfl) ?_
  refine lv_iload_n hx hb dM_node_3 rfl (lv_at hl 2 rfl) ?_
  refine ro_i (va_Run.run (va_runV (As := [.int (nI t), .int (nI k)]) (rest := [.ref y]) ⟨hx, hb, hml, hown, hT⟩ (m_noNode_ok l D cT y yr yi ysb ybs nmA t k m9 hc0 ht16 hm9 hm31 hk9) ⟨callB_of 2 hT (tb_gd w1535) rfl rfl rfl (hT _ w13) (hT _ w1532) hM_noNode ⟨Nat.le_of_ble_eq_true rfl, Nat.le_of_ble_eq_true rfl⟩, (hT _ w1534), (hT _ wp60)⟩ (RO.preV (ci := 11) (q0 := 0) hZ hS (hP.sub (ws' := [(y, .inr (11, MO yr yi ysb ybs)), (yr 18, .inl (cT 0, 16, .inl nmA))]) [0, 1] rfl) hK rfl rfl) rfl rfl hl.1 rfl (lv_room (Nat.le_of_ble_eq_true rfl)) dM_node_4 ⟨Nat.le_of_ble_eq_true rfl, Nat.le_of_ble_eq_true rfl⟩)) ?_
  refine lv_if_ne (tgt := 20) hx hb dM_node_7 rfl (fun h1 => absurd (by decide) h1) (fun _ => ?_)
  refine lv_iload_n hx hb dM_node_10 rfl (lv_at hl 3 rfl) ?_
  refine lv_iconst (v := 0) hx hb dM_node_11 (by decide) ?_
  refine lv_bipush (v := 7) hx hb dM_node_12 (by decide) ?_
  refine ro_i (va_Run.run (va_runS (As := [.int 2, .int 0, .int 7]) (rest := [.ref y]) ⟨hx, hb, hml, hown, hT⟩ (m_in l D cT 2 0 7) ⟨callB_of 3 hT (tb_gd w1297) rfl rfl rfl (hT _ w13) (hT _ w1295) hM_in ⟨Nat.le_of_ble_eq_true rfl, Nat.le_of_ble_eq_true rfl⟩, (hT _ w1296)⟩ (RO.preS hZ hS ((show va_P D vwCl [] _ from fun _ _ h => nomatch h)) hK) rfl rfl hl.1 rfl (lv_room (Nat.le_of_ble_eq_true rfl)) dM_node_14 ⟨Nat.le_of_ble_eq_true rfl, Nat.le_of_ble_eq_true rfl⟩)) ?_
  refine lv_if_ne (tgt := 24) hx hb dM_node_17 rfl (fun _ => ?_) (fun h2 => absurd h2 (by rw [bi_t (by decide)]; decide))
  refine lv_iconst (v := 0) hx hb dM_node_24 (by decide) ?_
  refine rw_i (wc := [(y, .inr (11, MO yr yi ysb ybs))]) (wr := [(yr 18, .inl (cT 0, 16, .inl nmA)), (yr 21, .inl (cT 3, 496, .inl fx))]) hP hD hS hA [0] [1, 2] rfl rfl (by decide) (by decide) (va_runV (As := [.int 0]) (rest := []) ⟨hx, hb, hml, hown, hT⟩ (m_ref0 l D cT y yr yi ysb ybs _) ⟨callB_of 1 hT (tb_gd w1301) rfl rfl rfl (hT _ w13) (hT _ w1298) hM_refused ⟨Nat.le_of_ble_eq_true rfl, Nat.le_of_ble_eq_true rfl⟩, (hT _ w1300), (hT _ wp29)⟩ (RW.preV (ci := 11) (q0 := 0) hZ hS (va_free (wc := [(y, .inr (11, MO yr yi ysb ybs))]) hD hS hA [0] rfl) (hP.sub (ws' := [(y, .inr (11, MO yr yi ysb ybs))]) [0] rfl) hK (hD.sub (ws' := [(y, .inr (11, MO yr yi ysb ybs))]) [0] (by decide) rfl) rfl rfl) rfl rfl hl.1 rfl (lv_room (Nat.le_of_ble_eq_true rfl)) dM_node_25 ⟨Nat.le_of_ble_eq_true rfl, Nat.le_of_ble_eq_true rfl⟩) (fun ru3 u9 H locs hpu3 hP hD hS => ?_)
  have hpu3 : ru3 = 0 := hpu3
  have hP : va_P D vwCl [(yr 18, .inl (cT 0, 16, .inl nmA)), (yr 21, .inl (cT 3, 496, .inl fx)), (y, .inr (11, MO yr (va_up yi 1 0) ysb ybs))] _ := hP
  have hD : va_D A [(yr 18, .inl (cT 0, 16, .inl nmA)), (yr 21, .inl (cT 3, 496, .inl fx)), (y, .inr (11, MO yr (va_up yi 1 0) ysb ybs))] := hD
  refine lv_topi (fun y9 e9 => ?_)
  cases (show y9 = 0 from e9.trans hpu3)
  refine lv_if_eq (tgt := 33) hx hb dM_node_28 rfl (fun _ => ?_) (fun h4 => absurd (by decide) h4)
  refine lv_bipush (v := 31) hx hb dM_node_33 (by decide) ?_
  refine lv_iload_n hx hb dM_node_35 rfl (lv_at hl 1 rfl) ?_
  refine lv_imul hx hb dM_node_36 ?_
  refine lv_topi (fun y9 e9 => ?_)
  cases (show y9 = nI (31 * t) from e9.trans (pk_mul 31 t))
  refine lv_iload_n hx hb dM_node_37 rfl (lv_at hl 2 rfl) ?_
  refine lv_iadd hx hb dM_node_38 ?_
  refine lv_topi (fun y9 e9 => ?_)
  cases (show y9 = nI ((31 * t) + k) from e9.trans (nI_add (31 * t) k))
  refine lv_istore hx hb dM_node_39 hl (by decide) rfl (fun ls hl => ?_)
  have hl : lv_has ls 5 [(4, .int (nI ((31 * t) + k))), (0, .ref y), (1, .int (nI t)), (2, .int (nI k)), (3, .int 2)] := hl
  refine lv_iload_n hx hb dM_node_41 rfl (lv_at hl 4 rfl) ?_
  refine lv_tableIn (off := 58) (tgt := 100) hx hb dM_node_42 (by decide) (by decide) rfl rfl ?_
  refine lv_aload_n hx hb dM_node_100 rfl (lv_at hl 1 rfl) ?_
  refine va_get (D := D) (ci := 11) (v := .ref (yr 21)) (C := R_M) (T := T_M) (N := 60) hx hb hT in_M hown hK hP 2 rfl rfl 21 (by decide) (hT _ w1125) (fun _ h9 => h9) rfl dM_node_101 ?_
  refine lv_iload hx hb dM_node_104 (lv_at hl 0 rfl) ?_
  refine lq_zald (j := (31 * t) + k) hx hb hK hP 1 3 rfl rfl rfl (by omega) (by omega) dM_node_106 ?_
  refine lv_if_eq (tgt := 114) hx hb dM_node_107 rfl (fun h5 => ?_) (fun h5 => ?_)
  · refine lv_iconst (v := 0) hx hb dM_node_114 (by decide) ?_
    have hP9 := hP.sub (ws' := [(y, .inr (11, MO yr (va_up yi 1 0) ysb ybs)), (yr 18, .inl (cT 0, 16, .inl nmA)), (yr 21, .inl (cT 3, 496, .inl fx))]) [2, 0, 1] rfl
    have hD9 := hD.sub (ws' := [(y, .inr (11, MO yr (va_up yi 1 0) ysb ybs)), (yr 18, .inl (cT 0, 16, .inl nmA)), (yr 21, .inl (cT 3, 496, .inl fx))]) [2, 0, 1] (by decide) rfl
    refine W.widen (k := 0) (n := 0) (Nat.le_of_ble_eq_true rfl) (Nat.le_of_ble_eq_true rfl) ?_
    exact W.iret (v := 0) hx hb hr (fun t9 ht9 hW9 => ⟨⟨0, (), rfl, (show 0 = fx (31 * t + k) from (by rw [h5])), by rw [ht9]; exact hP9, hD9⟩, hS.F ht9⟩) hS.2.2 dM_node_115
  · refine lv_iconst (v := 1) hx hb dM_node_110 (by decide) ?_
    refine lv_goto (tgt := 115) hx hb dM_node_111 rfl ?_
    have hP9 := hP.sub (ws' := [(y, .inr (11, MO yr (va_up yi 1 0) ysb ybs)), (yr 18, .inl (cT 0, 16, .inl nmA)), (yr 21, .inl (cT 3, 496, .inl fx))]) [2, 0, 1] rfl
    have hD9 := hD.sub (ws' := [(y, .inr (11, MO yr (va_up yi 1 0) ysb ybs)), (yr 18, .inl (cT 0, 16, .inl nmA)), (yr 21, .inl (cT 3, 496, .inl fx))]) [2, 0, 1] (by decide) rfl
    refine W.widen (k := 0) (n := 0) (Nat.le_of_ble_eq_true rfl) (Nat.le_of_ble_eq_true rfl) ?_
    exact W.iret (v := 1) hx hb hr (fun t9 ht9 hW9 => ⟨⟨1, (), rfl, (show 1 = fx (31 * t + k) from (hz9.resolve_left h5).symm), by rw [ht9]; exact hP9, hD9⟩, hS.F ht9⟩) hS.2.2 dM_node_115
set_option maxHeartbeats 4000000 in
set_option maxRecDepth 100000 in
theorem y_node3 (l : Launch) (D : va_G) (cT : Nat → ClassId) (y : Nat) (yr : Nat → Nat) (yi : Nat → Int32) (ysb : Int64) (ybs : Int64) (nmA : Nat → Int32) (fx : Nat → Int32) (t : Nat) (k : Nat) (m9 : Nat) (hc0 : 0 ≤ nI t ∧ nI t ≤ yi 17 - 1) (ht16 : t < 16) (hm9 : nmA t = nI m9) (hm31 : m9 ≤ 31) (hk9 : k < m9) (sz : Nat) : Met l yM_node WM_node ({ frames := 3, cells := 0, slots := 0, locals := 65 } : Room) (RW D vwCl [.ref y, .int (nI t), .int (nI k), .int 3] [(y, .inr (11, MO yr yi ysb ybs)), (yr 18, .inl (cT 0, 16, .inl nmA)), (yr 22, .inl (cT 0, 496, .inl fx))] (TY cT) sz) (va_Qi (fun (r9 : Int32) (u9 : Unit) => r9 = fx (31 * t + k)) (BW D vwCl (va_A [(y, .inr (11, MO yr yi ysb ybs)), (yr 18, .inl (cT 0, 16, .inl nmA)), (yr 22, .inl (cT 0, 496, .inl fx))] sz) (fun u9 : Unit => [(y, .inr (11, MO yr (va_up yi 1 0) ysb ybs)), (yr 18, .inl (cT 0, 16, .inl nmA)), (yr 22, .inl (cT 0, 496, .inl fx))])) (va_A [(y, .inr (11, MO yr yi ysb ybs)), (yr 18, .inl (cT 0, 16, .inl nmA)), (yr 22, .inl (cT 0, 496, .inl fx))] sz)) 0 0 (va_A [(y, .inr (11, MO yr yi ysb ybs)), (yr 18, .inl (cT 0, 16, .inl nmA)), (yr 22, .inl (cT 0, 496, .inl fx))] sz) := by
  refine Met.ofW (cc := cM_node) (maxL := 5) (ret := (some .int)) (by decide) rfl ?_
  intro p e s m args below meth c s₁ B hml hv
  obtain ⟨rfl, hsz, hZ, hP, hK, hD0⟩ := hv
  have hx := B.exec
  have hb := B.bytes
  have hr := B.returns
  have hts := atoms_spec (ws := WM_node) B.pre
  have hT : ∀ w ∈ TB, w.before _ s = true := fun w h => hts w (List.mem_cons_of_mem _ h)
  have hown : s.vm.findClass R_M = some m.cls := findClass_of_methodNamed B.named
  have hlocks := B.notSynchronized
  subst hsz
  have hD := hD0.self (sz := s.heap.size)
  generalize hAe : va_A [(y, .inr (11, MO yr yi ysb ybs)), (yr 18, .inl (cT 0, 16, .inl nmA)), (yr 22, .inl (cT 0, 496, .inl fx))] s.heap.size = A at hD hZ ⊢
  have hA : ∀ q : Nat, s.heap.size ≤ q → A q := fun q h => by rw [← hAe]; exact Or.inr h
  have hS : va_S A s.heap s.heap [] := va_S.rf
  have hl := lv_entry ([.ref y, .int (nI t), .int (nI k), .int 3]) (n := 5) (Nat.le_of_ble_eq_true rfl)
  rw [lg_entry_eq]
  generalize (lg_sl ([.ref y, .int (nI t), .int (nI k), .int 3]) ++ List.replicate (5 - (lg_sl ([.ref y, .int (nI t), .int (nI k), .int 3])).length) Slot.unset).toArray = ls at hl ⊢
  have hl : lv_has ls 5 [(0, .ref y), (1, .int (nI t)), (2, .int (nI k)), (3, .int 3)] := hl
  refine lv_aload_n hx hb dM_node_0 rfl (lv_at hl 0 rfl) ?_
  refine lv_aload_n hx hb dM_node_1 rfl (lv_at hl 0 rfl) ?_
  refine lv_iload_n hx hb dM_node_2 rfl (lv_at hl 1 rfl) ?_
  refine lv_iload_n hx hb dM_node_3 rfl (lv_at hl 2 rfl) ?_
  refine ro_i (va_Run.run (va_runV (As := [.int (nI t), .int (nI k)]) (rest := [.ref y]) ⟨hx, hb, hml, hown, hT⟩ (m_noNode_ok l D cT y yr yi ysb ybs nmA t k m9 hc0 ht16 hm9 hm31 hk9) ⟨callB_of 2 hT (tb_gd w1535) rfl rfl rfl (hT _ w13) (hT _ w1532) hM_noNode ⟨Nat.le_of_ble_eq_true rfl, Nat.le_of_ble_eq_true rfl⟩, (hT _ w1534), (hT _ wp60)⟩ (RO.preV (ci := 11) (q0 := 0) hZ hS (hP.sub (ws' := [(y, .inr (11, MO yr yi ysb ybs)), (yr 18, .inl (cT 0, 16, .inl nmA))]) [0, 1] rfl) hK rfl rfl) rfl rfl hl.1 rfl (lv_room (Nat.le_of_ble_eq_true rfl)) dM_node_4 ⟨Nat.le_of_ble_eq_true rfl, Nat.le_of_ble_eq_true rfl⟩)) ?_
  refine lv_if_ne (tgt := 20) hx hb dM_node_7 rfl (fun h1 => absurd (by decide) h1) (fun _ => ?_)
  refine lv_iload_n hx hb dM_node_10 rfl (lv_at hl 3 rfl) ?_
  refine lv_iconst (v := 0) hx hb dM_node_11 (by decide) ?_
  refine lv_bipush (v := 7) hx hb dM_node_12 (by decide) ?_
  refine ro_i (va_Run.run (va_runS (As := [.int 3, .int 0, .int 7]) (rest := [.ref y]) ⟨hx, hb, hml, hown, hT⟩ (m_in l D cT 3 0 7) ⟨callB_of 3 hT (tb_gd w1297) rfl rfl rfl (hT _ w13) (hT _ w1295) hM_in ⟨Nat.le_of_ble_eq_true rfl, Nat.le_of_ble_eq_true rfl⟩, (hT _ w1296)⟩ (RO.preS hZ hS ((show va_P D vwCl [] _ from fun _ _ h => nomatch h)) hK) rfl rfl hl.1 rfl (lv_room (Nat.le_of_ble_eq_true rfl)) dM_node_14 ⟨Nat.le_of_ble_eq_true rfl, Nat.le_of_ble_eq_true rfl⟩)) ?_
  refine lv_if_ne (tgt := 24) hx hb dM_node_17 rfl (fun _ => ?_) (fun h2 => absurd h2 (by rw [bi_t (by decide)]; decide))
  refine lv_iconst (v := 0) hx hb dM_node_24 (by decide) ?_
  refine rw_i (wc := [(y, .inr (11, MO yr yi ysb ybs))]) (wr := [(yr 18, .inl (cT 0, 16, .inl nmA)), (yr 22, .inl (cT 0, 496, .inl fx))]) hP hD hS hA [0] [1, 2] rfl rfl (by decide) (by decide) (va_runV (As := [.int 0]) (rest := []) ⟨hx, hb, hml, hown, hT⟩ (m_ref0 l D cT y yr yi ysb ybs _) ⟨callB_of 1 hT (tb_gd w1301) rfl rfl rfl (hT _ w13) (hT _ w1298) hM_refused ⟨Nat.le_of_ble_eq_true rfl, Nat.le_of_ble_eq_true rfl⟩, (hT _ w1300), (hT _ wp29)⟩ (RW.preV (ci := 11) (q0 := 0) hZ hS (va_free (wc := [(y, .inr (11, MO yr yi ysb ybs))]) hD hS hA [0] rfl) (hP.sub (ws' := [(y, .inr (11, MO yr yi ysb ybs))]) [0] rfl) hK (hD.sub (ws' := [(y, .inr (11, MO yr yi ysb ybs))]) [0] (by decide) rfl) rfl rfl) rfl rfl hl.1 rfl (lv_room (Nat.le_of_ble_eq_true rfl)) dM_node_25 ⟨Nat.le_of_ble_eq_true rfl, Nat.le_of_ble_eq_true rfl⟩) (fun ru3 u9 H locs hpu3 hP hD hS => ?_)
  have hpu3 : ru3 = 0 := hpu3
  have hP : va_P D vwCl [(yr 18, .inl (cT 0, 16, .inl nmA)), (yr 22, .inl (cT 0, 496, .inl fx)), (y, .inr (11, MO yr (va_up yi 1 0) ysb ybs))] _ := hP
  have hD : va_D A [(yr 18, .inl (cT 0, 16, .inl nmA)), (yr 22, .inl (cT 0, 496, .inl fx)), (y, .inr (11, MO yr (va_up yi 1 0) ysb ybs))] := hD
  refine lv_topi (fun y9 e9 => ?_)
  cases (show y9 = 0 from e9.trans hpu3)
  refine lv_if_eq (tgt := 33) hx hb dM_node_28 rfl (fun _ => ?_) (fun h4 => absurd (by decide) h4)
  refine lv_bipush (v := 31) hx hb dM_node_33 (by decide) ?_
  refine lv_iload_n hx hb dM_node_35 rfl (lv_at hl 1 rfl) ?_
  refine lv_imul hx hb dM_node_36 ?_
  refine lv_topi (fun y9 e9 => ?_)
  cases (show y9 = nI (31 * t) from e9.trans (pk_mul 31 t))
  refine lv_iload_n hx hb dM_node_37 rfl (lv_at hl 2 rfl) ?_
  refine lv_iadd hx hb dM_node_38 ?_
  refine lv_topi (fun y9 e9 => ?_)
  cases (show y9 = nI ((31 * t) + k) from e9.trans (nI_add (31 * t) k))
  refine lv_istore hx hb dM_node_39 hl (by decide) rfl (fun ls hl => ?_)
  have hl : lv_has ls 5 [(4, .int (nI ((31 * t) + k))), (0, .ref y), (1, .int (nI t)), (2, .int (nI k)), (3, .int 3)] := hl
  refine lv_iload_n hx hb dM_node_41 rfl (lv_at hl 4 rfl) ?_
  refine lv_tableIn (off := 74) (tgt := 116) hx hb dM_node_42 (by decide) (by decide) rfl rfl ?_
  refine lv_aload_n hx hb dM_node_116 rfl (lv_at hl 1 rfl) ?_
  refine va_get (D := D) (ci := 11) (v := .ref (yr 22)) (C := R_M) (T := T_M) (N := 60) hx hb hT in_M hown hK hP 2 rfl rfl 22 (by decide) (hT _ w1126) (fun _ h9 => h9) rfl dM_node_117 ?_
  refine lv_iload hx hb dM_node_120 (lv_at hl 0 rfl) ?_
  refine lq_iald (j := (31 * t) + k) hx hb hK hP 1 0 rfl rfl rfl (by omega) (by omega) dM_node_122 ?_
  have hP9 := hP.sub (ws' := [(y, .inr (11, MO yr (va_up yi 1 0) ysb ybs)), (yr 18, .inl (cT 0, 16, .inl nmA)), (yr 22, .inl (cT 0, 496, .inl fx))]) [2, 0, 1] rfl
  have hD9 := hD.sub (ws' := [(y, .inr (11, MO yr (va_up yi 1 0) ysb ybs)), (yr 18, .inl (cT 0, 16, .inl nmA)), (yr 22, .inl (cT 0, 496, .inl fx))]) [2, 0, 1] (by decide) rfl
  refine W.widen (k := 0) (n := 0) (Nat.le_of_ble_eq_true rfl) (Nat.le_of_ble_eq_true rfl) ?_
  exact W.iret (v := fx ((31 * t) + k)) hx hb hr (fun t9 ht9 hW9 => ⟨⟨fx ((31 * t) + k), (), rfl, (show (fx ((31 * t) + k)) = fx (31 * t + k) from rfl), by rw [ht9]; exact hP9, hD9⟩, hS.F ht9⟩) hS.2.2 dM_node_123
set_option maxHeartbeats 4000000 in
set_option maxRecDepth 100000 in
theorem y_node4 (l : Launch) (D : va_G) (cT : Nat → ClassId) (y : Nat) (yr : Nat → Nat) (yi : Nat → Int32) (ysb : Int64) (ybs : Int64) (nmA : Nat → Int32) (fx : Nat → Int32) (t : Nat) (k : Nat) (m9 : Nat) (hc0 : 0 ≤ nI t ∧ nI t ≤ yi 17 - 1) (ht16 : t < 16) (hm9 : nmA t = nI m9) (hm31 : m9 ≤ 31) (hk9 : k < m9) (sz : Nat) : Met l yM_node WM_node ({ frames := 3, cells := 0, slots := 0, locals := 65 } : Room) (RW D vwCl [.ref y, .int (nI t), .int (nI k), .int 4] [(y, .inr (11, MO yr yi ysb ybs)), (yr 18, .inl (cT 0, 16, .inl nmA)), (yr 23, .inl (cT 0, 496, .inl fx))] (TY cT) sz) (va_Qi (fun (r9 : Int32) (u9 : Unit) => r9 = fx (31 * t + k)) (BW D vwCl (va_A [(y, .inr (11, MO yr yi ysb ybs)), (yr 18, .inl (cT 0, 16, .inl nmA)), (yr 23, .inl (cT 0, 496, .inl fx))] sz) (fun u9 : Unit => [(y, .inr (11, MO yr (va_up yi 1 0) ysb ybs)), (yr 18, .inl (cT 0, 16, .inl nmA)), (yr 23, .inl (cT 0, 496, .inl fx))])) (va_A [(y, .inr (11, MO yr yi ysb ybs)), (yr 18, .inl (cT 0, 16, .inl nmA)), (yr 23, .inl (cT 0, 496, .inl fx))] sz)) 0 0 (va_A [(y, .inr (11, MO yr yi ysb ybs)), (yr 18, .inl (cT 0, 16, .inl nmA)), (yr 23, .inl (cT 0, 496, .inl fx))] sz) := by
  refine Met.ofW (cc := cM_node) (maxL := 5) (ret := (some .int)) (by decide) rfl ?_
  intro p e s m args below meth c s₁ B hml hv
  obtain ⟨rfl, hsz, hZ, hP, hK, hD0⟩ := hv
  have hx := B.exec
  have hb := B.bytes
  have hr := B.returns
  have hts := atoms_spec (ws := WM_node) B.pre
  have hT : ∀ w ∈ TB, w.before _ s = true := fun w h => hts w (List.mem_cons_of_mem _ h)
  have hown : s.vm.findClass R_M = some m.cls := findClass_of_methodNamed B.named
  have hlocks := B.notSynchronized
  subst hsz
  have hD := hD0.self (sz := s.heap.size)
  generalize hAe : va_A [(y, .inr (11, MO yr yi ysb ybs)), (yr 18, .inl (cT 0, 16, .inl nmA)), (yr 23, .inl (cT 0, 496, .inl fx))] s.heap.size = A at hD hZ ⊢
  have hA : ∀ q : Nat, s.heap.size ≤ q → A q := fun q h => by rw [← hAe]; exact Or.inr h
  have hS : va_S A s.heap s.heap [] := va_S.rf
  have hl := lv_entry ([.ref y, .int (nI t), .int (nI k), .int 4]) (n := 5) (Nat.le_of_ble_eq_true rfl)
  rw [lg_entry_eq]
  generalize (lg_sl ([.ref y, .int (nI t), .int (nI k), .int 4]) ++ List.replicate (5 - (lg_sl ([.ref y, .int (nI t), .int (nI k), .int 4])).length) Slot.unset).toArray = ls at hl ⊢
  have hl : lv_has ls 5 [(0, .ref y), (1, .int (nI t)), (2, .int (nI k)), (3, .int 4)] := hl
  refine lv_aload_n hx hb dM_node_0 rfl (lv_at hl 0 rfl) ?_
  refine lv_aload_n hx hb dM_node_1 rfl (lv_at hl 0 rfl) ?_
  refine lv_iload_n hx hb dM_node_2 rfl (lv_at hl 1 rfl) ?_
  refine lv_iload_n hx hb dM_node_3 rfl (lv_at hl 2 rfl) ?_
  refine ro_i (va_Run.run (va_runV (As := [.int (nI t), .int (nI k)]) (rest := [.ref y]) ⟨hx, hb, hml, hown, hT⟩ (m_noNode_ok l D cT y yr yi ysb ybs nmA t k m9 hc0 ht16 hm9 hm31 hk9) ⟨callB_of 2 hT (tb_gd w1535) rfl rfl rfl (hT _ w13) (hT _ w1532) hM_noNode ⟨Nat.le_of_ble_eq_true rfl, Nat.le_of_ble_eq_true rfl⟩, (hT _ w1534), (hT _ wp60)⟩ (RO.preV (ci := 11) (q0 := 0) hZ hS (hP.sub (ws' := [(y, .inr (11, MO yr yi ysb ybs)), (yr 18, .inl (cT 0, 16, .inl nmA))]) [0, 1] rfl) hK rfl rfl) rfl rfl hl.1 rfl (lv_room (Nat.le_of_ble_eq_true rfl)) dM_node_4 ⟨Nat.le_of_ble_eq_true rfl, Nat.le_of_ble_eq_true rfl⟩)) ?_
  refine lv_if_ne (tgt := 20) hx hb dM_node_7 rfl (fun h1 => absurd (by decide) h1) (fun _ => ?_)
  refine lv_iload_n hx hb dM_node_10 rfl (lv_at hl 3 rfl) ?_
  refine lv_iconst (v := 0) hx hb dM_node_11 (by decide) ?_
  refine lv_bipush (v := 7) hx hb dM_node_12 (by decide) ?_
  refine ro_i (va_Run.run (va_runS (As := [.int 4, .int 0, .int 7]) (rest := [.ref y]) ⟨hx, hb, hml, hown, hT⟩ (m_in l D cT 4 0 7) ⟨callB_of 3 hT (tb_gd w1297) rfl rfl rfl (hT _ w13) (hT _ w1295) hM_in ⟨Nat.le_of_ble_eq_true rfl, Nat.le_of_ble_eq_true rfl⟩, (hT _ w1296)⟩ (RO.preS hZ hS ((show va_P D vwCl [] _ from fun _ _ h => nomatch h)) hK) rfl rfl hl.1 rfl (lv_room (Nat.le_of_ble_eq_true rfl)) dM_node_14 ⟨Nat.le_of_ble_eq_true rfl, Nat.le_of_ble_eq_true rfl⟩)) ?_
  refine lv_if_ne (tgt := 24) hx hb dM_node_17 rfl (fun _ => ?_) (fun h2 => absurd h2 (by rw [bi_t (by decide)]; decide))
  refine lv_iconst (v := 0) hx hb dM_node_24 (by decide) ?_
  refine rw_i (wc := [(y, .inr (11, MO yr yi ysb ybs))]) (wr := [(yr 18, .inl (cT 0, 16, .inl nmA)), (yr 23, .inl (cT 0, 496, .inl fx))]) hP hD hS hA [0] [1, 2] rfl rfl (by decide) (by decide) (va_runV (As := [.int 0]) (rest := []) ⟨hx, hb, hml, hown, hT⟩ (m_ref0 l D cT y yr yi ysb ybs _) ⟨callB_of 1 hT (tb_gd w1301) rfl rfl rfl (hT _ w13) (hT _ w1298) hM_refused ⟨Nat.le_of_ble_eq_true rfl, Nat.le_of_ble_eq_true rfl⟩, (hT _ w1300), (hT _ wp29)⟩ (RW.preV (ci := 11) (q0 := 0) hZ hS (va_free (wc := [(y, .inr (11, MO yr yi ysb ybs))]) hD hS hA [0] rfl) (hP.sub (ws' := [(y, .inr (11, MO yr yi ysb ybs))]) [0] rfl) hK (hD.sub (ws' := [(y, .inr (11, MO yr yi ysb ybs))]) [0] (by decide) rfl) rfl rfl) rfl rfl hl.1 rfl (lv_room (Nat.le_of_ble_eq_true rfl)) dM_node_25 ⟨Nat.le_of_ble_eq_true rfl, Nat.le_of_ble_eq_true rfl⟩) (fun ru3 u9 H locs hpu3 hP hD hS => ?_)
  have hpu3 : ru3 = 0 := hpu3
  have hP : va_P D vwCl [(yr 18, .inl (cT 0, 16, .inl nmA)), (yr 23, .inl (cT 0, 496, .inl fx)), (y, .inr (11, MO yr (va_up yi 1 0) ysb ybs))] _ := hP
  have hD : va_D A [(yr 18, .inl (cT 0, 16, .inl nmA)), (yr 23, .inl (cT 0, 496, .inl fx)), (y, .inr (11, MO yr (va_up yi 1 0) ysb ybs))] := hD
  refine lv_topi (fun y9 e9 => ?_)
  cases (show y9 = 0 from e9.trans hpu3)
  refine lv_if_eq (tgt := 33) hx hb dM_node_28 rfl (fun _ => ?_) (fun h4 => absurd (by decide) h4)
  refine lv_bipush (v := 31) hx hb dM_node_33 (by decide) ?_
  refine lv_iload_n hx hb dM_node_35 rfl (lv_at hl 1 rfl) ?_
  refine lv_imul hx hb dM_node_36 ?_
  refine lv_topi (fun y9 e9 => ?_)
  cases (show y9 = nI (31 * t) from e9.trans (pk_mul 31 t))
  refine lv_iload_n hx hb dM_node_37 rfl (lv_at hl 2 rfl) ?_
  refine lv_iadd hx hb dM_node_38 ?_
  refine lv_topi (fun y9 e9 => ?_)
  cases (show y9 = nI ((31 * t) + k) from e9.trans (nI_add (31 * t) k))
  refine lv_istore hx hb dM_node_39 hl (by decide) rfl (fun ls hl => ?_)
  have hl : lv_has ls 5 [(4, .int (nI ((31 * t) + k))), (0, .ref y), (1, .int (nI t)), (2, .int (nI k)), (3, .int 4)] := hl
  refine lv_iload_n hx hb dM_node_41 rfl (lv_at hl 4 rfl) ?_
  refine lv_tableIn (off := 82) (tgt := 124) hx hb dM_node_42 (by decide) (by decide) rfl rfl ?_
  refine lv_aload_n hx hb dM_node_124 rfl (lv_at hl 1 rfl) ?_
  refine va_get (D := D) (ci := 11) (v := .ref (yr 23)) (C := R_M) (T := T_M) (N := 60) hx hb hT in_M hown hK hP 2 rfl rfl 23 (by decide) (hT _ w1127) (fun _ h9 => h9) rfl dM_node_125 ?_
  refine lv_iload hx hb dM_node_128 (lv_at hl 0 rfl) ?_
  refine lq_iald (j := (31 * t) + k) hx hb hK hP 1 0 rfl rfl rfl (by omega) (by omega) dM_node_130 ?_
  have hP9 := hP.sub (ws' := [(y, .inr (11, MO yr (va_up yi 1 0) ysb ybs)), (yr 18, .inl (cT 0, 16, .inl nmA)), (yr 23, .inl (cT 0, 496, .inl fx))]) [2, 0, 1] rfl
  have hD9 := hD.sub (ws' := [(y, .inr (11, MO yr (va_up yi 1 0) ysb ybs)), (yr 18, .inl (cT 0, 16, .inl nmA)), (yr 23, .inl (cT 0, 496, .inl fx))]) [2, 0, 1] (by decide) rfl
  refine W.widen (k := 0) (n := 0) (Nat.le_of_ble_eq_true rfl) (Nat.le_of_ble_eq_true rfl) ?_
  exact W.iret (v := fx ((31 * t) + k)) hx hb hr (fun t9 ht9 hW9 => ⟨⟨fx ((31 * t) + k), (), rfl, (show (fx ((31 * t) + k)) = fx (31 * t + k) from rfl), by rw [ht9]; exact hP9, hD9⟩, hS.F ht9⟩) hS.2.2 dM_node_131
set_option maxHeartbeats 4000000 in
set_option maxRecDepth 100000 in
theorem y_node5 (l : Launch) (D : va_G) (cT : Nat → ClassId) (y : Nat) (yr : Nat → Nat) (yi : Nat → Int32) (ysb : Int64) (ybs : Int64) (nmA : Nat → Int32) (fx : Nat → Int32) (t : Nat) (k : Nat) (m9 : Nat) (hc0 : 0 ≤ nI t ∧ nI t ≤ yi 17 - 1) (ht16 : t < 16) (hm9 : nmA t = nI m9) (hm31 : m9 ≤ 31) (hk9 : k < m9) (sz : Nat) : Met l yM_node WM_node ({ frames := 3, cells := 0, slots := 0, locals := 65 } : Room) (RW D vwCl [.ref y, .int (nI t), .int (nI k), .int 5] [(y, .inr (11, MO yr yi ysb ybs)), (yr 18, .inl (cT 0, 16, .inl nmA)), (yr 24, .inl (cT 0, 496, .inl fx))] (TY cT) sz) (va_Qi (fun (r9 : Int32) (u9 : Unit) => r9 = fx (31 * t + k)) (BW D vwCl (va_A [(y, .inr (11, MO yr yi ysb ybs)), (yr 18, .inl (cT 0, 16, .inl nmA)), (yr 24, .inl (cT 0, 496, .inl fx))] sz) (fun u9 : Unit => [(y, .inr (11, MO yr (va_up yi 1 0) ysb ybs)), (yr 18, .inl (cT 0, 16, .inl nmA)), (yr 24, .inl (cT 0, 496, .inl fx))])) (va_A [(y, .inr (11, MO yr yi ysb ybs)), (yr 18, .inl (cT 0, 16, .inl nmA)), (yr 24, .inl (cT 0, 496, .inl fx))] sz)) 0 0 (va_A [(y, .inr (11, MO yr yi ysb ybs)), (yr 18, .inl (cT 0, 16, .inl nmA)), (yr 24, .inl (cT 0, 496, .inl fx))] sz) := by
  refine Met.ofW (cc := cM_node) (maxL := 5) (ret := (some .int)) (by decide) rfl ?_
  intro p e s m args below meth c s₁ B hml hv
  obtain ⟨rfl, hsz, hZ, hP, hK, hD0⟩ := hv
  have hx := B.exec
  have hb := B.bytes
  have hr := B.returns
  have hts := atoms_spec (ws := WM_node) B.pre
  have hT : ∀ w ∈ TB, w.before _ s = true := fun w h => hts w (List.mem_cons_of_mem _ h)
  have hown : s.vm.findClass R_M = some m.cls := findClass_of_methodNamed B.named
  have hlocks := B.notSynchronized
  subst hsz
  have hD := hD0.self (sz := s.heap.size)
  generalize hAe : va_A [(y, .inr (11, MO yr yi ysb ybs)), (yr 18, .inl (cT 0, 16, .inl nmA)), (yr 24, .inl (cT 0, 496, .inl fx))] s.heap.size = A at hD hZ ⊢
  have hA : ∀ q : Nat, s.heap.size ≤ q → A q := fun q h => by rw [← hAe]; exact Or.inr h
  have hS : va_S A s.heap s.heap [] := va_S.rf
  have hl := lv_entry ([.ref y, .int (nI t), .int (nI k), .int 5]) (n := 5) (Nat.le_of_ble_eq_true rfl)
  rw [lg_entry_eq]
  generalize (lg_sl ([.ref y, .int (nI t), .int (nI k), .int 5]) ++ List.replicate (5 - (lg_sl ([.ref y, .int (nI t), .int (nI k), .int 5])).length) Slot.unset).toArray = ls at hl ⊢
  have hl : lv_has ls 5 [(0, .ref y), (1, .int (nI t)), (2, .int (nI k)), (3, .int 5)] := hl
  refine lv_aload_n hx hb dM_node_0 rfl (lv_at hl 0 rfl) ?_
  refine lv_aload_n hx hb dM_node_1 rfl (lv_at hl 0 rfl) ?_
  refine lv_iload_n hx hb dM_node_2 rfl (lv_at hl 1 rfl) ?_
  refine lv_iload_n hx hb dM_node_3 rfl (lv_at hl 2 rfl) ?_
  refine ro_i (va_Run.run (va_runV (As := [.int (nI t), .int (nI k)]) (rest := [.ref y]) ⟨hx, hb, hml, hown, hT⟩ (m_noNode_ok l D cT y yr yi ysb ybs nmA t k m9 hc0 ht16 hm9 hm31 hk9) ⟨callB_of 2 hT (tb_gd w1535) rfl rfl rfl (hT _ w13) (hT _ w1532) hM_noNode ⟨Nat.le_of_ble_eq_true rfl, Nat.le_of_ble_eq_true rfl⟩, (hT _ w1534), (hT _ wp60)⟩ (RO.preV (ci := 11) (q0 := 0) hZ hS (hP.sub (ws' := [(y, .inr (11, MO yr yi ysb ybs)), (yr 18, .inl (cT 0, 16, .inl nmA))]) [0, 1] rfl) hK rfl rfl) rfl rfl hl.1 rfl (lv_room (Nat.le_of_ble_eq_true rfl)) dM_node_4 ⟨Nat.le_of_ble_eq_true rfl, Nat.le_of_ble_eq_true rfl⟩)) ?_
  refine lv_if_ne (tgt := 20) hx hb dM_node_7 rfl (fun h1 => absurd (by decide) h1) (fun _ => ?_)
  refine lv_iload_n hx hb dM_node_10 rfl (lv_at hl 3 rfl) ?_
  refine lv_iconst (v := 0) hx hb dM_node_11 (by decide) ?_
  refine lv_bipush (v := 7) hx hb dM_node_12 (by decide) ?_
  refine ro_i (va_Run.run (va_runS (As := [.int 5, .int 0, .int 7]) (rest := [.ref y]) ⟨hx, hb, hml, hown, hT⟩ (m_in l D cT 5 0 7) ⟨callB_of 3 hT (tb_gd w1297) rfl rfl rfl (hT _ w13) (hT _ w1295) hM_in ⟨Nat.le_of_ble_eq_true rfl, Nat.le_of_ble_eq_true rfl⟩, (hT _ w1296)⟩ (RO.preS hZ hS ((show va_P D vwCl [] _ from fun _ _ h => nomatch h)) hK) rfl rfl hl.1 rfl (lv_room (Nat.le_of_ble_eq_true rfl)) dM_node_14 ⟨Nat.le_of_ble_eq_true rfl, Nat.le_of_ble_eq_true rfl⟩)) ?_
  refine lv_if_ne (tgt := 24) hx hb dM_node_17 rfl (fun _ => ?_) (fun h2 => absurd h2 (by rw [bi_t (by decide)]; decide))
  refine lv_iconst (v := 0) hx hb dM_node_24 (by decide) ?_
  refine rw_i (wc := [(y, .inr (11, MO yr yi ysb ybs))]) (wr := [(yr 18, .inl (cT 0, 16, .inl nmA)), (yr 24, .inl (cT 0, 496, .inl fx))]) hP hD hS hA [0] [1, 2] rfl rfl (by decide) (by decide) (va_runV (As := [.int 0]) (rest := []) ⟨hx, hb, hml, hown, hT⟩ (m_ref0 l D cT y yr yi ysb ybs _) ⟨callB_of 1 hT (tb_gd w1301) rfl rfl rfl (hT _ w13) (hT _ w1298) hM_refused ⟨Nat.le_of_ble_eq_true rfl, Nat.le_of_ble_eq_true rfl⟩, (hT _ w1300), (hT _ wp29)⟩ (RW.preV (ci := 11) (q0 := 0) hZ hS (va_free (wc := [(y, .inr (11, MO yr yi ysb ybs))]) hD hS hA [0] rfl) (hP.sub (ws' := [(y, .inr (11, MO yr yi ysb ybs))]) [0] rfl) hK (hD.sub (ws' := [(y, .inr (11, MO yr yi ysb ybs))]) [0] (by decide) rfl) rfl rfl) rfl rfl hl.1 rfl (lv_room (Nat.le_of_ble_eq_true rfl)) dM_node_25 ⟨Nat.le_of_ble_eq_true rfl, Nat.le_of_ble_eq_true rfl⟩) (fun ru3 u9 H locs hpu3 hP hD hS => ?_)
  have hpu3 : ru3 = 0 := hpu3
  have hP : va_P D vwCl [(yr 18, .inl (cT 0, 16, .inl nmA)), (yr 24, .inl (cT 0, 496, .inl fx)), (y, .inr (11, MO yr (va_up yi 1 0) ysb ybs))] _ := hP
  have hD : va_D A [(yr 18, .inl (cT 0, 16, .inl nmA)), (yr 24, .inl (cT 0, 496, .inl fx)), (y, .inr (11, MO yr (va_up yi 1 0) ysb ybs))] := hD
  refine lv_topi (fun y9 e9 => ?_)
  cases (show y9 = 0 from e9.trans hpu3)
  refine lv_if_eq (tgt := 33) hx hb dM_node_28 rfl (fun _ => ?_) (fun h4 => absurd (by decide) h4)
  refine lv_bipush (v := 31) hx hb dM_node_33 (by decide) ?_
  refine lv_iload_n hx hb dM_node_35 rfl (lv_at hl 1 rfl) ?_
  refine lv_imul hx hb dM_node_36 ?_
  refine lv_topi (fun y9 e9 => ?_)
  cases (show y9 = nI (31 * t) from e9.trans (pk_mul 31 t))
  refine lv_iload_n hx hb dM_node_37 rfl (lv_at hl 2 rfl) ?_
  refine lv_iadd hx hb dM_node_38 ?_
  refine lv_topi (fun y9 e9 => ?_)
  cases (show y9 = nI ((31 * t) + k) from e9.trans (nI_add (31 * t) k))
  refine lv_istore hx hb dM_node_39 hl (by decide) rfl (fun ls hl => ?_)
  have hl : lv_has ls 5 [(4, .int (nI ((31 * t) + k))), (0, .ref y), (1, .int (nI t)), (2, .int (nI k)), (3, .int 5)] := hl
  refine lv_iload_n hx hb dM_node_41 rfl (lv_at hl 4 rfl) ?_
  refine lv_tableIn (off := 90) (tgt := 132) hx hb dM_node_42 (by decide) (by decide) rfl rfl ?_
  refine lv_aload_n hx hb dM_node_132 rfl (lv_at hl 1 rfl) ?_
  refine va_get (D := D) (ci := 11) (v := .ref (yr 24)) (C := R_M) (T := T_M) (N := 60) hx hb hT in_M hown hK hP 2 rfl rfl 24 (by decide) (hT _ w1128) (fun _ h9 => h9) rfl dM_node_133 ?_
  refine lv_iload hx hb dM_node_136 (lv_at hl 0 rfl) ?_
  refine lq_iald (j := (31 * t) + k) hx hb hK hP 1 0 rfl rfl rfl (by omega) (by omega) dM_node_138 ?_
  have hP9 := hP.sub (ws' := [(y, .inr (11, MO yr (va_up yi 1 0) ysb ybs)), (yr 18, .inl (cT 0, 16, .inl nmA)), (yr 24, .inl (cT 0, 496, .inl fx))]) [2, 0, 1] rfl
  have hD9 := hD.sub (ws' := [(y, .inr (11, MO yr (va_up yi 1 0) ysb ybs)), (yr 18, .inl (cT 0, 16, .inl nmA)), (yr 24, .inl (cT 0, 496, .inl fx))]) [2, 0, 1] (by decide) rfl
  refine W.widen (k := 0) (n := 0) (Nat.le_of_ble_eq_true rfl) (Nat.le_of_ble_eq_true rfl) ?_
  exact W.iret (v := fx ((31 * t) + k)) hx hb hr (fun t9 ht9 hW9 => ⟨⟨fx ((31 * t) + k), (), rfl, (show (fx ((31 * t) + k)) = fx (31 * t + k) from rfl), by rw [ht9]; exact hP9, hD9⟩, hS.F ht9⟩) hS.2.2 dM_node_139
set_option maxHeartbeats 4000000 in
set_option maxRecDepth 100000 in
theorem y_node6 (l : Launch) (D : va_G) (cT : Nat → ClassId) (y : Nat) (yr : Nat → Nat) (yi : Nat → Int32) (ysb : Int64) (ybs : Int64) (nmA : Nat → Int32) (fx : Nat → Int32) (t : Nat) (k : Nat) (m9 : Nat) (hc0 : 0 ≤ nI t ∧ nI t ≤ yi 17 - 1) (ht16 : t < 16) (hm9 : nmA t = nI m9) (hm31 : m9 ≤ 31) (hk9 : k < m9) (sz : Nat) : Met l yM_node WM_node ({ frames := 3, cells := 0, slots := 0, locals := 65 } : Room) (RW D vwCl [.ref y, .int (nI t), .int (nI k), .int 6] [(y, .inr (11, MO yr yi ysb ybs)), (yr 18, .inl (cT 0, 16, .inl nmA)), (yr 25, .inl (cT 0, 496, .inl fx))] (TY cT) sz) (va_Qi (fun (r9 : Int32) (u9 : Unit) => r9 = fx (31 * t + k)) (BW D vwCl (va_A [(y, .inr (11, MO yr yi ysb ybs)), (yr 18, .inl (cT 0, 16, .inl nmA)), (yr 25, .inl (cT 0, 496, .inl fx))] sz) (fun u9 : Unit => [(y, .inr (11, MO yr (va_up yi 1 0) ysb ybs)), (yr 18, .inl (cT 0, 16, .inl nmA)), (yr 25, .inl (cT 0, 496, .inl fx))])) (va_A [(y, .inr (11, MO yr yi ysb ybs)), (yr 18, .inl (cT 0, 16, .inl nmA)), (yr 25, .inl (cT 0, 496, .inl fx))] sz)) 0 0 (va_A [(y, .inr (11, MO yr yi ysb ybs)), (yr 18, .inl (cT 0, 16, .inl nmA)), (yr 25, .inl (cT 0, 496, .inl fx))] sz) := by
  refine Met.ofW (cc := cM_node) (maxL := 5) (ret := (some .int)) (by decide) rfl ?_
  intro p e s m args below meth c s₁ B hml hv
  obtain ⟨rfl, hsz, hZ, hP, hK, hD0⟩ := hv
  have hx := B.exec
  have hb := B.bytes
  have hr := B.returns
  have hts := atoms_spec (ws := WM_node) B.pre
  have hT : ∀ w ∈ TB, w.before _ s = true := fun w h => hts w (List.mem_cons_of_mem _ h)
  have hown : s.vm.findClass R_M = some m.cls := findClass_of_methodNamed B.named
  have hlocks := B.notSynchronized
  subst hsz
  have hD := hD0.self (sz := s.heap.size)
  generalize hAe : va_A [(y, .inr (11, MO yr yi ysb ybs)), (yr 18, .inl (cT 0, 16, .inl nmA)), (yr 25, .inl (cT 0, 496, .inl fx))] s.heap.size = A at hD hZ ⊢
  have hA : ∀ q : Nat, s.heap.size ≤ q → A q := fun q h => by rw [← hAe]; exact Or.inr h
  have hS : va_S A s.heap s.heap [] := va_S.rf
  have hl := lv_entry ([.ref y, .int (nI t), .int (nI k), .int 6]) (n := 5) (Nat.le_of_ble_eq_true rfl)
  rw [lg_entry_eq]
  generalize (lg_sl ([.ref y, .int (nI t), .int (nI k), .int 6]) ++ List.replicate (5 - (lg_sl ([.ref y, .int (nI t), .int (nI k), .int 6])).length) Slot.unset).toArray = ls at hl ⊢
  have hl : lv_has ls 5 [(0, .ref y), (1, .int (nI t)), (2, .int (nI k)), (3, .int 6)] := hl
  refine lv_aload_n hx hb dM_node_0 rfl (lv_at hl 0 rfl) ?_
  refine lv_aload_n hx hb dM_node_1 rfl (lv_at hl 0 rfl) ?_
  refine lv_iload_n hx hb dM_node_2 rfl (lv_at hl 1 rfl) ?_
  refine lv_iload_n hx hb dM_node_3 rfl (lv_at hl 2 rfl) ?_
  refine ro_i (va_Run.run (va_runV (As := [.int (nI t), .int (nI k)]) (rest := [.ref y]) ⟨hx, hb, hml, hown, hT⟩ (m_noNode_ok l D cT y yr yi ysb ybs nmA t k m9 hc0 ht16 hm9 hm31 hk9) ⟨callB_of 2 hT (tb_gd w1535) rfl rfl rfl (hT _ w13) (hT _ w1532) hM_noNode ⟨Nat.le_of_ble_eq_true rfl, Nat.le_of_ble_eq_true rfl⟩, (hT _ w1534), (hT _ wp60)⟩ (RO.preV (ci := 11) (q0 := 0) hZ hS (hP.sub (ws' := [(y, .inr (11, MO yr yi ysb ybs)), (yr 18, .inl (cT 0, 16, .inl nmA))]) [0, 1] rfl) hK rfl rfl) rfl rfl hl.1 rfl (lv_room (Nat.le_of_ble_eq_true rfl)) dM_node_4 ⟨Nat.le_of_ble_eq_true rfl, Nat.le_of_ble_eq_true rfl⟩)) ?_
  refine lv_if_ne (tgt := 20) hx hb dM_node_7 rfl (fun h1 => absurd (by decide) h1) (fun _ => ?_)
  refine lv_iload_n hx hb dM_node_10 rfl (lv_at hl 3 rfl) ?_
  refine lv_iconst (v := 0) hx hb dM_node_11 (by decide) ?_
  refine lv_bipush (v := 7) hx hb dM_node_12 (by decide) ?_
  refine ro_i (va_Run.run (va_runS (As := [.int 6, .int 0, .int 7]) (rest := [.ref y]) ⟨hx, hb, hml, hown, hT⟩ (m_in l D cT 6 0 7) ⟨callB_of 3 hT (tb_gd w1297) rfl rfl rfl (hT _ w13) (hT _ w1295) hM_in ⟨Nat.le_of_ble_eq_true rfl, Nat.le_of_ble_eq_true rfl⟩, (hT _ w1296)⟩ (RO.preS hZ hS ((show va_P D vwCl [] _ from fun _ _ h => nomatch h)) hK) rfl rfl hl.1 rfl (lv_room (Nat.le_of_ble_eq_true rfl)) dM_node_14 ⟨Nat.le_of_ble_eq_true rfl, Nat.le_of_ble_eq_true rfl⟩)) ?_
  refine lv_if_ne (tgt := 24) hx hb dM_node_17 rfl (fun _ => ?_) (fun h2 => absurd h2 (by rw [bi_t (by decide)]; decide))
  refine lv_iconst (v := 0) hx hb dM_node_24 (by decide) ?_
  refine rw_i (wc := [(y, .inr (11, MO yr yi ysb ybs))]) (wr := [(yr 18, .inl (cT 0, 16, .inl nmA)), (yr 25, .inl (cT 0, 496, .inl fx))]) hP hD hS hA [0] [1, 2] rfl rfl (by decide) (by decide) (va_runV (As := [.int 0]) (rest := []) ⟨hx, hb, hml, hown, hT⟩ (m_ref0 l D cT y yr yi ysb ybs _) ⟨callB_of 1 hT (tb_gd w1301) rfl rfl rfl (hT _ w13) (hT _ w1298) hM_refused ⟨Nat.le_of_ble_eq_true rfl, Nat.le_of_ble_eq_true rfl⟩, (hT _ w1300), (hT _ wp29)⟩ (RW.preV (ci := 11) (q0 := 0) hZ hS (va_free (wc := [(y, .inr (11, MO yr yi ysb ybs))]) hD hS hA [0] rfl) (hP.sub (ws' := [(y, .inr (11, MO yr yi ysb ybs))]) [0] rfl) hK (hD.sub (ws' := [(y, .inr (11, MO yr yi ysb ybs))]) [0] (by decide) rfl) rfl rfl) rfl rfl hl.1 rfl (lv_room (Nat.le_of_ble_eq_true rfl)) dM_node_25 ⟨Nat.le_of_ble_eq_true rfl, Nat.le_of_ble_eq_true rfl⟩) (fun ru3 u9 H locs hpu3 hP hD hS => ?_)
  have hpu3 : ru3 = 0 := hpu3
  have hP : va_P D vwCl [(yr 18, .inl (cT 0, 16, .inl nmA)), (yr 25, .inl (cT 0, 496, .inl fx)), (y, .inr (11, MO yr (va_up yi 1 0) ysb ybs))] _ := hP
  have hD : va_D A [(yr 18, .inl (cT 0, 16, .inl nmA)), (yr 25, .inl (cT 0, 496, .inl fx)), (y, .inr (11, MO yr (va_up yi 1 0) ysb ybs))] := hD
  refine lv_topi (fun y9 e9 => ?_)
  cases (show y9 = 0 from e9.trans hpu3)
  refine lv_if_eq (tgt := 33) hx hb dM_node_28 rfl (fun _ => ?_) (fun h4 => absurd (by decide) h4)
  refine lv_bipush (v := 31) hx hb dM_node_33 (by decide) ?_
  refine lv_iload_n hx hb dM_node_35 rfl (lv_at hl 1 rfl) ?_
  refine lv_imul hx hb dM_node_36 ?_
  refine lv_topi (fun y9 e9 => ?_)
  cases (show y9 = nI (31 * t) from e9.trans (pk_mul 31 t))
  refine lv_iload_n hx hb dM_node_37 rfl (lv_at hl 2 rfl) ?_
  refine lv_iadd hx hb dM_node_38 ?_
  refine lv_topi (fun y9 e9 => ?_)
  cases (show y9 = nI ((31 * t) + k) from e9.trans (nI_add (31 * t) k))
  refine lv_istore hx hb dM_node_39 hl (by decide) rfl (fun ls hl => ?_)
  have hl : lv_has ls 5 [(4, .int (nI ((31 * t) + k))), (0, .ref y), (1, .int (nI t)), (2, .int (nI k)), (3, .int 6)] := hl
  refine lv_iload_n hx hb dM_node_41 rfl (lv_at hl 4 rfl) ?_
  refine lv_tableIn (off := 98) (tgt := 140) hx hb dM_node_42 (by decide) (by decide) rfl rfl ?_
  refine lv_aload_n hx hb dM_node_140 rfl (lv_at hl 1 rfl) ?_
  refine va_get (D := D) (ci := 11) (v := .ref (yr 25)) (C := R_M) (T := T_M) (N := 60) hx hb hT in_M hown hK hP 2 rfl rfl 25 (by decide) (hT _ w1129) (fun _ h9 => h9) rfl dM_node_141 ?_
  refine lv_iload hx hb dM_node_144 (lv_at hl 0 rfl) ?_
  refine lq_iald (j := (31 * t) + k) hx hb hK hP 1 0 rfl rfl rfl (by omega) (by omega) dM_node_146 ?_
  have hP9 := hP.sub (ws' := [(y, .inr (11, MO yr (va_up yi 1 0) ysb ybs)), (yr 18, .inl (cT 0, 16, .inl nmA)), (yr 25, .inl (cT 0, 496, .inl fx))]) [2, 0, 1] rfl
  have hD9 := hD.sub (ws' := [(y, .inr (11, MO yr (va_up yi 1 0) ysb ybs)), (yr 18, .inl (cT 0, 16, .inl nmA)), (yr 25, .inl (cT 0, 496, .inl fx))]) [2, 0, 1] (by decide) rfl
  refine W.widen (k := 0) (n := 0) (Nat.le_of_ble_eq_true rfl) (Nat.le_of_ble_eq_true rfl) ?_
  exact W.iret (v := fx ((31 * t) + k)) hx hb hr (fun t9 ht9 hW9 => ⟨⟨fx ((31 * t) + k), (), rfl, (show (fx ((31 * t) + k)) = fx (31 * t + k) from rfl), by rw [ht9]; exact hP9, hD9⟩, hS.F ht9⟩) hS.2.2 dM_node_147
set_option maxHeartbeats 4000000 in
set_option maxRecDepth 100000 in
theorem y_node7 (l : Launch) (D : va_G) (cT : Nat → ClassId) (y : Nat) (yr : Nat → Nat) (yi : Nat → Int32) (ysb : Int64) (ybs : Int64) (nmA : Nat → Int32) (fx : Nat → Int32) (t : Nat) (k : Nat) (m9 : Nat) (hc0 : 0 ≤ nI t ∧ nI t ≤ yi 17 - 1) (ht16 : t < 16) (hm9 : nmA t = nI m9) (hm31 : m9 ≤ 31) (hk9 : k < m9) (hz9 : fx (31 * t + k) = 0 ∨ fx (31 * t + k) = 1) (sz : Nat) : Met l yM_node WM_node ({ frames := 3, cells := 0, slots := 0, locals := 65 } : Room) (RW D vwCl [.ref y, .int (nI t), .int (nI k), .int 7] [(y, .inr (11, MO yr yi ysb ybs)), (yr 18, .inl (cT 0, 16, .inl nmA)), (yr 26, .inl (cT 3, 496, .inl fx))] (TY cT) sz) (va_Qi (fun (r9 : Int32) (u9 : Unit) => r9 = fx (31 * t + k)) (BW D vwCl (va_A [(y, .inr (11, MO yr yi ysb ybs)), (yr 18, .inl (cT 0, 16, .inl nmA)), (yr 26, .inl (cT 3, 496, .inl fx))] sz) (fun u9 : Unit => [(y, .inr (11, MO yr (va_up yi 1 0) ysb ybs)), (yr 18, .inl (cT 0, 16, .inl nmA)), (yr 26, .inl (cT 3, 496, .inl fx))])) (va_A [(y, .inr (11, MO yr yi ysb ybs)), (yr 18, .inl (cT 0, 16, .inl nmA)), (yr 26, .inl (cT 3, 496, .inl fx))] sz)) 0 0 (va_A [(y, .inr (11, MO yr yi ysb ybs)), (yr 18, .inl (cT 0, 16, .inl nmA)), (yr 26, .inl (cT 3, 496, .inl fx))] sz) := by
  refine Met.ofW (cc := cM_node) (maxL := 5) (ret := (some .int)) (by decide) rfl ?_
  intro p e s m args below meth c s₁ B hml hv
  obtain ⟨rfl, hsz, hZ, hP, hK, hD0⟩ := hv
  have hx := B.exec
  have hb := B.bytes
  have hr := B.returns
  have hts := atoms_spec (ws := WM_node) B.pre
  have hT : ∀ w ∈ TB, w.before _ s = true := fun w h => hts w (List.mem_cons_of_mem _ h)
  have hown : s.vm.findClass R_M = some m.cls := findClass_of_methodNamed B.named
  have hlocks := B.notSynchronized
  subst hsz
  have hD := hD0.self (sz := s.heap.size)
  generalize hAe : va_A [(y, .inr (11, MO yr yi ysb ybs)), (yr 18, .inl (cT 0, 16, .inl nmA)), (yr 26, .inl (cT 3, 496, .inl fx))] s.heap.size = A at hD hZ ⊢
  have hA : ∀ q : Nat, s.heap.size ≤ q → A q := fun q h => by rw [← hAe]; exact Or.inr h
  have hS : va_S A s.heap s.heap [] := va_S.rf
  have hl := lv_entry ([.ref y, .int (nI t), .int (nI k), .int 7]) (n := 5) (Nat.le_of_ble_eq_true rfl)
  rw [lg_entry_eq]
  generalize (lg_sl ([.ref y, .int (nI t), .int (nI k), .int 7]) ++ List.replicate (5 - (lg_sl ([.ref y, .int (nI t), .int (nI k), .int 7])).length) Slot.unset).toArray = ls at hl ⊢
  have hl : lv_has ls 5 [(0, .ref y), (1, .int (nI t)), (2, .int (nI k)), (3, .int 7)] := hl
  refine lv_aload_n hx hb dM_node_0 rfl (lv_at hl 0 rfl) ?_
  refine lv_aload_n hx hb dM_node_1 rfl (lv_at hl 0 rfl) ?_
  refine lv_iload_n hx hb dM_node_2 rfl (lv_at hl 1 rfl) ?_
  refine lv_iload_n hx hb dM_node_3 rfl (lv_at hl 2 rfl) ?_
  refine ro_i (va_Run.run (va_runV (As := [.int (nI t), .int (nI k)]) (rest := [.ref y]) ⟨hx, hb, hml, hown, hT⟩ (m_noNode_ok l D cT y yr yi ysb ybs nmA t k m9 hc0 ht16 hm9 hm31 hk9) ⟨callB_of 2 hT (tb_gd w1535) rfl rfl rfl (hT _ w13) (hT _ w1532) hM_noNode ⟨Nat.le_of_ble_eq_true rfl, Nat.le_of_ble_eq_true rfl⟩, (hT _ w1534), (hT _ wp60)⟩ (RO.preV (ci := 11) (q0 := 0) hZ hS (hP.sub (ws' := [(y, .inr (11, MO yr yi ysb ybs)), (yr 18, .inl (cT 0, 16, .inl nmA))]) [0, 1] rfl) hK rfl rfl) rfl rfl hl.1 rfl (lv_room (Nat.le_of_ble_eq_true rfl)) dM_node_4 ⟨Nat.le_of_ble_eq_true rfl, Nat.le_of_ble_eq_true rfl⟩)) ?_
  refine lv_if_ne (tgt := 20) hx hb dM_node_7 rfl (fun h1 => absurd (by decide) h1) (fun _ => ?_)
  refine lv_iload_n hx hb dM_node_10 rfl (lv_at hl 3 rfl) ?_
  refine lv_iconst (v := 0) hx hb dM_node_11 (by decide) ?_
  refine lv_bipush (v := 7) hx hb dM_node_12 (by decide) ?_
  refine ro_i (va_Run.run (va_runS (As := [.int 7, .int 0, .int 7]) (rest := [.ref y]) ⟨hx, hb, hml, hown, hT⟩ (m_in l D cT 7 0 7) ⟨callB_of 3 hT (tb_gd w1297) rfl rfl rfl (hT _ w13) (hT _ w1295) hM_in ⟨Nat.le_of_ble_eq_true rfl, Nat.le_of_ble_eq_true rfl⟩, (hT _ w1296)⟩ (RO.preS hZ hS ((show va_P D vwCl [] _ from fun _ _ h => nomatch h)) hK) rfl rfl hl.1 rfl (lv_room (Nat.le_of_ble_eq_true rfl)) dM_node_14 ⟨Nat.le_of_ble_eq_true rfl, Nat.le_of_ble_eq_true rfl⟩)) ?_
  refine lv_if_ne (tgt := 24) hx hb dM_node_17 rfl (fun _ => ?_) (fun h2 => absurd h2 (by rw [bi_t (by decide)]; decide))
  refine lv_iconst (v := 0) hx hb dM_node_24 (by decide) ?_
  refine rw_i (wc := [(y, .inr (11, MO yr yi ysb ybs))]) (wr := [(yr 18, .inl (cT 0, 16, .inl nmA)), (yr 26, .inl (cT 3, 496, .inl fx))]) hP hD hS hA [0] [1, 2] rfl rfl (by decide) (by decide) (va_runV (As := [.int 0]) (rest := []) ⟨hx, hb, hml, hown, hT⟩ (m_ref0 l D cT y yr yi ysb ybs _) ⟨callB_of 1 hT (tb_gd w1301) rfl rfl rfl (hT _ w13) (hT _ w1298) hM_refused ⟨Nat.le_of_ble_eq_true rfl, Nat.le_of_ble_eq_true rfl⟩, (hT _ w1300), (hT _ wp29)⟩ (RW.preV (ci := 11) (q0 := 0) hZ hS (va_free (wc := [(y, .inr (11, MO yr yi ysb ybs))]) hD hS hA [0] rfl) (hP.sub (ws' := [(y, .inr (11, MO yr yi ysb ybs))]) [0] rfl) hK (hD.sub (ws' := [(y, .inr (11, MO yr yi ysb ybs))]) [0] (by decide) rfl) rfl rfl) rfl rfl hl.1 rfl (lv_room (Nat.le_of_ble_eq_true rfl)) dM_node_25 ⟨Nat.le_of_ble_eq_true rfl, Nat.le_of_ble_eq_true rfl⟩) (fun ru3 u9 H locs hpu3 hP hD hS => ?_)
  have hpu3 : ru3 = 0 := hpu3
  have hP : va_P D vwCl [(yr 18, .inl (cT 0, 16, .inl nmA)), (yr 26, .inl (cT 3, 496, .inl fx)), (y, .inr (11, MO yr (va_up yi 1 0) ysb ybs))] _ := hP
  have hD : va_D A [(yr 18, .inl (cT 0, 16, .inl nmA)), (yr 26, .inl (cT 3, 496, .inl fx)), (y, .inr (11, MO yr (va_up yi 1 0) ysb ybs))] := hD
  refine lv_topi (fun y9 e9 => ?_)
  cases (show y9 = 0 from e9.trans hpu3)
  refine lv_if_eq (tgt := 33) hx hb dM_node_28 rfl (fun _ => ?_) (fun h4 => absurd (by decide) h4)
  refine lv_bipush (v := 31) hx hb dM_node_33 (by decide) ?_
  refine lv_iload_n hx hb dM_node_35 rfl (lv_at hl 1 rfl) ?_
  refine lv_imul hx hb dM_node_36 ?_
  refine lv_topi (fun y9 e9 => ?_)
  cases (show y9 = nI (31 * t) from e9.trans (pk_mul 31 t))
  refine lv_iload_n hx hb dM_node_37 rfl (lv_at hl 2 rfl) ?_
  refine lv_iadd hx hb dM_node_38 ?_
  refine lv_topi (fun y9 e9 => ?_)
  cases (show y9 = nI ((31 * t) + k) from e9.trans (nI_add (31 * t) k))
  refine lv_istore hx hb dM_node_39 hl (by decide) rfl (fun ls hl => ?_)
  have hl : lv_has ls 5 [(4, .int (nI ((31 * t) + k))), (0, .ref y), (1, .int (nI t)), (2, .int (nI k)), (3, .int 7)] := hl
  refine lv_iload_n hx hb dM_node_41 rfl (lv_at hl 4 rfl) ?_
  refine lv_tableOut (tgt := 148) hx hb dM_node_42 (Or.inr (by decide)) rfl ?_
  refine lv_aload_n hx hb dM_node_148 rfl (lv_at hl 1 rfl) ?_
  refine va_get (D := D) (ci := 11) (v := .ref (yr 26)) (C := R_M) (T := T_M) (N := 60) hx hb hT in_M hown hK hP 2 rfl rfl 26 (by decide) (hT _ w1130) (fun _ h9 => h9) rfl dM_node_149 ?_
  refine lv_iload hx hb dM_node_152 (lv_at hl 0 rfl) ?_
  refine lq_zald (j := (31 * t) + k) hx hb hK hP 1 3 rfl rfl rfl (by omega) (by omega) dM_node_154 ?_
  refine lv_if_eq (tgt := 162) hx hb dM_node_155 rfl (fun h5 => ?_) (fun h5 => ?_)
  · refine lv_iconst (v := 0) hx hb dM_node_162 (by decide) ?_
    have hP9 := hP.sub (ws' := [(y, .inr (11, MO yr (va_up yi 1 0) ysb ybs)), (yr 18, .inl (cT 0, 16, .inl nmA)), (yr 26, .inl (cT 3, 496, .inl fx))]) [2, 0, 1] rfl
    have hD9 := hD.sub (ws' := [(y, .inr (11, MO yr (va_up yi 1 0) ysb ybs)), (yr 18, .inl (cT 0, 16, .inl nmA)), (yr 26, .inl (cT 3, 496, .inl fx))]) [2, 0, 1] (by decide) rfl
    refine W.widen (k := 0) (n := 0) (Nat.le_of_ble_eq_true rfl) (Nat.le_of_ble_eq_true rfl) ?_
    exact W.iret (v := 0) hx hb hr (fun t9 ht9 hW9 => ⟨⟨0, (), rfl, (show 0 = fx (31 * t + k) from (by rw [h5])), by rw [ht9]; exact hP9, hD9⟩, hS.F ht9⟩) hS.2.2 dM_node_163
  · refine lv_iconst (v := 1) hx hb dM_node_158 (by decide) ?_
    refine lv_goto (tgt := 163) hx hb dM_node_159 rfl ?_
    have hP9 := hP.sub (ws' := [(y, .inr (11, MO yr (va_up yi 1 0) ysb ybs)), (yr 18, .inl (cT 0, 16, .inl nmA)), (yr 26, .inl (cT 3, 496, .inl fx))]) [2, 0, 1] rfl
    have hD9 := hD.sub (ws' := [(y, .inr (11, MO yr (va_up yi 1 0) ysb ybs)), (yr 18, .inl (cT 0, 16, .inl nmA)), (yr 26, .inl (cT 3, 496, .inl fx))]) [2, 0, 1] (by decide) rfl
    refine W.widen (k := 0) (n := 0) (Nat.le_of_ble_eq_true rfl) (Nat.le_of_ble_eq_true rfl) ?_
    exact W.iret (v := 1) hx hb hr (fun t9 ht9 hW9 => ⟨⟨1, (), rfl, (show 1 = fx (31 * t + k) from (hz9.resolve_left h5).symm), by rw [ht9]; exact hP9, hD9⟩, hS.F ht9⟩) hS.2.2 dM_node_163
