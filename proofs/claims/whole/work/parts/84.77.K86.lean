set_option maxHeartbeats 4000000 in
set_option maxRecDepth 100000 in
theorem y_node_not (l : Launch) (D : va_G) (cT : Nat → ClassId) (y : Nat) (yr : Nat → Nat) (yi : Nat → Int32) (ysb : Int64) (ybs : Int64) (v : Int32) (a2 : Int32) (a3 : Int32) (hq : ¬ (0 ≤ v ∧ v ≤ yi 17 - 1)) (sz : Nat) : Met l yM_node WM_node ({ frames := 3, cells := 0, slots := 0, locals := 65 } : Room) (RW D vwCl [.ref y, .int v, .int a2, .int a3] [(y, .inr (11, MO yr yi ysb ybs))] (TY cT) sz) (va_Qi (fun (r9 : Int32) (u9 : Unit) => r9 = 0) (BW D vwCl (va_A [(y, .inr (11, MO yr yi ysb ybs))] sz) (fun u9 : Unit => [(y, .inr (11, MO yr (va_up yi 1 1) ysb ybs))])) (va_A [(y, .inr (11, MO yr yi ysb ybs))] sz)) 0 0 (va_A [(y, .inr (11, MO yr yi ysb ybs))] sz) := by
  refine Met.ofW (cc := cM_node) (maxL := 5) (ret := (some .int)) (by decide) rfl ?_
  intro p e s m args below meth c s₁ B hml hv
  obtain ⟨rfl, hsz, hZ, hP, hK, hD0⟩ := hv
  have hx := B.exec
  have hb := B.bytes
  have hr := B.returns
  have hts := atoms_spec (ws := WM_node) B.pre
  have hT : ∀ w ∈ TB, w.before _ s = true := fun w h => hts w (List.mem_cons_of_mem _ h)
  have hown : s.vm.findClass R_M = some m.cls := findClass_of_methodNamed B.named
  have hlocks := B.notSynchronized
  subst hsz
  have hD := hD0.self (sz := s.heap.size)
  generalize hAe : va_A [(y, .inr (11, MO yr yi ysb ybs))] s.heap.size = A at hD hZ ⊢
  have hA : ∀ q : Nat, s.heap.size ≤ q → A q := fun q h => by rw [← hAe]; exact Or.inr h
  have hS : va_S A s.heap s.heap [] := va_S.rf
  have hl := lv_entry ([.ref y, .int v, .int a2, .int a3]) (n := 5) (Nat.le_of_ble_eq_true rfl)
  rw [lg_entry_eq]
  generalize (lg_sl ([.ref y, .int v, .int a2, .int a3]) ++ List.replicate (5 - (lg_sl ([.ref y, .int v, .int a2, .int a3])).length) Slot.unset).toArray = ls at hl ⊢
  have hl : lv_has ls 5 [(0, .ref y), (1, .int v), (2, .int a2), (3, .int a3)] := hl
  refine lv_aload_n hx hb dM_node_0 rfl (lv_at hl 0 rfl) ?_
  refine lv_aload_n hx hb dM_node_1 rfl (lv_at hl 0 rfl) ?_
  refine lv_iload_n hx hb dM_node_2 rfl (lv_at hl 1 rfl) ?_
  refine lv_iload_n hx hb dM_node_3 rfl (lv_at hl 2 rfl) ?_
  refine ro_i (va_Run.run (va_runV (As := [.int v, .int a2]) (rest := [.ref y]) ⟨hx, hb, hml, hown, hT⟩ (m_noNode_t l D cT y yr yi ysb ybs v a2 hq) ⟨callB_of 2 hT (tb_gd w1535) rfl rfl rfl (hT _ w13) (hT _ w1532) hM_noNode ⟨Nat.le_of_ble_eq_true rfl, Nat.le_of_ble_eq_true rfl⟩, (hT _ w1534), (hT _ wp60)⟩ (RO.preV (ci := 11) (q0 := 0) hZ hS (hP.sub (ws' := [(y, .inr (11, MO yr yi ysb ybs))]) [0] rfl) hK rfl rfl) rfl rfl hl.1 rfl (lv_room (Nat.le_of_ble_eq_true rfl)) dM_node_4 ⟨Nat.le_of_ble_eq_true rfl, Nat.le_of_ble_eq_true rfl⟩)) ?_
  refine lv_if_ne (tgt := 20) hx hb dM_node_7 rfl (fun _ => ?_) (fun h1 => absurd h1 (by decide))
  refine lv_iconst (v := 1) hx hb dM_node_20 (by decide) ?_
  refine lv_goto (tgt := 25) hx hb dM_node_21 rfl ?_
  refine rw_i (wc := [(y, .inr (11, MO yr yi ysb ybs))]) (wr := []) hP hD hS hA [0] [] rfl rfl (by decide) (by decide) (va_runV (As := [.int 1]) (rest := []) ⟨hx, hb, hml, hown, hT⟩ (m_ref1 l D cT y yr yi ysb ybs _) ⟨callB_of 1 hT (tb_gd w1301) rfl rfl rfl (hT _ w13) (hT _ w1298) hM_refused ⟨Nat.le_of_ble_eq_true rfl, Nat.le_of_ble_eq_true rfl⟩, (hT _ w1300), (hT _ wp29)⟩ (RW.preV (ci := 11) (q0 := 0) hZ hS (va_free (wc := [(y, .inr (11, MO yr yi ysb ybs))]) hD hS hA [0] rfl) (hP.sub (ws' := [(y, .inr (11, MO yr yi ysb ybs))]) [0] rfl) hK (hD.sub (ws' := [(y, .inr (11, MO yr yi ysb ybs))]) [0] (by decide) rfl) rfl rfl) rfl rfl hl.1 rfl (lv_room (Nat.le_of_ble_eq_true rfl)) dM_node_25 ⟨Nat.le_of_ble_eq_true rfl, Nat.le_of_ble_eq_true rfl⟩) (fun ru2 u9 H locs hpu2 hP hD hS => ?_)
  have hpu2 : ru2 = 1 := hpu2
  have hP : va_P D vwCl [(y, .inr (11, MO yr (va_up yi 1 1) ysb ybs))] _ := hP
  have hD : va_D A [(y, .inr (11, MO yr (va_up yi 1 1) ysb ybs))] := hD
  refine lv_topi (fun y9 e9 => ?_)
  cases (show y9 = 1 from e9.trans hpu2)
  refine lv_if_eq (tgt := 33) hx hb dM_node_28 rfl (fun h3 => absurd h3 (by decide)) (fun _ => ?_)
  refine lv_iconst (v := 0) hx hb dM_node_31 (by decide) ?_
  have hP9 := hP.sub (ws' := [(y, .inr (11, MO yr (va_up yi 1 1) ysb ybs))]) [0] rfl
  have hD9 := hD.sub (ws' := [(y, .inr (11, MO yr (va_up yi 1 1) ysb ybs))]) [0] (by decide) rfl
  refine W.widen (k := 0) (n := 0) (Nat.le_of_ble_eq_true rfl) (Nat.le_of_ble_eq_true rfl) ?_
  exact W.iret (v := 0) hx hb hr (fun t9 ht9 hW9 => ⟨⟨0, (), rfl, (show 0 = 0 from rfl), by rw [ht9]; exact hP9, hD9⟩, hS.F ht9⟩) hS.2.2 dM_node_32
set_option maxHeartbeats 4000000 in
set_option maxRecDepth 100000 in
theorem y_node_nok (l : Launch) (D : va_G) (cT : Nat → ClassId) (y : Nat) (yr : Nat → Nat) (yi : Nat → Int32) (ysb : Int64) (ybs : Int64) (nmA : Nat → Int32) (t : Nat) (a2 : Int32) (a3 : Int32) (hc0 : 0 ≤ nI t ∧ nI t ≤ yi 17 - 1) (ht16 : t < 16) (hq : ¬ (0 ≤ a2 ∧ a2 ≤ nmA t - 1)) (sz : Nat) : Met l yM_node WM_node ({ frames := 3, cells := 0, slots := 0, locals := 65 } : Room) (RW D vwCl [.ref y, .int (nI t), .int a2, .int a3] [(y, .inr (11, MO yr yi ysb ybs)), (yr 18, .inl (cT 0, 16, .inl nmA))] (TY cT) sz) (va_Qi (fun (r9 : Int32) (u9 : Unit) => r9 = 0) (BW D vwCl (va_A [(y, .inr (11, MO yr yi ysb ybs)), (yr 18, .inl (cT 0, 16, .inl nmA))] sz) (fun u9 : Unit => [(y, .inr (11, MO yr (va_up yi 1 1) ysb ybs)), (yr 18, .inl (cT 0, 16, .inl nmA))])) (va_A [(y, .inr (11, MO yr yi ysb ybs)), (yr 18, .inl (cT 0, 16, .inl nmA))] sz)) 0 0 (va_A [(y, .inr (11, MO yr yi ysb ybs)), (yr 18, .inl (cT 0, 16, .inl nmA))] sz) := by
  refine Met.ofW (cc := cM_node) (maxL := 5) (ret := (some .int)) (by decide) rfl ?_
  intro p e s m args below meth c s₁ B hml hv
  obtain ⟨rfl, hsz, hZ, hP, hK, hD0⟩ := hv
  have hx := B.exec
  have hb := B.bytes
  have hr := B.returns
  have hts := atoms_spec (ws := WM_node) B.pre
  have hT : ∀ w ∈ TB, w.before _ s = true := fun w h => hts w (List.mem_cons_of_mem _ h)
  have hown : s.vm.findClass R_M = some m.cls := findClass_of_methodNamed B.named
  have hlocks := B.notSynchronized
  subst hsz
  have hD := hD0.self (sz := s.heap.size)
  generalize hAe : va_A [(y, .inr (11, MO yr yi ysb ybs)), (yr 18, .inl (cT 0, 16, .inl nmA))] s.heap.size = A at hD hZ ⊢
  have hA : ∀ q : Nat, s.heap.size ≤ q → A q := fun q h => by rw [← hAe]; exact Or.inr h
  have hS : va_S A s.heap s.heap [] := va_S.rf
  have hl := lv_entry ([.ref y, .int (nI t), .int a2, .int a3]) (n := 5) (Nat.le_of_ble_eq_true rfl)
  rw [lg_entry_eq]
  generalize (lg_sl ([.ref y, .int (nI t), .int a2, .int a3]) ++ List.replicate (5 - (lg_sl ([.ref y, .int (nI t), .int a2, .int a3])).length) Slot.unset).toArray = ls at hl ⊢
  have hl : lv_has ls 5 [(0, .ref y), (1, .int (nI t)), (2, .int a2), (3, .int a3)] := hl
  refine lv_aload_n hx hb dM_node_0 rfl (lv_at hl 0 rfl) ?_
  refine lv_aload_n hx hb dM_node_1 rfl (lv_at hl 0 rfl) ?_
  refine lv_iload_n hx hb dM_node_2 rfl (lv_at hl 1 rfl) ?_
  refine lv_iload_n hx hb dM_node_3 rfl (lv_at hl 2 rfl) ?_
  refine ro_i (va_Run.run (va_runV (As := [.int (nI t), .int a2]) (rest := [.ref y]) ⟨hx, hb, hml, hown, hT⟩ (m_noNode_k l D cT y yr yi ysb ybs nmA t a2 hc0 ht16 hq) ⟨callB_of 2 hT (tb_gd w1535) rfl rfl rfl (hT _ w13) (hT _ w1532) hM_noNode ⟨Nat.le_of_ble_eq_true rfl, Nat.le_of_ble_eq_true rfl⟩, (hT _ w1534), (hT _ wp60)⟩ (RO.preV (ci := 11) (q0 := 0) hZ hS (hP.sub (ws' := [(y, .inr (11, MO yr yi ysb ybs)), (yr 18, .inl (cT 0, 16, .inl nmA))]) [0, 1] rfl) hK rfl rfl) rfl rfl hl.1 rfl (lv_room (Nat.le_of_ble_eq_true rfl)) dM_node_4 ⟨Nat.le_of_ble_eq_true rfl, Nat.le_of_ble_eq_true rfl⟩)) ?_
  refine lv_if_ne (tgt := 20) hx hb dM_node_7 rfl (fun _ => ?_) (fun h1 => absurd h1 (by decide))
  refine lv_iconst (v := 1) hx hb dM_node_20 (by decide) ?_
  refine lv_goto (tgt := 25) hx hb dM_node_21 rfl ?_
  refine rw_i (wc := [(y, .inr (11, MO yr yi ysb ybs))]) (wr := [(yr 18, .inl (cT 0, 16, .inl nmA))]) hP hD hS hA [0] [1] rfl rfl (by decide) (by decide) (va_runV (As := [.int 1]) (rest := []) ⟨hx, hb, hml, hown, hT⟩ (m_ref1 l D cT y yr yi ysb ybs _) ⟨callB_of 1 hT (tb_gd w1301) rfl rfl rfl (hT _ w13) (hT _ w1298) hM_refused ⟨Nat.le_of_ble_eq_true rfl, Nat.le_of_ble_eq_true rfl⟩, (hT _ w1300), (hT _ wp29)⟩ (RW.preV (ci := 11) (q0 := 0) hZ hS (va_free (wc := [(y, .inr (11, MO yr yi ysb ybs))]) hD hS hA [0] rfl) (hP.sub (ws' := [(y, .inr (11, MO yr yi ysb ybs))]) [0] rfl) hK (hD.sub (ws' := [(y, .inr (11, MO yr yi ysb ybs))]) [0] (by decide) rfl) rfl rfl) rfl rfl hl.1 rfl (lv_room (Nat.le_of_ble_eq_true rfl)) dM_node_25 ⟨Nat.le_of_ble_eq_true rfl, Nat.le_of_ble_eq_true rfl⟩) (fun ru2 u9 H locs hpu2 hP hD hS => ?_)
  have hpu2 : ru2 = 1 := hpu2
  have hP : va_P D vwCl [(yr 18, .inl (cT 0, 16, .inl nmA)), (y, .inr (11, MO yr (va_up yi 1 1) ysb ybs))] _ := hP
  have hD : va_D A [(yr 18, .inl (cT 0, 16, .inl nmA)), (y, .inr (11, MO yr (va_up yi 1 1) ysb ybs))] := hD
  refine lv_topi (fun y9 e9 => ?_)
  cases (show y9 = 1 from e9.trans hpu2)
  refine lv_if_eq (tgt := 33) hx hb dM_node_28 rfl (fun h3 => absurd h3 (by decide)) (fun _ => ?_)
  refine lv_iconst (v := 0) hx hb dM_node_31 (by decide) ?_
  have hP9 := hP.sub (ws' := [(y, .inr (11, MO yr (va_up yi 1 1) ysb ybs)), (yr 18, .inl (cT 0, 16, .inl nmA))]) [1, 0] rfl
  have hD9 := hD.sub (ws' := [(y, .inr (11, MO yr (va_up yi 1 1) ysb ybs)), (yr 18, .inl (cT 0, 16, .inl nmA))]) [1, 0] (by decide) rfl
  refine W.widen (k := 0) (n := 0) (Nat.le_of_ble_eq_true rfl) (Nat.le_of_ble_eq_true rfl) ?_
  exact W.iret (v := 0) hx hb hr (fun t9 ht9 hW9 => ⟨⟨0, (), rfl, (show 0 = 0 from rfl), by rw [ht9]; exact hP9, hD9⟩, hS.F ht9⟩) hS.2.2 dM_node_32
set_option maxHeartbeats 4000000 in
set_option maxRecDepth 100000 in
theorem y_node_now (l : Launch) (D : va_G) (cT : Nat → ClassId) (y : Nat) (yr : Nat → Nat) (yi : Nat → Int32) (ysb : Int64) (ybs : Int64) (nmA : Nat → Int32) (t : Nat) (k : Nat) (m9 : Nat) (a3 : Int32) (hc0 : 0 ≤ nI t ∧ nI t ≤ yi 17 - 1) (ht16 : t < 16) (hm9 : nmA t = nI m9) (hm31 : m9 ≤ 31) (hk9 : k < m9) (hsw : ¬ (0 ≤ a3 ∧ a3 ≤ 7)) (sz : Nat) : Met l yM_node WM_node ({ frames := 3, cells := 0, slots := 0, locals := 65 } : Room) (RW D vwCl [.ref y, .int (nI t), .int (nI k), .int a3] [(y, .inr (11, MO yr yi ysb ybs)), (yr 18, .inl (cT 0, 16, .inl nmA))] (TY cT) sz) (va_Qi (fun (r9 : Int32) (u9 : Unit) => r9 = 0) (BW D vwCl (va_A [(y, .inr (11, MO yr yi ysb ybs)), (yr 18, .inl (cT 0, 16, .inl nmA))] sz) (fun u9 : Unit => [(y, .inr (11, MO yr (va_up yi 1 1) ysb ybs)), (yr 18, .inl (cT 0, 16, .inl nmA))])) (va_A [(y, .inr (11, MO yr yi ysb ybs)), (yr 18, .inl (cT 0, 16, .inl nmA))] sz)) 0 0 (va_A [(y, .inr (11, MO yr yi ysb ybs)), (yr 18, .inl (cT 0, 16, .inl nmA))] sz) := by
  refine Met.ofW (cc := cM_node) (maxL := 5) (ret := (some .int)) (by decide) rfl ?_
  intro p e s m args below meth c s₁ B hml hv
  obtain ⟨rfl, hsz, hZ, hP, hK, hD0⟩ := hv
  have hx := B.exec
  have hb := B.bytes
  have hr := B.returns
  have hts := atoms_spec (ws := WM_node) B.pre
  have hT : ∀ w ∈ TB, w.before _ s = true := fun w h => hts w (List.mem_cons_of_mem _ h)
  have hown : s.vm.findClass R_M = some m.cls := findClass_of_methodNamed B.named
  have hlocks := B.notSynchronized
  subst hsz
  have hD := hD0.self (sz := s.heap.size)
  generalize hAe : va_A [(y, .inr (11, MO yr yi ysb ybs)), (yr 18, .inl (cT 0, 16, .inl nmA))] s.heap.size = A at hD hZ ⊢
  have hA : ∀ q : Nat, s.heap.size ≤ q → A q := fun q h => by rw [← hAe]; exact Or.inr h
  have hS : va_S A s.heap s.heap [] := va_S.rf
  have hl := lv_entry ([.ref y, .int (nI t), .int (nI k), .int a3]) (n := 5) (Nat.le_of_ble_eq_true rfl)
  rw [lg_entry_eq]
  generalize (lg_sl ([.ref y, .int (nI t), .int (nI k), .int a3]) ++ List.replicate (5 - (lg_sl ([.ref y, .int (nI t), .int (nI k), .int a3])).length) Slot.unset).toArray = ls at hl ⊢
  have hl : lv_has ls 5 [(0, .ref y), (1, .int (nI t)), (2, .int (nI k)), (3, .int a3)] := hl
  refine lv_aload_n hx hb dM_node_0 rfl (lv_at hl 0 rfl) ?_
  refine lv_aload_n hx hb dM_node_1 rfl (lv_at hl 0 rfl) ?_
  refine lv_iload_n hx hb dM_node_2 rfl (lv_at hl 1 rfl) ?_
  refine lv_iload_n hx hb dM_node_3 rfl (lv_at hl 2 rfl) ?_
  refine ro_i (va_Run.run (va_runV (As := [.int (nI t), .int (nI k)]) (rest := [.ref y]) ⟨hx, hb, hml, hown, hT⟩ (m_noNode_ok l D cT y yr yi ysb ybs nmA t k m9 hc0 ht16 hm9 hm31 hk9) ⟨callB_of 2 hT (tb_gd w1535) rfl rfl rfl (hT _ w13) (hT _ w1532) hM_noNode ⟨Nat.le_of_ble_eq_true rfl, Nat.le_of_ble_eq_true rfl⟩, (hT _ w1534), (hT _ wp60)⟩ (RO.preV (ci := 11) (q0 := 0) hZ hS (hP.sub (ws' := [(y, .inr (11, MO yr yi ysb ybs)), (yr 18, .inl (cT 0, 16, .inl nmA))]) [0, 1] rfl) hK rfl rfl) rfl rfl hl.1 rfl (lv_room (Nat.le_of_ble_eq_true rfl)) dM_node_4 ⟨Nat.le_of_ble_eq_true rfl, Nat.le_of_ble_eq_true rfl⟩)) ?_
  refine lv_if_ne (tgt := 20) hx hb dM_node_7 rfl (fun h1 => absurd (by decide) h1) (fun _ => ?_)
  refine lv_iload_n hx hb dM_node_10 rfl (lv_at hl 3 rfl) ?_
  refine lv_iconst (v := 0) hx hb dM_node_11 (by decide) ?_
  refine lv_bipush (v := 7) hx hb dM_node_12 (by decide) ?_
  refine ro_i (va_Run.run (va_runS (As := [.int a3, .int 0, .int 7]) (rest := [.ref y]) ⟨hx, hb, hml, hown, hT⟩ (m_in l D cT a3 0 7) ⟨callB_of 3 hT (tb_gd w1297) rfl rfl rfl (hT _ w13) (hT _ w1295) hM_in ⟨Nat.le_of_ble_eq_true rfl, Nat.le_of_ble_eq_true rfl⟩, (hT _ w1296)⟩ (RO.preS hZ hS ((show va_P D vwCl [] _ from fun _ _ h => nomatch h)) hK) rfl rfl hl.1 rfl (lv_room (Nat.le_of_ble_eq_true rfl)) dM_node_14 ⟨Nat.le_of_ble_eq_true rfl, Nat.le_of_ble_eq_true rfl⟩)) ?_
  refine lv_if_ne (tgt := 24) hx hb dM_node_17 rfl (fun h2 => absurd (bi_f hsw) h2) (fun _ => ?_)
  refine lv_iconst (v := 1) hx hb dM_node_20 (by decide) ?_
  refine lv_goto (tgt := 25) hx hb dM_node_21 rfl ?_
  refine rw_i (wc := [(y, .inr (11, MO yr yi ysb ybs))]) (wr := [(yr 18, .inl (cT 0, 16, .inl nmA))]) hP hD hS hA [0] [1] rfl rfl (by decide) (by decide) (va_runV (As := [.int 1]) (rest := []) ⟨hx, hb, hml, hown, hT⟩ (m_ref1 l D cT y yr yi ysb ybs _) ⟨callB_of 1 hT (tb_gd w1301) rfl rfl rfl (hT _ w13) (hT _ w1298) hM_refused ⟨Nat.le_of_ble_eq_true rfl, Nat.le_of_ble_eq_true rfl⟩, (hT _ w1300), (hT _ wp29)⟩ (RW.preV (ci := 11) (q0 := 0) hZ hS (va_free (wc := [(y, .inr (11, MO yr yi ysb ybs))]) hD hS hA [0] rfl) (hP.sub (ws' := [(y, .inr (11, MO yr yi ysb ybs))]) [0] rfl) hK (hD.sub (ws' := [(y, .inr (11, MO yr yi ysb ybs))]) [0] (by decide) rfl) rfl rfl) rfl rfl hl.1 rfl (lv_room (Nat.le_of_ble_eq_true rfl)) dM_node_25 ⟨Nat.le_of_ble_eq_true rfl, Nat.le_of_ble_eq_true rfl⟩) (fun ru3 u9 H locs hpu3 hP hD hS => ?_)
  have hpu3 : ru3 = 1 := hpu3
  have hP : va_P D vwCl [(yr 18, .inl (cT 0, 16, .inl nmA)), (y, .inr (11, MO yr (va_up yi 1 1) ysb ybs))] _ := hP
  have hD : va_D A [(yr 18, .inl (cT 0, 16, .inl nmA)), (y, .inr (11, MO yr (va_up yi 1 1) ysb ybs))] := hD
  refine lv_topi (fun y9 e9 => ?_)
  cases (show y9 = 1 from e9.trans hpu3)
  refine lv_if_eq (tgt := 33) hx hb dM_node_28 rfl (fun h4 => absurd h4 (by decide)) (fun _ => ?_)
  refine lv_iconst (v := 0) hx hb dM_node_31 (by decide) ?_
  have hP9 := hP.sub (ws' := [(y, .inr (11, MO yr (va_up yi 1 1) ysb ybs)), (yr 18, .inl (cT 0, 16, .inl nmA))]) [1, 0] rfl
  have hD9 := hD.sub (ws' := [(y, .inr (11, MO yr (va_up yi 1 1) ysb ybs)), (yr 18, .inl (cT 0, 16, .inl nmA))]) [1, 0] (by decide) rfl
  refine W.widen (k := 0) (n := 0) (Nat.le_of_ble_eq_true rfl) (Nat.le_of_ble_eq_true rfl) ?_
  exact W.iret (v := 0) hx hb hr (fun t9 ht9 hW9 => ⟨⟨0, (), rfl, (show 0 = 0 from rfl), by rw [ht9]; exact hP9, hD9⟩, hS.F ht9⟩) hS.2.2 dM_node_32
