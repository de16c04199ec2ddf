set_option maxHeartbeats 4000000 in
set_option maxRecDepth 100000 in
theorem y_uses_no (l : Launch) (D : va_G) (cT : Nat → ClassId) (y : Nat) (yr : Nat → Nat) (yi : Nat → Int32) (ysb : Int64) (ybs : Int64) (v : Int32) (hq : ¬ (0 ≤ v ∧ v ≤ yi 2 - 1)) (sz : Nat) : Met l yM_uses WM_uses ({ frames := 2, cells := 0, slots := 0, locals := 43 } : Room) (RW D vwCl [.ref y, .int v] [(y, .inr (11, MO yr yi ysb ybs))] (TY cT) sz) (va_Qi (fun (r9 : Int32) (u9 : Unit) => r9 = 0) (BW D vwCl (va_A [(y, .inr (11, MO yr yi ysb ybs))] sz) (fun u9 : Unit => [(y, .inr (11, MO yr (va_up yi 1 1) ysb ybs))])) (va_A [(y, .inr (11, MO yr yi ysb ybs))] sz)) 0 0 (va_A [(y, .inr (11, MO yr yi ysb ybs))] sz) := by
  refine Met.ofW (cc := cM_uses) (maxL := 5) (ret := (some .int)) (by decide) rfl ?_
  intro p e s m args below meth c s₁ B hml hv
  obtain ⟨rfl, hsz, hZ, hP, hK, hD0⟩ := hv
  have hx := B.exec
  have hb := B.bytes
  have hr := B.returns
  have hts := atoms_spec (ws := WM_uses) B.pre
  have hT : ∀ w ∈ TB, w.before _ s = true := fun w h => hts w (List.mem_cons_of_mem _ h)
  have hown : s.vm.findClass R_M = some m.cls := findClass_of_methodNamed B.named
  have hlocks := B.notSynchronized
  subst hsz
  have hD := hD0.self (sz := s.heap.size)
  generalize hAe : va_A [(y, .inr (11, MO yr yi ysb ybs))] s.heap.size = A at hD hZ ⊢
  have hA : ∀ q : Nat, s.heap.size ≤ q → A q := fun q h => by rw [← hAe]; exact Or.inr h
  have hS : va_S A s.heap s.heap [] := va_S.rf
  have hl := lv_entry ([.ref y, .int v]) (n := 5) (Nat.le_of_ble_eq_true rfl)
  rw [lg_entry_eq]
  generalize (lg_sl ([.ref y, .int v]) ++ List.replicate (5 - (lg_sl ([.ref y, .int v])).length) Slot.unset).toArray = ls at hl ⊢
  have hl : lv_has ls 5 [(0, .ref y), (1, .int v)] := hl
  refine lv_aload_n hx hb dM_uses_0 rfl (lv_at hl 0 rfl) ?_
  refine lv_aload_n hx hb dM_uses_1 rfl (lv_at hl 0 rfl) ?_
  refine lv_iload_n hx hb dM_uses_2 rfl (lv_at hl 1 rfl) ?_
  refine ro_i (va_Run.run (va_runV (As := [.int v]) (rest := [.ref y]) ⟨hx, hb, hml, hown, hT⟩ (m_noColumn l D cT y yr yi ysb ybs v) ⟨callB_of 1 hT (tb_gd w1317) rfl rfl rfl (hT _ w13) (hT _ w1314) hM_noColumn ⟨Nat.le_of_ble_eq_true rfl, Nat.le_of_ble_eq_true rfl⟩, (hT _ w1316), (hT _ wp31)⟩ (RO.preV (ci := 11) (q0 := 0) hZ hS (hP.sub (ws' := [(y, .inr (11, MO yr yi ysb ybs))]) [0] rfl) hK rfl rfl) rfl rfl hl.1 rfl (lv_room (Nat.le_of_ble_eq_true rfl)) dM_uses_3 ⟨Nat.le_of_ble_eq_true rfl, Nat.le_of_ble_eq_true rfl⟩)) ?_
  refine lv_if_eq (tgt := 13) hx hb dM_uses_6 rfl (fun h1 => ?_) (fun h1 => ?_)
  · refine lv_iconst (v := 0) hx hb dM_uses_13 (by decide) ?_
    refine rw_i (wc := [(y, .inr (11, MO yr yi ysb ybs))]) (wr := []) hP hD hS hA [0] [] rfl rfl (by decide) (by decide) (va_runV (As := [.int 0]) (rest := []) ⟨hx, hb, hml, hown, hT⟩ (m_ref0 l D cT y yr yi ysb ybs _) ⟨callB_of 1 hT (tb_gd w1301) rfl rfl rfl (hT _ w13) (hT _ w1298) hM_refused ⟨Nat.le_of_ble_eq_true rfl, Nat.le_of_ble_eq_true rfl⟩, (hT _ w1300), (hT _ wp29)⟩ (RW.preV (ci := 11) (q0 := 0) hZ hS (va_free (wc := [(y, .inr (11, MO yr yi ysb ybs))]) hD hS hA [0] rfl) (hP.sub (ws' := [(y, .inr (11, MO yr yi ysb ybs))]) [0] rfl) hK (hD.sub (ws' := [(y, .inr (11, MO yr yi ysb ybs))]) [0] (by decide) rfl) rfl rfl) rfl rfl hl.1 rfl (lv_room (Nat.le_of_ble_eq_true rfl)) dM_uses_14 ⟨Nat.le_of_ble_eq_true rfl, Nat.le_of_ble_eq_true rfl⟩) (fun ru2 u9 H locs hpu2 hP hD hS => ?_)
    have hpu2 : ru2 = 0 := hpu2
    have hP : va_P D vwCl [(y, .inr (11, MO yr (va_up yi 1 0) ysb ybs))] _ := hP
    have hD : va_D A [(y, .inr (11, MO yr (va_up yi 1 0) ysb ybs))] := hD
    refine lv_topi (fun y9 e9 => ?_)
    cases (show y9 = 0 from e9.trans hpu2)
    refine lv_if_eq (tgt := 22) hx hb dM_uses_17 rfl (fun _ => ?_) (fun h3 => absurd (by decide) h3)
    exact absurd (nn_e (bi_0 h1)) hq
  · refine lv_iconst (v := 1) hx hb dM_uses_9 (by decide) ?_
    refine lv_goto (tgt := 14) hx hb dM_uses_10 rfl ?_
    refine rw_i (wc := [(y, .inr (11, MO yr yi ysb ybs))]) (wr := []) hP hD hS hA [0] [] rfl rfl (by decide) (by decide) (va_runV (As := [.int 1]) (rest := []) ⟨hx, hb, hml, hown, hT⟩ (m_ref1 l D cT y yr yi ysb ybs _) ⟨callB_of 1 hT (tb_gd w1301) rfl rfl rfl (hT _ w13) (hT _ w1298) hM_refused ⟨Nat.le_of_ble_eq_true rfl, Nat.le_of_ble_eq_true rfl⟩, (hT _ w1300), (hT _ wp29)⟩ (RW.preV (ci := 11) (q0 := 0) hZ hS (va_free (wc := [(y, .inr (11, MO yr yi ysb ybs))]) hD hS hA [0] rfl) (hP.sub (ws' := [(y, .inr (11, MO yr yi ysb ybs))]) [0] rfl) hK (hD.sub (ws' := [(y, .inr (11, MO yr yi ysb ybs))]) [0] (by decide) rfl) rfl rfl) rfl rfl hl.1 rfl (lv_room (Nat.le_of_ble_eq_true rfl)) dM_uses_14 ⟨Nat.le_of_ble_eq_true rfl, Nat.le_of_ble_eq_true rfl⟩) (fun ru4 u9 H locs hpu4 hP hD hS => ?_)
    have hpu4 : ru4 = 1 := hpu4
    have hP : va_P D vwCl [(y, .inr (11, MO yr (va_up yi 1 1) ysb ybs))] _ := hP
    have hD : va_D A [(y, .inr (11, MO yr (va_up yi 1 1) ysb ybs))] := hD
    refine lv_topi (fun y9 e9 => ?_)
    cases (show y9 = 1 from e9.trans hpu4)
    refine lv_if_eq (tgt := 22) hx hb dM_uses_17 rfl (fun h5 => absurd h5 (by decide)) (fun _ => ?_)
    refine lv_iconst (v := 0) hx hb dM_uses_20 (by decide) ?_
    have hP9 := hP.sub (ws' := [(y, .inr (11, MO yr (va_up yi 1 1) ysb ybs))]) [0] rfl
    have hD9 := hD.sub (ws' := [(y, .inr (11, MO yr (va_up yi 1 1) ysb ybs))]) [0] (by decide) rfl
    refine W.widen (k := 0) (n := 0) (Nat.le_of_ble_eq_true rfl) (Nat.le_of_ble_eq_true rfl) ?_
    exact W.iret (v := 0) hx hb hr (fun t9 ht9 hW9 => ⟨⟨0, (), rfl, (show 0 = 0 from rfl), by rw [ht9]; exact hP9, hD9⟩, hS.F ht9⟩) hS.2.2 dM_uses_21
set_option maxHeartbeats 4000000 in
set_option maxRecDepth 100000 in
theorem y_edge_no (l : Launch) (D : va_G) (cT : Nat → ClassId) (y : Nat) (yr : Nat → Nat) (yi : Nat → Int32) (ysb : Int64) (ybs : Int64) (v : Int32) (a2 : Int32) (hq : ¬ (0 ≤ v ∧ v ≤ yi 2 - 1)) (sz : Nat) : Met l yM_edge WM_edge ({ frames := 2, cells := 0, slots := 0, locals := 43 } : Room) (RW D vwCl [.ref y, .int v, .int a2] [(y, .inr (11, MO yr yi ysb ybs))] (TY cT) sz) (va_Qi (fun (r9 : Int32) (u9 : Unit) => r9 = 0) (BW D vwCl (va_A [(y, .inr (11, MO yr yi ysb ybs))] sz) (fun u9 : Unit => [(y, .inr (11, MO yr (va_up yi 1 1) ysb ybs))])) (va_A [(y, .inr (11, MO yr yi ysb ybs))] sz)) 0 0 (va_A [(y, .inr (11, MO yr yi ysb ybs))] sz) := by
  refine Met.ofW (cc := cM_edge) (maxL := 3) (ret := (some .int)) (by decide) rfl ?_
  intro p e s m args below meth c s₁ B hml hv
  obtain ⟨rfl, hsz, hZ, hP, hK, hD0⟩ := hv
  have hx := B.exec
  have hb := B.bytes
  have hr := B.returns
  have hts := atoms_spec (ws := WM_edge) B.pre
  have hT : ∀ w ∈ TB, w.before _ s = true := fun w h => hts w (List.mem_cons_of_mem _ h)
  have hown : s.vm.findClass R_M = some m.cls := findClass_of_methodNamed B.named
  have hlocks := B.notSynchronized
  subst hsz
  have hD := hD0.self (sz := s.heap.size)
  generalize hAe : va_A [(y, .inr (11, MO yr yi ysb ybs))] s.heap.size = A at hD hZ ⊢
  have hA : ∀ q : Nat, s.heap.size ≤ q → A q := fun q h => by rw [← hAe]; exact Or.inr h
  have hS : va_S A s.heap s.heap [] := va_S.rf
  have hl := lv_entry ([.ref y, .int v, .int a2]) (n := 3) (Nat.le_of_ble_eq_true rfl)
  rw [lg_entry_eq]
  generalize (lg_sl ([.ref y, .int v, .int a2]) ++ List.replicate (3 - (lg_sl ([.ref y, .int v, .int a2])).length) Slot.unset).toArray = ls at hl ⊢
  have hl : lv_has ls 3 [(0, .ref y), (1, .int v), (2, .int a2)] := hl
  refine lv_aload_n hx hb dM_edge_0 rfl (lv_at hl 0 rfl) ?_
  refine lv_aload_n hx hb dM_edge_1 rfl (lv_at hl 0 rfl) ?_
  refine lv_iload_n hx hb dM_edge_2 rfl (lv_at hl 1 rfl) ?_
  refine ro_i (va_Run.run (va_runV (As := [.int v]) (rest := [.ref y]) ⟨hx, hb, hml, hown, hT⟩ (m_noColumn l D cT y yr yi ysb ybs v) ⟨callB_of 1 hT (tb_gd w1317) rfl rfl rfl (hT _ w13) (hT _ w1314) hM_noColumn ⟨Nat.le_of_ble_eq_true rfl, Nat.le_of_ble_eq_true rfl⟩, (hT _ w1316), (hT _ wp31)⟩ (RO.preV (ci := 11) (q0 := 0) hZ hS (hP.sub (ws' := [(y, .inr (11, MO yr yi ysb ybs))]) [0] rfl) hK rfl rfl) rfl rfl hl.1 rfl (lv_room (Nat.le_of_ble_eq_true rfl)) dM_edge_3 ⟨Nat.le_of_ble_eq_true rfl, Nat.le_of_ble_eq_true rfl⟩)) ?_
  refine lv_if_ne (tgt := 25) hx hb dM_edge_6 rfl (fun h1 => ?_) (fun h1 => ?_)
  · refine lv_iconst (v := 1) hx hb dM_edge_25 (by decide) ?_
    refine lv_goto (tgt := 30) hx hb dM_edge_26 rfl ?_
    refine rw_i (wc := [(y, .inr (11, MO yr yi ysb ybs))]) (wr := []) hP hD hS hA [0] [] rfl rfl (by decide) (by decide) (va_runV (As := [.int 1]) (rest := []) ⟨hx, hb, hml, hown, hT⟩ (m_ref1 l D cT y yr yi ysb ybs _) ⟨callB_of 1 hT (tb_gd w1301) rfl rfl rfl (hT _ w13) (hT _ w1298) hM_refused ⟨Nat.le_of_ble_eq_true rfl, Nat.le_of_ble_eq_true rfl⟩, (hT _ w1300), (hT _ wp29)⟩ (RW.preV (ci := 11) (q0 := 0) hZ hS (va_free (wc := [(y, .inr (11, MO yr yi ysb ybs))]) hD hS hA [0] rfl) (hP.sub (ws' := [(y, .inr (11, MO yr yi ysb ybs))]) [0] rfl) hK (hD.sub (ws' := [(y, .inr (11, MO yr yi ysb ybs))]) [0] (by decide) rfl) rfl rfl) rfl rfl hl.1 rfl (lv_room (Nat.le_of_ble_eq_true rfl)) dM_edge_30 ⟨Nat.le_of_ble_eq_true rfl, Nat.le_of_ble_eq_true rfl⟩) (fun ru2 u9 H locs hpu2 hP hD hS => ?_)
    have hpu2 : ru2 = 1 := hpu2
    have hP : va_P D vwCl [(y, .inr (11, MO yr (va_up yi 1 1) ysb ybs))] _ := hP
    have hD : va_D A [(y, .inr (11, MO yr (va_up yi 1 1) ysb ybs))] := hD
    refine lv_topi (fun y9 e9 => ?_)
    cases (show y9 = 1 from e9.trans hpu2)
    refine lv_if_eq (tgt := 40) hx hb dM_edge_33 rfl (fun h3 => absurd h3 (by decide)) (fun _ => ?_)
    refine lv_iconst (v := 0) hx hb dM_edge_36 (by decide) ?_
    refine lv_goto (tgt := 51) hx hb dM_edge_37 rfl ?_
    have hP9 := hP.sub (ws' := [(y, .inr (11, MO yr (va_up yi 1 1) ysb ybs))]) [0] rfl
    have hD9 := hD.sub (ws' := [(y, .inr (11, MO yr (va_up yi 1 1) ysb ybs))]) [0] (by decide) rfl
    refine W.widen (k := 0) (n := 0) (Nat.le_of_ble_eq_true rfl) (Nat.le_of_ble_eq_true rfl) ?_
    exact W.iret (v := 0) hx hb hr (fun t9 ht9 hW9 => ⟨⟨0, (), rfl, (show 0 = 0 from rfl), by rw [ht9]; exact hP9, hD9⟩, hS.F ht9⟩) hS.2.2 dM_edge_51
  · exact absurd (nn_e (bi_0 h1)) hq
set_option maxHeartbeats 4000000 in
set_option maxRecDepth 100000 in
theorem y_bin_no (l : Launch) (D : va_G) (cT : Nat → ClassId) (y : Nat) (yr : Nat → Nat) (yi : Nat → Int32) (ysb : Int64) (ybs : Int64) (v : Int32) (a2 : Int32) (hq : ¬ (0 ≤ v ∧ v ≤ yi 2 - 1)) (sz : Nat) : Met l yM_bin WM_bin ({ frames := 2, cells := 0, slots := 0, locals := 43 } : Room) (RW D vwCl [.ref y, .int v, .int a2] [(y, .inr (11, MO yr yi ysb ybs))] (TY cT) sz) (va_Qi (fun (r9 : Int32) (u9 : Unit) => r9 = 0) (BW D vwCl (va_A [(y, .inr (11, MO yr yi ysb ybs))] sz) (fun u9 : Unit => [(y, .inr (11, MO yr (va_up yi 1 1) ysb ybs))])) (va_A [(y, .inr (11, MO yr yi ysb ybs))] sz)) 0 0 (va_A [(y, .inr (11, MO yr yi ysb ybs))] sz) := by
  refine Met.ofW (cc := cM_bin) (maxL := 5) (ret := (some .int)) (by decide) rfl ?_
  intro p e s m args below meth c s₁ B hml hv
  obtain ⟨rfl, hsz, hZ, hP, hK, hD0⟩ := hv
  have hx := B.exec
  have hb := B.bytes
  have hr := B.returns
  have hts := atoms_spec (ws := WM_bin) B.pre
  have hT : ∀ w ∈ TB, w.before _ s = true := fun w h => hts w (List.mem_cons_of_mem _ h)
  have hown : s.vm.findClass R_M = some m.cls := findClass_of_methodNamed B.named
  have hlocks := B.notSynchronized
  subst hsz
  have hD := hD0.self (sz := s.heap.size)
  generalize hAe : va_A [(y, .inr (11, MO yr yi ysb ybs))] s.heap.size = A at hD hZ ⊢
  have hA : ∀ q : Nat, s.heap.size ≤ q → A q := fun q h => by rw [← hAe]; exact Or.inr h
  have hS : va_S A s.heap s.heap [] := va_S.rf
  have hl := lv_entry ([.ref y, .int v, .int a2]) (n := 5) (Nat.le_of_ble_eq_true rfl)
  rw [lg_entry_eq]
  generalize (lg_sl ([.ref y, .int v, .int a2]) ++ List.replicate (5 - (lg_sl ([.ref y, .int v, .int a2])).length) Slot.unset).toArray = ls at hl ⊢
  have hl : lv_has ls 5 [(0, .ref y), (1, .int v), (2, .int a2)] := hl
  refine lv_aload_n hx hb dM_bin_0 rfl (lv_at hl 0 rfl) ?_
  refine lv_aload_n hx hb dM_bin_1 rfl (lv_at hl 0 rfl) ?_
  refine lv_iload_n hx hb dM_bin_2 rfl (lv_at hl 1 rfl) ?_
  refine ro_i (va_Run.run (va_runV (As := [.int v]) (rest := [.ref y]) ⟨hx, hb, hml, hown, hT⟩ (m_noColumn l D cT y yr yi ysb ybs v) ⟨callB_of 1 hT (tb_gd w1317) rfl rfl rfl (hT _ w13) (hT _ w1314) hM_noColumn ⟨Nat.le_of_ble_eq_true rfl, Nat.le_of_ble_eq_true rfl⟩, (hT _ w1316), (hT _ wp31)⟩ (RO.preV (ci := 11) (q0 := 0) hZ hS (hP.sub (ws' := [(y, .inr (11, MO yr yi ysb ybs))]) [0] rfl) hK rfl rfl) rfl rfl hl.1 rfl (lv_room (Nat.le_of_ble_eq_true rfl)) dM_bin_3 ⟨Nat.le_of_ble_eq_true rfl, Nat.le_of_ble_eq_true rfl⟩)) ?_
  refine lv_if_ne (tgt := 18) hx hb dM_bin_6 rfl (fun h1 => ?_) (fun h1 => ?_)
  · refine lv_iconst (v := 1) hx hb dM_bin_18 (by decide) ?_
    refine lv_goto (tgt := 23) hx hb dM_bin_19 rfl ?_
    refine rw_i (wc := [(y, .inr (11, MO yr yi ysb ybs))]) (wr := []) hP hD hS hA [0] [] rfl rfl (by decide) (by decide) (va_runV (As := [.int 1]) (rest := []) ⟨hx, hb, hml, hown, hT⟩ (m_ref1 l D cT y yr yi ysb ybs _) ⟨callB_of 1 hT (tb_gd w1301) rfl rfl rfl (hT _ w13) (hT _ w1298) hM_refused ⟨Nat.le_of_ble_eq_true rfl, Nat.le_of_ble_eq_true rfl⟩, (hT _ w1300), (hT _ wp29)⟩ (RW.preV (ci := 11) (q0 := 0) hZ hS (va_free (wc := [(y, .inr (11, MO yr yi ysb ybs))]) hD hS hA [0] rfl) (hP.sub (ws' := [(y, .inr (11, MO yr yi ysb ybs))]) [0] rfl) hK (hD.sub (ws' := [(y, .inr (11, MO yr yi ysb ybs))]) [0] (by decide) rfl) rfl rfl) rfl rfl hl.1 rfl (lv_room (Nat.le_of_ble_eq_true rfl)) dM_bin_23 ⟨Nat.le_of_ble_eq_true rfl, Nat.le_of_ble_eq_true rfl⟩) (fun ru2 u9 H locs hpu2 hP hD hS => ?_)
    have hpu2 : ru2 = 1 := hpu2
    have hP : va_P D vwCl [(y, .inr (11, MO yr (va_up yi 1 1) ysb ybs))] _ := hP
    have hD : va_D A [(y, .inr (11, MO yr (va_up yi 1 1) ysb ybs))] := hD
    refine lv_topi (fun y9 e9 => ?_)
    cases (show y9 = 1 from e9.trans hpu2)
    refine lv_if_eq (tgt := 31) hx hb dM_bin_26 rfl (fun h3 => absurd h3 (by decide)) (fun _ => ?_)
    refine lv_iconst (v := 0) hx hb dM_bin_29 (by decide) ?_
    have hP9 := hP.sub (ws' := [(y, .inr (11, MO yr (va_up yi 1 1) ysb ybs))]) [0] rfl
    have hD9 := hD.sub (ws' := [(y, .inr (11, MO yr (va_up yi 1 1) ysb ybs))]) [0] (by decide) rfl
    refine W.widen (k := 0) (n := 0) (Nat.le_of_ble_eq_true rfl) (Nat.le_of_ble_eq_true rfl) ?_
    exact W.iret (v := 0) hx hb hr (fun t9 ht9 hW9 => ⟨⟨0, (), rfl, (show 0 = 0 from rfl), by rw [ht9]; exact hP9, hD9⟩, hS.F ht9⟩) hS.2.2 dM_bin_30
  · exact absurd (nn_e (bi_0 h1)) hq
set_option maxHeartbeats 4000000 in
set_option maxRecDepth 100000 in
theorem y_edge_noi (l : Launch) (D : va_G) (cT : Nat → ClassId) (y : Nat) (yr : Nat → Nat) (yi : Nat → Int32) (ysb : Int64) (ybs : Int64) (em : Nat → Int32) (c0 : Nat) (a2 : Int32) (hc0 : 0 ≤ nI c0 ∧ nI c0 ≤ yi 2 - 1) (hc6 : c0 < 6) (hq : ¬ (0 ≤ a2 ∧ a2 ≤ em c0 - 1)) (sz : Nat) : Met l yM_edge WM_edge ({ frames := 2, cells := 0, slots := 0, locals := 43 } : Room) (RW D vwCl [.ref y, .int (nI c0), .int a2] [(y, .inr (11, MO yr yi ysb ybs)), (yr 8, .inl (cT 0, 6, .inl em))] (TY cT) sz) (va_Qi (fun (r9 : Int32) (u9 : Unit) => r9 = 0) (BW D vwCl (va_A [(y, .inr (11, MO yr yi ysb ybs)), (yr 8, .inl (cT 0, 6, .inl em))] sz) (fun u9 : Unit => [(y, .inr (11, MO yr (va_up yi 1 1) ysb ybs)), (yr 8, .inl (cT 0, 6, .inl em))])) (va_A [(y, .inr (11, MO yr yi ysb ybs)), (yr 8, .inl (cT 0, 6, .inl em))] sz)) 0 0 (va_A [(y, .inr (11, MO yr yi ysb ybs)), (yr 8, .inl (cT 0, 6, .inl em))] sz) := by
  refine Met.ofW (cc := cM_edge) (maxL := 3) (ret := (some .int)) (by decide) rfl ?_
  intro p e s m args below meth c s₁ B hml hv
  obtain ⟨rfl, hsz, hZ, hP, hK, hD0⟩ := hv
  have hx := B.exec
  have hb := B.bytes
  have hr := B.returns
  have hts := atoms_spec (ws := WM_edge) B.pre
  have hT : ∀ w ∈ TB, w.before _ s = true := fun w h => hts w (List.mem_cons_of_mem _ h)
  have hown : s.vm.findClass R_M = some m.cls := findClass_of_methodNamed B.named
  have hlocks := B.notSynchronized
  subst hsz
  have hD := hD0.self (sz := s.heap.size)
  generalize hAe : va_A [(y, .inr (11, MO yr yi ysb ybs)), (yr 8, .inl (cT 0, 6, .inl em))] s.heap.size = A at hD hZ ⊢
  have hA : ∀ q : Nat, s.heap.size ≤ q → A q := fun q h => by rw [← hAe]; exact Or.inr h
  have hS : va_S A s.heap s.heap [] := va_S.rf
  have hl := lv_entry ([.ref y, .int (nI c0), .int a2]) (n := 3) (Nat.le_of_ble_eq_true rfl)
  rw [lg_entry_eq]
  generalize (lg_sl ([.ref y, .int (nI c0), .int a2]) ++ List.replicate (3 - (lg_sl ([.ref y, .int (nI c0), .int a2])).length) Slot.unset).toArray = ls at hl ⊢
  have hl : lv_has ls 3 [(0, .ref y), (1, .int (nI c0)), (2, .int a2)] := hl
  refine lv_aload_n hx hb dM_edge_0 rfl (lv_at hl 0 rfl) ?_
  refine lv_aload_n hx hb dM_edge_1 rfl (lv_at hl 0 rfl) ?_
  refine lv_iload_n hx hb dM_edge_2 rfl (lv_at hl 1 rfl) ?_
  refine ro_i (va_Run.run (va_runV (As := [.int (nI c0)]) (rest := [.ref y]) ⟨hx, hb, hml, hown, hT⟩ (m_noColumn l D cT y yr yi ysb ybs (nI c0)) ⟨callB_of 1 hT (tb_gd w1317) rfl rfl rfl (hT _ w13) (hT _ w1314) hM_noColumn ⟨Nat.le_of_ble_eq_true rfl, Nat.le_of_ble_eq_true rfl⟩, (hT _ w1316), (hT _ wp31)⟩ (RO.preV (ci := 11) (q0 := 0) hZ hS (hP.sub (ws' := [(y, .inr (11, MO yr yi ysb ybs))]) [0] rfl) hK rfl rfl) rfl rfl hl.1 rfl (lv_room (Nat.le_of_ble_eq_true rfl)) dM_edge_3 ⟨Nat.le_of_ble_eq_true rfl, Nat.le_of_ble_eq_true rfl⟩)) ?_
  refine lv_if_ne (tgt := 25) hx hb dM_edge_6 rfl (fun h1 => absurd (bi_f (fun q => q hc0)) h1) (fun _ => ?_)
  refine lv_iload_n hx hb dM_edge_9 rfl (lv_at hl 2 rfl) ?_
  refine lv_iconst (v := 0) hx hb dM_edge_10 (by decide) ?_
  refine lv_aload_n hx hb dM_edge_11 rfl (lv_at hl 0 rfl) ?_
  refine va_get (D := D) (ci := 11) (v := .ref (yr 8)) (C := R_M) (T := T_M) (N := 60) hx hb hT in_M hown hK hP 0 rfl rfl 8 (by decide) (hT _ w1112) (fun _ h9 => h9) rfl dM_edge_12 ?_
  refine lv_iload_n hx hb dM_edge_15 rfl (lv_at hl 1 rfl) ?_
  refine lq_iald (j := c0) hx hb hK hP 1 0 rfl rfl rfl (by omega) (by omega) dM_edge_16 ?_
  refine lv_iconst (v := 1) hx hb dM_edge_17 (by decide) ?_
  refine lv_isub hx hb dM_edge_18 ?_
  refine ro_i (va_Run.run (va_runS (As := [.int a2, .int 0, .int ((em c0) - 1)]) (rest := [.ref y]) ⟨hx, hb, hml, hown, hT⟩ (m_in l D cT a2 0 ((em c0) - 1)) ⟨callB_of 3 hT (tb_gd w1297) rfl rfl rfl (hT _ w13) (hT _ w1295) hM_in ⟨Nat.le_of_ble_eq_true rfl, Nat.le_of_ble_eq_true rfl⟩, (hT _ w1296)⟩ (RO.preS hZ hS ((show va_P D vwCl [] _ from fun _ _ h => nomatch h)) hK) rfl rfl hl.1 rfl (lv_room (Nat.le_of_ble_eq_true rfl)) dM_edge_19 ⟨Nat.le_of_ble_eq_true rfl, Nat.le_of_ble_eq_true rfl⟩)) ?_
  refine lv_if_ne (tgt := 29) hx hb dM_edge_22 rfl (fun h2 => ?_) (fun h2 => ?_)
  · refine lv_iconst (v := 0) hx hb dM_edge_29 (by decide) ?_
    refine rw_i (wc := [(y, .inr (11, MO yr yi ysb ybs))]) (wr := [(yr 8, .inl (cT 0, 6, .inl em))]) hP hD hS hA [0] [1] rfl rfl (by decide) (by decide) (va_runV (As := [.int 0]) (rest := []) ⟨hx, hb, hml, hown, hT⟩ (m_ref0 l D cT y yr yi ysb ybs _) ⟨callB_of 1 hT (tb_gd w1301) rfl rfl rfl (hT _ w13) (hT _ w1298) hM_refused ⟨Nat.le_of_ble_eq_true rfl, Nat.le_of_ble_eq_true rfl⟩, (hT _ w1300), (hT _ wp29)⟩ (RW.preV (ci := 11) (q0 := 0) hZ hS (va_free (wc := [(y, .inr (11, MO yr yi ysb ybs))]) hD hS hA [0] rfl) (hP.sub (ws' := [(y, .inr (11, MO yr yi ysb ybs))]) [0] rfl) hK (hD.sub (ws' := [(y, .inr (11, MO yr yi ysb ybs))]) [0] (by decide) rfl) rfl rfl) rfl rfl hl.1 rfl (lv_room (Nat.le_of_ble_eq_true rfl)) dM_edge_30 ⟨Nat.le_of_ble_eq_true rfl, Nat.le_of_ble_eq_true rfl⟩) (fun ru3 u9 H locs hpu3 hP hD hS => ?_)
    have hpu3 : ru3 = 0 := hpu3
    have hP : va_P D vwCl [(yr 8, .inl (cT 0, 6, .inl em)), (y, .inr (11, MO yr (va_up yi 1 0) ysb ybs))] _ := hP
    have hD : va_D A [(yr 8, .inl (cT 0, 6, .inl em)), (y, .inr (11, MO yr (va_up yi 1 0) ysb ybs))] := hD
    refine lv_topi (fun y9 e9 => ?_)
    cases (show y9 = 0 from e9.trans hpu3)
    refine lv_if_eq (tgt := 40) hx hb dM_edge_33 rfl (fun _ => ?_) (fun h4 => absurd (by decide) h4)
    exact absurd (bi_1 h2) hq
  · refine lv_iconst (v := 1) hx hb dM_edge_25 (by decide) ?_
    refine lv_goto (tgt := 30) hx hb dM_edge_26 rfl ?_
    refine rw_i (wc := [(y, .inr (11, MO yr yi ysb ybs))]) (wr := [(yr 8, .inl (cT 0, 6, .inl em))]) hP hD hS hA [0] [1] rfl rfl (by decide) (by decide) (va_runV (As := [.int 1]) (rest := []) ⟨hx, hb, hml, hown, hT⟩ (m_ref1 l D cT y yr yi ysb ybs _) ⟨callB_of 1 hT (tb_gd w1301) rfl rfl rfl (hT _ w13) (hT _ w1298) hM_refused ⟨Nat.le_of_ble_eq_true rfl, Nat.le_of_ble_eq_true rfl⟩, (hT _ w1300), (hT _ wp29)⟩ (RW.preV (ci := 11) (q0 := 0) hZ hS (va_free (wc := [(y, .inr (11, MO yr yi ysb ybs))]) hD hS hA [0] rfl) (hP.sub (ws' := [(y, .inr (11, MO yr yi ysb ybs))]) [0] rfl) hK (hD.sub (ws' := [(y, .inr (11, MO yr yi ysb ybs))]) [0] (by decide) rfl) rfl rfl) rfl rfl hl.1 rfl (lv_room (Nat.le_of_ble_eq_true rfl)) dM_edge_30 ⟨Nat.le_of_ble_eq_true rfl, Nat.le_of_ble_eq_true rfl⟩) (fun ru5 u9 H locs hpu5 hP hD hS => ?_)
    have hpu5 : ru5 = 1 := hpu5
    have hP : va_P D vwCl [(yr 8, .inl (cT 0, 6, .inl em)), (y, .inr (11, MO yr (va_up yi 1 1) ysb ybs))] _ := hP
    have hD : va_D A [(yr 8, .inl (cT 0, 6, .inl em)), (y, .inr (11, MO yr (va_up yi 1 1) ysb ybs))] := hD
    refine lv_topi (fun y9 e9 => ?_)
    cases (show y9 = 1 from e9.trans hpu5)
    refine lv_if_eq (tgt := 40) hx hb dM_edge_33 rfl (fun h6 => absurd h6 (by decide)) (fun _ => ?_)
    refine lv_iconst (v := 0) hx hb dM_edge_36 (by decide) ?_
    refine lv_goto (tgt := 51) hx hb dM_edge_37 rfl ?_
    have hP9 := hP.sub (ws' := [(y, .inr (11, MO yr (va_up yi 1 1) ysb ybs)), (yr 8, .inl (cT 0, 6, .inl em))]) [1, 0] rfl
    have hD9 := hD.sub (ws' := [(y, .inr (11, MO yr (va_up yi 1 1) ysb ybs)), (yr 8, .inl (cT 0, 6, .inl em))]) [1, 0] (by decide) rfl
    refine W.widen (k := 0) (n := 0) (Nat.le_of_ble_eq_true rfl) (Nat.le_of_ble_eq_true rfl) ?_
    exact W.iret (v := 0) hx hb hr (fun t9 ht9 hW9 => ⟨⟨0, (), rfl, (show 0 = 0 from rfl), by rw [ht9]; exact hP9, hD9⟩, hS.F ht9⟩) hS.2.2 dM_edge_51
set_option maxHeartbeats 4000000 in
set_option maxRecDepth 100000 in
theorem y_bin_nov (l : Launch) (D : va_G) (cT : Nat → ClassId) (y : Nat) (yr : Nat → Nat) (yi : Nat → Int32) (ysb : Int64) (ybs : Int64) (ik : Nat → Int32) (c0 : Nat) (v : Int32) (hc0 : 0 ≤ nI c0 ∧ nI c0 ≤ yi 2 - 1) (hc6 : c0 < 6) (hv9 : vokB (ik c0) v = false) (sz : Nat) : Met l yM_bin WM_bin ({ frames := 3, cells := 0, slots := 0, locals := 64 } : Room) (RW D vwCl [.ref y, .int (nI c0), .int v] [(y, .inr (11, MO yr yi ysb ybs)), (yr 6, .inl (cT 3, 6, .inl ik))] (TY cT) sz) (va_Qi (fun (r9 : Int32) (u9 : Unit) => r9 = 0) (BW D vwCl (va_A [(y, .inr (11, MO yr yi ysb ybs)), (yr 6, .inl (cT 3, 6, .inl ik))] sz) (fun u9 : Unit => [(y, .inr (11, MO yr (va_up yi 1 1) ysb ybs)), (yr 6, .inl (cT 3, 6, .inl ik))])) (va_A [(y, .inr (11, MO yr yi ysb ybs)), (yr 6, .inl (cT 3, 6, .inl ik))] sz)) 0 0 (va_A [(y, .inr (11, MO yr yi ysb ybs)), (yr 6, .inl (cT 3, 6, .inl ik))] sz) := by
  refine Met.ofW (cc := cM_bin) (maxL := 5) (ret := (some .int)) (by decide) rfl ?_
  intro p e s m args below meth c s₁ B hml hv
  obtain ⟨rfl, hsz, hZ, hP, hK, hD0⟩ := hv
  have hx := B.exec
  have hb := B.bytes
  have hr := B.returns
  have hts := atoms_spec (ws := WM_bin) B.pre
  have hT : ∀ w ∈ TB, w.before _ s = true := fun w h => hts w (List.mem_cons_of_mem _ h)
  have hown : s.vm.findClass R_M = some m.cls := findClass_of_methodNamed B.named
  have hlocks := B.notSynchronized
  subst hsz
  have hD := hD0.self (sz := s.heap.size)
  generalize hAe : va_A [(y, .inr (11, MO yr yi ysb ybs)), (yr 6, .inl (cT 3, 6, .inl ik))] s.heap.size = A at hD hZ ⊢
  have hA : ∀ q : Nat, s.heap.size ≤ q → A q := fun q h => by rw [← hAe]; exact Or.inr h
  have hS : va_S A s.heap s.heap [] := va_S.rf
  have hl := lv_entry ([.ref y, .int (nI c0), .int v]) (n := 5) (Nat.le_of_ble_eq_true rfl)
  rw [lg_entry_eq]
  generalize (lg_sl ([.ref y, .int (nI c0), .int v]) ++ List.replicate (5 - (lg_sl ([.ref y, .int (nI c0), .int v])).length) Slot.unset).toArray = ls at hl ⊢
  have hl : lv_has ls 5 [(0, .ref y), (1, .int (nI c0)), (2, .int v)] := hl
  refine lv_aload_n hx hb dM_bin_0 rfl (lv_at hl 0 rfl) ?_
  refine lv_aload_n hx hb dM_bin_1 rfl (lv_at hl 0 rfl) ?_
  refine lv_iload_n hx hb dM_bin_2 rfl (lv_at hl 1 rfl) ?_
  refine ro_i (va_Run.run (va_runV (As := [.int (nI c0)]) (rest := [.ref y]) ⟨hx, hb, hml, hown, hT⟩ (m_noColumn l D cT y yr yi ysb ybs (nI c0)) ⟨callB_of 1 hT (tb_gd w1317) rfl rfl rfl (hT _ w13) (hT _ w1314) hM_noColumn ⟨Nat.le_of_ble_eq_true rfl, Nat.le_of_ble_eq_true rfl⟩, (hT _ w1316), (hT _ wp31)⟩ (RO.preV (ci := 11) (q0 := 0) hZ hS (hP.sub (ws' := [(y, .inr (11, MO yr yi ysb ybs))]) [0] rfl) hK rfl rfl) rfl rfl hl.1 rfl (lv_room (Nat.le_of_ble_eq_true rfl)) dM_bin_3 ⟨Nat.le_of_ble_eq_true rfl, Nat.le_of_ble_eq_true rfl⟩)) ?_
  refine lv_if_ne (tgt := 18) hx hb dM_bin_6 rfl (fun h1 => absurd (bi_f (fun q => q hc0)) h1) (fun _ => ?_)
  refine lv_aload_n hx hb dM_bin_9 rfl (lv_at hl 0 rfl) ?_
  refine lv_iload_n hx hb dM_bin_10 rfl (lv_at hl 1 rfl) ?_
  refine lv_iload_n hx hb dM_bin_11 rfl (lv_at hl 2 rfl) ?_
  refine ro_i (va_Run.run (va_runV (As := [.int (nI c0), .int v]) (rest := [.ref y]) ⟨hx, hb, hml, hown, hT⟩ (m_isVal l D cT y yr yi ysb ybs ik c0 v hc6) ⟨callB_of 2 hT (tb_gd w1321) rfl rfl rfl (hT _ w13) (hT _ w1318) hM_isValue ⟨Nat.le_of_ble_eq_true rfl, Nat.le_of_ble_eq_true rfl⟩, (hT _ w1320), (hT _ wp32)⟩ (RO.preV (ci := 11) (q0 := 0) hZ hS (hP.sub (ws' := [(y, .inr (11, MO yr yi ysb ybs)), (yr 6, .inl (cT 3, 6, .inl ik))]) [0, 1] rfl) hK rfl rfl) rfl rfl hl.1 rfl (lv_room (Nat.le_of_ble_eq_true rfl)) dM_bin_12 ⟨Nat.le_of_ble_eq_true rfl, Nat.le_of_ble_eq_true rfl⟩)) ?_
  refine lv_if_ne (tgt := 22) hx hb dM_bin_15 rfl (fun h2 => absurd (bn_0.mpr hv9) h2) (fun _ => ?_)
  refine lv_iconst (v := 1) hx hb dM_bin_18 (by decide) ?_
  refine lv_goto (tgt := 23) hx hb dM_bin_19 rfl ?_
  refine rw_i (wc := [(y, .inr (11, MO yr yi ysb ybs))]) (wr := [(yr 6, .inl (cT 3, 6, .inl ik))]) hP hD hS hA [0] [1] rfl rfl (by decide) (by decide) (va_runV (As := [.int 1]) (rest := []) ⟨hx, hb, hml, hown, hT⟩ (m_ref1 l D cT y yr yi ysb ybs _) ⟨callB_of 1 hT (tb_gd w1301) rfl rfl rfl (hT _ w13) (hT _ w1298) hM_refused ⟨Nat.le_of_ble_eq_true rfl, Nat.le_of_ble_eq_true rfl⟩, (hT _ w1300), (hT _ wp29)⟩ (RW.preV (ci := 11) (q0 := 0) hZ hS (va_free (wc := [(y, .inr (11, MO yr yi ysb ybs))]) hD hS hA [0] rfl) (hP.sub (ws' := [(y, .inr (11, MO yr yi ysb ybs))]) [0] rfl) hK (hD.sub (ws' := [(y, .inr (11, MO yr yi ysb ybs))]) [0] (by decide) rfl) rfl rfl) rfl rfl hl.1 rfl (lv_room (Nat.le_of_ble_eq_true rfl)) dM_bin_23 ⟨Nat.le_of_ble_eq_true rfl, Nat.le_of_ble_eq_true rfl⟩) (fun ru3 u9 H locs hpu3 hP hD hS => ?_)
  have hpu3 : ru3 = 1 := hpu3
  have hP : va_P D vwCl [(yr 6, .inl (cT 3, 6, .inl ik)), (y, .inr (11, MO yr (va_up yi 1 1) ysb ybs))] _ := hP
  have hD : va_D A [(yr 6, .inl (cT 3, 6, .inl ik)), (y, .inr (11, MO yr (va_up yi 1 1) ysb ybs))] := hD
  refine lv_topi (fun y9 e9 => ?_)
  cases (show y9 = 1 from e9.trans hpu3)
  refine lv_if_eq (tgt := 31) hx hb dM_bin_26 rfl (fun h4 => absurd h4 (by decide)) (fun _ => ?_)
  refine lv_iconst (v := 0) hx hb dM_bin_29 (by decide) ?_
  have hP9 := hP.sub (ws' := [(y, .inr (11, MO yr (va_up yi 1 1) ysb ybs)), (yr 6, .inl (cT 3, 6, .inl ik))]) [1, 0] rfl
  have hD9 := hD.sub (ws' := [(y, .inr (11, MO yr (va_up yi 1 1) ysb ybs)), (yr 6, .inl (cT 3, 6, .inl ik))]) [1, 0] (by decide) rfl
  refine W.widen (k := 0) (n := 0) (Nat.le_of_ble_eq_true rfl) (Nat.le_of_ble_eq_true rfl) ?_
  exact W.iret (v := 0) hx hb hr (fun t9 ht9 hW9 => ⟨⟨0, (), rfl, (show 0 = 0 from rfl), by rw [ht9]; exact hP9, hD9⟩, hS.F ht9⟩) hS.2.2 dM_bin_30
set_option maxHeartbeats 4000000 in
set_option maxRecDepth 100000 in
theorem y_add_no1 (l : Launch) (D : va_G) (cT : Nat → ClassId) (y : Nat) (yr : Nat → Nat) (yi : Nat → Int32) (ysb : Int64) (ybs : Int64) (v : Int32) (hv9 : ¬ ((-1000) ≤ v ∧ v ≤ 1000)) (sz : Nat) : Met l yM_addb WM_addb ({ frames := 1, cells := 0, slots := 0, locals := 22 } : Room) (RW D vwCl [.ref y, .int v] [(y, .inr (11, MO yr yi ysb ybs))] (TY cT) sz) (va_Qi (fun (r9 : Int32) (u9 : Unit) => r9 = 0) (BW D vwCl (va_A [(y, .inr (11, MO yr yi ysb ybs))] sz) (fun u9 : Unit => [(y, .inr (11, MO yr (va_up yi 1 1) ysb ybs))])) (va_A [(y, .inr (11, MO yr yi ysb ybs))] sz)) 0 0 (va_A [(y, .inr (11, MO yr yi ysb ybs))] sz) := by
  refine Met.ofW (cc := cM_addb) (maxL := 3) (ret := (some .int)) (by decide) rfl ?_
  intro p e s m args below meth c s₁ B hml hv
  obtain ⟨rfl, hsz, hZ, hP, hK, hD0⟩ := hv
  have hx := B.exec
  have hb := B.bytes
  have hr := B.returns
  have hts := atoms_spec (ws := WM_addb) B.pre
  have hT : ∀ w ∈ TB, w.before _ s = true := fun w h => hts w (List.mem_cons_of_mem _ h)
  have hown : s.vm.findClass R_M = some m.cls := findClass_of_methodNamed B.named
  have hlocks := B.notSynchronized
  subst hsz
  have hD := hD0.self (sz := s.heap.size)
  generalize hAe : va_A [(y, .inr (11, MO yr yi ysb ybs))] s.heap.size = A at hD hZ ⊢
  have hA : ∀ q : Nat, s.heap.size ≤ q → A q := fun q h => by rw [← hAe]; exact Or.inr h
  have hS : va_S A s.heap s.heap [] := va_S.rf
  have hl := lv_entry ([.ref y, .int v]) (n := 3) (Nat.le_of_ble_eq_true rfl)
  rw [lg_entry_eq]
  generalize (lg_sl ([.ref y, .int v]) ++ List.replicate (3 - (lg_sl ([.ref y, .int v])).length) Slot.unset).toArray = ls at hl ⊢
  have hl : lv_has ls 3 [(0, .ref y), (1, .int v)] := hl
  refine lv_aload_n hx hb dM_addb_0 rfl (lv_at hl 0 rfl) ?_
  refine lv_iload_n hx hb dM_addb_1 rfl (lv_at hl 1 rfl) ?_
  refine lv_sipush (v := (-1000)) hx hb dM_addb_2 (by decide) ?_
  refine lv_sipush (v := 1000) hx hb dM_addb_5 (by decide) ?_
  refine ro_i (va_Run.run (va_runS (As := [.int v, .int (-1000), .int 1000]) (rest := [.ref y]) ⟨hx, hb, hml, hown, hT⟩ (m_in l D cT v (-1000) 1000) ⟨callB_of 3 hT (tb_gd w1297) rfl rfl rfl (hT _ w13) (hT _ w1295) hM_in ⟨Nat.le_of_ble_eq_true rfl, Nat.le_of_ble_eq_true rfl⟩, (hT _ w1296)⟩ (RO.preS hZ hS ((show va_P D vwCl [] _ from fun _ _ h => nomatch h)) hK) rfl rfl hl.1 rfl (lv_room (Nat.le_of_ble_eq_true rfl)) dM_addb_8 ⟨Nat.le_of_ble_eq_true rfl, Nat.le_of_ble_eq_true rfl⟩)) ?_
  refine lv_if_ne (tgt := 18) hx hb dM_addb_11 rfl (fun h1 => absurd (bi_f hv9) h1) (fun _ => ?_)
  refine lv_iconst (v := 1) hx hb dM_addb_14 (by decide) ?_
  refine lv_goto (tgt := 32) hx hb dM_addb_15 rfl ?_
  refine rw_i (wc := [(y, .inr (11, MO yr yi ysb ybs))]) (wr := []) hP hD hS hA [0] [] rfl rfl (by decide) (by decide) (va_runV (As := [.int 1]) (rest := []) ⟨hx, hb, hml, hown, hT⟩ (m_ref1 l D cT y yr yi ysb ybs _) ⟨callB_of 1 hT (tb_gd w1301) rfl rfl rfl (hT _ w13) (hT _ w1298) hM_refused ⟨Nat.le_of_ble_eq_true rfl, Nat.le_of_ble_eq_true rfl⟩, (hT _ w1300), (hT _ wp29)⟩ (RW.preV (ci := 11) (q0 := 0) hZ hS (va_free (wc := [(y, .inr (11, MO yr yi ysb ybs))]) hD hS hA [0] rfl) (hP.sub (ws' := [(y, .inr (11, MO yr yi ysb ybs))]) [0] rfl) hK (hD.sub (ws' := [(y, .inr (11, MO yr yi ysb ybs))]) [0] (by decide) rfl) rfl rfl) rfl rfl hl.1 rfl (lv_room (Nat.le_of_ble_eq_true rfl)) dM_addb_32 ⟨Nat.le_of_ble_eq_true rfl, Nat.le_of_ble_eq_true rfl⟩) (fun ru2 u9 H locs hpu2 hP hD hS => ?_)
  have hpu2 : ru2 = 1 := hpu2
  have hP : va_P D vwCl [(y, .inr (11, MO yr (va_up yi 1 1) ysb ybs))] _ := hP
  have hD : va_D A [(y, .inr (11, MO yr (va_up yi 1 1) ysb ybs))] := hD
  refine lv_topi (fun y9 e9 => ?_)
  cases (show y9 = 1 from e9.trans hpu2)
  refine lv_if_eq (tgt := 40) hx hb dM_addb_35 rfl (fun h3 => absurd h3 (by decide)) (fun _ => ?_)
  refine lv_iconst (v := 0) hx hb dM_addb_38 (by decide) ?_
  have hP9 := hP.sub (ws' := [(y, .inr (11, MO yr (va_up yi 1 1) ysb ybs))]) [0] rfl
  have hD9 := hD.sub (ws' := [(y, .inr (11, MO yr (va_up yi 1 1) ysb ybs))]) [0] (by decide) rfl
  refine W.widen (k := 0) (n := 0) (Nat.le_of_ble_eq_true rfl) (Nat.le_of_ble_eq_true rfl) ?_
  exact W.iret (v := 0) hx hb hr (fun t9 ht9 hW9 => ⟨⟨0, (), rfl, (show 0 = 0 from rfl), by rw [ht9]; exact hP9, hD9⟩, hS.F ht9⟩) hS.2.2 dM_addb_39
set_option maxHeartbeats 4000000 in
set_option maxRecDepth 100000 in
theorem y_add_no2 (l : Launch) (D : va_G) (cT : Nat → ClassId) (y : Nat) (yr : Nat → Nat) (yi : Nat → Int32) (ysb : Int64) (ybs : Int64) (v : Int32) (hv9 : (-1000) ≤ v ∧ v ≤ 1000) (hn : yi 3 = 48) (sz : Nat) : Met l yM_addb WM_addb ({ frames := 1, cells := 0, slots := 0, locals := 22 } : Room) (RW D vwCl [.ref y, .int v] [(y, .inr (11, MO yr yi ysb ybs))] (TY cT) sz) (va_Qi (fun (r9 : Int32) (u9 : Unit) => r9 = 0) (BW D vwCl (va_A [(y, .inr (11, MO yr yi ysb ybs))] sz) (fun u9 : Unit => [(y, .inr (11, MO yr (va_up yi 1 2) ysb ybs))])) (va_A [(y, .inr (11, MO yr yi ysb ybs))] sz)) 0 0 (va_A [(y, .inr (11, MO yr yi ysb ybs))] sz) := by
  refine Met.ofW (cc := cM_addb) (maxL := 3) (ret := (some .int)) (by decide) rfl ?_
  intro p e s m args below meth c s₁ B hml hv
  obtain ⟨rfl, hsz, hZ, hP, hK, hD0⟩ := hv
  have hx := B.exec
  have hb := B.bytes
  have hr := B.returns
  have hts := atoms_spec (ws := WM_addb) B.pre
  have hT : ∀ w ∈ TB, w.before _ s = true := fun w h => hts w (List.mem_cons_of_mem _ h)
  have hown : s.vm.findClass R_M = some m.cls := findClass_of_methodNamed B.named
  have hlocks := B.notSynchronized
  subst hsz
  have hD := hD0.self (sz := s.heap.size)
  generalize hAe : va_A [(y, .inr (11, MO yr yi ysb ybs))] s.heap.size = A at hD hZ ⊢
  have hA : ∀ q : Nat, s.heap.size ≤ q → A q := fun q h => by rw [← hAe]; exact Or.inr h
  have hS : va_S A s.heap s.heap [] := va_S.rf
  have hl := lv_entry ([.ref y, .int v]) (n := 3) (Nat.le_of_ble_eq_true rfl)
  rw [lg_entry_eq]
  generalize (lg_sl ([.ref y, .int v]) ++ List.replicate (3 - (lg_sl ([.ref y, .int v])).length) Slot.unset).toArray = ls at hl ⊢
  have hl : lv_has ls 3 [(0, .ref y), (1, .int v)] := hl
  refine lv_aload_n hx hb dM_addb_0 rfl (lv_at hl 0 rfl) ?_
  refine lv_iload_n hx hb dM_addb_1 rfl (lv_at hl 1 rfl) ?_
  refine lv_sipush (v := (-1000)) hx hb dM_addb_2 (by decide) ?_
  refine lv_sipush (v := 1000) hx hb dM_addb_5 (by decide) ?_
  refine ro_i (va_Run.run (va_runS (As := [.int v, .int (-1000), .int 1000]) (rest := [.ref y]) ⟨hx, hb, hml, hown, hT⟩ (m_in l D cT v (-1000) 1000) ⟨callB_of 3 hT (tb_gd w1297) rfl rfl rfl (hT _ w13) (hT _ w1295) hM_in ⟨Nat.le_of_ble_eq_true rfl, Nat.le_of_ble_eq_true rfl⟩, (hT _ w1296)⟩ (RO.preS hZ hS ((show va_P D vwCl [] _ from fun _ _ h => nomatch h)) hK) rfl rfl hl.1 rfl (lv_room (Nat.le_of_ble_eq_true rfl)) dM_addb_8 ⟨Nat.le_of_ble_eq_true rfl, Nat.le_of_ble_eq_true rfl⟩)) ?_
  refine lv_if_ne (tgt := 18) hx hb dM_addb_11 rfl (fun _ => ?_) (fun h1 => absurd h1 (by rw [bi_t hv9]; decide))
  refine lv_aload_n hx hb dM_addb_18 rfl (lv_at hl 0 rfl) ?_
  refine va_get (D := D) (ci := 11) (v := .int (yi 3)) (C := R_M) (T := T_M) (N := 60) hx hb hT in_M hown hK hP 0 rfl rfl 3 (by decide) (hT _ w1107) (fun _ h9 => h9) rfl dM_addb_19 ?_
  refine lv_topi (fun y9 e9 => ?_)
  cases (show y9 = 48 from e9.trans hn)
  refine lv_bipush (v := 48) hx hb dM_addb_22 (by decide) ?_
  refine lv_icmp_ne (tgt := 31) hx hb dM_addb_24 rfl (fun h2 => absurd (by decide) h2) (fun _ => ?_)
  refine lv_iconst (v := 2) hx hb dM_addb_27 (by decide) ?_
  refine lv_goto (tgt := 32) hx hb dM_addb_28 rfl ?_
  refine rw_i (wc := [(y, .inr (11, MO yr yi ysb ybs))]) (wr := []) hP hD hS hA [0] [] rfl rfl (by decide) (by decide) (va_runV (As := [.int 2]) (rest := []) ⟨hx, hb, hml, hown, hT⟩ (m_ref2 l D cT y yr yi ysb ybs _) ⟨callB_of 1 hT (tb_gd w1301) rfl rfl rfl (hT _ w13) (hT _ w1298) hM_refused ⟨Nat.le_of_ble_eq_true rfl, Nat.le_of_ble_eq_true rfl⟩, (hT _ w1300), (hT _ wp29)⟩ (RW.preV (ci := 11) (q0 := 0) hZ hS (va_free (wc := [(y, .inr (11, MO yr yi ysb ybs))]) hD hS hA [0] rfl) (hP.sub (ws' := [(y, .inr (11, MO yr yi ysb ybs))]) [0] rfl) hK (hD.sub (ws' := [(y, .inr (11, MO yr yi ysb ybs))]) [0] (by decide) rfl) rfl rfl) rfl rfl hl.1 rfl (lv_room (Nat.le_of_ble_eq_true rfl)) dM_addb_32 ⟨Nat.le_of_ble_eq_true rfl, Nat.le_of_ble_eq_true rfl⟩) (fun ru3 u9 H locs hpu3 hP hD hS => ?_)
  have hpu3 : ru3 = 1 := hpu3
  have hP : va_P D vwCl [(y, .inr (11, MO yr (va_up yi 1 2) ysb ybs))] _ := hP
  have hD : va_D A [(y, .inr (11, MO yr (va_up yi 1 2) ysb ybs))] := hD
  refine lv_topi (fun y9 e9 => ?_)
  cases (show y9 = 1 from e9.trans hpu3)
  refine lv_if_eq (tgt := 40) hx hb dM_addb_35 rfl (fun h4 => absurd h4 (by decide)) (fun _ => ?_)
  refine lv_iconst (v := 0) hx hb dM_addb_38 (by decide) ?_
  have hP9 := hP.sub (ws' := [(y, .inr (11, MO yr (va_up yi 1 2) ysb ybs))]) [0] rfl
  have hD9 := hD.sub (ws' := [(y, .inr (11, MO yr (va_up yi 1 2) ysb ybs))]) [0] (by decide) rfl
  refine W.widen (k := 0) (n := 0) (Nat.le_of_ble_eq_true rfl) (Nat.le_of_ble_eq_true rfl) ?_
  exact W.iret (v := 0) hx hb hr (fun t9 ht9 hW9 => ⟨⟨0, (), rfl, (show 0 = 0 from rfl), by rw [ht9]; exact hP9, hD9⟩, hS.F ht9⟩) hS.2.2 dM_addb_39
set_option maxHeartbeats 4000000 in
set_option maxRecDepth 100000 in
theorem m_noNode_ok (l : Launch) (D : va_G) (cT : Nat → ClassId) (y : Nat) (yr : Nat → Nat) (yi : Nat → Int32) (ysb : Int64) (ybs : Int64) (nmA : Nat → Int32) (t : Nat) (k : Nat) (m9 : Nat) (hc0 : 0 ≤ nI t ∧ nI t ≤ yi 17 - 1) (ht16 : t < 16) (hm9 : nmA t = nI m9) (hm31 : m9 ≤ 31) (hk9 : k < m9) : Met l yM_noNode WM_noNode ({ frames := 2, cells := 0, slots := 0, locals := 43 } : Room) (RO D vwCl [.ref y, .int (nI t), .int (nI k)] [(y, .inr (11, MO yr yi ysb ybs)), (yr 18, .inl (cT 0, 16, .inl nmA))] (TY cT)) (QcRead 0) 0 0 (fun _ => False) := by
  refine Met.ofW (cc := cM_noNode) (maxL := 3) (ret := (some .boolean)) (by decide) rfl ?_
  intro p e s m args below meth c s₁ B hml hv
  obtain ⟨rfl, hZ, hP, hK⟩ := hv
  have hx := B.exec
  have hb := B.bytes
  have hr := B.returns
  have hts := atoms_spec (ws := WM_noNode) B.pre
  have hT : ∀ w ∈ TB, w.before _ s = true := fun w h => hts w (List.mem_cons_of_mem _ h)
  have hown : s.vm.findClass R_M = some m.cls := findClass_of_methodNamed B.named
  have hlocks := B.notSynchronized
  have hS : va_S (fun _ => False) s.heap s.heap [] := va_S.rf
  have hl := lv_entry ([.ref y, .int (nI t), .int (nI k)]) (n := 3) (Nat.le_of_ble_eq_true rfl)
  rw [lg_entry_eq]
  generalize (lg_sl ([.ref y, .int (nI t), .int (nI k)]) ++ List.replicate (3 - (lg_sl ([.ref y, .int (nI t), .int (nI k)])).length) Slot.unset).toArray = ls at hl ⊢
  have hl : lv_has ls 3 [(0, .ref y), (1, .int (nI t)), (2, .int (nI k))] := hl
  refine lv_aload_n hx hb dM_noNode_0 rfl (lv_at hl 0 rfl) ?_
  refine lv_iload_n hx hb dM_noNode_1 rfl (lv_at hl 1 rfl) ?_
  refine ro_i (va_Run.run (va_runV (As := [.int (nI t)]) (rest := []) ⟨hx, hb, hml, hown, hT⟩ (m_noTree l D cT y yr yi ysb ybs (nI t)) ⟨callB_of 1 hT (tb_gd w1539) rfl rfl rfl (hT _ w13) (hT _ w1536) hM_noTree ⟨Nat.le_of_ble_eq_true rfl, Nat.le_of_ble_eq_true rfl⟩, (hT _ w1538), (hT _ wp61)⟩ (RO.preV (ci := 11) (q0 := 0) hZ hS (hP.sub (ws' := [(y, .inr (11, MO yr yi ysb ybs))]) [0] rfl) hK rfl rfl) rfl rfl hl.1 rfl (lv_room (Nat.le_of_ble_eq_true rfl)) dM_noNode_2 ⟨Nat.le_of_ble_eq_true rfl, Nat.le_of_ble_eq_true rfl⟩)) ?_
  refine lv_if_ne (tgt := 24) hx hb dM_noNode_5 rfl (fun h1 => absurd (bi_f (fun q => q hc0)) h1) (fun _ => ?_)
  refine lv_iload_n hx hb dM_noNode_8 rfl (lv_at hl 2 rfl) ?_
  refine lv_iconst (v := 0) hx hb dM_noNode_9 (by decide) ?_
  refine lv_aload_n hx hb dM_noNode_10 rfl (lv_at hl 0 rfl) ?_
  refine va_get (D := D) (ci := 11) (v := .ref (yr 18)) (C := R_M) (T := T_M) (N := 60) hx hb hT in_M hown hK hP 0 rfl rfl 18 (by decide) (hT _ w1122) (fun _ h9 => h9) rfl dM_noNode_11 ?_
  refine lv_iload_n hx hb dM_noNode_14 rfl (lv_at hl 1 rfl) ?_
  refine lq_iald (j := t) hx hb hK hP 1 0 rfl rfl rfl (by omega) (by omega) dM_noNode_15 ?_
  refine lv_topi (fun y9 e9 => ?_)
  cases (show y9 = nI m9 from e9.trans hm9)
  refine lv_iconst (v := 1) hx hb dM_noNode_16 (by decide) ?_
  refine lv_isub hx hb dM_noNode_17 ?_
  refine ro_i (va_Run.run (va_runS (As := [.int (nI k), .int 0, .int ((nI m9) - 1)]) (rest := []) ⟨hx, hb, hml, hown, hT⟩ (m_in l D cT (nI k) 0 ((nI m9) - 1)) ⟨callB_of 3 hT (tb_gd w1297) rfl rfl rfl (hT _ w13) (hT _ w1295) hM_in ⟨Nat.le_of_ble_eq_true rfl, Nat.le_of_ble_eq_true rfl⟩, (hT _ w1296)⟩ (RO.preS hZ hS ((show va_P D vwCl [] _ from fun _ _ h => nomatch h)) hK) rfl rfl hl.1 rfl (lv_room (Nat.le_of_ble_eq_true rfl)) dM_noNode_18 ⟨Nat.le_of_ble_eq_true rfl, Nat.le_of_ble_eq_true rfl⟩)) ?_
  refine lv_if_ne (tgt := 28) hx hb dM_noNode_21 rfl (fun _ => ?_) (fun h2 => absurd h2 (by rw [bi_t (bd_n rfl hk9 (by omega))]; decide))
  refine lv_iconst (v := 0) hx hb dM_noNode_28 (by decide) ?_
  exact W.zret (v := 0) hx hb hr rfl (fun t9 ht9 hW9 => ⟨rfl, ht9⟩) (fun q h => nomatch h) dM_noNode_29
set_option maxHeartbeats 4000000 in
set_option maxRecDepth 100000 in
theorem m_noNode_t (l : Launch) (D : va_G) (cT : Nat → ClassId) (y : Nat) (yr : Nat → Nat) (yi : Nat → Int32) (ysb : Int64) (ybs : Int64) (v : Int32) (a2 : Int32) (hq : ¬ (0 ≤ v ∧ v ≤ yi 17 - 1)) : Met l yM_noNode WM_noNode ({ frames := 2, cells := 0, slots := 0, locals := 43 } : Room) (RO D vwCl [.ref y, .int v, .int a2] [(y, .inr (11, MO yr yi ysb ybs))] (TY cT)) (QcRead 1) 0 0 (fun _ => False) := by
  refine Met.ofW (cc := cM_noNode) (maxL := 3) (ret := (some .boolean)) (by decide) rfl ?_
  intro p e s m args below meth c s₁ B hml hv
  obtain ⟨rfl, hZ, hP, hK⟩ := hv
  have hx := B.exec
  have hb := B.bytes
  have hr := B.returns
  have hts := atoms_spec (ws := WM_noNode) B.pre
  have hT : ∀ w ∈ TB, w.before _ s = true := fun w h => hts w (List.mem_cons_of_mem _ h)
  have hown : s.vm.findClass R_M = some m.cls := findClass_of_methodNamed B.named
  have hlocks := B.notSynchronized
  have hS : va_S (fun _ => False) s.heap s.heap [] := va_S.rf
  have hl := lv_entry ([.ref y, .int v, .int a2]) (n := 3) (Nat.le_of_ble_eq_true rfl)
  rw [lg_entry_eq]
  generalize (lg_sl ([.ref y, .int v, .int a2]) ++ List.replicate (3 - (lg_sl ([.ref y, .int v, .int a2])).length) Slot.unset).toArray = ls at hl ⊢
  have hl : lv_has ls 3 [(0, .ref y), (1, .int v), (2, .int a2)] := hl
  refine lv_aload_n hx hb dM_noNode_0 rfl (lv_at hl 0 rfl) ?_
  refine lv_iload_n hx hb dM_noNode_1 rfl (lv_at hl 1 rfl) ?_
  refine ro_i (va_Run.run (va_runV (As := [.int v]) (rest := []) ⟨hx, hb, hml, hown, hT⟩ (m_noTree l D cT y yr yi ysb ybs v) ⟨callB_of 1 hT (tb_gd w1539) rfl rfl rfl (hT _ w13) (hT _ w1536) hM_noTree ⟨Nat.le_of_ble_eq_true rfl, Nat.le_of_ble_eq_true rfl⟩, (hT _ w1538), (hT _ wp61)⟩ (RO.preV (ci := 11) (q0 := 0) hZ hS (hP.sub (ws' := [(y, .inr (11, MO yr yi ysb ybs))]) [0] rfl) hK rfl rfl) rfl rfl hl.1 rfl (lv_room (Nat.le_of_ble_eq_true rfl)) dM_noNode_2 ⟨Nat.le_of_ble_eq_true rfl, Nat.le_of_ble_eq_true rfl⟩)) ?_
  refine lv_if_ne (tgt := 24) hx hb dM_noNode_5 rfl (fun _ => ?_) (fun h1 => absurd h1 (by rw [bi_t hq]; decide))
  refine lv_iconst (v := 1) hx hb dM_noNode_24 (by decide) ?_
  refine lv_goto (tgt := 29) hx hb dM_noNode_25 rfl ?_
  exact W.zret (v := 1) hx hb hr rfl (fun t9 ht9 hW9 => ⟨rfl, ht9⟩) (fun q h => nomatch h) dM_noNode_29
set_option maxHeartbeats 4000000 in
set_option maxRecDepth 100000 in
theorem m_noNode_k (l : Launch) (D : va_G) (cT : Nat → ClassId) (y : Nat) (yr : Nat → Nat) (yi : Nat → Int32) (ysb : Int64) (ybs : Int64) (nmA : Nat → Int32) (t : Nat) (a2 : Int32) (hc0 : 0 ≤ nI t ∧ nI t ≤ yi 17 - 1) (ht16 : t < 16) (hq : ¬ (0 ≤ a2 ∧ a2 ≤ nmA t - 1)) : Met l yM_noNode WM_noNode ({ frames := 2, cells := 0, slots := 0, locals := 43 } : Room) (RO D vwCl [.ref y, .int (nI t), .int a2] [(y, .inr (11, MO yr yi ysb ybs)), (yr 18, .inl (cT 0, 16, .inl nmA))] (TY cT)) (QcRead 1) 0 0 (fun _ => False) := by
  refine Met.ofW (cc := cM_noNode) (maxL := 3) (ret := (some .boolean)) (by decide) rfl ?_
  intro p e s m args below meth c s₁ B hml hv
  obtain ⟨rfl, hZ, hP, hK⟩ := hv
  have hx := B.exec
  have hb := B.bytes
  have hr := B.returns
  have hts := atoms_spec (ws := WM_noNode) B.pre
  have hT : ∀ w ∈ TB, w.before _ s = true := fun w h => hts w (List.mem_cons_of_mem _ h)
  have hown : s.vm.findClass R_M = some m.cls := findClass_of_methodNamed B.named
  have hlocks := B.notSynchronized
  have hS : va_S (fun _ => False) s.heap s.heap [] := va_S.rf
  have hl := lv_entry ([.ref y, .int (nI t), .int a2]) (n := 3) (Nat.le_of_ble_eq_true rfl)
  rw [lg_entry_eq]
  generalize (lg_sl ([.ref y, .int (nI t), .int a2]) ++ List.replicate (3 - (lg_sl ([.ref y, .int (nI t), .int a2])).length) Slot.unset).toArray = ls at hl ⊢
  have hl : lv_has ls 3 [(0, .ref y), (1, .int (nI t)), (2, .int a2)] := hl
  refine lv_aload_n hx hb dM_noNode_0 rfl (lv_at hl 0 rfl) ?_
  refine lv_iload_n hx hb dM_noNode_1 rfl (lv_at hl 1 rfl) ?_
  refine ro_i (va_Run.run (va_runV (As := [.int (nI t)]) (rest := []) ⟨hx, hb, hml, hown, hT⟩ (m_noTree l D cT y yr yi ysb ybs (nI t)) ⟨callB_of 1 hT (tb_gd w1539) rfl rfl rfl (hT _ w13) (hT _ w1536) hM_noTree ⟨Nat.le_of_ble_eq_true rfl, Nat.le_of_ble_eq_true rfl⟩, (hT _ w1538), (hT _ wp61)⟩ (RO.preV (ci := 11) (q0 := 0) hZ hS (hP.sub (ws' := [(y, .inr (11, MO yr yi ysb ybs))]) [0] rfl) hK rfl rfl) rfl rfl hl.1 rfl (lv_room (Nat.le_of_ble_eq_true rfl)) dM_noNode_2 ⟨Nat.le_of_ble_eq_true rfl, Nat.le_of_ble_eq_true rfl⟩)) ?_
  refine lv_if_ne (tgt := 24) hx hb dM_noNode_5 rfl (fun h1 => absurd (bi_f (fun q => q hc0)) h1) (fun _ => ?_)
  refine lv_iload_n hx hb dM_noNode_8 rfl (lv_at hl 2 rfl) ?_
  refine lv_iconst (v := 0) hx hb dM_noNode_9 (by decide) ?_
  refine lv_aload_n hx hb dM_noNode_10 rfl (lv_at hl 0 rfl) ?_
  refine va_get (D := D) (ci := 11) (v := .ref (yr 18)) (C := R_M) (T := T_M) (N := 60) hx hb hT in_M hown hK hP 0 rfl rfl 18 (by decide) (hT _ w1122) (fun _ h9 => h9) rfl dM_noNode_11 ?_
  refine lv_iload_n hx hb dM_noNode_14 rfl (lv_at hl 1 rfl) ?_
  refine lq_iald (j := t) hx hb hK hP 1 0 rfl rfl rfl (by omega) (by omega) dM_noNode_15 ?_
  refine lv_iconst (v := 1) hx hb dM_noNode_16 (by decide) ?_
  refine lv_isub hx hb dM_noNode_17 ?_
  refine ro_i (va_Run.run (va_runS (As := [.int a2, .int 0, .int ((nmA t) - 1)]) (rest := []) ⟨hx, hb, hml, hown, hT⟩ (m_in l D cT a2 0 ((nmA t) - 1)) ⟨callB_of 3 hT (tb_gd w1297) rfl rfl rfl (hT _ w13) (hT _ w1295) hM_in ⟨Nat.le_of_ble_eq_true rfl, Nat.le_of_ble_eq_true rfl⟩, (hT _ w1296)⟩ (RO.preS hZ hS ((show va_P D vwCl [] _ from fun _ _ h => nomatch h)) hK) rfl rfl hl.1 rfl (lv_room (Nat.le_of_ble_eq_true rfl)) dM_noNode_18 ⟨Nat.le_of_ble_eq_true rfl, Nat.le_of_ble_eq_true rfl⟩)) ?_
  refine lv_if_ne (tgt := 28) hx hb dM_noNode_21 rfl (fun h2 => absurd (bi_f hq) h2) (fun _ => ?_)
  refine lv_iconst (v := 1) hx hb dM_noNode_24 (by decide) ?_
  refine lv_goto (tgt := 29) hx hb dM_noNode_25 rfl ?_
  exact W.zret (v := 1) hx hb hr rfl (fun t9 ht9 hW9 => ⟨rfl, ht9⟩) (fun q h => nomatch h) dM_noNode_29
