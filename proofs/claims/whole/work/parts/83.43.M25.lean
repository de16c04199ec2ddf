set_option maxHeartbeats 4000000 in
set_option maxRecDepth 100000 in
theorem y_edge_ok (l : Launch) (D : va_G) (cT : Nat → ClassId) (y : Nat) (yr : Nat → Nat) (yi : Nat → Int32) (ysb : Int64) (ybs : Int64) (eg : Nat → Int32) (em : Nat → Int32) (c0 : Nat) (i : Nat) (ne : Nat) (hc0 : 0 ≤ nI c0 ∧ nI c0 ≤ yi 2 - 1) (hc6 : c0 < 6) (hne : em c0 = nI ne) (hne11 : ne ≤ 11) (hi9 : i < ne) (sz : Nat) : Met l yM_edge WM_edge ({ frames := 2, cells := 0, slots := 0, locals := 43 } : Room) (RW D vwCl [.ref y, .int (nI c0), .int (nI i)] [(y, .inr (11, MO yr yi ysb ybs)), (yr 7, .inl (cT 0, 66, .inl eg)), (yr 8, .inl (cT 0, 6, .inl em))] (TY cT) sz) (va_Qi (fun (r9 : Int32) (u9 : Unit) => r9 = eg (11 * c0 + i)) (BW D vwCl (va_A [(y, .inr (11, MO yr yi ysb ybs)), (yr 7, .inl (cT 0, 66, .inl eg)), (yr 8, .inl (cT 0, 6, .inl em))] sz) (fun u9 : Unit => [(y, .inr (11, MO yr (va_up yi 1 0) ysb ybs)), (yr 7, .inl (cT 0, 66, .inl eg)), (yr 8, .inl (cT 0, 6, .inl em))])) (va_A [(y, .inr (11, MO yr yi ysb ybs)), (yr 7, .inl (cT 0, 66, .inl eg)), (yr 8, .inl (cT 0, 6, .inl em))] sz)) 0 0 (va_A [(y, .inr (11, MO yr yi ysb ybs)), (yr 7, .inl (cT 0, 66, .inl eg)), (yr 8, .inl (cT 0, 6, .inl em))] sz) := by
  refine Met.ofW (cc := cM_edge) (maxL := 3) (ret := (some .int)) (by decide) rfl ?_
  intro p e s m args below meth c s₁ B hml hv
  obtain ⟨rfl, hsz, hZ, hP, hK, hD0⟩ := hv
  have hx := B.exec
  have hb := B.bytes
  have hr := B.returns
  have hts := atoms_spec (ws := WM_edge) B.pre
  have hT : ∀ w ∈ TB, w.before _ s = true := fun w h => hts w (List.mem_cons_of_mem _ h)
  have hown : s.vm.findClass R_M = some m.cls := findClass_of_methodNamed B.named
  have hlocks := B.notSynchronized
  subst hsz
  have hD := hD0.self (sz := s.heap.size)
  generalize hAe : va_A [(y, .inr (11, MO yr yi ysb ybs)), (yr 7, .inl (cT 0, 66, .inl eg)), (yr 8, .inl (cT 0, 6, .inl em))] s.heap.size = A at hD hZ ⊢
  have hA : ∀ q : Nat, s.heap.size ≤ q → A q := fun q h => by rw [← hAe]; exact Or.inr h
  have hS : va_S A s.heap s.heap [] := va_S.rf
  have hl := lv_entry ([.ref y, .int (nI c0), .int (nI i)]) (n := 3) (Nat.le_of_ble_eq_true rfl)
  rw [lg_entry_eq]
  generalize (lg_sl ([.ref y, .int (nI c0), .int (nI i)]) ++ List.replicate (3 - (lg_sl ([.ref y, .int (nI c0), .int (nI i)])).length) Slot.unset).toArray = ls at hl ⊢
  have hl : lv_has ls 3 [(0, .ref y), (1, .int (nI c0)), (2, .int (nI i))] := hl
  refine lv_aload_n hx hb dM_edge_0 rfl (lv_at hl 0 rfl) ?_
  refine lv_aload_n hx hb dM_edge_1 rfl (lv_at hl 0 rfl) ?_
  refine lv_iload_n hx hb dM_edge_2 rfl (lv_at hl 1 rfl) ?_
  refine ro_i (va_Run.run (va_runV (As := [.int (nI c0)]) (rest := [.ref y]) ⟨hx, hb, hml, hown, hT⟩ (m_noColumn l D cT y yr yi ysb ybs (nI c0)) ⟨callB_of 1 hT (tb_gd w1317) rfl rfl rfl (hT _ w13) (hT _ w1314) hM_noColumn ⟨Nat.le_of_ble_eq_true rfl, Nat.le_of_ble_eq_true rfl⟩, (hT _ w1316), (hT _ wp31)⟩ (RO.preV (ci := 11) (q0 := 0) hZ hS (hP.sub (ws' := [(y, .inr (11, MO yr yi ysb ybs))]) [0] rfl) hK rfl rfl) rfl rfl hl.1 rfl (lv_room (Nat.le_of_ble_eq_true rfl)) dM_edge_3 ⟨Nat.le_of_ble_eq_true rfl, Nat.le_of_ble_eq_true rfl⟩)) ?_
  refine lv_if_ne (tgt := 25) hx hb dM_edge_6 rfl (fun h1 => absurd (bi_f (fun q => q hc0)) h1) (fun _ => ?_)
  refine lv_iload_n hx hb dM_edge_9 rfl (lv_at hl 2 rfl) ?_
  refine lv_iconst (v := 0) hx hb dM_edge_10 (by decide) ?_
  refine lv_aload_n hx hb dM_edge_11 rfl (lv_at hl 0 rfl) ?_
  refine va_get (D := D) (ci := 11) (v := .ref (yr 8)) (C := R_M) (T := T_M) (N := 60) hx hb hT in_M hown hK hP 0 rfl rfl 8 (by decide) (hT _ w1112) (fun _ h9 => h9) rfl dM_edge_12 ?_
  refine lv_iload_n hx hb dM_edge_15 rfl (lv_at hl 1 rfl) ?_
  refine lq_iald (j := c0) hx hb hK hP 2 0 rfl rfl rfl (by omega) (by omega) dM_edge_16 ?_
  refine lv_topi (fun y9 e9 => ?_)
  cases (show y9 = nI ne from e9.trans hne)
  refine lv_iconst (v := 1) hx hb dM_edge_17 (by decide) ?_
  refine lv_isub hx hb dM_edge_18 ?_
  refine ro_i (va_Run.run (va_runS (As := [.int (nI i), .int 0, .int ((nI ne) - 1)]) (rest := [.ref y]) ⟨hx, hb, hml, hown, hT⟩ (m_in l D cT (nI i) 0 ((nI ne) - 1)) ⟨callB_of 3 hT (tb_gd w1297) rfl rfl rfl (hT _ w13) (hT _ w1295) hM_in ⟨Nat.le_of_ble_eq_true rfl, Nat.le_of_ble_eq_true rfl⟩, (hT _ w1296)⟩ (RO.preS hZ hS ((show va_P D vwCl [] _ from fun _ _ h => nomatch h)) hK) rfl rfl hl.1 rfl (lv_room (Nat.le_of_ble_eq_true rfl)) dM_edge_19 ⟨Nat.le_of_ble_eq_true rfl, Nat.le_of_ble_eq_true rfl⟩)) ?_
  refine lv_if_ne (tgt := 29) hx hb dM_edge_22 rfl (fun _ => ?_) (fun h2 => absurd h2 (by rw [bi_t (bd_n rfl hi9 (by omega))]; decide))
  refine lv_iconst (v := 0) hx hb dM_edge_29 (by decide) ?_
  refine rw_i (wc := [(y, .inr (11, MO yr yi ysb ybs))]) (wr := [(yr 7, .inl (cT 0, 66, .inl eg)), (yr 8, .inl (cT 0, 6, .inl em))]) hP hD hS hA [0] [1, 2] rfl rfl (by decide) (by decide) (va_runV (As := [.int 0]) (rest := []) ⟨hx, hb, hml, hown, hT⟩ (m_ref0 l D cT y yr yi ysb ybs _) ⟨callB_of 1 hT (tb_gd w1301) rfl rfl rfl (hT _ w13) (hT _ w1298) hM_refused ⟨Nat.le_of_ble_eq_true rfl, Nat.le_of_ble_eq_true rfl⟩, (hT _ w1300), (hT _ wp29)⟩ (RW.preV (ci := 11) (q0 := 0) hZ hS (va_free (wc := [(y, .inr (11, MO yr yi ysb ybs))]) hD hS hA [0] rfl) (hP.sub (ws' := [(y, .inr (11, MO yr yi ysb ybs))]) [0] rfl) hK (hD.sub (ws' := [(y, .inr (11, MO yr yi ysb ybs))]) [0] (by decide) rfl) rfl rfl) rfl rfl hl.1 rfl (lv_room (Nat.le_of_ble_eq_true rfl)) dM_edge_30 ⟨Nat.le_of_ble_eq_true rfl, Nat.le_of_ble_eq_true rfl⟩) (fun ru3 u9 H locs hpu3 hP hD hS => ?_)
  have hpu3 : ru3 = 0 := hpu3
  have hP : va_P D vwCl [(yr 7, .inl (cT 0, 66, .inl eg)), (yr 8, .inl (cT 0, 6, .inl em)), (y, .inr (11, MO yr (va_up yi 1 0) ysb ybs))] _ := hP
  have hD : va_D A [(yr 7, .inl (cT 0, 66, .inl eg)), (yr 8, .inl (cT 0, 6, .inl em)), (y, .inr (11, MO yr (va_up yi 1 0) ysb ybs))] := hD
  refine lv_topi (fun y9 e9 => ?_)
  cases (show y9 = 0 from e9.trans hpu3)
  refine lv_if_eq (tgt := 40) hx hb dM_edge_33 rfl (fun _ => ?_) (fun h4 => absurd (by decide) h4)
  refine lv_aload_n hx hb dM_edge_40 rfl (lv_at hl 0 rfl) ?_
  refine va_get (D := D) (ci := 11) (v := .ref (yr 7)) (C := R_M) (T := T_M) (N := 60) hx hb hT in_M hown hK hP 2 rfl rfl 7 (by decide) (hT _ w1111) (fun _ h9 => h9) rfl dM_edge_41 ?_
  refine lv_bipush (v := 11) hx hb dM_edge_44 (by decide) ?_
  refine lv_iload_n hx hb dM_edge_46 rfl (lv_at hl 1 rfl) ?_
  refine lv_imul hx hb dM_edge_47 ?_
  refine lv_topi (fun y9 e9 => ?_)
  cases (show y9 = nI (11 * c0) from e9.trans (pk_mul 11 c0))
  refine lv_iload_n hx hb dM_edge_48 rfl (lv_at hl 2 rfl) ?_
  refine lv_iadd hx hb dM_edge_49 ?_
  refine lv_topi (fun y9 e9 => ?_)
  cases (show y9 = nI ((11 * c0) + i) from e9.trans (nI_add (11 * c0) i))
  refine lq_iald (j := (11 * c0) + i) hx hb hK hP 0 0 rfl rfl rfl (by omega) (by omega) dM_edge_50 ?_
  have hP9 := hP.sub (ws' := [(y, .inr (11, MO yr (va_up yi 1 0) ysb ybs)), (yr 7, .inl (cT 0, 66, .inl eg)), (yr 8, .inl (cT 0, 6, .inl em))]) [2, 0, 1] rfl
  have hD9 := hD.sub (ws' := [(y, .inr (11, MO yr (va_up yi 1 0) ysb ybs)), (yr 7, .inl (cT 0, 66, .inl eg)), (yr 8, .inl (cT 0, 6, .inl em))]) [2, 0, 1] (by decide) rfl
  refine W.widen (k := 0) (n := 0) (Nat.le_of_ble_eq_true rfl) (Nat.le_of_ble_eq_true rfl) ?_
  exact W.iret (v := eg ((11 * c0) + i)) hx hb hr (fun t9 ht9 hW9 => ⟨⟨eg ((11 * c0) + i), (), rfl, (show (eg ((11 * c0) + i)) = eg (11 * c0 + i) from rfl), by rw [ht9]; exact hP9, hD9⟩, hS.F ht9⟩) hS.2.2 dM_edge_51
set_option maxHeartbeats 4000000 in
set_option maxRecDepth 100000 in
theorem y_bin_n (l : Launch) (D : va_G) (cT : Nat → ClassId) (y : Nat) (yr : Nat → Nat) (yi : Nat → Int32) (ysb : Int64) (ybs : Int64) (ik : Nat → Int32) (eg : Nat → Int32) (em : Nat → Int32) (c0 : Nat) (ne : Nat) (v : Int32) (hc0 : 0 ≤ nI c0 ∧ nI c0 ≤ yi 2 - 1) (hc6 : c0 < 6) (hv9 : vokB (ik c0) v = true) (hk : ik c0 = 0) (hne : em c0 = nI ne) (hne11 : ne ≤ 11) (sz : Nat) : Met l yM_bin WM_bin ({ frames := 3, cells := 0, slots := 0, locals := 64 } : Room) (RW D vwCl [.ref y, .int (nI c0), .int v] [(y, .inr (11, MO yr yi ysb ybs)), (yr 6, .inl (cT 3, 6, .inl ik)), (yr 7, .inl (cT 0, 66, .inl eg)), (yr 8, .inl (cT 0, 6, .inl em))] (TY cT) sz) (va_Qi (fun (r9 : Int32) (u9 : Unit) => r9 = nI (cnE eg (11 * c0) v ne)) (BW D vwCl (va_A [(y, .inr (11, MO yr yi ysb ybs)), (yr 6, .inl (cT 3, 6, .inl ik)), (yr 7, .inl (cT 0, 66, .inl eg)), (yr 8, .inl (cT 0, 6, .inl em))] sz) (fun u9 : Unit => [(y, .inr (11, MO yr (va_up yi 1 0) ysb ybs)), (yr 6, .inl (cT 3, 6, .inl ik)), (yr 7, .inl (cT 0, 66, .inl eg)), (yr 8, .inl (cT 0, 6, .inl em))])) (va_A [(y, .inr (11, MO yr yi ysb ybs)), (yr 6, .inl (cT 3, 6, .inl ik)), (yr 7, .inl (cT 0, 66, .inl eg)), (yr 8, .inl (cT 0, 6, .inl em))] sz)) 0 0 (va_A [(y, .inr (11, MO yr yi ysb ybs)), (yr 6, .inl (cT 3, 6, .inl ik)), (yr 7, .inl (cT 0, 66, .inl eg)), (yr 8, .inl (cT 0, 6, .inl em))] sz) := by
  refine Met.ofW (cc := cM_bin) (maxL := 5) (ret := (some .int)) (by decide) rfl ?_
  intro p e s m args below meth c s₁ B hml hv
  obtain ⟨rfl, hsz, hZ, hP, hK, hD0⟩ := hv
  have hx := B.exec
  have hb := B.bytes
  have hr := B.returns
  have hts := atoms_spec (ws := WM_bin) B.pre
  have hT : ∀ w ∈ TB, w.before _ s = true := fun w h => hts w (List.mem_cons_of_mem _ h)
  have hown : s.vm.findClass R_M = some m.cls := findClass_of_methodNamed B.named
  have hlocks := B.notSynchronized
  subst hsz
  have hD := hD0.self (sz := s.heap.size)
  generalize hAe : va_A [(y, .inr (11, MO yr yi ysb ybs)), (yr 6, .inl (cT 3, 6, .inl ik)), (yr 7, .inl (cT 0, 66, .inl eg)), (yr 8, .inl (cT 0, 6, .inl em))] s.heap.size = A at hD hZ ⊢
  have hA : ∀ q : Nat, s.heap.size ≤ q → A q := fun q h => by rw [← hAe]; exact Or.inr h
  have hS : va_S A s.heap s.heap [] := va_S.rf
  have hl := lv_entry ([.ref y, .int (nI c0), .int v]) (n := 5) (Nat.le_of_ble_eq_true rfl)
  rw [lg_entry_eq]
  generalize (lg_sl ([.ref y, .int (nI c0), .int v]) ++ List.replicate (5 - (lg_sl ([.ref y, .int (nI c0), .int v])).length) Slot.unset).toArray = ls at hl ⊢
  have hl : lv_has ls 5 [(0, .ref y), (1, .int (nI c0)), (2, .int v)] := hl
  refine lv_aload_n hx hb dM_bin_0 rfl (lv_at hl 0 rfl) ?_
  refine lv_aload_n hx hb dM_bin_1 rfl (lv_at hl 0 rfl) ?_
  refine lv_iload_n hx hb dM_bin_2 rfl (lv_at hl 1 rfl) ?_
  refine ro_i (va_Run.run (va_runV (As := [.int (nI c0)]) (rest := [.ref y]) ⟨hx, hb, hml, hown, hT⟩ (m_noColumn l D cT y yr yi ysb ybs (nI c0)) ⟨callB_of 1 hT (tb_gd w1317) rfl rfl rfl (hT _ w13) (hT _ w1314) hM_noColumn ⟨Nat.le_of_ble_eq_true rfl, Nat.le_of_ble_eq_true rfl⟩, (hT _ w1316), (hT _ wp31)⟩ (RO.preV (ci := 11) (q0 := 0) hZ hS (hP.sub (ws' := [(y, .inr (11, MO yr yi ysb ybs))]) [0] rfl) hK rfl rfl) rfl rfl hl.1 rfl (lv_room (Nat.le_of_ble_eq_true rfl)) dM_bin_3 ⟨Nat.le_of_ble_eq_true rfl, Nat.le_of_ble_eq_true rfl⟩)) ?_
  refine lv_if_ne (tgt := 18) hx hb dM_bin_6 rfl (fun h1 => absurd (bi_f (fun q => q hc0)) h1) (fun _ => ?_)
  refine lv_aload_n hx hb dM_bin_9 rfl (lv_at hl 0 rfl) ?_
  refine lv_iload_n hx hb dM_bin_10 rfl (lv_at hl 1 rfl) ?_
  refine lv_iload_n hx hb dM_bin_11 rfl (lv_at hl 2 rfl) ?_
  refine ro_i (va_Run.run (va_runV (As := [.int (nI c0), .int v]) (rest := [.ref y]) ⟨hx, hb, hml, hown, hT⟩ (m_isVal l D cT y yr yi ysb ybs ik c0 v hc6) ⟨callB_of 2 hT (tb_gd w1321) rfl rfl rfl (hT _ w13) (hT _ w1318) hM_isValue ⟨Nat.le_of_ble_eq_true rfl, Nat.le_of_ble_eq_true rfl⟩, (hT _ w1320), (hT _ wp32)⟩ (RO.preV (ci := 11) (q0 := 0) hZ hS (hP.sub (ws' := [(y, .inr (11, MO yr yi ysb ybs)), (yr 6, .inl (cT 3, 6, .inl ik))]) [0, 1] rfl) hK rfl rfl) rfl rfl hl.1 rfl (lv_room (Nat.le_of_ble_eq_true rfl)) dM_bin_12 ⟨Nat.le_of_ble_eq_true rfl, Nat.le_of_ble_eq_true rfl⟩)) ?_
  refine lv_if_ne (tgt := 22) hx hb dM_bin_15 rfl (fun _ => ?_) (fun h2 => absurd h2 (fun q => by have q1 := bn_0.mp q; rw [hv9] at q1; exact absurd q1 (by decide)))
  refine lv_iconst (v := 0) hx hb dM_bin_22 (by decide) ?_
  refine rw_i (wc := [(y, .inr (11, MO yr yi ysb ybs))]) (wr := [(yr 6, .inl (cT 3, 6, .inl ik)), (yr 7, .inl (cT 0, 66, .inl eg)), (yr 8, .inl (cT 0, 6, .inl em))]) hP hD hS hA [0] [1, 2, 3] rfl rfl (by decide) (by decide) (va_runV (As := [.int 0]) (rest := []) ⟨hx, hb, hml, hown, hT⟩ (m_ref0 l D cT y yr yi ysb ybs _) ⟨callB_of 1 hT (tb_gd w1301) rfl rfl rfl (hT _ w13) (hT _ w1298) hM_refused ⟨Nat.le_of_ble_eq_true rfl, Nat.le_of_ble_eq_true rfl⟩, (hT _ w1300), (hT _ wp29)⟩ (RW.preV (ci := 11) (q0 := 0) hZ hS (va_free (wc := [(y, .inr (11, MO yr yi ysb ybs))]) hD hS hA [0] rfl) (hP.sub (ws' := [(y, .inr (11, MO yr yi ysb ybs))]) [0] rfl) hK (hD.sub (ws' := [(y, .inr (11, MO yr yi ysb ybs))]) [0] (by decide) rfl) rfl rfl) rfl rfl hl.1 rfl (lv_room (Nat.le_of_ble_eq_true rfl)) dM_bin_23 ⟨Nat.le_of_ble_eq_true rfl, Nat.le_of_ble_eq_true rfl⟩) (fun ru3 u9 H locs hpu3 hP hD hS => ?_)
  have hpu3 : ru3 = 0 := hpu3
  have hP : va_P D vwCl [(yr 6, .inl (cT 3, 6, .inl ik)), (yr 7, .inl (cT 0, 66, .inl eg)), (yr 8, .inl (cT 0, 6, .inl em)), (y, .inr (11, MO yr (va_up yi 1 0) ysb ybs))] _ := hP
  have hD : va_D A [(yr 6, .inl (cT 3, 6, .inl ik)), (yr 7, .inl (cT 0, 66, .inl eg)), (yr 8, .inl (cT 0, 6, .inl em)), (y, .inr (11, MO yr (va_up yi 1 0) ysb ybs))] := hD
  refine lv_topi (fun y9 e9 => ?_)
  cases (show y9 = 0 from e9.trans hpu3)
  refine lv_if_eq (tgt := 31) hx hb dM_bin_26 rfl (fun _ => ?_) (fun h4 => absurd (by decide) h4)
  refine lv_aload_n hx hb dM_bin_31 rfl (lv_at hl 0 rfl) ?_
  refine va_get (D := D) (ci := 11) (v := .ref (yr 6)) (C := R_M) (T := T_M) (N := 60) hx hb hT in_M hown hK hP 3 rfl rfl 6 (by decide) (hT _ w1110) (fun _ h9 => h9) rfl dM_bin_32 ?_
  refine lv_iload_n hx hb dM_bin_35 rfl (lv_at hl 1 rfl) ?_
  refine lq_zald (j := c0) hx hb hK hP 0 3 rfl rfl rfl (by omega) (by omega) dM_bin_36 ?_
  refine lv_if_eq (tgt := 42) hx hb dM_bin_37 rfl (fun _ => ?_) (fun h5 => absurd hk h5)
  refine lv_iconst (v := 0) hx hb dM_bin_42 (by decide) ?_
  refine lv_istore_n hx hb dM_bin_43 rfl hl (by decide) rfl (fun ls hl => ?_)
  have hl : lv_has ls 5 [(3, .int 0), (0, .ref y), (1, .int (nI c0)), (2, .int v)] := hl
  refine lv_iconst (v := 0) hx hb dM_bin_44 (by decide) ?_
  refine lv_istore hx hb dM_bin_45 hl (by decide) rfl (fun ls hl => ?_)
  have hl : lv_has ls 5 [(4, .int 0), (3, .int 0), (0, .ref y), (1, .int (nI c0)), (2, .int v)] := hl
  refine lp_r (α := Nat) (fun a9 => a9 ≤ ne) (fun a9 => ne - a9) (fun a9 => [(0, .ref y), (1, .int (nI c0)), (2, .int v), (3, .int (nI (cnE eg (11 * c0) v a9))), (4, .int (nI a9))]) 47 ?_ 0 (show 0 ≤ ne from by omega) (lv_sub hl [2, 3, 4, 1, 0] rfl)
  intro a9 hI47 ih47 ls hl
  obtain ⟨k, rfl⟩ : ∃ q9, q9 = a9 := ⟨_, rfl⟩
  have hI47 : k ≤ ne := hI47
  have hl : lv_has ls 5 [(0, .ref y), (1, .int (nI c0)), (2, .int v), (3, .int (nI (cnE eg (11 * c0) v k))), (4, .int (nI k))] := hl
  refine lv_iload hx hb dM_bin_47 (lv_at hl 4 rfl) ?_
  refine lv_aload_n hx hb dM_bin_49 rfl (lv_at hl 0 rfl) ?_
  refine va_get (D := D) (ci := 11) (v := .ref (yr 8)) (C := R_M) (T := T_M) (N := 60) hx hb hT in_M hown hK hP 3 rfl rfl 8 (by decide) (hT _ w1112) (fun _ h9 => h9) rfl dM_bin_50 ?_
  refine lv_iload_n hx hb dM_bin_53 rfl (lv_at hl 1 rfl) ?_
  refine lq_iald (j := c0) hx hb hK hP 2 0 rfl rfl rfl (by omega) (by omega) dM_bin_54 ?_
  refine lv_topi (fun y9 e9 => ?_)
  cases (show y9 = nI ne from e9.trans hne)
  refine lv_icmp_ge (tgt := 88) hx hb dM_bin_55 rfl (fun h6 => ?_) (fun h6 => ?_)
  · have gh6 : ne ≤ k := (nI_leI (a := ne) (b := k) (by omega) (by omega)).mp h6
    refine lv_iload_n hx hb dM_bin_88 rfl (lv_at hl 3 rfl) ?_
    have hP9 := hP.sub (ws' := [(y, .inr (11, MO yr (va_up yi 1 0) ysb ybs)), (yr 6, .inl (cT 3, 6, .inl ik)), (yr 7, .inl (cT 0, 66, .inl eg)), (yr 8, .inl (cT 0, 6, .inl em))]) [3, 0, 1, 2] rfl
    have hD9 := hD.sub (ws' := [(y, .inr (11, MO yr (va_up yi 1 0) ysb ybs)), (yr 6, .inl (cT 3, 6, .inl ik)), (yr 7, .inl (cT 0, 66, .inl eg)), (yr 8, .inl (cT 0, 6, .inl em))]) [3, 0, 1, 2] (by decide) rfl
    refine W.widen (k := 0) (n := 0) (Nat.le_of_ble_eq_true rfl) (Nat.le_of_ble_eq_true rfl) ?_
    exact W.iret (v := nI (cnE eg (11 * c0) v k)) hx hb hr (fun t9 ht9 hW9 => ⟨⟨nI (cnE eg (11 * c0) v k), (), rfl, (show (nI (cnE eg (11 * c0) v k)) = nI (cnE eg (11 * c0) v ne) from (by rw [show k = ne by omega])), by rw [ht9]; exact hP9, hD9⟩, hS.F ht9⟩) hS.2.2 dM_bin_89
  · have gh6 : k < ne := Nat.not_le.mp (fun q => h6 ((nI_leI (a := ne) (b := k) (by omega) (by omega)).mpr q))
    refine lv_iload_n hx hb dM_bin_58 rfl (lv_at hl 3 rfl) ?_
    refine lv_aload_n hx hb dM_bin_59 rfl (lv_at hl 0 rfl) ?_
    refine va_get (D := D) (ci := 11) (v := .ref (yr 7)) (C := R_M) (T := T_M) (N := 60) hx hb hT in_M hown hK hP 3 rfl rfl 7 (by decide) (hT _ w1111) (fun _ h9 => h9) rfl dM_bin_60 ?_
    refine lv_bipush (v := 11) hx hb dM_bin_63 (by decide) ?_
    refine lv_iload_n hx hb dM_bin_65 rfl (lv_at hl 1 rfl) ?_
    refine lv_imul hx hb dM_bin_66 ?_
    refine lv_topi (fun y9 e9 => ?_)
    cases (show y9 = nI (11 * c0) from e9.trans (pk_mul 11 c0))
    refine lv_iload hx hb dM_bin_67 (lv_at hl 4 rfl) ?_
    refine lv_iadd hx hb dM_bin_69 ?_
    refine lv_topi (fun y9 e9 => ?_)
    cases (show y9 = nI ((11 * c0) + k) from e9.trans (nI_add (11 * c0) k))
    refine lq_iald (j := (11 * c0) + k) hx hb hK hP 1 0 rfl rfl rfl (by omega) (by omega) dM_bin_70 ?_
    refine lv_iload_n hx hb dM_bin_71 rfl (lv_at hl 2 rfl) ?_
    refine lv_icmp_gt (tgt := 79) hx hb dM_bin_72 rfl (fun h7 => ?_) (fun h7 => ?_)
    · refine lv_iconst (v := 0) hx hb dM_bin_79 (by decide) ?_
      refine lv_iadd hx hb dM_bin_80 ?_
      refine lv_topi (fun y9 e9 => ?_)
      cases (show y9 = nI (cnE eg (11 * c0) v k) from e9.trans (nI_add (cnE eg (11 * c0) v k) 0))
      refine lv_topi (fun y9 e9 => ?_)
      cases (show y9 = nI (cnE eg (11 * c0) v (k + 1)) from e9.trans (congrArg nI (by show _ = cnE eg (11 * c0) v k + _; rw [if_neg (Int32.not_le.mpr h7), Nat.add_zero])))
      refine lv_istore_n hx hb dM_bin_81 rfl hl (by decide) rfl (fun ls hl => ?_)
      have hl : lv_has ls 5 [(3, .int (nI (cnE eg (11 * c0) v (k + 1)))), (0, .ref y), (1, .int (nI c0)), (2, .int v), (4, .int (nI k))] := hl
      refine lv_iinc (k := 4) (v := nI (k + 1)) hx hb dM_bin_82 hl rfl (nI_1 k) (by decide) rfl (fun ls hl => ?_)
      have hl : lv_has ls 5 [(4, .int (nI (k + 1))), (3, .int (nI (cnE eg (11 * c0) v (k + 1)))), (0, .ref y), (1, .int (nI c0)), (2, .int v)] := hl
      refine lv_goto (tgt := 47) hx hb dM_bin_85 rfl ?_
      exact ih47 (k + 1) (show (k + 1) ≤ ne from by omega) (show ne - (k + 1) < ne - k from (by omega)) ls (lv_sub hl [2, 3, 4, 1, 0] rfl)
    · refine lv_iconst (v := 1) hx hb dM_bin_75 (by decide) ?_
      refine lv_goto (tgt := 80) hx hb dM_bin_76 rfl ?_
      refine lv_iadd hx hb dM_bin_80 ?_
      refine lv_topi (fun y9 e9 => ?_)
      cases (show y9 = nI ((cnE eg (11 * c0) v k) + 1) from e9.trans (nI_add (cnE eg (11 * c0) v k) 1))
      refine lv_topi (fun y9 e9 => ?_)
      cases (show y9 = nI (cnE eg (11 * c0) v (k + 1)) from e9.trans (congrArg nI (by show _ = cnE eg (11 * c0) v k + _; rw [if_pos (Int32.not_lt.mp h7)])))
      refine lv_istore_n hx hb dM_bin_81 rfl hl (by decide) rfl (fun ls hl => ?_)
      have hl : lv_has ls 5 [(3, .int (nI (cnE eg (11 * c0) v (k + 1)))), (0, .ref y), (1, .int (nI c0)), (2, .int v), (4, .int (nI k))] := hl
      refine lv_iinc (k := 4) (v := nI (k + 1)) hx hb dM_bin_82 hl rfl (nI_1 k) (by decide) rfl (fun ls hl => ?_)
      have hl : lv_has ls 5 [(4, .int (nI (k + 1))), (3, .int (nI (cnE eg (11 * c0) v (k + 1)))), (0, .ref y), (1, .int (nI c0)), (2, .int v)] := hl
      refine lv_goto (tgt := 47) hx hb dM_bin_85 rfl ?_
      exact ih47 (k + 1) (show (k + 1) ≤ ne from by omega) (show ne - (k + 1) < ne - k from (by omega)) ls (lv_sub hl [2, 3, 4, 1, 0] rfl)
set_option maxHeartbeats 4000000 in
set_option maxRecDepth 100000 in
theorem y_bin_k (l : Launch) (D : va_G) (cT : Nat → ClassId) (y : Nat) (yr : Nat → Nat) (yi : Nat → Int32) (ysb : Int64) (ybs : Int64) (ik : Nat → Int32) (c0 : Nat) (v : Int32) (hc0 : 0 ≤ nI c0 ∧ nI c0 ≤ yi 2 - 1) (hc6 : c0 < 6) (hv9 : vokB (ik c0) v = true) (hk : ¬ ik c0 = 0) (sz : Nat) : Met l yM_bin WM_bin ({ frames := 3, cells := 0, slots := 0, locals := 64 } : Room) (RW D vwCl [.ref y, .int (nI c0), .int v] [(y, .inr (11, MO yr yi ysb ybs)), (yr 6, .inl (cT 3, 6, .inl ik))] (TY cT) sz) (va_Qi (fun (r9 : Int32) (u9 : Unit) => r9 = v) (BW D vwCl (va_A [(y, .inr (11, MO yr yi ysb ybs)), (yr 6, .inl (cT 3, 6, .inl ik))] sz) (fun u9 : Unit => [(y, .inr (11, MO yr (va_up yi 1 0) ysb ybs)), (yr 6, .inl (cT 3, 6, .inl ik))])) (va_A [(y, .inr (11, MO yr yi ysb ybs)), (yr 6, .inl (cT 3, 6, .inl ik))] sz)) 0 0 (va_A [(y, .inr (11, MO yr yi ysb ybs)), (yr 6, .inl (cT 3, 6, .inl ik))] sz) := by
  refine Met.ofW (cc := cM_bin) (maxL := 5) (ret := (some .int)) (by decide) rfl ?_
  intro p e s m args below meth c s₁ B hml hv
  obtain ⟨rfl, hsz, hZ, hP, hK, hD0⟩ := hv
  have hx := B.exec
  have hb := B.bytes
  have hr := B.returns
  have hts := atoms_spec (ws := WM_bin) B.pre
  have hT : ∀ w ∈ TB, w.before _ s = true := fun w h => hts w (List.mem_cons_of_mem _ h)
  have hown : s.vm.findClass R_M = some m.cls := findClass_of_methodNamed B.named
  have hlocks := B.notSynchronized
  subst hsz
  have hD := hD0.self (sz := s.heap.size)
  generalize hAe : va_A [(y, .inr (11, MO yr yi ysb ybs)), (yr 6, .inl (cT 3, 6, .inl ik))] s.heap.size = A at hD hZ ⊢
  have hA : ∀ q : Nat, s.heap.size ≤ q → A q := fun q h => by rw [← hAe]; exact Or.inr h
  have hS : va_S A s.heap s.heap [] := va_S.rf
  have hl := lv_entry ([.ref y, .int (nI c0), .int v]) (n := 5) (Nat.le_of_ble_eq_true rfl)
  rw [lg_entry_eq]
  generalize (lg_sl ([.ref y, .int (nI c0), .int v]) ++ List.replicate (5 - (lg_sl ([.ref y, .int (nI c0), .int v])).length) Slot.unset).toArray = ls at hl ⊢
  have hl : lv_has ls 5 [(0, .ref y), (1, .int (nI c0)), (2, .int v)] := hl
  refine lv_aload_n hx hb dM_bin_0 rfl (lv_at hl 0 rfl) ?_
  refine lv_aload_n hx hb dM_bin_1 rfl (lv_at hl 0 rfl) ?_
  refine lv_iload_n hx hb dM_bin_2 rfl (lv_at hl 1 rfl) ?_
  refine ro_i (va_Run.run (va_runV (As := [.int (nI c0)]) (rest := [.ref y]) ⟨hx, hb, hml, hown, hT⟩ (m_noColumn l D cT y yr yi ysb ybs (nI c0)) ⟨callB_of 1 hT (tb_gd w1317) rfl rfl rfl (hT _ w13) (hT _ w1314) hM_noColumn ⟨Nat.le_of_ble_eq_true rfl, Nat.le_of_ble_eq_true rfl⟩, (hT _ w1316), (hT _ wp31)⟩ (RO.preV (ci := 11) (q0 := 0) hZ hS (hP.sub (ws' := [(y, .inr (11, MO yr yi ysb ybs))]) [0] rfl) hK rfl rfl) rfl rfl hl.1 rfl (lv_room (Nat.le_of_ble_eq_true rfl)) dM_bin_3 ⟨Nat.le_of_ble_eq_true rfl, Nat.le_of_ble_eq_true rfl⟩)) ?_
  refine lv_if_ne (tgt := 18) hx hb dM_bin_6 rfl (fun h1 => absurd (bi_f (fun q => q hc0)) h1) (fun _ => ?_)
  refine lv_aload_n hx hb dM_bin_9 rfl (lv_at hl 0 rfl) ?_
  refine lv_iload_n hx hb dM_bin_10 rfl (lv_at hl 1 rfl) ?_
  refine lv_iload_n hx hb dM_bin_11 rfl (lv_at hl 2 rfl) ?_
  refine ro_i (va_Run.run (va_runV (As := [.int (nI c0), .int v]) (rest := [.ref y]) ⟨hx, hb, hml, hown, hT⟩ (m_isVal l D cT y yr yi ysb ybs ik c0 v hc6) ⟨callB_of 2 hT (tb_gd w1321) rfl rfl rfl (hT _ w13) (hT _ w1318) hM_isValue ⟨Nat.le_of_ble_eq_true rfl, Nat.le_of_ble_eq_true rfl⟩, (hT _ w1320), (hT _ wp32)⟩ (RO.preV (ci := 11) (q0 := 0) hZ hS (hP.sub (ws' := [(y, .inr (11, MO yr yi ysb ybs)), (yr 6, .inl (cT 3, 6, .inl ik))]) [0, 1] rfl) hK rfl rfl) rfl rfl hl.1 rfl (lv_room (Nat.le_of_ble_eq_true rfl)) dM_bin_12 ⟨Nat.le_of_ble_eq_true rfl, Nat.le_of_ble_eq_true rfl⟩)) ?_
  refine lv_if_ne (tgt := 22) hx hb dM_bin_15 rfl (fun _ => ?_) (fun h2 => absurd h2 (fun q => by have q1 := bn_0.mp q; rw [hv9] at q1; exact absurd q1 (by decide)))
  refine lv_iconst (v := 0) hx hb dM_bin_22 (by decide) ?_
  refine rw_i (wc := [(y, .inr (11, MO yr yi ysb ybs))]) (wr := [(yr 6, .inl (cT 3, 6, .inl ik))]) hP hD hS hA [0] [1] rfl rfl (by decide) (by decide) (va_runV (As := [.int 0]) (rest := []) ⟨hx, hb, hml, hown, hT⟩ (m_ref0 l D cT y yr yi ysb ybs _) ⟨callB_of 1 hT (tb_gd w1301) rfl rfl rfl (hT _ w13) (hT _ w1298) hM_refused ⟨Nat.le_of_ble_eq_true rfl, Nat.le_of_ble_eq_true rfl⟩, (hT _ w1300), (hT _ wp29)⟩ (RW.preV (ci := 11) (q0 := 0) hZ hS (va_free (wc := [(y, .inr (11, MO yr yi ysb ybs))]) hD hS hA [0] rfl) (hP.sub (ws' := [(y, .inr (11, MO yr yi ysb ybs))]) [0] rfl) hK (hD.sub (ws' := [(y, .inr (11, MO yr yi ysb ybs))]) [0] (by decide) rfl) rfl rfl) rfl rfl hl.1 rfl (lv_room (Nat.le_of_ble_eq_true rfl)) dM_bin_23 ⟨Nat.le_of_ble_eq_true rfl, Nat.le_of_ble_eq_true rfl⟩) (fun ru3 u9 H locs hpu3 hP hD hS => ?_)
  have hpu3 : ru3 = 0 := hpu3
  have hP : va_P D vwCl [(yr 6, .inl (cT 3, 6, .inl ik)), (y, .inr (11, MO yr (va_up yi 1 0) ysb ybs))] _ := hP
  have hD : va_D A [(yr 6, .inl (cT 3, 6, .inl ik)), (y, .inr (11, MO yr (va_up yi 1 0) ysb ybs))] := hD
  refine lv_topi (fun y9 e9 => ?_)
  cases (show y9 = 0 from e9.trans hpu3)
  refine lv_if_eq (tgt := 31) hx hb dM_bin_26 rfl (fun _ => ?_) (fun h4 => absurd (by decide) h4)
  refine lv_aload_n hx hb dM_bin_31 rfl (lv_at hl 0 rfl) ?_
  refine va_get (D := D) (ci := 11) (v := .ref (yr 6)) (C := R_M) (T := T_M) (N := 60) hx hb hT in_M hown hK hP 1 rfl rfl 6 (by decide) (hT _ w1110) (fun _ h9 => h9) rfl dM_bin_32 ?_
  refine lv_iload_n hx hb dM_bin_35 rfl (lv_at hl 1 rfl) ?_
  refine lq_zald (j := c0) hx hb hK hP 0 3 rfl rfl rfl (by omega) (by omega) dM_bin_36 ?_
  refine lv_if_eq (tgt := 42) hx hb dM_bin_37 rfl (fun h5 => absurd h5 hk) (fun _ => ?_)
  refine lv_iload_n hx hb dM_bin_40 rfl (lv_at hl 2 rfl) ?_
  have hP9 := hP.sub (ws' := [(y, .inr (11, MO yr (va_up yi 1 0) ysb ybs)), (yr 6, .inl (cT 3, 6, .inl ik))]) [1, 0] rfl
  have hD9 := hD.sub (ws' := [(y, .inr (11, MO yr (va_up yi 1 0) ysb ybs)), (yr 6, .inl (cT 3, 6, .inl ik))]) [1, 0] (by decide) rfl
  refine W.widen (k := 0) (n := 0) (Nat.le_of_ble_eq_true rfl) (Nat.le_of_ble_eq_true rfl) ?_
  exact W.iret (v := v) hx hb hr (fun t9 ht9 hW9 => ⟨⟨v, (), rfl, (show v = v from rfl), by rw [ht9]; exact hP9, hD9⟩, hS.F ht9⟩) hS.2.2 dM_bin_41
set_option maxHeartbeats 4000000 in
set_option maxRecDepth 100000 in
theorem y_uses_ok (l : Launch) (D : va_G) (cT : Nat → ClassId) (y : Nat) (yr : Nat → Nat) (yi : Nat → Int32) (ysb : Int64) (ybs : Int64) (nmA : Nat → Int32) (nc : Nat → Int32) (T : Nat) (nm : Nat → Nat) (v : Int32) (hc0 : 0 ≤ v ∧ v ≤ yi 2 - 1) (hTT : yi 17 = nI T) (hT16 : T ≤ 16) (hnm : ∀ t, t < T → nmA t = nI (nm t) ∧ nm t ≤ 31) (sz : Nat) : Met l yM_uses WM_uses ({ frames := 2, cells := 0, slots := 0, locals := 43 } : Room) (RW D vwCl [.ref y, .int v] [(y, .inr (11, MO yr yi ysb ybs)), (yr 18, .inl (cT 0, 16, .inl nmA)), (yr 19, .inl (cT 0, 496, .inl nc))] (TY cT) sz) (va_Qi (fun (r9 : Int32) (u9 : Unit) => r9 = nI (usT nc nm v T)) (BW D vwCl (va_A [(y, .inr (11, MO yr yi ysb ybs)), (yr 18, .inl (cT 0, 16, .inl nmA)), (yr 19, .inl (cT 0, 496, .inl nc))] sz) (fun u9 : Unit => [(y, .inr (11, MO yr (va_up yi 1 0) ysb ybs)), (yr 18, .inl (cT 0, 16, .inl nmA)), (yr 19, .inl (cT 0, 496, .inl nc))])) (va_A [(y, .inr (11, MO yr yi ysb ybs)), (yr 18, .inl (cT 0, 16, .inl nmA)), (yr 19, .inl (cT 0, 496, .inl nc))] sz)) 0 0 (va_A [(y, .inr (11, MO yr yi ysb ybs)), (yr 18, .inl (cT 0, 16, .inl nmA)), (yr 19, .inl (cT 0, 496, .inl nc))] sz) := by
  refine Met.ofW (cc := cM_uses) (maxL := 5) (ret := (some .int)) (by decide) rfl ?_
  intro p e s m args below meth c s₁ B hml hv
  obtain ⟨rfl, hsz, hZ, hP, hK, hD0⟩ := hv
  have hx := B.exec
  have hb := B.bytes
  have hr := B.returns
  have hts := atoms_spec (ws := WM_uses) B.pre
  have hT : ∀ w ∈ TB, w.before _ s = true := fun w h => hts w (List.mem_cons_of_mem _ h)
  have hown : s.vm.findClass R_M = some m.cls := findClass_of_methodNamed B.named
  have hlocks := B.notSynchronized
  subst hsz
  have hD := hD0.self (sz := s.heap.size)
  generalize hAe : va_A [(y, .inr (11, MO yr yi ysb ybs)), (yr 18, .inl (cT 0, 16, .inl nmA)), (yr 19, .inl (cT 0, 496, .inl nc))] s.heap.size = A at hD hZ ⊢
  have hA : ∀ q : Nat, s.heap.size ≤ q → A q := fun q h => by rw [← hAe]; exact Or.inr h
  have hS : va_S A s.heap s.heap [] := va_S.rf
  have hl := lv_entry ([.ref y, .int v]) (n := 5) (Nat.le_of_ble_eq_true rfl)
  rw [lg_entry_eq]
  generalize (lg_sl ([.ref y, .int v]) ++ List.replicate (5 - (lg_sl ([.ref y, .int v])).length) Slot.unset).toArray = ls at hl ⊢
  have hl : lv_has ls 5 [(0, .ref y), (1, .int v)] := hl
  refine lv_aload_n hx hb dM_uses_0 rfl (lv_at hl 0 rfl) ?_
  refine lv_aload_n hx hb dM_uses_1 rfl (lv_at hl 0 rfl) ?_
  refine lv_iload_n hx hb dM_uses_2 rfl (lv_at hl 1 rfl) ?_
  refine ro_i (va_Run.run (va_runV (As := [.int v]) (rest := [.ref y]) ⟨hx, hb, hml, hown, hT⟩ (m_noColumn l D cT y yr yi ysb ybs v) ⟨callB_of 1 hT (tb_gd w1317) rfl rfl rfl (hT _ w13) (hT _ w1314) hM_noColumn ⟨Nat.le_of_ble_eq_true rfl, Nat.le_of_ble_eq_true rfl⟩, (hT _ w1316), (hT _ wp31)⟩ (RO.preV (ci := 11) (q0 := 0) hZ hS (hP.sub (ws' := [(y, .inr (11, MO yr yi ysb ybs))]) [0] rfl) hK rfl rfl) rfl rfl hl.1 rfl (lv_room (Nat.le_of_ble_eq_true rfl)) dM_uses_3 ⟨Nat.le_of_ble_eq_true rfl, Nat.le_of_ble_eq_true rfl⟩)) ?_
  refine lv_if_eq (tgt := 13) hx hb dM_uses_6 rfl (fun _ => ?_) (fun h1 => absurd (bi_f (fun q => q hc0)) h1)
  refine lv_iconst (v := 0) hx hb dM_uses_13 (by decide) ?_
  refine rw_i (wc := [(y, .inr (11, MO yr yi ysb ybs))]) (wr := [(yr 18, .inl (cT 0, 16, .inl nmA)), (yr 19, .inl (cT 0, 496, .inl nc))]) hP hD hS hA [0] [1, 2] rfl rfl (by decide) (by decide) (va_runV (As := [.int 0]) (rest := []) ⟨hx, hb, hml, hown, hT⟩ (m_ref0 l D cT y yr yi ysb ybs _) ⟨callB_of 1 hT (tb_gd w1301) rfl rfl rfl (hT _ w13) (hT _ w1298) hM_refused ⟨Nat.le_of_ble_eq_true rfl, Nat.le_of_ble_eq_true rfl⟩, (hT _ w1300), (hT _ wp29)⟩ (RW.preV (ci := 11) (q0 := 0) hZ hS (va_free (wc := [(y, .inr (11, MO yr yi ysb ybs))]) hD hS hA [0] rfl) (hP.sub (ws' := [(y, .inr (11, MO yr yi ysb ybs))]) [0] rfl) hK (hD.sub (ws' := [(y, .inr (11, MO yr yi ysb ybs))]) [0] (by decide) rfl) rfl rfl) rfl rfl hl.1 rfl (lv_room (Nat.le_of_ble_eq_true rfl)) dM_uses_14 ⟨Nat.le_of_ble_eq_true rfl, Nat.le_of_ble_eq_true rfl⟩) (fun ru2 u9 H locs hpu2 hP hD hS => ?_)
  have hpu2 : ru2 = 0 := hpu2
  have hP : va_P D vwCl [(yr 18, .inl (cT 0, 16, .inl nmA)), (yr 19, .inl (cT 0, 496, .inl nc)), (y, .inr (11, MO yr (va_up yi 1 0) ysb ybs))] _ := hP
  have hD : va_D A [(yr 18, .inl (cT 0, 16, .inl nmA)), (yr 19, .inl (cT 0, 496, .inl nc)), (y, .inr (11, MO yr (va_up yi 1 0) ysb ybs))] := hD
  refine lv_topi (fun y9 e9 => ?_)
  cases (show y9 = 0 from e9.trans hpu2)
  refine lv_if_eq (tgt := 22) hx hb dM_uses_17 rfl (fun _ => ?_) (fun h3 => absurd (by decide) h3)
  refine lv_iconst (v := 0) hx hb dM_uses_22 (by decide) ?_
  refine lv_istore_n hx hb dM_uses_23 rfl hl (by decide) rfl (fun ls hl => ?_)
  have hl : lv_has ls 5 [(2, .int 0), (0, .ref y), (1, .int v)] := hl
  refine lv_iconst (v := 0) hx hb dM_uses_24 (by decide) ?_
  refine lv_istore_n hx hb dM_uses_25 rfl hl (by decide) rfl (fun ls hl => ?_)
  have hl : lv_has ls 5 [(3, .int 0), (2, .int 0), (0, .ref y), (1, .int v)] := hl
  refine lp_r (α := Nat) (fun a9 => a9 ≤ T) (fun a9 => T - a9) (fun a9 => [(0, .ref y), (1, .int v), (2, .int (nI (usT nc nm v a9))), (3, .int (nI a9))]) 26 ?_ 0 (show 0 ≤ T from by omega) (lv_sub hl [2, 3, 1, 0] rfl)
  intro a9 hI26 ih26 ls hl
  obtain ⟨t, rfl⟩ : ∃ q9, q9 = a9 := ⟨_, rfl⟩
  have hI26 : t ≤ T := hI26
  have hl : lv_has ls 5 [(0, .ref y), (1, .int v), (2, .int (nI (usT nc nm v t))), (3, .int (nI t))] := hl
  refine lv_iload_n hx hb dM_uses_26 rfl (lv_at hl 3 rfl) ?_
  refine lv_aload_n hx hb dM_uses_27 rfl (lv_at hl 0 rfl) ?_
  refine va_get (D := D) (ci := 11) (v := .int (yi 17)) (C := R_M) (T := T_M) (N := 60) hx hb hT in_M hown hK hP 2 rfl rfl 17 (by decide) (hT _ w1121) (fun _ h9 => h9) rfl dM_uses_28 ?_
  refine lv_topi (fun y9 e9 => ?_)
  cases (show y9 = nI T from e9.trans hTT)
  refine lv_icmp_ge (tgt := 84) hx hb dM_uses_31 rfl (fun h4 => ?_) (fun h4 => ?_)
  · have gh4 : T ≤ t := (nI_leI (a := T) (b := t) (by omega) (by omega)).mp h4
    refine lv_iload_n hx hb dM_uses_84 rfl (lv_at hl 2 rfl) ?_
    have hP9 := hP.sub (ws' := [(y, .inr (11, MO yr (va_up yi 1 0) ysb ybs)), (yr 18, .inl (cT 0, 16, .inl nmA)), (yr 19, .inl (cT 0, 496, .inl nc))]) [2, 0, 1] rfl
    have hD9 := hD.sub (ws' := [(y, .inr (11, MO yr (va_up yi 1 0) ysb ybs)), (yr 18, .inl (cT 0, 16, .inl nmA)), (yr 19, .inl (cT 0, 496, .inl nc))]) [2, 0, 1] (by decide) rfl
    refine W.widen (k := 0) (n := 0) (Nat.le_of_ble_eq_true rfl) (Nat.le_of_ble_eq_true rfl) ?_
    exact W.iret (v := nI (usT nc nm v t)) hx hb hr (fun t9 ht9 hW9 => ⟨⟨nI (usT nc nm v t), (), rfl, (show (nI (usT nc nm v t)) = nI (usT nc nm v T) from (by rw [show t = T by omega])), by rw [ht9]; exact hP9, hD9⟩, hS.F ht9⟩) hS.2.2 dM_uses_85
  · have gh4 : t < T := Nat.not_le.mp (fun q => h4 ((nI_leI (a := T) (b := t) (by omega) (by omega)).mpr q))
    have hnt := hnm t (by omega)
    refine lv_iconst (v := 0) hx hb dM_uses_34 (by decide) ?_
    refine lv_istore hx hb dM_uses_35 hl (by decide) rfl (fun ls hl => ?_)
    have hl : lv_has ls 5 [(4, .int 0), (0, .ref y), (1, .int v), (2, .int (nI (usT nc nm v t))), (3, .int (nI t))] := hl
    refine lp_r (α := Nat) (fun a9 => a9 ≤ nm t) (fun a9 => nm t - a9) (fun a9 => [(0, .ref y), (1, .int v), (2, .int (nI (usT nc nm v t + usN nc (31 * t) v a9))), (3, .int (nI t)), (4, .int (nI a9))]) 37 ?_ 0 (show 0 ≤ nm t from by omega) (lv_sub hl [1, 2, 3, 4, 0] rfl)
    intro a9 hI37 ih37 ls hl
    obtain ⟨k, rfl⟩ : ∃ q9, q9 = a9 := ⟨_, rfl⟩
    have hI37 : k ≤ nm t := hI37
    have hl : lv_has ls 5 [(0, .ref y), (1, .int v), (2, .int (nI (usT nc nm v t + usN nc (31 * t) v k))), (3, .int (nI t)), (4, .int (nI k))] := hl
    refine lv_iload hx hb dM_uses_37 (lv_at hl 4 rfl) ?_
    refine lv_aload_n hx hb dM_uses_39 rfl (lv_at hl 0 rfl) ?_
    refine va_get (D := D) (ci := 11) (v := .ref (yr 18)) (C := R_M) (T := T_M) (N := 60) hx hb hT in_M hown hK hP 2 rfl rfl 18 (by decide) (hT _ w1122) (fun _ h9 => h9) rfl dM_uses_40 ?_
    refine lv_iload_n hx hb dM_uses_43 rfl (lv_at hl 3 rfl) ?_
    refine lq_iald (j := t) hx hb hK hP 0 0 rfl rfl rfl (by omega) (by omega) dM_uses_44 ?_
    refine lv_topi (fun y9 e9 => ?_)
    cases (show y9 = nI (nm t) from e9.trans hnt.1)
    refine lv_icmp_ge (tgt := 78) hx hb dM_uses_45 rfl (fun h5 => ?_) (fun h5 => ?_)
    · have gh5 : nm t ≤ k := (nI_leI (a := nm t) (b := k) (by omega) (by omega)).mp h5
      have hl : lv_has ls 5 [(0, .ref y), (1, .int v), (2, .int (nI (usT nc nm v (t + 1)))), (3, .int (nI t)), (4, .int (nI k))] := by
        rw [show usT nc nm v (t + 1) = usT nc nm v t + usN nc (31 * t) v k by rw [show k = nm t by omega]; rfl]; exact hl
      refine lv_iinc (k := 3) (v := nI (t + 1)) hx hb dM_uses_78 hl rfl (nI_1 t) (by decide) rfl (fun ls hl => ?_)
      have hl : lv_has ls 5 [(3, .int (nI (t + 1))), (0, .ref y), (1, .int v), (2, .int (nI (usT nc nm v (t + 1)))), (4, .int (nI k))] := hl
      refine lv_goto (tgt := 26) hx hb dM_uses_81 rfl ?_
      exact ih26 (t + 1) (show (t + 1) ≤ T from by omega) (show T - (t + 1) < T - t from (by omega)) ls (lv_sub hl [1, 2, 3, 0] rfl)
    · have gh5 : k < nm t := Nat.not_le.mp (fun q => h5 ((nI_leI (a := nm t) (b := k) (by omega) (by omega)).mpr q))
      refine lv_iload_n hx hb dM_uses_48 rfl (lv_at hl 2 rfl) ?_
      refine lv_aload_n hx hb dM_uses_49 rfl (lv_at hl 0 rfl) ?_
      refine va_get (D := D) (ci := 11) (v := .ref (yr 19)) (C := R_M) (T := T_M) (N := 60) hx hb hT in_M hown hK hP 2 rfl rfl 19 (by decide) (hT _ w1123) (fun _ h9 => h9) rfl dM_uses_50 ?_
      refine lv_bipush (v := 31) hx hb dM_uses_53 (by decide) ?_
      refine lv_iload_n hx hb dM_uses_55 rfl (lv_at hl 3 rfl) ?_
      refine lv_imul hx hb dM_uses_56 ?_
      refine lv_topi (fun y9 e9 => ?_)
      cases (show y9 = nI (31 * t) from e9.trans (pk_mul 31 t))
      refine lv_iload hx hb dM_uses_57 (lv_at hl 4 rfl) ?_
      refine lv_iadd hx hb dM_uses_59 ?_
      refine lv_topi (fun y9 e9 => ?_)
      cases (show y9 = nI ((31 * t) + k) from e9.trans (nI_add (31 * t) k))
      refine lq_iald (j := (31 * t) + k) hx hb hK hP 1 0 rfl rfl rfl (by omega) (by omega) dM_uses_60 ?_
      refine lv_iload_n hx hb dM_uses_61 rfl (lv_at hl 1 rfl) ?_
      refine lv_icmp_ne (tgt := 69) hx hb dM_uses_62 rfl (fun h6 => ?_) (fun h6 => ?_)
      · refine lv_iconst (v := 0) hx hb dM_uses_69 (by decide) ?_
        refine lv_iadd hx hb dM_uses_70 ?_
        refine lv_topi (fun y9 e9 => ?_)
        cases (show y9 = nI (usT nc nm v t + usN nc (31 * t) v k) from e9.trans (nI_add (usT nc nm v t + usN nc (31 * t) v k) 0))
        refine lv_topi (fun y9 e9 => ?_)
        cases (show y9 = nI (usT nc nm v t + usN nc (31 * t) v (k + 1)) from e9.trans (congrArg nI (by show _ = usT nc nm v t + (usN nc (31 * t) v k + _); rw [if_neg h6]; omega)))
        refine lv_istore_n hx hb dM_uses_71 rfl hl (by decide) rfl (fun ls hl => ?_)
        have hl : lv_has ls 5 [(2, .int (nI (usT nc nm v t + usN nc (31 * t) v (k + 1)))), (0, .ref y), (1, .int v), (3, .int (nI t)), (4, .int (nI k))] := hl
        refine lv_iinc (k := 4) (v := nI (k + 1)) hx hb dM_uses_72 hl rfl (nI_1 k) (by decide) rfl (fun ls hl => ?_)
        have hl : lv_has ls 5 [(4, .int (nI (k + 1))), (2, .int (nI (usT nc nm v t + usN nc (31 * t) v (k + 1)))), (0, .ref y), (1, .int v), (3, .int (nI t))] := hl
        refine lv_goto (tgt := 37) hx hb dM_uses_75 rfl ?_
        exact ih37 (k + 1) (show (k + 1) ≤ nm t from by omega) (show nm t - (k + 1) < nm t - k from (by omega)) ls (lv_sub hl [2, 3, 1, 4, 0] rfl)
      · refine lv_iconst (v := 1) hx hb dM_uses_65 (by decide) ?_
        refine lv_goto (tgt := 70) hx hb dM_uses_66 rfl ?_
        refine lv_iadd hx hb dM_uses_70 ?_
        refine lv_topi (fun y9 e9 => ?_)
        cases (show y9 = nI ((usT nc nm v t + usN nc (31 * t) v k) + 1) from e9.trans (nI_add (usT nc nm v t + usN nc (31 * t) v k) 1))
        refine lv_topi (fun y9 e9 => ?_)
        cases (show y9 = nI (usT nc nm v t + usN nc (31 * t) v (k + 1)) from e9.trans (congrArg nI (by show _ = usT nc nm v t + (usN nc (31 * t) v k + _); rw [if_pos h6]; omega)))
        refine lv_istore_n hx hb dM_uses_71 rfl hl (by decide) rfl (fun ls hl => ?_)
        have hl : lv_has ls 5 [(2, .int (nI (usT nc nm v t + usN nc (31 * t) v (k + 1)))), (0, .ref y), (1, .int v), (3, .int (nI t)), (4, .int (nI k))] := hl
        refine lv_iinc (k := 4) (v := nI (k + 1)) hx hb dM_uses_72 hl rfl (nI_1 k) (by decide) rfl (fun ls hl => ?_)
        have hl : lv_has ls 5 [(4, .int (nI (k + 1))), (2, .int (nI (usT nc nm v t + usN nc (31 * t) v (k + 1)))), (0, .ref y), (1, .int v), (3, .int (nI t))] := hl
        refine lv_goto (tgt := 37) hx hb dM_uses_75 rfl ?_
        exact ih37 (k + 1) (show (k + 1) ≤ nm t from by omega) (show nm t - (k + 1) < nm t - k from (by omega)) ls (lv_sub hl [2, 3, 1, 4, 0] rfl)
