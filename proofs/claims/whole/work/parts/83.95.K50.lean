set_option maxHeartbeats 4000000 in
set_option maxRecDepth 100000 in
theorem k_pcCI (l : Launch) (D : va_G) (cT : Nat → ClassId) (i : Nat) (sz : Nat) (hi : i < sz) (hs : sz < 2 ^ 31) : Met l yPc_checkIndex WPc_checkIndex ({ frames := 0, cells := 0, slots := 0, locals := 0 } : Room) (RO D vwCl [.int (nI i), .int (nI sz), .null] [] (TY cT)) (QcRead (nI i)) 0 0 (fun _ => False) := by
  refine Met.ofW (cc := cPc_checkIndex) (maxL := 3) (ret := (some .int)) (by decide) rfl ?_
  intro p e s m args below meth c s₁ B hml hv
  obtain ⟨rfl, hZ, hP, hK⟩ := hv
  have hx := B.exec
  have hb := B.bytes
  have hr := B.returns
  have hts := atoms_spec (ws := WPc_checkIndex) B.pre
  have hT : ∀ w ∈ TB, w.before _ s = true := fun w h => hts w (List.mem_cons_of_mem _ h)
  have hown : s.vm.findClass R_Pc = some m.cls := findClass_of_methodNamed B.named
  have hlocks := B.notSynchronized
  have hS : va_S (fun _ => False) s.heap s.heap [] := va_S.rf
  have hl := lv_entry ([.int (nI i), .int (nI sz), .null]) (n := 3) (Nat.le_of_ble_eq_true rfl)
  rw [lg_entry_eq]
  generalize (lg_sl ([.int (nI i), .int (nI sz), .null]) ++ List.replicate (3 - (lg_sl ([.int (nI i), .int (nI sz), .null])).length) Slot.unset).toArray = ls at hl ⊢
  have hl : lv_has ls 3 [(0, .int (nI i)), (1, .int (nI sz)), (2, .null)] := hl
  refine lv_iload_n hx hb dPc_checkIndex_0 rfl (lv_at hl 0 rfl) ?_
  refine lv_if_lt (tgt := 9) hx hb dPc_checkIndex_1 rfl (fun h1 => absurd h1 (fun q => absurd q (nI_pos (by omega)))) (fun _ => ?_)
  refine lv_iload_n hx hb dPc_checkIndex_4 rfl (lv_at hl 0 rfl) ?_
  refine lv_iload_n hx hb dPc_checkIndex_5 rfl (lv_at hl 1 rfl) ?_
  refine lv_icmp_lt (tgt := 16) hx hb dPc_checkIndex_6 rfl (fun _ => ?_) (fun h2 => absurd ((nI_ltI (a := i) (b := sz) (by omega) (by omega)).mpr hi) h2)
  refine lv_iload_n hx hb dPc_checkIndex_16 rfl (lv_at hl 0 rfl) ?_
  exact W.iret (v := nI i) hx hb hr (fun t9 ht9 hW9 => ⟨rfl, ht9⟩) (fun q h => nomatch h) dPc_checkIndex_17
set_option maxHeartbeats 4000000 in
set_option maxRecDepth 100000 in
theorem k_obCI (l : Launch) (D : va_G) (cT : Nat → ClassId) (i : Nat) (sz : Nat) (hi : i < sz) (hs : sz < 2 ^ 31) : Met l yOb_checkIndex WOb_checkIndex ({ frames := 1, cells := 0, slots := 0, locals := 22 } : Room) (RO D vwCl [.int (nI i), .int (nI sz)] [] (TY cT)) (QcRead (nI i)) 0 0 (fun _ => False) := by
  refine Met.ofW (cc := cOb_checkIndex) (maxL := 2) (ret := (some .int)) (by decide) rfl ?_
  intro p e s m args below meth c s₁ B hml hv
  obtain ⟨rfl, hZ, hP, hK⟩ := hv
  have hx := B.exec
  have hb := B.bytes
  have hr := B.returns
  have hts := atoms_spec (ws := WOb_checkIndex) B.pre
  have hT : ∀ w ∈ TB, w.before _ s = true := fun w h => hts w (List.mem_cons_of_mem _ h)
  have hown : s.vm.findClass R_Ob = some m.cls := findClass_of_methodNamed B.named
  have hlocks := B.notSynchronized
  have hS : va_S (fun _ => False) s.heap s.heap [] := va_S.rf
  have hl := lv_entry ([.int (nI i), .int (nI sz)]) (n := 2) (Nat.le_of_ble_eq_true rfl)
  rw [lg_entry_eq]
  generalize (lg_sl ([.int (nI i), .int (nI sz)]) ++ List.replicate (2 - (lg_sl ([.int (nI i), .int (nI sz)])).length) Slot.unset).toArray = ls at hl ⊢
  have hl : lv_has ls 2 [(0, .int (nI i)), (1, .int (nI sz))] := hl
  refine lv_iload_n hx hb dOb_checkIndex_0 rfl (lv_at hl 0 rfl) ?_
  refine lv_iload_n hx hb dOb_checkIndex_1 rfl (lv_at hl 1 rfl) ?_
  refine lv_null hx hb dOb_checkIndex_2 ?_
  refine ro_i (va_Run.run (va_runS (As := [.int (nI i), .int (nI sz), .null]) (rest := []) ⟨hx, hb, hml, hown, hT⟩ (k_pcCI l D cT i sz hi hs) ⟨callB_of 3 hT (tb_gd w407) rfl rfl rfl (hT _ w21) (hT _ w405) hPc_checkIndex ⟨Nat.le_of_ble_eq_true rfl, Nat.le_of_ble_eq_true rfl⟩, (hT _ w406)⟩ (RO.preS hZ hS ((show va_P D vwCl [] _ from fun _ _ h => nomatch h)) hK) rfl rfl hl.1 rfl (lv_room (Nat.le_of_ble_eq_true rfl)) dOb_checkIndex_3 ⟨Nat.le_of_ble_eq_true rfl, Nat.le_of_ble_eq_true rfl⟩)) ?_
  exact W.iret (v := nI i) hx hb hr (fun t9 ht9 hW9 => ⟨rfl, ht9⟩) (fun q h => nomatch h) dOb_checkIndex_6
set_option maxHeartbeats 4000000 in
set_option maxRecDepth 100000 in
theorem k_alED (l : Launch) (D : va_G) (cT : Nat → ClassId) (h : Nat) (le : Nat) (sz : Nat) (md : Int32) (cap : Nat) (lf : Nat → Option Nat) (i : Nat) (q : Nat) (hi : i < cap) (hc : cap < 2 ^ 31) (hq : lf i = some q) : Met l yAL_elementData WAL_elementData ({ frames := 0, cells := 0, slots := 0, locals := 0 } : Room) (RO D vwCl [.ref h, .int (nI i)] [(h, .inr (12, [.ref le, .int (nI sz), .int md])), (le, .inl (cT 7, cap, .inr (.inr (.inr (.inr lf)))))] (TY cT)) (QcReadR q) 0 0 (fun _ => False) := by
  refine Met.ofW (cc := cAL_elementData) (maxL := 2) (ret := (some (.object "java/lang/Object"))) (by decide) rfl ?_
  intro p e s m args below meth c s₁ B hml hv
  obtain ⟨rfl, hZ, hP, hK⟩ := hv
  have hx := B.exec
  have hb := B.bytes
  have hr := B.returns
  have hts := atoms_spec (ws := WAL_elementData) B.pre
  have hT : ∀ w ∈ TB, w.before _ s = true := fun w h => hts w (List.mem_cons_of_mem _ h)
  have hown : s.vm.findClass R_AL = some m.cls := findClass_of_methodNamed B.named
  have hlocks := B.notSynchronized
  have hS : va_S (fun _ => False) s.heap s.heap [] := va_S.rf
  have hl := lv_entry ([.ref h, .int (nI i)]) (n := 2) (Nat.le_of_ble_eq_true rfl)
  rw [lg_entry_eq]
  generalize (lg_sl ([.ref h, .int (nI i)]) ++ List.replicate (2 - (lg_sl ([.ref h, .int (nI i)])).length) Slot.unset).toArray = ls at hl ⊢
  have hl : lv_has ls 2 [(0, .ref h), (1, .int (nI i))] := hl
  refine lv_aload_n hx hb dAL_elementData_0 rfl (lv_at hl 0 rfl) ?_
  refine va_get (D := D) (ci := 12) (v := .ref le) (C := R_AL) (T := T_AL) (N := 3) hx hb hT in_AL hown hK hP 0 rfl rfl 0 (by decide) (hT _ w268) (fun _ h9 => h9) rfl dAL_elementData_1 ?_
  refine lv_iload_n hx hb dAL_elementData_4 rfl (lv_at hl 1 rfl) ?_
  refine al_q (q := q) hx hb hK hP 1 7 rfl rfl (vp_in_nI (by omega) (by omega)) (by rw [nI_clamp (by omega)]; exact hq) dAL_elementData_5 ?_
  exact W.aret (v := .ref q) hx hb hr (Or.inl ⟨_, rfl⟩) (Or.inr ⟨_, rfl⟩) (fun t9 ht9 hW9 => ⟨rfl, ht9⟩) (fun q h => nomatch h) dAL_elementData_6
set_option maxHeartbeats 4000000 in
set_option maxRecDepth 100000 in
theorem k_alGet (l : Launch) (D : va_G) (cT : Nat → ClassId) (h : Nat) (le : Nat) (sz : Nat) (md : Int32) (cap : Nat) (lf : Nat → Option Nat) (i : Nat) (q : Nat) (hi : i < sz) (hsc : sz ≤ cap) (hc : cap < 2 ^ 31) (hq : lf i = some q) : Met l yAL_get WAL_get ({ frames := 2, cells := 0, slots := 0, locals := 43 } : Room) (RO D vwCl [.ref h, .int (nI i)] [(h, .inr (12, [.ref le, .int (nI sz), .int md])), (le, .inl (cT 7, cap, .inr (.inr (.inr (.inr lf)))))] (TY cT)) (QcReadR q) 0 0 (fun _ => False) := by
  refine Met.ofW (cc := cAL_get) (maxL := 2) (ret := (some (.object "java/lang/Object"))) (by decide) rfl ?_
  intro p e s m args below meth c s₁ B hml hv
  obtain ⟨rfl, hZ, hP, hK⟩ := hv
  have hx := B.exec
  have hb := B.bytes
  have hr := B.returns
  have hts := atoms_spec (ws := WAL_get) B.pre
  have hT : ∀ w ∈ TB, w.before _ s = true := fun w h => hts w (List.mem_cons_of_mem _ h)
  have hown : s.vm.findClass R_AL = some m.cls := findClass_of_methodNamed B.named
  have hlocks := B.notSynchronized
  have hS : va_S (fun _ => False) s.heap s.heap [] := va_S.rf
  have hl := lv_entry ([.ref h, .int (nI i)]) (n := 2) (Nat.le_of_ble_eq_true rfl)
  rw [lg_entry_eq]
  generalize (lg_sl ([.ref h, .int (nI i)]) ++ List.replicate (2 - (lg_sl ([.ref h, .int (nI i)])).length) Slot.unset).toArray = ls at hl ⊢
  have hl : lv_has ls 2 [(0, .ref h), (1, .int (nI i))] := hl
  refine lv_iload_n hx hb dAL_get_0 rfl (lv_at hl 1 rfl) ?_
  refine lv_aload_n hx hb dAL_get_1 rfl (lv_at hl 0 rfl) ?_
  refine va_get (D := D) (ci := 12) (v := .int (nI sz)) (C := R_AL) (T := T_AL) (N := 3) hx hb hT in_AL hown hK hP 0 rfl rfl 1 (by decide) (hT _ w269) (fun _ h9 => h9) rfl dAL_get_2 ?_
  refine ro_i (va_Run.run (va_runS (As := [.int (nI i), .int (nI sz)]) (rest := []) ⟨hx, hb, hml, hown, hT⟩ (k_obCI l D cT i sz hi (by omega)) ⟨callB_of 2 hT (tb_gd w404) rfl rfl rfl (hT _ w20) (hT _ w402) hOb_checkIndex ⟨Nat.le_of_ble_eq_true rfl, Nat.le_of_ble_eq_true rfl⟩, (hT _ w403)⟩ (RO.preS hZ hS ((show va_P D vwCl [] _ from fun _ _ h => nomatch h)) hK) rfl rfl hl.1 rfl (lv_room (Nat.le_of_ble_eq_true rfl)) dAL_get_5 ⟨Nat.le_of_ble_eq_true rfl, Nat.le_of_ble_eq_true rfl⟩)) ?_
  refine lv_pop hx hb dAL_get_8 rfl ?_
  refine lv_aload_n hx hb dAL_get_9 rfl (lv_at hl 0 rfl) ?_
  refine lv_iload_n hx hb dAL_get_10 rfl (lv_at hl 1 rfl) ?_
  refine ro_r (va_Run.run (va_runV (As := [.int (nI i)]) (rest := []) ⟨hx, hb, hml, hown, hT⟩ (k_alED l D cT h le sz md cap lf i q (by omega) hc hq) ⟨callB_of 1 hT (tb_gd w411) rfl rfl rfl (hT _ w11) (hT _ w408) hAL_elementData ⟨Nat.le_of_ble_eq_true rfl, Nat.le_of_ble_eq_true rfl⟩, (hT _ w409), (hT _ w410)⟩ (RO.preV (ci := 12) (q0 := 0) hZ hS (hP.sub (ws' := [(h, .inr (12, [.ref le, .int (nI sz), .int md])), (le, .inl (cT 7, cap, .inr (.inr (.inr (.inr lf)))))]) [0, 1] rfl) hK rfl rfl) rfl rfl hl.1 rfl (lv_room (Nat.le_of_ble_eq_true rfl)) dAL_get_11 ⟨Nat.le_of_ble_eq_true rfl, Nat.le_of_ble_eq_true rfl⟩)) ?_
  exact W.aret (v := .ref q) hx hb hr (Or.inl ⟨_, rfl⟩) (Or.inr ⟨_, rfl⟩) (fun t9 ht9 hW9 => ⟨rfl, ht9⟩) (fun q h => nomatch h) dAL_get_14
set_option maxHeartbeats 4000000 in
set_option maxRecDepth 100000 in
theorem k_alSize (l : Launch) (D : va_G) (cT : Nat → ClassId) (h : Nat) (le : Nat) (sz : Nat) (md : Int32) : Met l yAL_size WAL_size ({ frames := 0, cells := 0, slots := 0, locals := 0 } : Room) (RO D vwCl [.ref h] [(h, .inr (12, [.ref le, .int (nI sz), .int md]))] (TY cT)) (QcRead (nI sz)) 0 0 (fun _ => False) := by
  refine Met.ofW (cc := cAL_size) (maxL := 1) (ret := (some .int)) (by decide) rfl ?_
  intro p e s m args below meth c s₁ B hml hv
  obtain ⟨rfl, hZ, hP, hK⟩ := hv
  have hx := B.exec
  have hb := B.bytes
  have hr := B.returns
  have hts := atoms_spec (ws := WAL_size) B.pre
  have hT : ∀ w ∈ TB, w.before _ s = true := fun w h => hts w (List.mem_cons_of_mem _ h)
  have hown : s.vm.findClass R_AL = some m.cls := findClass_of_methodNamed B.named
  have hlocks := B.notSynchronized
  have hS : va_S (fun _ => False) s.heap s.heap [] := va_S.rf
  have hl := lv_entry ([.ref h]) (n := 1) (Nat.le_of_ble_eq_true rfl)
  rw [lg_entry_eq]
  generalize (lg_sl ([.ref h]) ++ List.replicate (1 - (lg_sl ([.ref h])).length) Slot.unset).toArray = ls at hl ⊢
  have hl : lv_has ls 1 [(0, .ref h)] := hl
  refine lv_aload_n hx hb dAL_size_0 rfl (lv_at hl 0 rfl) ?_
  refine va_get (D := D) (ci := 12) (v := .int (nI sz)) (C := R_AL) (T := T_AL) (N := 3) hx hb hT in_AL hown hK hP 0 rfl rfl 1 (by decide) (hT _ w269) (fun _ h9 => h9) rfl dAL_size_1 ?_
  exact W.iret (v := nI sz) hx hb hr (fun t9 ht9 hW9 => ⟨rfl, ht9⟩) (fun q h => nomatch h) dAL_size_4
