set_option maxHeartbeats 4000000 in
set_option maxRecDepth 100000 in
theorem k_isWithin (l : Launch) (D : va_G) (cT : Nat → ClassId) (v : Int32) (lo : Int32) (hi : Int32) : Met l yR_isWithin WR_isWithin ({ frames := 0, cells := 0, slots := 0, locals := 0 } : Room) (RO D vwCl [.int v, .int lo, .int hi] [] (TY cT)) (QcRead (bi (lo ≤ v ∧ v ≤ hi))) 0 0 (fun _ => False) := by
  refine Met.ofW (cc := cR_isWithin) (maxL := 3) (ret := (some .boolean)) (by decide) rfl ?_
  intro p e s m args below meth c s₁ B hml hv
  obtain ⟨rfl, hZ, hP, hK⟩ := hv
  have hx := B.exec
  have hb := B.bytes
  have hr := B.returns
  have hts := atoms_spec (ws := WR_isWithin) B.pre
  have hT : ∀ w ∈ TB, w.before _ s = true := fun w h => hts w (List.mem_cons_of_mem _ h)
  have hown : s.vm.findClass R_R = some m.cls := findClass_of_methodNamed B.named
  have hlocks := B.notSynchronized
  have hS : va_S (fun _ => False) s.heap s.heap [] := va_S.rf
  have hl := lv_entry ([.int v, .int lo, .int hi]) (n := 3) (Nat.le_of_ble_eq_true rfl)
  rw [lg_entry_eq]
  generalize (lg_sl ([.int v, .int lo, .int hi]) ++ List.replicate (3 - (lg_sl ([.int v, .int lo, .int hi])).length) Slot.unset).toArray = ls at hl ⊢
  have hl : lv_has ls 3 [(0, .int v), (1, .int lo), (2, .int hi)] := hl
  refine lv_iload_n hx hb dR_isWithin_0 rfl (lv_at hl 0 rfl) ?_
  refine lv_iload_n hx hb dR_isWithin_1 rfl (lv_at hl 1 rfl) ?_
  refine lv_icmp_lt (tgt := 14) hx hb dR_isWithin_2 rfl (fun h1 => ?_) (fun h1 => ?_)
  · refine lv_iconst (v := 0) hx hb dR_isWithin_14 (by decide) ?_
    exact W.zret (v := 0) hx hb hr rfl (fun t9 ht9 hW9 => ⟨by rw [bi_f (fun q => absurd h1 (Int32.not_lt.mpr q.1))], ht9⟩) (fun q h => nomatch h) dR_isWithin_15
  · refine lv_iload_n hx hb dR_isWithin_5 rfl (lv_at hl 0 rfl) ?_
    refine lv_iload_n hx hb dR_isWithin_6 rfl (lv_at hl 2 rfl) ?_
    refine lv_icmp_gt (tgt := 14) hx hb dR_isWithin_7 rfl (fun h2 => ?_) (fun h2 => ?_)
    · refine lv_iconst (v := 0) hx hb dR_isWithin_14 (by decide) ?_
      exact W.zret (v := 0) hx hb hr rfl (fun t9 ht9 hW9 => ⟨by rw [bi_f (fun q => absurd h2 (Int32.not_lt.mpr q.2))], ht9⟩) (fun q h => nomatch h) dR_isWithin_15
    · refine lv_iconst (v := 1) hx hb dR_isWithin_10 (by decide) ?_
      refine lv_goto (tgt := 15) hx hb dR_isWithin_11 rfl ?_
      exact W.zret (v := 1) hx hb hr rfl (fun t9 ht9 hW9 => ⟨by rw [bi_t ⟨Int32.not_lt.mp h1, Int32.not_lt.mp h2⟩], ht9⟩) (fun q h => nomatch h) dR_isWithin_15
set_option maxHeartbeats 4000000 in
set_option maxRecDepth 100000 in
theorem k_isTarget (l : Launch) (D : va_G) (cT : Nat → ClassId) (v : Int32) : Met l yR_isTarget WR_isTarget ({ frames := 1, cells := 0, slots := 0, locals := 22 } : Room) (RO D vwCl [.int v] [] (TY cT)) (QcRead (bi ((-1000) ≤ v ∧ v ≤ 1000))) 0 0 (fun _ => False) := by
  refine Met.ofW (cc := cR_isTarget) (maxL := 1) (ret := (some .boolean)) (by decide) rfl ?_
  intro p e s m args below meth c s₁ B hml hv
  obtain ⟨rfl, hZ, hP, hK⟩ := hv
  have hx := B.exec
  have hb := B.bytes
  have hr := B.returns
  have hts := atoms_spec (ws := WR_isTarget) B.pre
  have hT : ∀ w ∈ TB, w.before _ s = true := fun w h => hts w (List.mem_cons_of_mem _ h)
  have hown : s.vm.findClass R_R = some m.cls := findClass_of_methodNamed B.named
  have hlocks := B.notSynchronized
  have hS : va_S (fun _ => False) s.heap s.heap [] := va_S.rf
  have hl := lv_entry ([.int v]) (n := 1) (Nat.le_of_ble_eq_true rfl)
  rw [lg_entry_eq]
  generalize (lg_sl ([.int v]) ++ List.replicate (1 - (lg_sl ([.int v])).length) Slot.unset).toArray = ls at hl ⊢
  have hl : lv_has ls 1 [(0, .int v)] := hl
  refine lv_iload_n hx hb dR_isTarget_0 rfl (lv_at hl 0 rfl) ?_
  refine lv_sipush (v := (-1000)) hx hb dR_isTarget_1 (by decide) ?_
  refine lv_sipush (v := 1000) hx hb dR_isTarget_4 (by decide) ?_
  refine ro_i (va_Run.run (va_runS (As := [.int v, .int (-1000), .int 1000]) (rest := []) ⟨hx, hb, hml, hown, hT⟩ (k_isWithin l D cT v (-1000) 1000) ⟨callB_of 3 hT (tb_gd w499) rfl rfl rfl (hT _ w1) (hT _ w497) hR_isWithin ⟨Nat.le_of_ble_eq_true rfl, Nat.le_of_ble_eq_true rfl⟩, (hT _ w498)⟩ (RO.preS hZ hS ((show va_P D vwCl [] _ from fun _ _ h => nomatch h)) hK) rfl rfl hl.1 rfl (lv_room (Nat.le_of_ble_eq_true rfl)) dR_isTarget_7 ⟨Nat.le_of_ble_eq_true rfl, Nat.le_of_ble_eq_true rfl⟩)) ?_
  exact W.zret (v := bi ((-1000) ≤ v ∧ v ≤ 1000)) hx hb hr bi_n (fun t9 ht9 hW9 => ⟨rfl, ht9⟩) (fun q h => nomatch h) dR_isTarget_10
set_option maxHeartbeats 4000000 in
set_option maxRecDepth 100000 in
theorem k_isNumber (l : Launch) (D : va_G) (cT : Nat → ClassId) (v : Int32) : Met l yR_isNumber WR_isNumber ({ frames := 1, cells := 0, slots := 0, locals := 22 } : Room) (RO D vwCl [.int v] [] (TY cT)) (QcRead (bi ((-1000000) ≤ v ∧ v ≤ 1000000))) 0 0 (fun _ => False) := by
  refine Met.ofW (cc := cR_isNumber) (maxL := 1) (ret := (some .boolean)) (by decide) rfl ?_
  intro p e s m args below meth c s₁ B hml hv
  obtain ⟨rfl, hZ, hP, hK⟩ := hv
  have hx := B.exec
  have hb := B.bytes
  have hr := B.returns
  have hts := atoms_spec (ws := WR_isNumber) B.pre
  have hT : ∀ w ∈ TB, w.before _ s = true := fun w h => hts w (List.mem_cons_of_mem _ h)
  have hown : s.vm.findClass R_R = some m.cls := findClass_of_methodNamed B.named
  have hlocks := B.notSynchronized
  have hS : va_S (fun _ => False) s.heap s.heap [] := va_S.rf
  have hl := lv_entry ([.int v]) (n := 1) (Nat.le_of_ble_eq_true rfl)
  rw [lg_entry_eq]
  generalize (lg_sl ([.int v]) ++ List.replicate (1 - (lg_sl ([.int v])).length) Slot.unset).toArray = ls at hl ⊢
  have hl : lv_has ls 1 [(0, .int v)] := hl
  refine lv_iload_n hx hb dR_isNumber_0 rfl (lv_at hl 0 rfl) ?_
  refine lv_ldcw (v := (-1000000)) hx hb hown (hT _ w631) dR_isNumber_1 ?_
  refine lv_ldcw (v := 1000000) hx hb hown (hT _ w632) dR_isNumber_4 ?_
  refine ro_i (va_Run.run (va_runS (As := [.int v, .int (-1000000), .int 1000000]) (rest := []) ⟨hx, hb, hml, hown, hT⟩ (k_isWithin l D cT v (-1000000) 1000000) ⟨callB_of 3 hT (tb_gd w499) rfl rfl rfl (hT _ w1) (hT _ w497) hR_isWithin ⟨Nat.le_of_ble_eq_true rfl, Nat.le_of_ble_eq_true rfl⟩, (hT _ w498)⟩ (RO.preS hZ hS ((show va_P D vwCl [] _ from fun _ _ h => nomatch h)) hK) rfl rfl hl.1 rfl (lv_room (Nat.le_of_ble_eq_true rfl)) dR_isNumber_7 ⟨Nat.le_of_ble_eq_true rfl, Nat.le_of_ble_eq_true rfl⟩)) ?_
  exact W.zret (v := bi ((-1000000) ≤ v ∧ v ≤ 1000000)) hx hb hr bi_n (fun t9 ht9 hW9 => ⟨rfl, ht9⟩) (fun q h => nomatch h) dR_isNumber_10
set_option maxHeartbeats 4000000 in
set_option maxRecDepth 100000 in
theorem k_isKind (l : Launch) (D : va_G) (cT : Nat → ClassId) (v : Int32) : Met l yR_isKind WR_isKind ({ frames := 0, cells := 0, slots := 0, locals := 0 } : Room) (RO D vwCl [.int v] [] (TY cT)) (QcRead (bi (0 ≤ v ∧ v < 12))) 0 0 (fun _ => False) := by
  refine Met.ofW (cc := cR_isKind) (maxL := 1) (ret := (some .boolean)) (by decide) rfl ?_
  intro p e s m args below meth c s₁ B hml hv
  obtain ⟨rfl, hZ, hP, hK⟩ := hv
  have hx := B.exec
  have hb := B.bytes
  have hr := B.returns
  have hts := atoms_spec (ws := WR_isKind) B.pre
  have hT : ∀ w ∈ TB, w.before _ s = true := fun w h => hts w (List.mem_cons_of_mem _ h)
  have hown : s.vm.findClass R_R = some m.cls := findClass_of_methodNamed B.named
  have hlocks := B.notSynchronized
  have hS : va_S (fun _ => False) s.heap s.heap [] := va_S.rf
  have hl := lv_entry ([.int v]) (n := 1) (Nat.le_of_ble_eq_true rfl)
  rw [lg_entry_eq]
  generalize (lg_sl ([.int v]) ++ List.replicate (1 - (lg_sl ([.int v])).length) Slot.unset).toArray = ls at hl ⊢
  have hl : lv_has ls 1 [(0, .int v)] := hl
  refine lv_iload_n hx hb dR_isKind_0 rfl (lv_at hl 0 rfl) ?_
  refine lv_if_lt (tgt := 14) hx hb dR_isKind_1 rfl (fun h1 => ?_) (fun h1 => ?_)
  · refine lv_iconst (v := 0) hx hb dR_isKind_14 (by decide) ?_
    exact W.zret (v := 0) hx hb hr rfl (fun t9 ht9 hW9 => ⟨by rw [bi_f (fun q => absurd h1 (Int32.not_lt.mpr q.1))], ht9⟩) (fun q h => nomatch h) dR_isKind_15
  · refine lv_iload_n hx hb dR_isKind_4 rfl (lv_at hl 0 rfl) ?_
    refine lv_bipush (v := 12) hx hb dR_isKind_5 (by decide) ?_
    refine lv_icmp_ge (tgt := 14) hx hb dR_isKind_7 rfl (fun h2 => ?_) (fun h2 => ?_)
    · refine lv_iconst (v := 0) hx hb dR_isKind_14 (by decide) ?_
      exact W.zret (v := 0) hx hb hr rfl (fun t9 ht9 hW9 => ⟨by rw [bi_f (fun q => absurd h2 (Int32.not_le.mpr q.2))], ht9⟩) (fun q h => nomatch h) dR_isKind_15
    · refine lv_iconst (v := 1) hx hb dR_isKind_10 (by decide) ?_
      refine lv_goto (tgt := 15) hx hb dR_isKind_11 rfl ?_
      exact W.zret (v := 1) hx hb hr rfl (fun t9 ht9 hW9 => ⟨by rw [bi_t ⟨Int32.not_lt.mp h1, Int32.not_le.mp h2⟩], ht9⟩) (fun q h => nomatch h) dR_isKind_15
set_option maxHeartbeats 4000000 in
set_option maxRecDepth 100000 in
theorem k_demand_ok (l : Launch) (D : va_G) (cT : Nat → ClassId) (b : Int32) (hq : ¬ b = 0) : Met l yR_demand WR_demand ({ frames := 0, cells := 0, slots := 0, locals := 0 } : Room) (RO D vwCl [.int b] [] (TY cT)) (QcReadV) 0 0 (fun _ => False) := by
  refine Met.ofW (cc := cR_demand) (maxL := 1) (ret := none) (by decide) rfl ?_
  intro p e s m args below meth c s₁ B hml hv
  obtain ⟨rfl, hZ, hP, hK⟩ := hv
  have hx := B.exec
  have hb := B.bytes
  have hr := B.returns
  have hts := atoms_spec (ws := WR_demand) B.pre
  have hT : ∀ w ∈ TB, w.before _ s = true := fun w h => hts w (List.mem_cons_of_mem _ h)
  have hown : s.vm.findClass R_R = some m.cls := findClass_of_methodNamed B.named
  have hlocks := B.notSynchronized
  have hS : va_S (fun _ => False) s.heap s.heap [] := va_S.rf
  have hl := lv_entry ([.int b]) (n := 1) (Nat.le_of_ble_eq_true rfl)
  rw [lg_entry_eq]
  generalize (lg_sl ([.int b]) ++ List.replicate (1 - (lg_sl ([.int b])).length) Slot.unset).toArray = ls at hl ⊢
  have hl : lv_has ls 1 [(0, .int b)] := hl
  refine lv_iload_n hx hb dR_demand_0 rfl (lv_at hl 0 rfl) ?_
  refine lv_if_ne (tgt := 12) hx hb dR_demand_1 rfl (fun _ => ?_) (fun h1 => absurd h1 hq)
  exact W.vret hx hb hr (fun t9 ht9 hW9 => ⟨rfl, ht9⟩) (fun q h => nomatch h) dR_demand_12
set_option maxHeartbeats 4000000 in
set_option maxRecDepth 100000 in
theorem k_demand_no (l : Launch) (D : va_G) (cT : Nat → ClassId) (b : Int32) (hlt : l.stackTraces = false) (hq : b = 0) : MetT l yR_demand WR_demand ({ frames := 6, cells := 1, slots := 6, locals := 91 } : Room) (RO D vwCl [.int b] [] (TY cT)) "java/lang/IllegalArgumentException" 1 6 := by
  refine MetT.ofW (cc := cR_demand) (maxL := 1) (ret := none) (by decide) rfl ?_
  intro p e s m args below meth c s₁ B hml hno hv
  obtain ⟨rfl, hZ, hP, hK⟩ := hv
  have hx := B.exec
  have hb := B.bytes
  have hr := B.returns
  have hts := atoms_spec (ws := WR_demand) B.pre
  have hT : ∀ w ∈ TB, w.before _ s = true := fun w h => hts w (List.mem_cons_of_mem _ h)
  have hown : s.vm.findClass R_R = some m.cls := findClass_of_methodNamed B.named
  have hlocks := B.notSynchronized
  have hS : va_S (fun _ => False) s.heap s.heap [] := va_S.rf
  have hl := lv_entry ([.int b]) (n := 1) (Nat.le_of_ble_eq_true rfl)
  rw [lg_entry_eq]
  generalize (lg_sl ([.int b]) ++ List.replicate (1 - (lg_sl ([.int b])).length) Slot.unset).toArray = ls at hl ⊢
  have hl : lv_has ls 1 [(0, .int b)] := hl
  refine lv_iload_n hx hb dR_demand_0 rfl (lv_at hl 0 rfl) ?_
  refine lv_if_ne (tgt := 12) hx hb dR_demand_1 rfl (fun h1 => absurd hq h1) (fun _ => ?_)
  exact tx_throw (names := ["java/lang/RuntimeException", "java/lang/Exception"]) hx hb hlt hown (by decide +kernel) (by decide +kernel) (hT _ w511) (hT _ w17) (at_R_249 hT hZ) (hl.1.trans hml.symm) dR_demand_4 dR_demand_7 dR_demand_8 dR_demand_11 hno (Nat.le_of_ble_eq_true rfl) (Nat.le_of_ble_eq_true rfl) (Nat.le_of_ble_eq_true rfl) (Nat.le_of_ble_eq_true rfl) hlocks
set_option maxHeartbeats 4000000 in
set_option maxRecDepth 100000 in
theorem k_demandState_ok (l : Launch) (D : va_G) (cT : Nat → ClassId) (b : Int32) (hq : ¬ b = 0) : Met l yR_demandState WR_demandState ({ frames := 0, cells := 0, slots := 0, locals := 0 } : Room) (RO D vwCl [.int b] [] (TY cT)) (QcReadV) 0 0 (fun _ => False) := by
  refine Met.ofW (cc := cR_demandState) (maxL := 1) (ret := none) (by decide) rfl ?_
  intro p e s m args below meth c s₁ B hml hv
  obtain ⟨rfl, hZ, hP, hK⟩ := hv
  have hx := B.exec
  have hb := B.bytes
  have hr := B.returns
  have hts := atoms_spec (ws := WR_demandState) B.pre
  have hT : ∀ w ∈ TB, w.before _ s = true := fun w h => hts w (List.mem_cons_of_mem _ h)
  have hown : s.vm.findClass R_R = some m.cls := findClass_of_methodNamed B.named
  have hlocks := B.notSynchronized
  have hS : va_S (fun _ => False) s.heap s.heap [] := va_S.rf
  have hl := lv_entry ([.int b]) (n := 1) (Nat.le_of_ble_eq_true rfl)
  rw [lg_entry_eq]
  generalize (lg_sl ([.int b]) ++ List.replicate (1 - (lg_sl ([.int b])).length) Slot.unset).toArray = ls at hl ⊢
  have hl : lv_has ls 1 [(0, .int b)] := hl
  refine lv_iload_n hx hb dR_demandState_0 rfl (lv_at hl 0 rfl) ?_
  refine lv_if_ne (tgt := 12) hx hb dR_demandState_1 rfl (fun _ => ?_) (fun h1 => absurd h1 hq)
  exact W.vret hx hb hr (fun t9 ht9 hW9 => ⟨rfl, ht9⟩) (fun q h => nomatch h) dR_demandState_12
set_option maxHeartbeats 4000000 in
set_option maxRecDepth 100000 in
theorem k_demandState_no (l : Launch) (D : va_G) (cT : Nat → ClassId) (b : Int32) (hlt : l.stackTraces = false) (hq : b = 0) : MetT l yR_demandState WR_demandState ({ frames := 6, cells := 1, slots := 6, locals := 91 } : Room) (RO D vwCl [.int b] [] (TY cT)) "java/lang/IllegalStateException" 1 6 := by
  refine MetT.ofW (cc := cR_demandState) (maxL := 1) (ret := none) (by decide) rfl ?_
  intro p e s m args below meth c s₁ B hml hno hv
  obtain ⟨rfl, hZ, hP, hK⟩ := hv
  have hx := B.exec
  have hb := B.bytes
  have hr := B.returns
  have hts := atoms_spec (ws := WR_demandState) B.pre
  have hT : ∀ w ∈ TB, w.before _ s = true := fun w h => hts w (List.mem_cons_of_mem _ h)
  have hown : s.vm.findClass R_R = some m.cls := findClass_of_methodNamed B.named
  have hlocks := B.notSynchronized
  have hS : va_S (fun _ => False) s.heap s.heap [] := va_S.rf
  have hl := lv_entry ([.int b]) (n := 1) (Nat.le_of_ble_eq_true rfl)
  rw [lg_entry_eq]
  generalize (lg_sl ([.int b]) ++ List.replicate (1 - (lg_sl ([.int b])).length) Slot.unset).toArray = ls at hl ⊢
  have hl : lv_has ls 1 [(0, .int b)] := hl
  refine lv_iload_n hx hb dR_demandState_0 rfl (lv_at hl 0 rfl) ?_
  refine lv_if_ne (tgt := 12) hx hb dR_demandState_1 rfl (fun h1 => absurd hq h1) (fun _ => ?_)
  exact tx_throw (names := ["java/lang/RuntimeException", "java/lang/Exception"]) hx hb hlt hown (by decide +kernel) (by decide +kernel) (hT _ w587) (hT _ w18) (at_R_332 hT hZ) (hl.1.trans hml.symm) dR_demandState_4 dR_demandState_7 dR_demandState_8 dR_demandState_11 hno (Nat.le_of_ble_eq_true rfl) (Nat.le_of_ble_eq_true rfl) (Nat.le_of_ble_eq_true rfl) (Nat.le_of_ble_eq_true rfl) hlocks
set_option maxHeartbeats 4000000 in
set_option maxRecDepth 100000 in
theorem k_hasRow (l : Launch) (D : va_G) (cT : Nat → ClassId) (t : Nat) (ca : Nat) (ta : Nat) (w : Int32) (r : Int32) (v : Int32) : Met l yT_hasRow WT_hasRow ({ frames := 1, cells := 0, slots := 0, locals := 22 } : Room) (RO D vwCl [.ref t, .int v] [(t, .inr (2, [.ref ca, .ref ta, .int w, .int r]))] (TY cT)) (QcRead (bi (0 ≤ v ∧ v ≤ r - 1))) 0 0 (fun _ => False) := by
  refine Met.ofW (cc := cT_hasRow) (maxL := 2) (ret := (some .boolean)) (by decide) rfl ?_
  intro p e s m args below meth c s₁ B hml hv
  obtain ⟨rfl, hZ, hP, hK⟩ := hv
  have hx := B.exec
  have hb := B.bytes
  have hr := B.returns
  have hts := atoms_spec (ws := WT_hasRow) B.pre
  have hT : ∀ w ∈ TB, w.before _ s = true := fun w h => hts w (List.mem_cons_of_mem _ h)
  have hown : s.vm.findClass R_T = some m.cls := findClass_of_methodNamed B.named
  have hlocks := B.notSynchronized
  have hS : va_S (fun _ => False) s.heap s.heap [] := va_S.rf
  have hl := lv_entry ([.ref t, .int v]) (n := 2) (Nat.le_of_ble_eq_true rfl)
  rw [lg_entry_eq]
  generalize (lg_sl ([.ref t, .int v]) ++ List.replicate (2 - (lg_sl ([.ref t, .int v])).length) Slot.unset).toArray = ls at hl ⊢
  have hl : lv_has ls 2 [(0, .ref t), (1, .int v)] := hl
  refine lv_iload_n hx hb dT_hasRow_0 rfl (lv_at hl 1 rfl) ?_
  refine lv_iconst (v := 0) hx hb dT_hasRow_1 (by decide) ?_
  refine lv_aload_n hx hb dT_hasRow_2 rfl (lv_at hl 0 rfl) ?_
  refine va_get (D := D) (ci := 2) (v := .int r) (C := R_T) (T := T_T) (N := 4) hx hb hT in_T hown hK hP 0 rfl rfl 3 (by decide) (hT _ w81) (fun _ h9 => h9) rfl dT_hasRow_3 ?_
  refine lv_iconst (v := 1) hx hb dT_hasRow_6 (by decide) ?_
  refine lv_isub hx hb dT_hasRow_7 ?_
  refine ro_i (va_Run.run (va_runSN (As := [.int v, .int 0, .int (r - 1)]) (rest := []) ⟨hx, hb, hml, hown, hT⟩ (k_isWithin l D cT v 0 (r - 1)) ⟨va_cnB 3 hT (tb_gd w499) rfl rfl rfl (hZ.1.2.1 ("ResidualTrees$Table", 37, ⟨"ResidualTrees", "isWithin", "(III)Z"⟩, "ResidualTrees") (List.mem_of_getElem? (i := 7) rfl)) (hT _ w1) hR_isWithin ⟨Nat.le_of_ble_eq_true rfl, Nat.le_of_ble_eq_true rfl⟩, (hT _ w498), trivial⟩ (RO.preS hZ hS ((show va_P D vwCl [] _ from fun _ _ h => nomatch h)) hK) rfl rfl hl.1 rfl (lv_room (Nat.le_of_ble_eq_true rfl)) dT_hasRow_8 ⟨Nat.le_of_ble_eq_true rfl, Nat.le_of_ble_eq_true rfl⟩)) ?_
  exact W.zret (v := bi (0 ≤ v ∧ v ≤ (r - 1))) hx hb hr bi_n (fun t9 ht9 hW9 => ⟨rfl, ht9⟩) (fun q h => nomatch h) dT_hasRow_11
set_option maxHeartbeats 4000000 in
set_option maxRecDepth 100000 in
theorem k_hasColumn (l : Launch) (D : va_G) (cT : Nat → ClassId) (t : Nat) (ca : Nat) (ta : Nat) (w : Int32) (r : Int32) (v : Int32) : Met l yT_hasColumn WT_hasColumn ({ frames := 1, cells := 0, slots := 0, locals := 22 } : Room) (RO D vwCl [.ref t, .int v] [(t, .inr (2, [.ref ca, .ref ta, .int w, .int r]))] (TY cT)) (QcRead (bi (0 ≤ v ∧ v ≤ w - 1))) 0 0 (fun _ => False) := by
  refine Met.ofW (cc := cT_hasColumn) (maxL := 2) (ret := (some .boolean)) (by decide) rfl ?_
  intro p e s m args below meth c s₁ B hml hv
  obtain ⟨rfl, hZ, hP, hK⟩ := hv
  have hx := B.exec
  have hb := B.bytes
  have hr := B.returns
  have hts := atoms_spec (ws := WT_hasColumn) B.pre
  have hT : ∀ w ∈ TB, w.before _ s = true := fun w h => hts w (List.mem_cons_of_mem _ h)
  have hown : s.vm.findClass R_T = some m.cls := findClass_of_methodNamed B.named
  have hlocks := B.notSynchronized
  have hS : va_S (fun _ => False) s.heap s.heap [] := va_S.rf
  have hl := lv_entry ([.ref t, .int v]) (n := 2) (Nat.le_of_ble_eq_true rfl)
  rw [lg_entry_eq]
  generalize (lg_sl ([.ref t, .int v]) ++ List.replicate (2 - (lg_sl ([.ref t, .int v])).length) Slot.unset).toArray = ls at hl ⊢
  have hl : lv_has ls 2 [(0, .ref t), (1, .int v)] := hl
  refine lv_iload_n hx hb dT_hasColumn_0 rfl (lv_at hl 1 rfl) ?_
  refine lv_iconst (v := 0) hx hb dT_hasColumn_1 (by decide) ?_
  refine lv_aload_n hx hb dT_hasColumn_2 rfl (lv_at hl 0 rfl) ?_
  refine va_get (D := D) (ci := 2) (v := .int w) (C := R_T) (T := T_T) (N := 4) hx hb hT in_T hown hK hP 0 rfl rfl 2 (by decide) (hT _ w78) (fun _ h9 => h9) rfl dT_hasColumn_3 ?_
  refine lv_iconst (v := 1) hx hb dT_hasColumn_6 (by decide) ?_
  refine lv_isub hx hb dT_hasColumn_7 ?_
  refine ro_i (va_Run.run (va_runSN (As := [.int v, .int 0, .int (w - 1)]) (rest := []) ⟨hx, hb, hml, hown, hT⟩ (k_isWithin l D cT v 0 (w - 1)) ⟨va_cnB 3 hT (tb_gd w499) rfl rfl rfl (hZ.1.2.1 ("ResidualTrees$Table", 37, ⟨"ResidualTrees", "isWithin", "(III)Z"⟩, "ResidualTrees") (List.mem_of_getElem? (i := 7) rfl)) (hT _ w1) hR_isWithin ⟨Nat.le_of_ble_eq_true rfl, Nat.le_of_ble_eq_true rfl⟩, (hT _ w498), trivial⟩ (RO.preS hZ hS ((show va_P D vwCl [] _ from fun _ _ h => nomatch h)) hK) rfl rfl hl.1 rfl (lv_room (Nat.le_of_ble_eq_true rfl)) dT_hasColumn_8 ⟨Nat.le_of_ble_eq_true rfl, Nat.le_of_ble_eq_true rfl⟩)) ?_
  exact W.zret (v := bi (0 ≤ v ∧ v ≤ (w - 1))) hx hb hr bi_n (fun t9 ht9 hW9 => ⟨rfl, ht9⟩) (fun q h => nomatch h) dT_hasColumn_11
set_option maxHeartbeats 4000000 in
set_option maxRecDepth 100000 in
theorem k_rowBits (l : Launch) (D : va_G) (cT : Nat → ClassId) (t : Nat) (ca : Nat) (ta : Nat) (w : Int32) (r : Int32) : Met l yT_rowBits WT_rowBits ({ frames := 0, cells := 0, slots := 0, locals := 0 } : Room) (RO D vwCl [.ref t] [(t, .inr (2, [.ref ca, .ref ta, .int w, .int r]))] (TY cT)) (QcReadL ((1 <<< ((r : Int32).toInt64 &&& 63)) - 1)) 0 0 (fun _ => False) := by
  refine Met.ofW (cc := cT_rowBits) (maxL := 1) (ret := (some .long)) (by decide) rfl ?_
  intro p e s m args below meth c s₁ B hml hv
  obtain ⟨rfl, hZ, hP, hK⟩ := hv
  have hx := B.exec
  have hb := B.bytes
  have hr := B.returns
  have hts := atoms_spec (ws := WT_rowBits) B.pre
  have hT : ∀ w ∈ TB, w.before _ s = true := fun w h => hts w (List.mem_cons_of_mem _ h)
  have hown : s.vm.findClass R_T = some m.cls := findClass_of_methodNamed B.named
  have hlocks := B.notSynchronized
  have hS : va_S (fun _ => False) s.heap s.heap [] := va_S.rf
  have hl := lv_entry ([.ref t]) (n := 1) (Nat.le_of_ble_eq_true rfl)
  rw [lg_entry_eq]
  generalize (lg_sl ([.ref t]) ++ List.replicate (1 - (lg_sl ([.ref t])).length) Slot.unset).toArray = ls at hl ⊢
  have hl : lv_has ls 1 [(0, .ref t)] := hl
  refine lv_lconst (v := 1) hx hb dT_rowBits_0 (by decide) ?_
  refine lv_aload_n hx hb dT_rowBits_1 rfl (lv_at hl 0 rfl) ?_
  refine va_get (D := D) (ci := 2) (v := .int r) (C := R_T) (T := T_T) (N := 4) hx hb hT in_T hown hK hP 0 rfl rfl 3 (by decide) (hT _ w81) (fun _ h9 => h9) rfl dT_rowBits_2 ?_
  refine lv_lshl hx hb dT_rowBits_5 rfl ?_
  refine lv_lconst (v := 1) hx hb dT_rowBits_6 (by decide) ?_
  refine lv_lsub hx hb dT_rowBits_7 ?_
  exact W.lret (v := (1 <<< ((r : Int32).toInt64 &&& 63)) - 1) hx hb hr (fun t9 ht9 hW9 => ⟨rfl, ht9⟩) (fun q h => nomatch h) dT_rowBits_8
set_option maxHeartbeats 4000000 in
set_option maxRecDepth 100000 in
theorem k_columnBits (l : Launch) (D : va_G) (cT : Nat → ClassId) (t : Nat) (ca : Nat) (ta : Nat) (w : Int32) (r : Int32) : Met l yT_columnBits WT_columnBits ({ frames := 0, cells := 0, slots := 0, locals := 0 } : Room) (RO D vwCl [.ref t] [(t, .inr (2, [.ref ca, .ref ta, .int w, .int r]))] (TY cT)) (QcRead ((1 <<< (w &&& 31)) - 1)) 0 0 (fun _ => False) := by
  refine Met.ofW (cc := cT_columnBits) (maxL := 1) (ret := (some .int)) (by decide) rfl ?_
  intro p e s m args below meth c s₁ B hml hv
  obtain ⟨rfl, hZ, hP, hK⟩ := hv
  have hx := B.exec
  have hb := B.bytes
  have hr := B.returns
  have hts := atoms_spec (ws := WT_columnBits) B.pre
  have hT : ∀ w ∈ TB, w.before _ s = true := fun w h => hts w (List.mem_cons_of_mem _ h)
  have hown : s.vm.findClass R_T = some m.cls := findClass_of_methodNamed B.named
  have hlocks := B.notSynchronized
  have hS : va_S (fun _ => False) s.heap s.heap [] := va_S.rf
  have hl := lv_entry ([.ref t]) (n := 1) (Nat.le_of_ble_eq_true rfl)
  rw [lg_entry_eq]
  generalize (lg_sl ([.ref t]) ++ List.replicate (1 - (lg_sl ([.ref t])).length) Slot.unset).toArray = ls at hl ⊢
  have hl : lv_has ls 1 [(0, .ref t)] := hl
  refine lv_iconst (v := 1) hx hb dT_columnBits_0 (by decide) ?_
  refine lv_aload_n hx hb dT_columnBits_1 rfl (lv_at hl 0 rfl) ?_
  refine va_get (D := D) (ci := 2) (v := .int w) (C := R_T) (T := T_T) (N := 4) hx hb hT in_T hown hK hP 0 rfl rfl 2 (by decide) (hT _ w78) (fun _ h9 => h9) rfl dT_columnBits_2 ?_
  refine lv_ishl hx hb dT_columnBits_5 ?_
  refine lv_iconst (v := 1) hx hb dT_columnBits_6 (by decide) ?_
  refine lv_isub hx hb dT_columnBits_7 ?_
  exact W.iret (v := (1 <<< (w &&& 31)) - 1) hx hb hr (fun t9 ht9 hW9 => ⟨rfl, ht9⟩) (fun q h => nomatch h) dT_columnBits_8
