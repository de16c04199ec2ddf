set_option maxHeartbeats 4000000 in
set_option maxRecDepth 100000 in
theorem k_Whole24 (l : Launch) (D : va_G) (cT : Nat → ClassId) (h : Nat) (sz : Nat) : Met l yW_init WW_init ({ frames := 1, cells := 1, slots := 24, locals := 12 } : Room) (RW D vwCl [.ref h, .int 24] [(h, .inr (4, [.null, .int 0, .int 0]))] (TY cT) sz) (va_Qv (fun _ : Nat → Nat => True) (BW D vwCl (va_A [(h, .inr (4, [.null, .int 0, .int 0]))] sz) (fun u => [(h, .inr (4, [.ref (u 0), .int 0, .int 0])), ((u 0), .inl (cT 0, 24, .inl (fun _ => 0)))])) (va_A [(h, .inr (4, [.null, .int 0, .int 0]))] sz)) 1 24 (va_A [(h, .inr (4, [.null, .int 0, .int 0]))] sz) := by
  refine Met.ofW (cc := cW_init) (maxL := 2) (ret := none) (by decide) rfl ?_
  intro p e s m args below meth c s₁ B hml hv
  obtain ⟨rfl, hsz, hZ, hP, hK, hD0⟩ := hv
  have hx := B.exec
  have hb := B.bytes
  have hr := B.returns
  have hts := atoms_spec (ws := WW_init) B.pre
  have hT : ∀ w ∈ TB, w.before _ s = true := fun w h => hts w (List.mem_cons_of_mem _ h)
  have hown : s.vm.findClass R_W = some m.cls := findClass_of_methodNamed B.named
  have hlocks := B.notSynchronized
  have hin : meth.name = "<init>" := (name_of_methodNamed B.named B.method).1
  subst hsz
  have hD := hD0.self (sz := s.heap.size)
  generalize hAe : va_A [(h, .inr (4, [.null, .int 0, .int 0]))] s.heap.size = A at hD hZ ⊢
  have hA : ∀ q : Nat, s.heap.size ≤ q → A q := fun q h => by rw [← hAe]; exact Or.inr h
  have hS : va_S A s.heap s.heap [] := va_S.rf
  have hl := lv_entry ([.ref h, .int 24]) (n := 2) (Nat.le_of_ble_eq_true rfl)
  rw [lg_entry_eq]
  generalize (lg_sl ([.ref h, .int 24]) ++ List.replicate (2 - (lg_sl ([.ref h, .int 24])).length) Slot.unset).toArray = ls at hl ⊢
  have hl : lv_has ls 2 [(0, .ref h), (1, .int 24)] := hl
  refine lv_aload_n hx hb dW_init_0 rfl (lv_at hl 0 rfl) ?_
  refine W.objInit hx hb hown (hT _ w144) (hT _ w35) (hT _ w36) rfl (by rw [hml]; exact hl.1) rfl dW_init_1 (Nat.le_of_ble_eq_true rfl) (Nat.le_of_ble_eq_true rfl) ?_
  refine W.eq (g2 := F0 m 4 ls []) rfl ?_
  refine lv_aload_n hx hb dW_init_4 rfl (lv_at hl 0 rfl) ?_
  refine lv_iload_n hx hb dW_init_5 rfl (lv_at hl 1 rfl) ?_
  refine nw_a (atype := .int) (ty := .int) (a0 := (24, .inl (fun _ => 0))) (N' := 24) hx hb (hT _ w72) rfl hK hP hD hS hA 0 rfl (fun _ => rfl) (by decide +kernel) (by decide +kernel) (by decide +kernel) (Nat.le_of_ble_eq_true rfl) (Nat.le_of_ble_eq_true rfl) dW_init_6 (fun q6 H hP hD hS => ?_)
  have hP : va_P D vwCl [(h, .inr (4, [.null, .int 0, .int 0])), (q6, .inl (cT 0, 24, .inl (fun _ => 0)))] H := hP
  have hD : va_D A [(h, .inr (4, [.null, .int 0, .int 0])), (q6, .inl (cT 0, 24, .inl (fun _ => 0)))] := hD
  refine va_putF (D := D) (ci := 4) (v := .ref q6) (ty := .array .int) (C := R_W) (T := T_W) (N := 3) hx hb hT in_W ty_W ty_W_ok m_W hown hK hP hD hS 0 rfl rfl 0 (by decide) (hT _ w145) (fun _ h9 => h9) rfl hin rfl (by decide +kernel) rfl rfl (Nat.le_of_ble_eq_true rfl) dW_init_8 (fun H locs hP hD hS => ?_)
  have hP : va_P D vwCl [(h, .inr (4, [.ref q6, .int 0, .int 0])), (q6, .inl (cT 0, 24, .inl (fun _ => 0)))] H := hP
  have hD : va_D A [(h, .inr (4, [.ref q6, .int 0, .int 0])), (q6, .inl (cT 0, 24, .inl (fun _ => 0)))] := hD
  have hP9 := hP.sub (ws' := [(h, .inr (4, [.ref q6, .int 0, .int 0])), (q6, .inl (cT 0, 24, .inl (fun _ => 0)))]) [0, 1] rfl
  have hD9 := hD.sub (ws' := [(h, .inr (4, [.ref q6, .int 0, .int 0])), (q6, .inl (cT 0, 24, .inl (fun _ => 0)))]) [0, 1] (by decide) rfl
  refine W.widen (k := 1) (n := 24) (Nat.le_of_ble_eq_true rfl) (Nat.le_of_ble_eq_true rfl) ?_
  exact W.vret hx hb hr (fun t ht hW => ⟨⟨(fun k => match k with | 0 => q6 | _ => 0), rfl, trivial, by rw [ht]; exact hP9, hD9⟩, hS.F ht⟩) hS.2.2 dW_init_11
set_option maxHeartbeats 4000000 in
set_option maxRecDepth 100000 in
theorem k_Whole48 (l : Launch) (D : va_G) (cT : Nat → ClassId) (h : Nat) (sz : Nat) : Met l yW_init WW_init ({ frames := 1, cells := 1, slots := 48, locals := 12 } : Room) (RW D vwCl [.ref h, .int 48] [(h, .inr (4, [.null, .int 0, .int 0]))] (TY cT) sz) (va_Qv (fun _ : Nat → Nat => True) (BW D vwCl (va_A [(h, .inr (4, [.null, .int 0, .int 0]))] sz) (fun u => [(h, .inr (4, [.ref (u 0), .int 0, .int 0])), ((u 0), .inl (cT 0, 48, .inl (fun _ => 0)))])) (va_A [(h, .inr (4, [.null, .int 0, .int 0]))] sz)) 1 48 (va_A [(h, .inr (4, [.null, .int 0, .int 0]))] sz) := by
  refine Met.ofW (cc := cW_init) (maxL := 2) (ret := none) (by decide) rfl ?_
  intro p e s m args below meth c s₁ B hml hv
  obtain ⟨rfl, hsz, hZ, hP, hK, hD0⟩ := hv
  have hx := B.exec
  have hb := B.bytes
  have hr := B.returns
  have hts := atoms_spec (ws := WW_init) B.pre
  have hT : ∀ w ∈ TB, w.before _ s = true := fun w h => hts w (List.mem_cons_of_mem _ h)
  have hown : s.vm.findClass R_W = some m.cls := findClass_of_methodNamed B.named
  have hlocks := B.notSynchronized
  have hin : meth.name = "<init>" := (name_of_methodNamed B.named B.method).1
  subst hsz
  have hD := hD0.self (sz := s.heap.size)
  generalize hAe : va_A [(h, .inr (4, [.null, .int 0, .int 0]))] s.heap.size = A at hD hZ ⊢
  have hA : ∀ q : Nat, s.heap.size ≤ q → A q := fun q h => by rw [← hAe]; exact Or.inr h
  have hS : va_S A s.heap s.heap [] := va_S.rf
  have hl := lv_entry ([.ref h, .int 48]) (n := 2) (Nat.le_of_ble_eq_true rfl)
  rw [lg_entry_eq]
  generalize (lg_sl ([.ref h, .int 48]) ++ List.replicate (2 - (lg_sl ([.ref h, .int 48])).length) Slot.unset).toArray = ls at hl ⊢
  have hl : lv_has ls 2 [(0, .ref h), (1, .int 48)] := hl
  refine lv_aload_n hx hb dW_init_0 rfl (lv_at hl 0 rfl) ?_
  refine W.objInit hx hb hown (hT _ w144) (hT _ w35) (hT _ w36) rfl (by rw [hml]; exact hl.1) rfl dW_init_1 (Nat.le_of_ble_eq_true rfl) (Nat.le_of_ble_eq_true rfl) ?_
  refine W.eq (g2 := F0 m 4 ls []) rfl ?_
  refine lv_aload_n hx hb dW_init_4 rfl (lv_at hl 0 rfl) ?_
  refine lv_iload_n hx hb dW_init_5 rfl (lv_at hl 1 rfl) ?_
  refine nw_a (atype := .int) (ty := .int) (a0 := (48, .inl (fun _ => 0))) (N' := 48) hx hb (hT _ w72) rfl hK hP hD hS hA 0 rfl (fun _ => rfl) (by decide +kernel) (by decide +kernel) (by decide +kernel) (Nat.le_of_ble_eq_true rfl) (Nat.le_of_ble_eq_true rfl) dW_init_6 (fun q6 H hP hD hS => ?_)
  have hP : va_P D vwCl [(h, .inr (4, [.null, .int 0, .int 0])), (q6, .inl (cT 0, 48, .inl (fun _ => 0)))] H := hP
  have hD : va_D A [(h, .inr (4, [.null, .int 0, .int 0])), (q6, .inl (cT 0, 48, .inl (fun _ => 0)))] := hD
  refine va_putF (D := D) (ci := 4) (v := .ref q6) (ty := .array .int) (C := R_W) (T := T_W) (N := 3) hx hb hT in_W ty_W ty_W_ok m_W hown hK hP hD hS 0 rfl rfl 0 (by decide) (hT _ w145) (fun _ h9 => h9) rfl hin rfl (by decide +kernel) rfl rfl (Nat.le_of_ble_eq_true rfl) dW_init_8 (fun H locs hP hD hS => ?_)
  have hP : va_P D vwCl [(h, .inr (4, [.ref q6, .int 0, .int 0])), (q6, .inl (cT 0, 48, .inl (fun _ => 0)))] H := hP
  have hD : va_D A [(h, .inr (4, [.ref q6, .int 0, .int 0])), (q6, .inl (cT 0, 48, .inl (fun _ => 0)))] := hD
  have hP9 := hP.sub (ws' := [(h, .inr (4, [.ref q6, .int 0, .int 0])), (q6, .inl (cT 0, 48, .inl (fun _ => 0)))]) [0, 1] rfl
  have hD9 := hD.sub (ws' := [(h, .inr (4, [.ref q6, .int 0, .int 0])), (q6, .inl (cT 0, 48, .inl (fun _ => 0)))]) [0, 1] (by decide) rfl
  refine W.widen (k := 1) (n := 48) (Nat.le_of_ble_eq_true rfl) (Nat.le_of_ble_eq_true rfl) ?_
  exact W.vret hx hb hr (fun t ht hW => ⟨⟨(fun k => match k with | 0 => q6 | _ => 0), rfl, trivial, by rw [ht]; exact hP9, hD9⟩, hS.F ht⟩) hS.2.2 dW_init_11
set_option maxHeartbeats 4000000 in
set_option maxRecDepth 100000 in
theorem k_Column (l : Launch) (D : va_G) (cT : Nat → ClassId) (h : Nat) (sz : Nat) : Met l yC_init WC_init ({ frames := 1, cells := 2, slots := 60, locals := 12 } : Room) (RW D vwCl [.ref h] [(h, .inr (1, [.null, .null, .int 0, .int 0]))] (TY cT) sz) (va_Qv (fun _ : Nat → Nat => True) (BW D vwCl (va_A [(h, .inr (1, [.null, .null, .int 0, .int 0]))] sz) (fun u => [(h, .inr (1, [.ref (u 0), .ref (u 1), .int 0, .int 0])), ((u 0), .inl (cT 0, 49, .inl (fun _ => 0))), ((u 1), .inl (cT 0, 11, .inl (fun _ => 0)))])) (va_A [(h, .inr (1, [.null, .null, .int 0, .int 0]))] sz)) 2 60 (va_A [(h, .inr (1, [.null, .null, .int 0, .int 0]))] sz) := by
  refine Met.ofW (cc := cC_init) (maxL := 1) (ret := none) (by decide) rfl ?_
  intro p e s m args below meth c s₁ B hml hv
  obtain ⟨rfl, hsz, hZ, hP, hK, hD0⟩ := hv
  have hx := B.exec
  have hb := B.bytes
  have hr := B.returns
  have hts := atoms_spec (ws := WC_init) B.pre
  have hT : ∀ w ∈ TB, w.before _ s = true := fun w h => hts w (List.mem_cons_of_mem _ h)
  have hown : s.vm.findClass R_C = some m.cls := findClass_of_methodNamed B.named
  have hlocks := B.notSynchronized
  have hin : meth.name = "<init>" := (name_of_methodNamed B.named B.method).1
  subst hsz
  have hD := hD0.self (sz := s.heap.size)
  generalize hAe : va_A [(h, .inr (1, [.null, .null, .int 0, .int 0]))] s.heap.size = A at hD hZ ⊢
  have hA : ∀ q : Nat, s.heap.size ≤ q → A q := fun q h => by rw [← hAe]; exact Or.inr h
  have hS : va_S A s.heap s.heap [] := va_S.rf
  have hl := lv_entry ([.ref h]) (n := 1) (Nat.le_of_ble_eq_true rfl)
  rw [lg_entry_eq]
  generalize (lg_sl ([.ref h]) ++ List.replicate (1 - (lg_sl ([.ref h])).length) Slot.unset).toArray = ls at hl ⊢
  have hl : lv_has ls 1 [(0, .ref h)] := hl
  refine lv_aload_n hx hb dC_init_0 rfl (lv_at hl 0 rfl) ?_
  refine W.objInit hx hb hown (hT _ w49) (hT _ w35) (hT _ w36) rfl (by rw [hml]; exact hl.1) rfl dC_init_1 (Nat.le_of_ble_eq_true rfl) (Nat.le_of_ble_eq_true rfl) ?_
  refine W.eq (g2 := F0 m 4 ls []) rfl ?_
  refine lv_aload_n hx hb dC_init_4 rfl (lv_at hl 0 rfl) ?_
  refine lv_bipush (v := 49) hx hb dC_init_5 (by decide) ?_
  refine nw_a (atype := .int) (ty := .int) (a0 := (49, .inl (fun _ => 0))) (N' := 49) hx hb (hT _ w72) rfl hK hP hD hS hA 0 rfl (fun _ => rfl) (by decide +kernel) (by decide +kernel) (by decide +kernel) (Nat.le_of_ble_eq_true rfl) (Nat.le_of_ble_eq_true rfl) dC_init_7 (fun q7 H hP hD hS => ?_)
  have hP : va_P D vwCl [(h, .inr (1, [.null, .null, .int 0, .int 0])), (q7, .inl (cT 0, 49, .inl (fun _ => 0)))] H := hP
  have hD : va_D A [(h, .inr (1, [.null, .null, .int 0, .int 0])), (q7, .inl (cT 0, 49, .inl (fun _ => 0)))] := hD
  refine va_putF (D := D) (ci := 1) (v := .ref q7) (ty := .array .int) (C := R_C) (T := T_C) (N := 4) hx hb hT in_C ty_C ty_C_ok m_C hown hK hP hD hS 0 rfl rfl 0 (by decide) (hT _ w50) (fun _ h9 => h9) rfl hin rfl (by decide +kernel) rfl rfl (Nat.le_of_ble_eq_true rfl) dC_init_9 (fun H locs hP hD hS => ?_)
  have hP : va_P D vwCl [(h, .inr (1, [.ref q7, .null, .int 0, .int 0])), (q7, .inl (cT 0, 49, .inl (fun _ => 0)))] H := hP
  have hD : va_D A [(h, .inr (1, [.ref q7, .null, .int 0, .int 0])), (q7, .inl (cT 0, 49, .inl (fun _ => 0)))] := hD
  refine lv_aload_n hx hb dC_init_12 rfl (lv_at hl 0 rfl) ?_
  refine lv_bipush (v := 11) hx hb dC_init_13 (by decide) ?_
  refine nw_a (atype := .int) (ty := .int) (a0 := (11, .inl (fun _ => 0))) (N' := 11) hx hb (hT _ w72) rfl hK hP hD hS hA 0 rfl (fun _ => rfl) (by decide +kernel) (by decide +kernel) (by decide +kernel) (Nat.le_of_ble_eq_true rfl) (Nat.le_of_ble_eq_true rfl) dC_init_15 (fun q15 H hP hD hS => ?_)
  have hP : va_P D vwCl [(h, .inr (1, [.ref q7, .null, .int 0, .int 0])), (q7, .inl (cT 0, 49, .inl (fun _ => 0))), (q15, .inl (cT 0, 11, .inl (fun _ => 0)))] H := hP
  have hD : va_D A [(h, .inr (1, [.ref q7, .null, .int 0, .int 0])), (q7, .inl (cT 0, 49, .inl (fun _ => 0))), (q15, .inl (cT 0, 11, .inl (fun _ => 0)))] := hD
  refine va_putF (D := D) (ci := 1) (v := .ref q15) (ty := .array .int) (C := R_C) (T := T_C) (N := 4) hx hb hT in_C ty_C ty_C_ok m_C hown hK hP hD hS 0 rfl rfl 1 (by decide) (hT _ w54) (fun _ h9 => h9) rfl hin rfl (by decide +kernel) rfl rfl (Nat.le_of_ble_eq_true rfl) dC_init_17 (fun H locs hP hD hS => ?_)
  have hP : va_P D vwCl [(h, .inr (1, [.ref q7, .ref q15, .int 0, .int 0])), (q7, .inl (cT 0, 49, .inl (fun _ => 0))), (q15, .inl (cT 0, 11, .inl (fun _ => 0)))] H := hP
  have hD : va_D A [(h, .inr (1, [.ref q7, .ref q15, .int 0, .int 0])), (q7, .inl (cT 0, 49, .inl (fun _ => 0))), (q15, .inl (cT 0, 11, .inl (fun _ => 0)))] := hD
  have hP9 := hP.sub (ws' := [(h, .inr (1, [.ref q7, .ref q15, .int 0, .int 0])), (q7, .inl (cT 0, 49, .inl (fun _ => 0))), (q15, .inl (cT 0, 11, .inl (fun _ => 0)))]) [0, 1, 2] rfl
  have hD9 := hD.sub (ws' := [(h, .inr (1, [.ref q7, .ref q15, .int 0, .int 0])), (q7, .inl (cT 0, 49, .inl (fun _ => 0))), (q15, .inl (cT 0, 11, .inl (fun _ => 0)))]) [0, 1, 2] (by decide) rfl
  refine W.widen (k := 2) (n := 60) (Nat.le_of_ble_eq_true rfl) (Nat.le_of_ble_eq_true rfl) ?_
  exact W.vret hx hb hr (fun t ht hW => ⟨⟨(fun k => match k with | 0 => q7 | 1 => q15 | _ => 0), rfl, trivial, by rw [ht]; exact hP9, hD9⟩, hS.F ht⟩) hS.2.2 dC_init_20
set_option maxHeartbeats 4000000 in
set_option maxRecDepth 100000 in
theorem k_Plan (l : Launch) (D : va_G) (cT : Nat → ClassId) (h : Nat) (sz : Nat) : Met l yP_init WP_init ({ frames := 1, cells := 0, slots := 0, locals := 12 } : Room) (RW D vwCl [.ref h] [(h, .inr (3, [.int 0, .int 0, .int 0, .int 0, .int 0, .long 0, .int 0]))] (TY cT) sz) (va_Qv (fun _ : Nat → Nat => True) (BW D vwCl (va_A [(h, .inr (3, [.int 0, .int 0, .int 0, .int 0, .int 0, .long 0, .int 0]))] sz) (fun u => [(h, .inr (3, [.int 0, .int 0, .int 0, .int 0, .int 0, .long 0, .int 0]))])) (va_A [(h, .inr (3, [.int 0, .int 0, .int 0, .int 0, .int 0, .long 0, .int 0]))] sz)) 0 0 (va_A [(h, .inr (3, [.int 0, .int 0, .int 0, .int 0, .int 0, .long 0, .int 0]))] sz) := by
  refine Met.ofW (cc := cP_init) (maxL := 1) (ret := none) (by decide) rfl ?_
  intro p e s m args below meth c s₁ B hml hv
  obtain ⟨rfl, hsz, hZ, hP, hK, hD0⟩ := hv
  have hx := B.exec
  have hb := B.bytes
  have hr := B.returns
  have hts := atoms_spec (ws := WP_init) B.pre
  have hT : ∀ w ∈ TB, w.before _ s = true := fun w h => hts w (List.mem_cons_of_mem _ h)
  have hown : s.vm.findClass R_P = some m.cls := findClass_of_methodNamed B.named
  have hlocks := B.notSynchronized
  have hin : meth.name = "<init>" := (name_of_methodNamed B.named B.method).1
  subst hsz
  have hD := hD0.self (sz := s.heap.size)
  generalize hAe : va_A [(h, .inr (3, [.int 0, .int 0, .int 0, .int 0, .int 0, .long 0, .int 0]))] s.heap.size = A at hD hZ ⊢
  have hA : ∀ q : Nat, s.heap.size ≤ q → A q := fun q h => by rw [← hAe]; exact Or.inr h
  have hS : va_S A s.heap s.heap [] := va_S.rf
  have hl := lv_entry ([.ref h]) (n := 1) (Nat.le_of_ble_eq_true rfl)
  rw [lg_entry_eq]
  generalize (lg_sl ([.ref h]) ++ List.replicate (1 - (lg_sl ([.ref h])).length) Slot.unset).toArray = ls at hl ⊢
  have hl : lv_has ls 1 [(0, .ref h)] := hl
  refine lv_aload_n hx hb dP_init_0 rfl (lv_at hl 0 rfl) ?_
  refine W.objInit hx hb hown (hT _ w98) (hT _ w35) (hT _ w36) rfl (by rw [hml]; exact hl.1) rfl dP_init_1 (Nat.le_of_ble_eq_true rfl) (Nat.le_of_ble_eq_true rfl) ?_
  refine W.eq (g2 := F0 m 4 ls []) rfl ?_
  have hP9 := hP.sub (ws' := [(h, .inr (3, [.int 0, .int 0, .int 0, .int 0, .int 0, .long 0, .int 0]))]) [0] rfl
  have hD9 := hD.sub (ws' := [(h, .inr (3, [.int 0, .int 0, .int 0, .int 0, .int 0, .long 0, .int 0]))]) [0] (by decide) rfl
  refine W.widen (k := 0) (n := 0) (Nat.le_of_ble_eq_true rfl) (Nat.le_of_ble_eq_true rfl) ?_
  exact W.vret hx hb hr (fun t ht hW => ⟨⟨(fun _ => 0), rfl, trivial, by rw [ht]; exact hP9, hD9⟩, hS.F ht⟩) hS.2.2 dP_init_4
set_option maxHeartbeats 4000000 in
set_option maxRecDepth 100000 in
theorem k_Plan_clear (l : Launch) (D : va_G) (cT : Nat → ClassId) (h : Nat) (pd : Int32) (pl : Int32) (pw : Int32) (pu : Int32) (pv : Int32) (ps : Int64) (pc0 : Int32) (sz : Nat) : Met l yP_clear WP_clear ({ frames := 0, cells := 0, slots := 0, locals := 0 } : Room) (RW D vwCl [.ref h] [(h, .inr (3, [.int pd, .int pl, .int pw, .int pu, .int pv, .long ps, .int pc0]))] (TY cT) sz) (va_Qv (fun _ : Nat → Nat => True) (BW D vwCl (va_A [(h, .inr (3, [.int pd, .int pl, .int pw, .int pu, .int pv, .long ps, .int pc0]))] sz) (fun u => [(h, .inr (3, [.int 2, .int 1, .int 0, .int 1, .int 2, .long (-1), .int (-1)]))])) (va_A [(h, .inr (3, [.int pd, .int pl, .int pw, .int pu, .int pv, .long ps, .int pc0]))] sz)) 0 0 (va_A [(h, .inr (3, [.int pd, .int pl, .int pw, .int pu, .int pv, .long ps, .int pc0]))] sz) := by
  refine Met.ofW (cc := cP_clear) (maxL := 1) (ret := none) (by decide) rfl ?_
  intro p e s m args below meth c s₁ B hml hv
  obtain ⟨rfl, hsz, hZ, hP, hK, hD0⟩ := hv
  have hx := B.exec
  have hb := B.bytes
  have hr := B.returns
  have hts := atoms_spec (ws := WP_clear) B.pre
  have hT : ∀ w ∈ TB, w.before _ s = true := fun w h => hts w (List.mem_cons_of_mem _ h)
  have hown : s.vm.findClass R_P = some m.cls := findClass_of_methodNamed B.named
  have hlocks := B.notSynchronized
  subst hsz
  have hD := hD0.self (sz := s.heap.size)
  generalize hAe : va_A [(h, .inr (3, [.int pd, .int pl, .int pw, .int pu, .int pv, .long ps, .int pc0]))] s.heap.size = A at hD hZ ⊢
  have hA : ∀ q : Nat, s.heap.size ≤ q → A q := fun q h => by rw [← hAe]; exact Or.inr h
  have hS : va_S A s.heap s.heap [] := va_S.rf
  have hl := lv_entry ([.ref h]) (n := 1) (Nat.le_of_ble_eq_true rfl)
  rw [lg_entry_eq]
  generalize (lg_sl ([.ref h]) ++ List.replicate (1 - (lg_sl ([.ref h])).length) Slot.unset).toArray = ls at hl ⊢
  have hl : lv_has ls 1 [(0, .ref h)] := hl
  refine lv_aload_n hx hb dP_clear_0 rfl (lv_at hl 0 rfl) ?_
  refine lv_iconst (v := 2) hx hb dP_clear_1 (by decide) ?_
  refine va_put (D := D) (ci := 3) (v := .int 2) (ty := .int) (C := R_P) (T := T_P) (N := 7) hx hb hT in_P ty_P ty_P_ok m_P hown hK hP hD hS 0 rfl rfl 0 (by decide) (hT _ w99) (fun _ h9 => h9) rfl (by decide +kernel) rfl rfl (Nat.le_of_ble_eq_true rfl) dP_clear_2 (fun H locs hP hD hS => ?_)
  have hP : va_P D vwCl [(h, .inr (3, [.int 2, .int pl, .int pw, .int pu, .int pv, .long ps, .int pc0]))] H := hP
  have hD : va_D A [(h, .inr (3, [.int 2, .int pl, .int pw, .int pu, .int pv, .long ps, .int pc0]))] := hD
  refine lv_aload_n hx hb dP_clear_5 rfl (lv_at hl 0 rfl) ?_
  refine lv_iconst (v := 1) hx hb dP_clear_6 (by decide) ?_
  refine va_put (D := D) (ci := 3) (v := .int 1) (ty := .int) (C := R_P) (T := T_P) (N := 7) hx hb hT in_P ty_P ty_P_ok m_P hown hK hP hD hS 0 rfl rfl 1 (by decide) (hT _ w102) (fun _ h9 => h9) rfl (by decide +kernel) rfl rfl (Nat.le_of_ble_eq_true rfl) dP_clear_7 (fun H locs hP hD hS => ?_)
  have hP : va_P D vwCl [(h, .inr (3, [.int 2, .int 1, .int pw, .int pu, .int pv, .long ps, .int pc0]))] H := hP
  have hD : va_D A [(h, .inr (3, [.int 2, .int 1, .int pw, .int pu, .int pv, .long ps, .int pc0]))] := hD
  refine lv_aload_n hx hb dP_clear_10 rfl (lv_at hl 0 rfl) ?_
  refine lv_iconst (v := 0) hx hb dP_clear_11 (by decide) ?_
  refine va_put (D := D) (ci := 3) (v := .int 0) (ty := .int) (C := R_P) (T := T_P) (N := 7) hx hb hT in_P ty_P ty_P_ok m_P hown hK hP hD hS 0 rfl rfl 2 (by decide) (hT _ w105) (fun _ h9 => h9) rfl (by decide +kernel) rfl rfl (Nat.le_of_ble_eq_true rfl) dP_clear_12 (fun H locs hP hD hS => ?_)
  have hP : va_P D vwCl [(h, .inr (3, [.int 2, .int 1, .int 0, .int pu, .int pv, .long ps, .int pc0]))] H := hP
  have hD : va_D A [(h, .inr (3, [.int 2, .int 1, .int 0, .int pu, .int pv, .long ps, .int pc0]))] := hD
  refine lv_aload_n hx hb dP_clear_15 rfl (lv_at hl 0 rfl) ?_
  refine lv_iconst (v := 1) hx hb dP_clear_16 (by decide) ?_
  refine va_put (D := D) (ci := 3) (v := .int 1) (ty := .int) (C := R_P) (T := T_P) (N := 7) hx hb hT in_P ty_P ty_P_ok m_P hown hK hP hD hS 0 rfl rfl 3 (by decide) (hT _ w109) (fun _ h9 => h9) rfl (by decide +kernel) rfl rfl (Nat.le_of_ble_eq_true rfl) dP_clear_17 (fun H locs hP hD hS => ?_)
  have hP : va_P D vwCl [(h, .inr (3, [.int 2, .int 1, .int 0, .int 1, .int pv, .long ps, .int pc0]))] H := hP
  have hD : va_D A [(h, .inr (3, [.int 2, .int 1, .int 0, .int 1, .int pv, .long ps, .int pc0]))] := hD
  refine lv_aload_n hx hb dP_clear_20 rfl (lv_at hl 0 rfl) ?_
  refine lv_iconst (v := 2) hx hb dP_clear_21 (by decide) ?_
  refine va_put (D := D) (ci := 3) (v := .int 2) (ty := .int) (C := R_P) (T := T_P) (N := 7) hx hb hT in_P ty_P ty_P_ok m_P hown hK hP hD hS 0 rfl rfl 4 (by decide) (hT _ w112) (fun _ h9 => h9) rfl (by decide +kernel) rfl rfl (Nat.le_of_ble_eq_true rfl) dP_clear_22 (fun H locs hP hD hS => ?_)
  have hP : va_P D vwCl [(h, .inr (3, [.int 2, .int 1, .int 0, .int 1, .int 2, .long ps, .int pc0]))] H := hP
  have hD : va_D A [(h, .inr (3, [.int 2, .int 1, .int 0, .int 1, .int 2, .long ps, .int pc0]))] := hD
  refine lv_aload_n hx hb dP_clear_25 rfl (lv_at hl 0 rfl) ?_
  refine lv_ldc2 (v := (-1)) hx hb hown (hT _ w323) dP_clear_26 ?_
  refine va_put (D := D) (ci := 3) (v := .long (-1)) (ty := .long) (C := R_P) (T := T_P) (N := 7) hx hb hT in_P ty_P ty_P_ok m_P hown hK hP hD hS 0 rfl rfl 5 (by decide) (hT _ w115) (fun _ h9 => h9) rfl (by decide +kernel) rfl rfl (Nat.le_of_ble_eq_true rfl) dP_clear_29 (fun H locs hP hD hS => ?_)
  have hP : va_P D vwCl [(h, .inr (3, [.int 2, .int 1, .int 0, .int 1, .int 2, .long (-1), .int pc0]))] H := hP
  have hD : va_D A [(h, .inr (3, [.int 2, .int 1, .int 0, .int 1, .int 2, .long (-1), .int pc0]))] := hD
  refine lv_aload_n hx hb dP_clear_32 rfl (lv_at hl 0 rfl) ?_
  refine lv_iconst (v := (-1)) hx hb dP_clear_33 (by decide) ?_
  refine va_put (D := D) (ci := 3) (v := .int (-1)) (ty := .int) (C := R_P) (T := T_P) (N := 7) hx hb hT in_P ty_P ty_P_ok m_P hown hK hP hD hS 0 rfl rfl 6 (by decide) (hT _ w117) (fun _ h9 => h9) rfl (by decide +kernel) rfl rfl (Nat.le_of_ble_eq_true rfl) dP_clear_34 (fun H locs hP hD hS => ?_)
  have hP : va_P D vwCl [(h, .inr (3, [.int 2, .int 1, .int 0, .int 1, .int 2, .long (-1), .int (-1)]))] H := hP
  have hD : va_D A [(h, .inr (3, [.int 2, .int 1, .int 0, .int 1, .int 2, .long (-1), .int (-1)]))] := hD
  have hP9 := hP.sub (ws' := [(h, .inr (3, [.int 2, .int 1, .int 0, .int 1, .int 2, .long (-1), .int (-1)]))]) [0] rfl
  have hD9 := hD.sub (ws' := [(h, .inr (3, [.int 2, .int 1, .int 0, .int 1, .int 2, .long (-1), .int (-1)]))]) [0] (by decide) rfl
  refine W.widen (k := 0) (n := 0) (Nat.le_of_ble_eq_true rfl) (Nat.le_of_ble_eq_true rfl) ?_
  exact W.vret hx hb hr (fun t ht hW => ⟨⟨(fun _ => 0), rfl, trivial, by rw [ht]; exact hP9, hD9⟩, hS.F ht⟩) hS.2.2 dP_clear_37
