set_option maxHeartbeats 4000000 in
set_option maxRecDepth 100000 in
theorem k_WholeX48 (l : Launch) (D : va_G) (cT : Nat → ClassId) (h : Nat) (sz : Nat) : Met l yW_init WW_init ({ frames := 1, cells := 1, slots := 48, locals := 12 } : Room) (RW D vwCl [.ref h, .int 48] [(h, .inr (4, [.null, .int 0, .int 0]))] (TY cT) sz) (va_Qv (fun u9 : Nat => True) (BW D vwCl (va_A [(h, .inr (4, [.null, .int 0, .int 0]))] sz) (fun u9 : Nat => [(h, .inr (4, [.ref u9, .int 0, .int 0])), (u9, .inl (cT 0, 48, .inl (fun _ => 0)))])) (va_A [(h, .inr (4, [.null, .int 0, .int 0]))] sz)) 1 48 (va_A [(h, .inr (4, [.null, .int 0, .int 0]))] sz) := by
  refine Met.ofW (cc := cW_init) (maxL := 2) (ret := none) (by decide) rfl ?_
  intro p e s m args below meth c s₁ B hml hv
  obtain ⟨rfl, hsz, hZ, hP, hK, hD0⟩ := hv
  have hx := B.exec
  have hb := B.bytes
  have hr := B.returns
  have hts := atoms_spec (ws := WW_init) B.pre
  have hT : ∀ w ∈ TB, w.before _ s = true := fun w h => hts w (List.mem_cons_of_mem _ h)
  have hown : s.vm.findClass R_W = some m.cls := findClass_of_methodNamed B.named
  have hlocks := B.notSynchronized
  have hin : meth.name = "<init>" := (name_of_methodNamed B.named B.method).1
  subst hsz
  have hD := hD0.self (sz := s.heap.size)
  generalize hAe : va_A [(h, .inr (4, [.null, .int 0, .int 0]))] s.heap.size = A at hD hZ ⊢
  have hA : ∀ q : Nat, s.heap.size ≤ q → A q := fun q h => by rw [← hAe]; exact Or.inr h
  have hS : va_S A s.heap s.heap [] := va_S.rf
  have hl := lv_entry ([.ref h, .int 48]) (n := 2) (Nat.le_of_ble_eq_true rfl)
  rw [lg_entry_eq]
  generalize (lg_sl ([.ref h, .int 48]) ++ List.replicate (2 - (lg_sl ([.ref h, .int 48])).length) Slot.unset).toArray = ls at hl ⊢
  have hl : lv_has ls 2 [(0, .ref h), (1, .int 48)] := hl
  refine lv_aload_n hx hb dW_init_0 rfl (lv_at hl 0 rfl) ?_
  refine W.objInit hx hb hown (hT _ w144) (hT _ w35) (hT _ w36) rfl (by rw [hml]; exact hl.1) rfl dW_init_1 (Nat.le_of_ble_eq_true rfl) (Nat.le_of_ble_eq_true rfl) ?_
  refine W.eq (g2 := F0 m 4 ls []) rfl ?_
  refine lv_aload_n hx hb dW_init_4 rfl (lv_at hl 0 rfl) ?_
  refine lv_iload_n hx hb dW_init_5 rfl (lv_at hl 1 rfl) ?_
  refine nw_a (atype := .int) (ty := .int) (a0 := (48, .inl (fun _ => 0))) (N' := 48) hx hb (hT _ w72) rfl hK hP hD hS hA 0 rfl (fun _ => rfl) (by decide +kernel) (by decide +kernel) (by decide +kernel) (Nat.le_of_ble_eq_true rfl) (Nat.le_of_ble_eq_true rfl) dW_init_6 (fun q6 H hP hD hS => ?_)
  have hP : va_P D vwCl [(h, .inr (4, [.null, .int 0, .int 0])), (q6, .inl (cT 0, 48, .inl (fun _ => 0)))] _ := hP
  have hD : va_D A [(h, .inr (4, [.null, .int 0, .int 0])), (q6, .inl (cT 0, 48, .inl (fun _ => 0)))] := hD
  refine va_putF (D := D) (ci := 4) (v := .ref q6) (ty := .array .int) (C := R_W) (T := T_W) (N := 3) hx hb hT in_W ty_W ty_W_ok m_W hown hK hP hD hS 0 rfl rfl 0 (by decide) (hT _ w145) (fun _ h9 => h9) rfl hin rfl (by decide +kernel) rfl rfl (Nat.le_of_ble_eq_true rfl) dW_init_8 (fun H locs hP hD hS => ?_)
  have hP : va_P D vwCl [(h, .inr (4, [.ref q6, .int 0, .int 0])), (q6, .inl (cT 0, 48, .inl (fun _ => 0)))] _ := hP
  have hD : va_D A [(h, .inr (4, [.ref q6, .int 0, .int 0])), (q6, .inl (cT 0, 48, .inl (fun _ => 0)))] := hD
  have hP9 := hP.sub (ws' := [(h, .inr (4, [.ref q6, .int 0, .int 0])), (q6, .inl (cT 0, 48, .inl (fun _ => 0)))]) [0, 1] rfl
  have hD9 := hD.sub (ws' := [(h, .inr (4, [.ref q6, .int 0, .int 0])), (q6, .inl (cT 0, 48, .inl (fun _ => 0)))]) [0, 1] (by decide) rfl
  refine W.widen (k := 1) (n := 48) (Nat.le_of_ble_eq_true rfl) (Nat.le_of_ble_eq_true rfl) ?_
  exact W.vret hx hb hr (fun t9 ht9 hW9 => ⟨⟨q6, rfl, (show True from trivial), by rw [ht9]; exact hP9, hD9⟩, hS.F ht9⟩) hS.2.2 dW_init_11
set_option maxHeartbeats 4000000 in
set_option maxRecDepth 100000 in
theorem k_ColumnX (l : Launch) (D : va_G) (cT : Nat → ClassId) (h : Nat) (sz : Nat) : Met l yC_init WC_init ({ frames := 1, cells := 2, slots := 60, locals := 12 } : Room) (RW D vwCl [.ref h] [(h, .inr (1, [.null, .null, .int 0, .int 0]))] (TY cT) sz) (va_Qv (fun u9 : Nat × Nat => True) (BW D vwCl (va_A [(h, .inr (1, [.null, .null, .int 0, .int 0]))] sz) (fun u9 : Nat × Nat => [(h, .inr (1, [.ref u9.1, .ref u9.2, .int 0, .int 0])), (u9.1, .inl (cT 0, 49, .inl (fun _ => 0))), (u9.2, .inl (cT 0, 11, .inl (fun _ => 0)))])) (va_A [(h, .inr (1, [.null, .null, .int 0, .int 0]))] sz)) 2 60 (va_A [(h, .inr (1, [.null, .null, .int 0, .int 0]))] sz) := by
  refine Met.ofW (cc := cC_init) (maxL := 1) (ret := none) (by decide) rfl ?_
  intro p e s m args below meth c s₁ B hml hv
  obtain ⟨rfl, hsz, hZ, hP, hK, hD0⟩ := hv
  have hx := B.exec
  have hb := B.bytes
  have hr := B.returns
  have hts := atoms_spec (ws := WC_init) B.pre
  have hT : ∀ w ∈ TB, w.before _ s = true := fun w h => hts w (List.mem_cons_of_mem _ h)
  have hown : s.vm.findClass R_C = some m.cls := findClass_of_methodNamed B.named
  have hlocks := B.notSynchronized
  have hin : meth.name = "<init>" := (name_of_methodNamed B.named B.method).1
  subst hsz
  have hD := hD0.self (sz := s.heap.size)
  generalize hAe : va_A [(h, .inr (1, [.null, .null, .int 0, .int 0]))] s.heap.size = A at hD hZ ⊢
  have hA : ∀ q : Nat, s.heap.size ≤ q → A q := fun q h => by rw [← hAe]; exact Or.inr h
  have hS : va_S A s.heap s.heap [] := va_S.rf
  have hl := lv_entry ([.ref h]) (n := 1) (Nat.le_of_ble_eq_true rfl)
  rw [lg_entry_eq]
  generalize (lg_sl ([.ref h]) ++ List.replicate (1 - (lg_sl ([.ref h])).length) Slot.unset).toArray = ls at hl ⊢
  have hl : lv_has ls 1 [(0, .ref h)] := hl
  refine lv_aload_n hx hb dC_init_0 rfl (lv_at hl 0 rfl) ?_
  refine W.objInit hx hb hown (hT _ w49) (hT _ w35) (hT _ w36) rfl (by rw [hml]; exact hl.1) rfl dC_init_1 (Nat.le_of_ble_eq_true rfl) (Nat.le_of_ble_eq_true rfl) ?_
  refine W.eq (g2 := F0 m 4 ls []) rfl ?_
  refine lv_aload_n hx hb dC_init_4 rfl (lv_at hl 0 rfl) ?_
  refine lv_bipush (v := 49) hx hb dC_init_5 (by decide) ?_
  refine nw_a (atype := .int) (ty := .int) (a0 := (49, .inl (fun _ => 0))) (N' := 49) hx hb (hT _ w72) rfl hK hP hD hS hA 0 rfl (fun _ => rfl) (by decide +kernel) (by decide +kernel) (by decide +kernel) (Nat.le_of_ble_eq_true rfl) (Nat.le_of_ble_eq_true rfl) dC_init_7 (fun q7 H hP hD hS => ?_)
  have hP : va_P D vwCl [(h, .inr (1, [.null, .null, .int 0, .int 0])), (q7, .inl (cT 0, 49, .inl (fun _ => 0)))] _ := hP
  have hD : va_D A [(h, .inr (1, [.null, .null, .int 0, .int 0])), (q7, .inl (cT 0, 49, .inl (fun _ => 0)))] := hD
  refine va_putF (D := D) (ci := 1) (v := .ref q7) (ty := .array .int) (C := R_C) (T := T_C) (N := 4) hx hb hT in_C ty_C ty_C_ok m_C hown hK hP hD hS 0 rfl rfl 0 (by decide) (hT _ w50) (fun _ h9 => h9) rfl hin rfl (by decide +kernel) rfl rfl (Nat.le_of_ble_eq_true rfl) dC_init_9 (fun H locs hP hD hS => ?_)
  have hP : va_P D vwCl [(h, .inr (1, [.ref q7, .null, .int 0, .int 0])), (q7, .inl (cT 0, 49, .inl (fun _ => 0)))] _ := hP
  have hD : va_D A [(h, .inr (1, [.ref q7, .null, .int 0, .int 0])), (q7, .inl (cT 0, 49, .inl (fun _ => 0)))] := hD
  refine lv_aload_n hx hb dC_init_12 rfl (lv_at hl 0 rfl) ?_
  refine lv_bipush (v := 11) hx hb dC_init_13 (by decide) ?_
  refine nw_a (atype := .int) (ty := .int) (a0 := (11, .inl (fun _ => 0))) (N' := 11) hx hb (hT _ w72) rfl hK hP hD hS hA 0 rfl (fun _ => rfl) (by decide +kernel) (by decide +kernel) (by decide +kernel) (Nat.le_of_ble_eq_true rfl) (Nat.le_of_ble_eq_true rfl) dC_init_15 (fun q15 H hP hD hS => ?_)
  have hP : va_P D vwCl [(h, .inr (1, [.ref q7, .null, .int 0, .int 0])), (q7, .inl (cT 0, 49, .inl (fun _ => 0))), (q15, .inl (cT 0, 11, .inl (fun _ => 0)))] _ := hP
  have hD : va_D A [(h, .inr (1, [.ref q7, .null, .int 0, .int 0])), (q7, .inl (cT 0, 49, .inl (fun _ => 0))), (q15, .inl (cT 0, 11, .inl (fun _ => 0)))] := hD
  refine va_putF (D := D) (ci := 1) (v := .ref q15) (ty := .array .int) (C := R_C) (T := T_C) (N := 4) hx hb hT in_C ty_C ty_C_ok m_C hown hK hP hD hS 0 rfl rfl 1 (by decide) (hT _ w54) (fun _ h9 => h9) rfl hin rfl (by decide +kernel) rfl rfl (Nat.le_of_ble_eq_true rfl) dC_init_17 (fun H locs hP hD hS => ?_)
  have hP : va_P D vwCl [(h, .inr (1, [.ref q7, .ref q15, .int 0, .int 0])), (q7, .inl (cT 0, 49, .inl (fun _ => 0))), (q15, .inl (cT 0, 11, .inl (fun _ => 0)))] _ := hP
  have hD : va_D A [(h, .inr (1, [.ref q7, .ref q15, .int 0, .int 0])), (q7, .inl (cT 0, 49, .inl (fun _ => 0))), (q15, .inl (cT 0, 11, .inl (fun _ => 0)))] := hD
  have hP9 := hP.sub (ws' := [(h, .inr (1, [.ref q7, .ref q15, .int 0, .int 0])), (q7, .inl (cT 0, 49, .inl (fun _ => 0))), (q15, .inl (cT 0, 11, .inl (fun _ => 0)))]) [0, 1, 2] rfl
  have hD9 := hD.sub (ws' := [(h, .inr (1, [.ref q7, .ref q15, .int 0, .int 0])), (q7, .inl (cT 0, 49, .inl (fun _ => 0))), (q15, .inl (cT 0, 11, .inl (fun _ => 0)))]) [0, 1, 2] (by decide) rfl
  refine W.widen (k := 2) (n := 60) (Nat.le_of_ble_eq_true rfl) (Nat.le_of_ble_eq_true rfl) ?_
  exact W.vret hx hb hr (fun t9 ht9 hW9 => ⟨⟨(q7, q15), rfl, (show True from trivial), by rw [ht9]; exact hP9, hD9⟩, hS.F ht9⟩) hS.2.2 dC_init_20
set_option maxHeartbeats 4000000 in
set_option maxRecDepth 100000 in
theorem k_PlanX (l : Launch) (D : va_G) (cT : Nat → ClassId) (h : Nat) (sz : Nat) : Met l yP_init WP_init ({ frames := 1, cells := 0, slots := 0, locals := 12 } : Room) (RW D vwCl [.ref h] [(h, .inr (3, [.int 0, .int 0, .int 0, .int 0, .int 0, .long 0, .int 0]))] (TY cT) sz) (va_Qv (fun u9 : Unit => True) (BW D vwCl (va_A [(h, .inr (3, [.int 0, .int 0, .int 0, .int 0, .int 0, .long 0, .int 0]))] sz) (fun u9 : Unit => [(h, .inr (3, [.int 0, .int 0, .int 0, .int 0, .int 0, .long 0, .int 0]))])) (va_A [(h, .inr (3, [.int 0, .int 0, .int 0, .int 0, .int 0, .long 0, .int 0]))] sz)) 0 0 (va_A [(h, .inr (3, [.int 0, .int 0, .int 0, .int 0, .int 0, .long 0, .int 0]))] sz) := by
  refine Met.ofW (cc := cP_init) (maxL := 1) (ret := none) (by decide) rfl ?_
  intro p e s m args below meth c s₁ B hml hv
  obtain ⟨rfl, hsz, hZ, hP, hK, hD0⟩ := hv
  have hx := B.exec
  have hb := B.bytes
  have hr := B.returns
  have hts := atoms_spec (ws := WP_init) B.pre
  have hT : ∀ w ∈ TB, w.before _ s = true := fun w h => hts w (List.mem_cons_of_mem _ h)
  have hown : s.vm.findClass R_P = some m.cls := findClass_of_methodNamed B.named
  have hlocks := B.notSynchronized
  have hin : meth.name = "<init>" := (name_of_methodNamed B.named B.method).1
  subst hsz
  have hD := hD0.self (sz := s.heap.size)
  generalize hAe : va_A [(h, .inr (3, [.int 0, .int 0, .int 0, .int 0, .int 0, .long 0, .int 0]))] s.heap.size = A at hD hZ ⊢
  have hA : ∀ q : Nat, s.heap.size ≤ q → A q := fun q h => by rw [← hAe]; exact Or.inr h
  have hS : va_S A s.heap s.heap [] := va_S.rf
  have hl := lv_entry ([.ref h]) (n := 1) (Nat.le_of_ble_eq_true rfl)
  rw [lg_entry_eq]
  generalize (lg_sl ([.ref h]) ++ List.replicate (1 - (lg_sl ([.ref h])).length) Slot.unset).toArray = ls at hl ⊢
  have hl : lv_has ls 1 [(0, .ref h)] := hl
  refine lv_aload_n hx hb dP_init_0 rfl (lv_at hl 0 rfl) ?_
  refine W.objInit hx hb hown (hT _ w98) (hT _ w35) (hT _ w36) rfl (by rw [hml]; exact hl.1) rfl dP_init_1 (Nat.le_of_ble_eq_true rfl) (Nat.le_of_ble_eq_true rfl) ?_
  refine W.eq (g2 := F0 m 4 ls []) rfl ?_
  have hP9 := hP.sub (ws' := [(h, .inr (3, [.int 0, .int 0, .int 0, .int 0, .int 0, .long 0, .int 0]))]) [0] rfl
  have hD9 := hD.sub (ws' := [(h, .inr (3, [.int 0, .int 0, .int 0, .int 0, .int 0, .long 0, .int 0]))]) [0] (by decide) rfl
  refine W.widen (k := 0) (n := 0) (Nat.le_of_ble_eq_true rfl) (Nat.le_of_ble_eq_true rfl) ?_
  exact W.vret hx hb hr (fun t9 ht9 hW9 => ⟨⟨(), rfl, (show True from trivial), by rw [ht9]; exact hP9, hD9⟩, hS.F ht9⟩) hS.2.2 dP_init_4
set_option maxHeartbeats 4000000 in
set_option maxRecDepth 100000 in
theorem k_GroupX (l : Launch) (D : va_G) (cT : Nat → ClassId) (h : Nat) (sz : Nat) : Met l yG_init WG_init ({ frames := 2, cells := 2, slots := 27, locals := 33 } : Room) (RW D vwCl [.ref h] [(h, .inr (5, [.long 0, .null]))] (TY cT) sz) (va_Qv (fun u9 : Nat × Nat => True) (BW D vwCl (va_A [(h, .inr (5, [.long 0, .null]))] sz) (fun u9 : Nat × Nat => [(h, .inr (5, [.long 0, .ref u9.1])), (u9.1, .inr (4, [.ref u9.2, .int 0, .int 0])), (u9.2, .inl (cT 0, 24, .inl (fun _ => 0)))])) (va_A [(h, .inr (5, [.long 0, .null]))] sz)) 2 27 (va_A [(h, .inr (5, [.long 0, .null]))] sz) := by
  refine Met.ofW (cc := cG_init) (maxL := 1) (ret := none) (by decide) rfl ?_
  intro p e s m args below meth c s₁ B hml hv
  obtain ⟨rfl, hsz, hZ, hP, hK, hD0⟩ := hv
  have hx := B.exec
  have hb := B.bytes
  have hr := B.returns
  have hts := atoms_spec (ws := WG_init) B.pre
  have hT : ∀ w ∈ TB, w.before _ s = true := fun w h => hts w (List.mem_cons_of_mem _ h)
  have hown : s.vm.findClass R_G = some m.cls := findClass_of_methodNamed B.named
  have hlocks := B.notSynchronized
  have hin : meth.name = "<init>" := (name_of_methodNamed B.named B.method).1
  subst hsz
  have hD := hD0.self (sz := s.heap.size)
  generalize hAe : va_A [(h, .inr (5, [.long 0, .null]))] s.heap.size = A at hD hZ ⊢
  have hA : ∀ q : Nat, s.heap.size ≤ q → A q := fun q h => by rw [← hAe]; exact Or.inr h
  have hS : va_S A s.heap s.heap [] := va_S.rf
  have hl := lv_entry ([.ref h]) (n := 1) (Nat.le_of_ble_eq_true rfl)
  rw [lg_entry_eq]
  generalize (lg_sl ([.ref h]) ++ List.replicate (1 - (lg_sl ([.ref h])).length) Slot.unset).toArray = ls at hl ⊢
  have hl : lv_has ls 1 [(0, .ref h)] := hl
  refine lv_aload_n hx hb dG_init_0 rfl (lv_at hl 0 rfl) ?_
  refine W.objInit hx hb hown (hT _ w169) (hT _ w35) (hT _ w36) rfl (by rw [hml]; exact hl.1) rfl dG_init_1 (Nat.le_of_ble_eq_true rfl) (Nat.le_of_ble_eq_true rfl) ?_
  refine W.eq (g2 := F0 m 4 ls []) rfl ?_
  refine lv_aload_n hx hb dG_init_4 rfl (lv_at hl 0 rfl) ?_
  refine va_new (ci := 4) (fs := [.null, .int 0, .int 0]) (C := R_W) (T := T_W) (N := 3) hx hb hT in_W ty_W ty_W_ok hown (hT _ w170) (hT _ w140) (hT _ w5) hK hP hD hS hA rfl (fun j hj => match j, hj with | 0, _ => rfl | 1, _ => rfl | 2, _ => rfl | _ + 3, hj => absurd hj (by omega)) (Nat.le_of_ble_eq_true rfl) (Nat.le_of_ble_eq_true rfl) dG_init_5 (fun q5 H hP hD hS => ?_)
  have hP : va_P D vwCl [(h, .inr (5, [.long 0, .null])), (q5, .inr (4, [.null, .int 0, .int 0]))] _ := hP
  have hD : va_D A [(h, .inr (5, [.long 0, .null])), (q5, .inr (4, [.null, .int 0, .int 0]))] := hD
  refine lv_dup hx hb dG_init_8 rfl ?_
  refine lv_bipush (v := 24) hx hb dG_init_9 (by decide) ?_
  refine rw_v (wc := [(q5, .inr (4, [.null, .int 0, .int 0]))]) (wr := [(h, .inr (5, [.long 0, .null]))]) hP hD hS hA [1] [0] rfl rfl (by decide) (by decide) (va_runI (As := [.int 24]) (rest := [.ref q5, .ref h]) ⟨hx, hb, hml, hown, hT⟩ (k_WholeX l D cT q5 _) ⟨callB_of 1 hT (tb_gd w143) rfl rfl rfl (hT _ w5) (hT _ w171) hW_init ⟨Nat.le_of_ble_eq_true rfl, Nat.le_of_ble_eq_true rfl⟩, rfl, (hT _ w142)⟩ (RW.preS hZ hS (va_free (wc := [(q5, .inr (4, [.null, .int 0, .int 0]))]) hD hS hA [1] rfl) (hP.sub (ws' := [(q5, .inr (4, [.null, .int 0, .int 0]))]) [1] rfl) hK (hD.sub (ws' := [(q5, .inr (4, [.null, .int 0, .int 0]))]) [1] (by decide) rfl)) rfl rfl hl.1 rfl (lv_room (Nat.le_of_ble_eq_true rfl)) dG_init_11 ⟨Nat.le_of_ble_eq_true rfl, Nat.le_of_ble_eq_true rfl⟩) (fun u9 H locs hpu1 hP hD hS => ?_)
  obtain ⟨nwu1, rfl⟩ : ∃ q9, q9 = u9 := ⟨_, rfl⟩
  have hpu1 : True := hpu1
  have hP : va_P D vwCl [(h, .inr (5, [.long 0, .null])), (q5, .inr (4, [.ref nwu1, .int 0, .int 0])), (nwu1, .inl (cT 0, 24, .inl (fun _ => 0)))] _ := hP
  have hD : va_D A [(h, .inr (5, [.long 0, .null])), (q5, .inr (4, [.ref nwu1, .int 0, .int 0])), (nwu1, .inl (cT 0, 24, .inl (fun _ => 0)))] := hD
  refine va_putF (D := D) (ci := 5) (v := .ref q5) (ty := .object "ResidualTrees$Whole") (C := R_G) (T := T_G) (N := 2) hx hb hT in_G ty_G ty_G_ok m_G hown hK hP hD hS 0 rfl rfl 1 (by decide) (hT _ w174) (fun _ h9 => h9) rfl hin rfl (by decide +kernel) rfl rfl (Nat.le_of_ble_eq_true rfl) dG_init_14 (fun H locs hP hD hS => ?_)
  have hP : va_P D vwCl [(h, .inr (5, [.long 0, .ref q5])), (q5, .inr (4, [.ref nwu1, .int 0, .int 0])), (nwu1, .inl (cT 0, 24, .inl (fun _ => 0)))] _ := hP
  have hD : va_D A [(h, .inr (5, [.long 0, .ref q5])), (q5, .inr (4, [.ref nwu1, .int 0, .int 0])), (nwu1, .inl (cT 0, 24, .inl (fun _ => 0)))] := hD
  have hP9 := hP.sub (ws' := [(h, .inr (5, [.long 0, .ref q5])), (q5, .inr (4, [.ref nwu1, .int 0, .int 0])), (nwu1, .inl (cT 0, 24, .inl (fun _ => 0)))]) [0, 1, 2] rfl
  have hD9 := hD.sub (ws' := [(h, .inr (5, [.long 0, .ref q5])), (q5, .inr (4, [.ref nwu1, .int 0, .int 0])), (nwu1, .inl (cT 0, 24, .inl (fun _ => 0)))]) [0, 1, 2] (by decide) rfl
  refine W.widen (k := 2) (n := 27) (Nat.le_of_ble_eq_true rfl) (Nat.le_of_ble_eq_true rfl) ?_
  exact W.vret hx hb hr (fun t9 ht9 hW9 => ⟨⟨(q5, nwu1), rfl, (show True from trivial), by rw [ht9]; exact hP9, hD9⟩, hS.F ht9⟩) hS.2.2 dG_init_17
set_option maxHeartbeats 4000000 in
set_option maxRecDepth 100000 in
theorem k_SplitX (l : Launch) (D : va_G) (cT : Nat → ClassId) (h : Nat) (sz : Nat) : Met l yS_init WS_init ({ frames := 2, cells := 2, slots := 51, locals := 33 } : Room) (RW D vwCl [.ref h] [(h, .inr (6, [.int 0, .int 0, .int 0, .int 0, .long 0, .null, .int 0]))] (TY cT) sz) (va_Qv (fun u9 : Nat × Nat => True) (BW D vwCl (va_A [(h, .inr (6, [.int 0, .int 0, .int 0, .int 0, .long 0, .null, .int 0]))] sz) (fun u9 : Nat × Nat => [(h, .inr (6, [.int 0, .int 0, .int 0, .int 0, .long 0, .ref u9.1, .int 0])), (u9.1, .inr (4, [.ref u9.2, .int 0, .int 0])), (u9.2, .inl (cT 0, 48, .inl (fun _ => 0)))])) (va_A [(h, .inr (6, [.int 0, .int 0, .int 0, .int 0, .long 0, .null, .int 0]))] sz)) 2 51 (va_A [(h, .inr (6, [.int 0, .int 0, .int 0, .int 0, .long 0, .null, .int 0]))] sz) := by
  refine Met.ofW (cc := cS_init) (maxL := 1) (ret := none) (by decide) rfl ?_
  intro p e s m args below meth c s₁ B hml hv
  obtain ⟨rfl, hsz, hZ, hP, hK, hD0⟩ := hv
  have hx := B.exec
  have hb := B.bytes
  have hr := B.returns
  have hts := atoms_spec (ws := WS_init) B.pre
  have hT : ∀ w ∈ TB, w.before _ s = true := fun w h => hts w (List.mem_cons_of_mem _ h)
  have hown : s.vm.findClass R_S = some m.cls := findClass_of_methodNamed B.named
  have hlocks := B.notSynchronized
  have hin : meth.name = "<init>" := (name_of_methodNamed B.named B.method).1
  subst hsz
  have hD := hD0.self (sz := s.heap.size)
  generalize hAe : va_A [(h, .inr (6, [.int 0, .int 0, .int 0, .int 0, .long 0, .null, .int 0]))] s.heap.size = A at hD hZ ⊢
  have hA : ∀ q : Nat, s.heap.size ≤ q → A q := fun q h => by rw [← hAe]; exact Or.inr h
  have hS : va_S A s.heap s.heap [] := va_S.rf
  have hl := lv_entry ([.ref h]) (n := 1) (Nat.le_of_ble_eq_true rfl)
  rw [lg_entry_eq]
  generalize (lg_sl ([.ref h]) ++ List.replicate (1 - (lg_sl ([.ref h])).length) Slot.unset).toArray = ls at hl ⊢
  have hl : lv_has ls 1 [(0, .ref h)] := hl
  refine lv_aload_n hx hb dS_init_0 rfl (lv_at hl 0 rfl) ?_
  refine W.objInit hx hb hown (hT _ w188) (hT _ w35) (hT _ w36) rfl (by rw [hml]; exact hl.1) rfl dS_init_1 (Nat.le_of_ble_eq_true rfl) (Nat.le_of_ble_eq_true rfl) ?_
  refine W.eq (g2 := F0 m 4 ls []) rfl ?_
  refine lv_aload_n hx hb dS_init_4 rfl (lv_at hl 0 rfl) ?_
  refine va_new (ci := 4) (fs := [.null, .int 0, .int 0]) (C := R_W) (T := T_W) (N := 3) hx hb hT in_W ty_W ty_W_ok hown (hT _ w189) (hT _ w140) (hT _ w5) hK hP hD hS hA rfl (fun j hj => match j, hj with | 0, _ => rfl | 1, _ => rfl | 2, _ => rfl | _ + 3, hj => absurd hj (by omega)) (Nat.le_of_ble_eq_true rfl) (Nat.le_of_ble_eq_true rfl) dS_init_5 (fun q5 H hP hD hS => ?_)
  have hP : va_P D vwCl [(h, .inr (6, [.int 0, .int 0, .int 0, .int 0, .long 0, .null, .int 0])), (q5, .inr (4, [.null, .int 0, .int 0]))] _ := hP
  have hD : va_D A [(h, .inr (6, [.int 0, .int 0, .int 0, .int 0, .long 0, .null, .int 0])), (q5, .inr (4, [.null, .int 0, .int 0]))] := hD
  refine lv_dup hx hb dS_init_8 rfl ?_
  refine lv_bipush (v := 48) hx hb dS_init_9 (by decide) ?_
  refine rw_v (wc := [(q5, .inr (4, [.null, .int 0, .int 0]))]) (wr := [(h, .inr (6, [.int 0, .int 0, .int 0, .int 0, .long 0, .null, .int 0]))]) hP hD hS hA [1] [0] rfl rfl (by decide) (by decide) (va_runI (As := [.int 48]) (rest := [.ref q5, .ref h]) ⟨hx, hb, hml, hown, hT⟩ (k_WholeX48 l D cT q5 _) ⟨callB_of 1 hT (tb_gd w143) rfl rfl rfl (hT _ w5) (hT _ w190) hW_init ⟨Nat.le_of_ble_eq_true rfl, Nat.le_of_ble_eq_true rfl⟩, rfl, (hT _ w142)⟩ (RW.preS hZ hS (va_free (wc := [(q5, .inr (4, [.null, .int 0, .int 0]))]) hD hS hA [1] rfl) (hP.sub (ws' := [(q5, .inr (4, [.null, .int 0, .int 0]))]) [1] rfl) hK (hD.sub (ws' := [(q5, .inr (4, [.null, .int 0, .int 0]))]) [1] (by decide) rfl)) rfl rfl hl.1 rfl (lv_room (Nat.le_of_ble_eq_true rfl)) dS_init_11 ⟨Nat.le_of_ble_eq_true rfl, Nat.le_of_ble_eq_true rfl⟩) (fun u9 H locs hpu1 hP hD hS => ?_)
  obtain ⟨nwu1, rfl⟩ : ∃ q9, q9 = u9 := ⟨_, rfl⟩
  have hpu1 : True := hpu1
  have hP : va_P D vwCl [(h, .inr (6, [.int 0, .int 0, .int 0, .int 0, .long 0, .null, .int 0])), (q5, .inr (4, [.ref nwu1, .int 0, .int 0])), (nwu1, .inl (cT 0, 48, .inl (fun _ => 0)))] _ := hP
  have hD : va_D A [(h, .inr (6, [.int 0, .int 0, .int 0, .int 0, .long 0, .null, .int 0])), (q5, .inr (4, [.ref nwu1, .int 0, .int 0])), (nwu1, .inl (cT 0, 48, .inl (fun _ => 0)))] := hD
  refine va_putF (D := D) (ci := 6) (v := .ref q5) (ty := .object "ResidualTrees$Whole") (C := R_S) (T := T_S) (N := 7) hx hb hT in_S ty_S ty_S_ok m_S hown hK hP hD hS 0 rfl rfl 5 (by decide) (hT _ w196) (fun _ h9 => h9) rfl hin rfl (by decide +kernel) rfl rfl (Nat.le_of_ble_eq_true rfl) dS_init_14 (fun H locs hP hD hS => ?_)
  have hP : va_P D vwCl [(h, .inr (6, [.int 0, .int 0, .int 0, .int 0, .long 0, .ref q5, .int 0])), (q5, .inr (4, [.ref nwu1, .int 0, .int 0])), (nwu1, .inl (cT 0, 48, .inl (fun _ => 0)))] _ := hP
  have hD : va_D A [(h, .inr (6, [.int 0, .int 0, .int 0, .int 0, .long 0, .ref q5, .int 0])), (q5, .inr (4, [.ref nwu1, .int 0, .int 0])), (nwu1, .inl (cT 0, 48, .inl (fun _ => 0)))] := hD
  have hP9 := hP.sub (ws' := [(h, .inr (6, [.int 0, .int 0, .int 0, .int 0, .long 0, .ref q5, .int 0])), (q5, .inr (4, [.ref nwu1, .int 0, .int 0])), (nwu1, .inl (cT 0, 48, .inl (fun _ => 0)))]) [0, 1, 2] rfl
  have hD9 := hD.sub (ws' := [(h, .inr (6, [.int 0, .int 0, .int 0, .int 0, .long 0, .ref q5, .int 0])), (q5, .inr (4, [.ref nwu1, .int 0, .int 0])), (nwu1, .inl (cT 0, 48, .inl (fun _ => 0)))]) [0, 1, 2] (by decide) rfl
  refine W.widen (k := 2) (n := 51) (Nat.le_of_ble_eq_true rfl) (Nat.le_of_ble_eq_true rfl) ?_
  exact W.vret hx hb hr (fun t9 ht9 hW9 => ⟨⟨(q5, nwu1), rfl, (show True from trivial), by rw [ht9]; exact hP9, hD9⟩, hS.F ht9⟩) hS.2.2 dS_init_17
set_option maxHeartbeats 4000000 in
set_option maxRecDepth 100000 in
theorem k_OutX (l : Launch) (D : va_G) (cT : Nat → ClassId) (h : Nat) (sz : Nat) : Met l yO_init WO_init ({ frames := 2, cells := 6, slots := 969, locals := 33 } : Room) (RW D vwCl [.ref h] [(h, .inr (8, [.null, .int 0, .null, .null]))] (TY cT) sz) (va_Qv (fun u9 : Nat × Nat × Nat × Nat × Nat × Nat => True) (BW D vwCl (va_A [(h, .inr (8, [.null, .int 0, .null, .null]))] sz) (fun u9 : Nat × Nat × Nat × Nat × Nat × Nat => [(h, .inr (8, [.ref u9.1, .int 0, .ref u9.2.1, .ref u9.2.2.2.2.1])), (u9.1, .inl (cT 2, 866, .inl (fun _ => 0))), (u9.2.1, .inl (cT 4, 1, .inr (.inr (.inr (.inr (va_up (fun _ => none) 0 (some u9.2.2.1))))))), (u9.2.2.1, .inr (4, [.ref u9.2.2.2.1, .int 0, .int 0])), (u9.2.2.2.1, .inl (cT 0, 48, .inl (fun _ => 0))), (u9.2.2.2.2.1, .inr (4, [.ref u9.2.2.2.2.2, .int 0, .int 0])), (u9.2.2.2.2.2, .inl (cT 0, 48, .inl (fun _ => 0)))])) (va_A [(h, .inr (8, [.null, .int 0, .null, .null]))] sz)) 6 969 (va_A [(h, .inr (8, [.null, .int 0, .null, .null]))] sz) := by
  refine Met.ofW (cc := cO_init) (maxL := 1) (ret := none) (by decide) rfl ?_
  intro p e s m args below meth c s₁ B hml hv
  obtain ⟨rfl, hsz, hZ, hP, hK, hD0⟩ := hv
  have hx := B.exec
  have hb := B.bytes
  have hr := B.returns
  have hts := atoms_spec (ws := WO_init) B.pre
  have hT : ∀ w ∈ TB, w.before _ s = true := fun w h => hts w (List.mem_cons_of_mem _ h)
  have hown : s.vm.findClass R_O = some m.cls := findClass_of_methodNamed B.named
  have hlocks := B.notSynchronized
  have hin : meth.name = "<init>" := (name_of_methodNamed B.named B.method).1
  subst hsz
  have hD := hD0.self (sz := s.heap.size)
  generalize hAe : va_A [(h, .inr (8, [.null, .int 0, .null, .null]))] s.heap.size = A at hD hZ ⊢
  have hA : ∀ q : Nat, s.heap.size ≤ q → A q := fun q h => by rw [← hAe]; exact Or.inr h
  have hS : va_S A s.heap s.heap [] := va_S.rf
  have hl := lv_entry ([.ref h]) (n := 1) (Nat.le_of_ble_eq_true rfl)
  rw [lg_entry_eq]
  generalize (lg_sl ([.ref h]) ++ List.replicate (1 - (lg_sl ([.ref h])).length) Slot.unset).toArray = ls at hl ⊢
  have hl : lv_has ls 1 [(0, .ref h)] := hl
  refine lv_aload_n hx hb dO_init_0 rfl (lv_at hl 0 rfl) ?_
  refine W.objInit hx hb hown (hT _ w285) (hT _ w35) (hT _ w36) rfl (by rw [hml]; exact hl.1) rfl dO_init_1 (Nat.le_of_ble_eq_true rfl) (Nat.le_of_ble_eq_true rfl) ?_
  refine W.eq (g2 := F0 m 4 ls []) rfl ?_
  refine lv_aload_n hx hb dO_init_4 rfl (lv_at hl 0 rfl) ?_
  refine lv_sipush (v := 866) hx hb dO_init_5 (by decide) ?_
  refine nw_a (atype := .byte) (ty := .byte) (a0 := (866, .inl (fun _ => 0))) (N' := 866) hx hb (hT _ w305) rfl hK hP hD hS hA 2 rfl (fun _ => rfl) (by decide +kernel) (by decide +kernel) (by decide +kernel) (Nat.le_of_ble_eq_true rfl) (Nat.le_of_ble_eq_true rfl) dO_init_8 (fun q8 H hP hD hS => ?_)
  have hP : va_P D vwCl [(h, .inr (8, [.null, .int 0, .null, .null])), (q8, .inl (cT 2, 866, .inl (fun _ => 0)))] _ := hP
  have hD : va_D A [(h, .inr (8, [.null, .int 0, .null, .null])), (q8, .inl (cT 2, 866, .inl (fun _ => 0)))] := hD
  refine va_putF (D := D) (ci := 8) (v := .ref q8) (ty := .array .byte) (C := R_O) (T := T_O) (N := 4) hx hb hT in_O ty_O ty_O_ok m_O hown hK hP hD hS 0 rfl rfl 0 (by decide) (hT _ w288) (fun _ h9 => h9) rfl hin rfl (by decide +kernel) rfl rfl (Nat.le_of_ble_eq_true rfl) dO_init_10 (fun H locs hP hD hS => ?_)
  have hP : va_P D vwCl [(h, .inr (8, [.ref q8, .int 0, .null, .null])), (q8, .inl (cT 2, 866, .inl (fun _ => 0)))] _ := hP
  have hD : va_D A [(h, .inr (8, [.ref q8, .int 0, .null, .null])), (q8, .inl (cT 2, 866, .inl (fun _ => 0)))] := hD
  refine lv_aload_n hx hb dO_init_13 rfl (lv_at hl 0 rfl) ?_
  refine lv_iconst (v := 1) hx hb dO_init_14 (by decide) ?_
  refine nw_q (C := "ResidualTrees$Whole") (N' := 1) hx hb hown (hT _ w286) (hZ.1.2.2.2.1 "ResidualTrees$Whole" (List.mem_of_getElem? (i := 1) rfl)) hK hP hD hS hA 4 rfl (by decide +kernel) (by decide +kernel) (by decide +kernel) (Nat.le_of_ble_eq_true rfl) (Nat.le_of_ble_eq_true rfl) dO_init_15 (fun q15 H hP hD hS => ?_)
  have hP : va_P D vwCl [(h, .inr (8, [.ref q8, .int 0, .null, .null])), (q8, .inl (cT 2, 866, .inl (fun _ => 0))), (q15, .inl (cT 4, 1, .inr (.inr (.inr (.inr (fun _ => none))))))] _ := hP
  have hD : va_D A [(h, .inr (8, [.ref q8, .int 0, .null, .null])), (q8, .inl (cT 2, 866, .inl (fun _ => 0))), (q15, .inl (cT 4, 1, .inr (.inr (.inr (.inr (fun _ => none))))))] := hD
  refine lv_dup hx hb dO_init_18 rfl ?_
  refine lv_iconst (v := 0) hx hb dO_init_19 (by decide) ?_
  refine va_new (ci := 4) (fs := [.null, .int 0, .int 0]) (C := R_W) (T := T_W) (N := 3) hx hb hT in_W ty_W ty_W_ok hown (hT _ w286) (hT _ w140) (hT _ w5) hK hP hD hS hA rfl (fun j hj => match j, hj with | 0, _ => rfl | 1, _ => rfl | 2, _ => rfl | _ + 3, hj => absurd hj (by omega)) (Nat.le_of_ble_eq_true rfl) (Nat.le_of_ble_eq_true rfl) dO_init_20 (fun q20 H hP hD hS => ?_)
  have hP : va_P D vwCl [(h, .inr (8, [.ref q8, .int 0, .null, .null])), (q8, .inl (cT 2, 866, .inl (fun _ => 0))), (q15, .inl (cT 4, 1, .inr (.inr (.inr (.inr (fun _ => none)))))), (q20, .inr (4, [.null, .int 0, .int 0]))] _ := hP
  have hD : va_D A [(h, .inr (8, [.ref q8, .int 0, .null, .null])), (q8, .inl (cT 2, 866, .inl (fun _ => 0))), (q15, .inl (cT 4, 1, .inr (.inr (.inr (.inr (fun _ => none)))))), (q20, .inr (4, [.null, .int 0, .int 0]))] := hD
  refine lv_dup hx hb dO_init_23 rfl ?_
  refine lv_bipush (v := 48) hx hb dO_init_24 (by decide) ?_
  refine rw_v (wc := [(q20, .inr (4, [.null, .int 0, .int 0]))]) (wr := [(h, .inr (8, [.ref q8, .int 0, .null, .null])), (q8, .inl (cT 2, 866, .inl (fun _ => 0))), (q15, .inl (cT 4, 1, .inr (.inr (.inr (.inr (fun _ => none))))))]) hP hD hS hA [3] [0, 1, 2] rfl rfl (by decide) (by decide) (va_runI (As := [.int 48]) (rest := [.ref q20, .int 0, .ref q15, .ref q15, .ref h]) ⟨hx, hb, hml, hown, hT⟩ (k_WholeX48 l D cT q20 _) ⟨callB_of 1 hT (tb_gd w143) rfl rfl rfl (hT _ w5) (hT _ w287) hW_init ⟨Nat.le_of_ble_eq_true rfl, Nat.le_of_ble_eq_true rfl⟩, rfl, (hT _ w142)⟩ (RW.preS hZ hS (va_free (wc := [(q20, .inr (4, [.null, .int 0, .int 0]))]) hD hS hA [3] rfl) (hP.sub (ws' := [(q20, .inr (4, [.null, .int 0, .int 0]))]) [3] rfl) hK (hD.sub (ws' := [(q20, .inr (4, [.null, .int 0, .int 0]))]) [3] (by decide) rfl)) rfl rfl hl.1 rfl (lv_room (Nat.le_of_ble_eq_true rfl)) dO_init_26 ⟨Nat.le_of_ble_eq_true rfl, Nat.le_of_ble_eq_true rfl⟩) (fun u9 H locs hpu1 hP hD hS => ?_)
  obtain ⟨nwu1, rfl⟩ : ∃ q9, q9 = u9 := ⟨_, rfl⟩
  have hpu1 : True := hpu1
  have hP : va_P D vwCl [(h, .inr (8, [.ref q8, .int 0, .null, .null])), (q8, .inl (cT 2, 866, .inl (fun _ => 0))), (q15, .inl (cT 4, 1, .inr (.inr (.inr (.inr (fun _ => none)))))), (q20, .inr (4, [.ref nwu1, .int 0, .int 0])), (nwu1, .inl (cT 0, 48, .inl (fun _ => 0)))] _ := hP
  have hD : va_D A [(h, .inr (8, [.ref q8, .int 0, .null, .null])), (q8, .inl (cT 2, 866, .inl (fun _ => 0))), (q15, .inl (cT 4, 1, .inr (.inr (.inr (.inr (fun _ => none)))))), (q20, .inr (4, [.ref nwu1, .int 0, .int 0])), (nwu1, .inl (cT 0, 48, .inl (fun _ => 0)))] := hD
  refine va_astq hx hb hK hP hD hS 2 4 3 4 rfl rfl rfl rfl (by unfold vp_in; decide) dO_init_29 (fun H locs hP hD hS => ?_)
  have hP : va_P D vwCl [(h, .inr (8, [.ref q8, .int 0, .null, .null])), (q8, .inl (cT 2, 866, .inl (fun _ => 0))), (q15, .inl (cT 4, 1, .inr (.inr (.inr (.inr (va_up (fun _ => none) 0 (some q20))))))), (q20, .inr (4, [.ref nwu1, .int 0, .int 0])), (nwu1, .inl (cT 0, 48, .inl (fun _ => 0)))] _ := hP
  have hD : va_D A [(h, .inr (8, [.ref q8, .int 0, .null, .null])), (q8, .inl (cT 2, 866, .inl (fun _ => 0))), (q15, .inl (cT 4, 1, .inr (.inr (.inr (.inr (va_up (fun _ => none) 0 (some q20))))))), (q20, .inr (4, [.ref nwu1, .int 0, .int 0])), (nwu1, .inl (cT 0, 48, .inl (fun _ => 0)))] := hD
  refine va_putF (D := D) (ci := 8) (v := .ref q15) (ty := .array (.object "ResidualTrees$Whole")) (C := R_O) (T := T_O) (N := 4) hx hb hT in_O ty_O ty_O_ok m_O hown hK hP hD hS 0 rfl rfl 2 (by decide) (hT _ w292) (fun _ h9 => h9) rfl hin rfl (by decide +kernel) rfl rfl (Nat.le_of_ble_eq_true rfl) dO_init_30 (fun H locs hP hD hS => ?_)
  have hP : va_P D vwCl [(h, .inr (8, [.ref q8, .int 0, .ref q15, .null])), (q8, .inl (cT 2, 866, .inl (fun _ => 0))), (q15, .inl (cT 4, 1, .inr (.inr (.inr (.inr (va_up (fun _ => none) 0 (some q20))))))), (q20, .inr (4, [.ref nwu1, .int 0, .int 0])), (nwu1, .inl (cT 0, 48, .inl (fun _ => 0)))] _ := hP
  have hD : va_D A [(h, .inr (8, [.ref q8, .int 0, .ref q15, .null])), (q8, .inl (cT 2, 866, .inl (fun _ => 0))), (q15, .inl (cT 4, 1, .inr (.inr (.inr (.inr (va_up (fun _ => none) 0 (some q20))))))), (q20, .inr (4, [.ref nwu1, .int 0, .int 0])), (nwu1, .inl (cT 0, 48, .inl (fun _ => 0)))] := hD
  refine lv_aload_n hx hb dO_init_33 rfl (lv_at hl 0 rfl) ?_
  refine va_new (ci := 4) (fs := [.null, .int 0, .int 0]) (C := R_W) (T := T_W) (N := 3) hx hb hT in_W ty_W ty_W_ok hown (hT _ w286) (hT _ w140) (hT _ w5) hK hP hD hS hA rfl (fun j hj => match j, hj with | 0, _ => rfl | 1, _ => rfl | 2, _ => rfl | _ + 3, hj => absurd hj (by omega)) (Nat.le_of_ble_eq_true rfl) (Nat.le_of_ble_eq_true rfl) dO_init_34 (fun q34 H hP hD hS => ?_)
  have hP : va_P D vwCl [(h, .inr (8, [.ref q8, .int 0, .ref q15, .null])), (q8, .inl (cT 2, 866, .inl (fun _ => 0))), (q15, .inl (cT 4, 1, .inr (.inr (.inr (.inr (va_up (fun _ => none) 0 (some q20))))))), (q20, .inr (4, [.ref nwu1, .int 0, .int 0])), (nwu1, .inl (cT 0, 48, .inl (fun _ => 0))), (q34, .inr (4, [.null, .int 0, .int 0]))] _ := hP
  have hD : va_D A [(h, .inr (8, [.ref q8, .int 0, .ref q15, .null])), (q8, .inl (cT 2, 866, .inl (fun _ => 0))), (q15, .inl (cT 4, 1, .inr (.inr (.inr (.inr (va_up (fun _ => none) 0 (some q20))))))), (q20, .inr (4, [.ref nwu1, .int 0, .int 0])), (nwu1, .inl (cT 0, 48, .inl (fun _ => 0))), (q34, .inr (4, [.null, .int 0, .int 0]))] := hD
  refine lv_dup hx hb dO_init_37 rfl ?_
  refine lv_bipush (v := 48) hx hb dO_init_38 (by decide) ?_
  refine rw_v (wc := [(q34, .inr (4, [.null, .int 0, .int 0]))]) (wr := [(h, .inr (8, [.ref q8, .int 0, .ref q15, .null])), (q8, .inl (cT 2, 866, .inl (fun _ => 0))), (q15, .inl (cT 4, 1, .inr (.inr (.inr (.inr (va_up (fun _ => none) 0 (some q20))))))), (q20, .inr (4, [.ref nwu1, .int 0, .int 0])), (nwu1, .inl (cT 0, 48, .inl (fun _ => 0)))]) hP hD hS hA [5] [0, 1, 2, 3, 4] rfl rfl (by decide) (by decide) (va_runI (As := [.int 48]) (rest := [.ref q34, .ref h]) ⟨hx, hb, hml, hown, hT⟩ (k_WholeX48 l D cT q34 _) ⟨callB_of 1 hT (tb_gd w143) rfl rfl rfl (hT _ w5) (hT _ w287) hW_init ⟨Nat.le_of_ble_eq_true rfl, Nat.le_of_ble_eq_true rfl⟩, rfl, (hT _ w142)⟩ (RW.preS hZ hS (va_free (wc := [(q34, .inr (4, [.null, .int 0, .int 0]))]) hD hS hA [5] rfl) (hP.sub (ws' := [(q34, .inr (4, [.null, .int 0, .int 0]))]) [5] rfl) hK (hD.sub (ws' := [(q34, .inr (4, [.null, .int 0, .int 0]))]) [5] (by decide) rfl)) rfl rfl hl.1 rfl (lv_room (Nat.le_of_ble_eq_true rfl)) dO_init_40 ⟨Nat.le_of_ble_eq_true rfl, Nat.le_of_ble_eq_true rfl⟩) (fun u9 H locs hpu2 hP hD hS => ?_)
  obtain ⟨nwu2, rfl⟩ : ∃ q9, q9 = u9 := ⟨_, rfl⟩
  have hpu2 : True := hpu2
  have hP : va_P D vwCl [(h, .inr (8, [.ref q8, .int 0, .ref q15, .null])), (q8, .inl (cT 2, 866, .inl (fun _ => 0))), (q15, .inl (cT 4, 1, .inr (.inr (.inr (.inr (va_up (fun _ => none) 0 (some q20))))))), (q20, .inr (4, [.ref nwu1, .int 0, .int 0])), (nwu1, .inl (cT 0, 48, .inl (fun _ => 0))), (q34, .inr (4, [.ref nwu2, .int 0, .int 0])), (nwu2, .inl (cT 0, 48, .inl (fun _ => 0)))] _ := hP
  have hD : va_D A [(h, .inr (8, [.ref q8, .int 0, .ref q15, .null])), (q8, .inl (cT 2, 866, .inl (fun _ => 0))), (q15, .inl (cT 4, 1, .inr (.inr (.inr (.inr (va_up (fun _ => none) 0 (some q20))))))), (q20, .inr (4, [.ref nwu1, .int 0, .int 0])), (nwu1, .inl (cT 0, 48, .inl (fun _ => 0))), (q34, .inr (4, [.ref nwu2, .int 0, .int 0])), (nwu2, .inl (cT 0, 48, .inl (fun _ => 0)))] := hD
  refine va_putF (D := D) (ci := 8) (v := .ref q34) (ty := .object "ResidualTrees$Whole") (C := R_O) (T := T_O) (N := 4) hx hb hT in_O ty_O ty_O_ok m_O hown hK hP hD hS 0 rfl rfl 3 (by decide) (hT _ w294) (fun _ h9 => h9) rfl hin rfl (by decide +kernel) rfl rfl (Nat.le_of_ble_eq_true rfl) dO_init_43 (fun H locs hP hD hS => ?_)
  have hP : va_P D vwCl [(h, .inr (8, [.ref q8, .int 0, .ref q15, .ref q34])), (q8, .inl (cT 2, 866, .inl (fun _ => 0))), (q15, .inl (cT 4, 1, .inr (.inr (.inr (.inr (va_up (fun _ => none) 0 (some q20))))))), (q20, .inr (4, [.ref nwu1, .int 0, .int 0])), (nwu1, .inl (cT 0, 48, .inl (fun _ => 0))), (q34, .inr (4, [.ref nwu2, .int 0, .int 0])), (nwu2, .inl (cT 0, 48, .inl (fun _ => 0)))] _ := hP
  have hD : va_D A [(h, .inr (8, [.ref q8, .int 0, .ref q15, .ref q34])), (q8, .inl (cT 2, 866, .inl (fun _ => 0))), (q15, .inl (cT 4, 1, .inr (.inr (.inr (.inr (va_up (fun _ => none) 0 (some q20))))))), (q20, .inr (4, [.ref nwu1, .int 0, .int 0])), (nwu1, .inl (cT 0, 48, .inl (fun _ => 0))), (q34, .inr (4, [.ref nwu2, .int 0, .int 0])), (nwu2, .inl (cT 0, 48, .inl (fun _ => 0)))] := hD
  have hP9 := hP.sub (ws' := [(h, .inr (8, [.ref q8, .int 0, .ref q15, .ref q34])), (q8, .inl (cT 2, 866, .inl (fun _ => 0))), (q15, .inl (cT 4, 1, .inr (.inr (.inr (.inr (va_up (fun _ => none) 0 (some q20))))))), (q20, .inr (4, [.ref nwu1, .int 0, .int 0])), (nwu1, .inl (cT 0, 48, .inl (fun _ => 0))), (q34, .inr (4, [.ref nwu2, .int 0, .int 0])), (nwu2, .inl (cT 0, 48, .inl (fun _ => 0)))]) [0, 1, 2, 3, 4, 5, 6] rfl
  have hD9 := hD.sub (ws' := [(h, .inr (8, [.ref q8, .int 0, .ref q15, .ref q34])), (q8, .inl (cT 2, 866, .inl (fun _ => 0))), (q15, .inl (cT 4, 1, .inr (.inr (.inr (.inr (va_up (fun _ => none) 0 (some q20))))))), (q20, .inr (4, [.ref nwu1, .int 0, .int 0])), (nwu1, .inl (cT 0, 48, .inl (fun _ => 0))), (q34, .inr (4, [.ref nwu2, .int 0, .int 0])), (nwu2, .inl (cT 0, 48, .inl (fun _ => 0)))]) [0, 1, 2, 3, 4, 5, 6] (by decide) rfl
  refine W.widen (k := 6) (n := 969) (Nat.le_of_ble_eq_true rfl) (Nat.le_of_ble_eq_true rfl) ?_
  exact W.vret hx hb hr (fun t9 ht9 hW9 => ⟨⟨(q8, q15, q20, nwu1, q34, nwu2), rfl, (show True from trivial), by rw [ht9]; exact hP9, hD9⟩, hS.F ht9⟩) hS.2.2 dO_init_46
