set_option maxHeartbeats 4000000 in
set_option maxRecDepth 100000 in
theorem k_WholeX (l : Launch) (D : va_G) (cT : Nat → ClassId) (h : Nat) (sz : Nat) : Met l yW_init WW_init ({ frames := 1, cells := 1, slots := 24, locals := 12 } : Room) (RW D vwCl [.ref h, .int 24] [(h, .inr (4, [.null, .int 0, .int 0]))] (TY cT) sz) (va_Qv (fun u9 : Nat => True) (BW D vwCl (va_A [(h, .inr (4, [.null, .int 0, .int 0]))] sz) (fun u9 : Nat => [(h, .inr (4, [.ref u9, .int 0, .int 0])), (u9, .inl (cT 0, 24, .inl (fun _ => 0)))])) (va_A [(h, .inr (4, [.null, .int 0, .int 0]))] sz)) 1 24 (va_A [(h, .inr (4, [.null, .int 0, .int 0]))] sz) := by
  refine Met.ofW (cc := cW_init) (maxL := 2) (ret := none) (by decide) rfl ?_
  intro p e s m args below meth c s₁ B hml hv
  obtain ⟨rfl, hsz, hZ, hP, hK, hD0⟩ := hv
  have hx := B.exec
  have hb := B.bytes
  have hr := B.returns
  have hts := atoms_spec (ws := WW_init) B.pre
  have hT : ∀ w ∈ TB, w.before _ s = true := fun w h => hts w (List.mem_cons_of_mem _ h)
  have hown : s.vm.findClass R_W = some m.cls := findClass_of_methodNamed B.named
  have hlocks := B.notSynchronized
  have hin : meth.name = "<init>" := (name_of_methodNamed B.named B.method).1
  subst hsz
  have hD := hD0.self (sz := s.heap.size)
  generalize hAe : va_A [(h, .inr (4, [.null, .int 0, .int 0]))] s.heap.size = A at hD hZ ⊢
  have hA : ∀ q : Nat, s.heap.size ≤ q → A q := fun q h => by rw [← hAe]; exact Or.inr h
  have hS : va_S A s.heap s.heap [] := va_S.rf
  have hl := lv_entry ([.ref h, .int 24]) (n := 2) (Nat.le_of_ble_eq_true rfl)
  rw [lg_entry_eq]
  generalize (lg_sl ([.ref h, .int 24]) ++ List.replicate (2 - (lg_sl ([.ref h, .int 24])).length) Slot.unset).toArray = ls at hl ⊢
  have hl : lv_has ls 2 [(0, .ref h), (1, .int 24)] := hl
  refine lv_aload_n hx hb dW_init_0 rfl (lv_at hl 0 rfl) ?_
  refine W.objInit hx hb hown (hT _ w144) (hT _ w35) (hT _ w36) rfl (by rw [hml]; exact hl.1) rfl dW_init_1 (Nat.le_of_ble_eq_true rfl) (Nat.le_of_ble_eq_true rfl) ?_
  refine W.eq (g2 := F0 m 4 ls []) rfl ?_
  refine lv_aload_n hx hb dW_init_4 rfl (lv_at hl 0 rfl) ?_
  refine lv_iload_n hx hb dW_init_5 rfl (lv_at hl 1 rfl) ?_
  refine nw_a (atype := .int) (ty := .int) (a0 := (24, .inl (fun _ => 0))) (N' := 24) hx hb (hT _ w72) rfl hK hP hD hS hA 0 rfl (fun _ => rfl) (by decide +kernel) (by decide +kernel) (by decide +kernel) (Nat.le_of_ble_eq_true rfl) (Nat.le_of_ble_eq_true rfl) dW_init_6 (fun q6 H hP hD hS => ?_)
  have hP : va_P D vwCl [(h, .inr (4, [.null, .int 0, .int 0])), (q6, .inl (cT 0, 24, .inl (fun _ => 0)))] _ := hP
  have hD : va_D A [(h, .inr (4, [.null, .int 0, .int 0])), (q6, .inl (cT 0, 24, .inl (fun _ => 0)))] := hD
  refine va_putF (D := D) (ci := 4) (v := .ref q6) (ty := .array .int) (C := R_W) (T := T_W) (N := 3) hx hb hT in_W ty_W ty_W_ok m_W hown hK hP hD hS 0 rfl rfl 0 (by decide) (hT _ w145) (fun _ h9 => h9) rfl hin rfl (by decide +kernel) rfl rfl (Nat.le_of_ble_eq_true rfl) dW_init_8 (fun H locs hP hD hS => ?_)
  have hP : va_P D vwCl [(h, .inr (4, [.ref q6, .int 0, .int 0])), (q6, .inl (cT 0, 24, .inl (fun _ => 0)))] _ := hP
  have hD : va_D A [(h, .inr (4, [.ref q6, .int 0, .int 0])), (q6, .inl (cT 0, 24, .inl (fun _ => 0)))] := hD
  have hP9 := hP.sub (ws' := [(h, .inr (4, [.ref q6, .int 0, .int 0])), (q6, .inl (cT 0, 24, .inl (fun _ => 0)))]) [0, 1] rfl
  have hD9 := hD.sub (ws' := [(h, .inr (4, [.ref q6, .int 0, .int 0])), (q6, .inl (cT 0, 24, .inl (fun _ => 0)))]) [0, 1] (by decide) rfl
  refine W.widen (k := 1) (n := 24) (Nat.le_of_ble_eq_true rfl) (Nat.le_of_ble_eq_true rfl) ?_
  exact W.vret hx hb hr (fun t9 ht9 hW9 => ⟨⟨q6, rfl, (show True from trivial), by rw [ht9]; exact hP9, hD9⟩, hS.F ht9⟩) hS.2.2 dW_init_11
set_option maxHeartbeats 4000000 in
set_option maxRecDepth 100000 in
theorem k_NodeX (l : Launch) (D : va_G) (cT : Nat → ClassId) (h : Nat) (sz : Nat) : Met l yN_init WN_init ({ frames := 2, cells := 2, slots := 27, locals := 33 } : Room) (RW D vwCl [.ref h] [(h, .inr (10, [.int 0, .int 0, .int 0, .int 0, .int 0, .int 0, .int 0, .int 0, .null]))] (TY cT) sz) (va_Qv (fun u9 : Nat × Nat => True) (BW D vwCl (va_A [(h, .inr (10, [.int 0, .int 0, .int 0, .int 0, .int 0, .int 0, .int 0, .int 0, .null]))] sz) (fun u9 : Nat × Nat => [(h, .inr (10, [.int 0, .int 0, .int 0, .int 0, .int 0, .int 0, .int 0, .int 0, .ref u9.1])), (u9.1, .inr (4, [.ref u9.2, .int 0, .int 0])), (u9.2, .inl (cT 0, 24, .inl (fun _ => 0)))])) (va_A [(h, .inr (10, [.int 0, .int 0, .int 0, .int 0, .int 0, .int 0, .int 0, .int 0, .null]))] sz)) 2 27 (va_A [(h, .inr (10, [.int 0, .int 0, .int 0, .int 0, .int 0, .int 0, .int 0, .int 0, .null]))] sz) := by
  refine Met.ofW (cc := cN_init) (maxL := 1) (ret := none) (by decide) rfl ?_
  intro p e s m args below meth c s₁ B hml hv
  obtain ⟨rfl, hsz, hZ, hP, hK, hD0⟩ := hv
  have hx := B.exec
  have hb := B.bytes
  have hr := B.returns
  have hts := atoms_spec (ws := WN_init) B.pre
  have hT : ∀ w ∈ TB, w.before _ s = true := fun w h => hts w (List.mem_cons_of_mem _ h)
  have hown : s.vm.findClass R_N = some m.cls := findClass_of_methodNamed B.named
  have hlocks := B.notSynchronized
  have hin : meth.name = "<init>" := (name_of_methodNamed B.named B.method).1
  subst hsz
  have hD := hD0.self (sz := s.heap.size)
  generalize hAe : va_A [(h, .inr (10, [.int 0, .int 0, .int 0, .int 0, .int 0, .int 0, .int 0, .int 0, .null]))] s.heap.size = A at hD hZ ⊢
  have hA : ∀ q : Nat, s.heap.size ≤ q → A q := fun q h => by rw [← hAe]; exact Or.inr h
  have hS : va_S A s.heap s.heap [] := va_S.rf
  have hl := lv_entry ([.ref h]) (n := 1) (Nat.le_of_ble_eq_true rfl)
  rw [lg_entry_eq]
  generalize (lg_sl ([.ref h]) ++ List.replicate (1 - (lg_sl ([.ref h])).length) Slot.unset).toArray = ls at hl ⊢
  have hl : lv_has ls 1 [(0, .ref h)] := hl
  refine lv_aload_n hx hb dN_init_0 rfl (lv_at hl 0 rfl) ?_
  refine W.objInit hx hb hown (hT _ w826) (hT _ w35) (hT _ w36) rfl (by rw [hml]; exact hl.1) rfl dN_init_1 (Nat.le_of_ble_eq_true rfl) (Nat.le_of_ble_eq_true rfl) ?_
  refine W.eq (g2 := F0 m 4 ls []) rfl ?_
  refine lv_aload_n hx hb dN_init_4 rfl (lv_at hl 0 rfl) ?_
  refine va_new (ci := 4) (fs := [.null, .int 0, .int 0]) (C := R_W) (T := T_W) (N := 3) hx hb hT in_W ty_W ty_W_ok hown (hT _ w827) (hT _ w140) (hT _ w5) hK hP hD hS hA rfl (fun j hj => match j, hj with | 0, _ => rfl | 1, _ => rfl | 2, _ => rfl | _ + 3, hj => absurd hj (by omega)) (Nat.le_of_ble_eq_true rfl) (Nat.le_of_ble_eq_true rfl) dN_init_5 (fun q5 H hP hD hS => ?_)
  have hP : va_P D vwCl [(h, .inr (10, [.int 0, .int 0, .int 0, .int 0, .int 0, .int 0, .int 0, .int 0, .null])), (q5, .inr (4, [.null, .int 0, .int 0]))] _ := hP
  have hD : va_D A [(h, .inr (10, [.int 0, .int 0, .int 0, .int 0, .int 0, .int 0, .int 0, .int 0, .null])), (q5, .inr (4, [.null, .int 0, .int 0]))] := hD
  refine lv_dup hx hb dN_init_8 rfl ?_
  refine lv_bipush (v := 24) hx hb dN_init_9 (by decide) ?_
  refine rw_v (wc := [(q5, .inr (4, [.null, .int 0, .int 0]))]) (wr := [(h, .inr (10, [.int 0, .int 0, .int 0, .int 0, .int 0, .int 0, .int 0, .int 0, .null]))]) hP hD hS hA [1] [0] rfl rfl (by decide) (by decide) (va_runI (As := [.int 24]) (rest := [.ref q5, .ref h]) ⟨hx, hb, hml, hown, hT⟩ (k_WholeX l D cT q5 _) ⟨callB_of 1 hT (tb_gd w143) rfl rfl rfl (hT _ w5) (hT _ w828) hW_init ⟨Nat.le_of_ble_eq_true rfl, Nat.le_of_ble_eq_true rfl⟩, rfl, (hT _ w142)⟩ (RW.preS hZ hS (va_free (wc := [(q5, .inr (4, [.null, .int 0, .int 0]))]) hD hS hA [1] rfl) (hP.sub (ws' := [(q5, .inr (4, [.null, .int 0, .int 0]))]) [1] rfl) hK (hD.sub (ws' := [(q5, .inr (4, [.null, .int 0, .int 0]))]) [1] (by decide) rfl)) rfl rfl hl.1 rfl (lv_room (Nat.le_of_ble_eq_true rfl)) dN_init_11 ⟨Nat.le_of_ble_eq_true rfl, Nat.le_of_ble_eq_true rfl⟩) (fun u9 H locs hpu1 hP hD hS => ?_)
  obtain ⟨nwu1, rfl⟩ : ∃ q9, q9 = u9 := ⟨_, rfl⟩
  have hpu1 : True := hpu1
  have hP : va_P D vwCl [(h, .inr (10, [.int 0, .int 0, .int 0, .int 0, .int 0, .int 0, .int 0, .int 0, .null])), (q5, .inr (4, [.ref nwu1, .int 0, .int 0])), (nwu1, .inl (cT 0, 24, .inl (fun _ => 0)))] _ := hP
  have hD : va_D A [(h, .inr (10, [.int 0, .int 0, .int 0, .int 0, .int 0, .int 0, .int 0, .int 0, .null])), (q5, .inr (4, [.ref nwu1, .int 0, .int 0])), (nwu1, .inl (cT 0, 24, .inl (fun _ => 0)))] := hD
  refine va_putF (D := D) (ci := 10) (v := .ref q5) (ty := .object "ResidualTrees$Whole") (C := R_N) (T := T_N) (N := 9) hx hb hT in_N ty_N ty_N_ok m_N hown hK hP hD hS 0 rfl rfl 8 (by decide) (hT _ w855) (fun _ h9 => h9) rfl hin rfl (by decide +kernel) rfl rfl (Nat.le_of_ble_eq_true rfl) dN_init_14 (fun H locs hP hD hS => ?_)
  have hP : va_P D vwCl [(h, .inr (10, [.int 0, .int 0, .int 0, .int 0, .int 0, .int 0, .int 0, .int 0, .ref q5])), (q5, .inr (4, [.ref nwu1, .int 0, .int 0])), (nwu1, .inl (cT 0, 24, .inl (fun _ => 0)))] _ := hP
  have hD : va_D A [(h, .inr (10, [.int 0, .int 0, .int 0, .int 0, .int 0, .int 0, .int 0, .int 0, .ref q5])), (q5, .inr (4, [.ref nwu1, .int 0, .int 0])), (nwu1, .inl (cT 0, 24, .inl (fun _ => 0)))] := hD
  have hP9 := hP.sub (ws' := [(h, .inr (10, [.int 0, .int 0, .int 0, .int 0, .int 0, .int 0, .int 0, .int 0, .ref q5])), (q5, .inr (4, [.ref nwu1, .int 0, .int 0])), (nwu1, .inl (cT 0, 24, .inl (fun _ => 0)))]) [0, 1, 2] rfl
  have hD9 := hD.sub (ws' := [(h, .inr (10, [.int 0, .int 0, .int 0, .int 0, .int 0, .int 0, .int 0, .int 0, .ref q5])), (q5, .inr (4, [.ref nwu1, .int 0, .int 0])), (nwu1, .inl (cT 0, 24, .inl (fun _ => 0)))]) [0, 1, 2] (by decide) rfl
  refine W.widen (k := 2) (n := 27) (Nat.le_of_ble_eq_true rfl) (Nat.le_of_ble_eq_true rfl) ?_
  exact W.vret hx hb hr (fun t9 ht9 hW9 => ⟨⟨(q5, nwu1), rfl, (show True from trivial), by rw [ht9]; exact hP9, hD9⟩, hS.F ht9⟩) hS.2.2 dN_init_17
