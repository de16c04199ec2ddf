set_option maxHeartbeats 4000000 in
set_option maxRecDepth 100000 in
theorem k_divideOne24 (l : Launch) (D : va_G) (cT : Nat → ClassId) (h : Nat) (ww : Nat) (wb : Int32) (wf : Nat → Int32) (h0 : wf 0 = 1) (sz : Nat) : Met l yW_divide WW_divide ({ frames := 1, cells := 0, slots := 0, locals := 21 } : Room) (RW D vwCl [.ref h, .int 2] [(h, .inr (4, [.ref ww, .int 1, .int wb])), (ww, .inl (cT 0, 24, .inl wf))] (TY cT) sz) (va_Qv (fun _ : Nat → Nat => True) (BW D vwCl (va_A [(h, .inr (4, [.ref ww, .int 1, .int wb])), (ww, .inl (cT 0, 24, .inl wf))] sz) (fun u => [(h, .inr (4, [.ref ww, .int 0, .int wb])), (ww, .inl (cT 0, 24, .inl (upd wf 0 0)))])) (va_A [(h, .inr (4, [.ref ww, .int 1, .int wb])), (ww, .inl (cT 0, 24, .inl wf))] sz)) 0 0 (va_A [(h, .inr (4, [.ref ww, .int 1, .int wb])), (ww, .inl (cT 0, 24, .inl wf))] sz) := by
  refine Met.ofW (cc := cW_divide) (maxL := 7) (ret := none) (by decide) rfl ?_
  intro p e s m args below meth c s₁ B hml hv
  obtain ⟨rfl, hsz, hZ, hP, hK, hD0⟩ := hv
  have hx := B.exec
  have hb := B.bytes
  have hr := B.returns
  have hts := atoms_spec (ws := WW_divide) B.pre
  have hT : ∀ w ∈ TB, w.before _ s = true := fun w h => hts w (List.mem_cons_of_mem _ h)
  have hown : s.vm.findClass R_W = some m.cls := findClass_of_methodNamed B.named
  have hlocks := B.notSynchronized
  subst hsz
  have hD := hD0.self (sz := s.heap.size)
  generalize hAe : va_A [(h, .inr (4, [.ref ww, .int 1, .int wb])), (ww, .inl (cT 0, 24, .inl wf))] s.heap.size = A at hD hZ ⊢
  have hA : ∀ q : Nat, s.heap.size ≤ q → A q := fun q h => by rw [← hAe]; exact Or.inr h
  have hS : va_S A s.heap s.heap [] := va_S.rf
  have hl := lv_entry ([.ref h, .int 2]) (n := 7) (Nat.le_of_ble_eq_true rfl)
  rw [lg_entry_eq]
  generalize (lg_sl ([.ref h, .int 2]) ++ List.replicate (7 - (lg_sl ([.ref h, .int 2])).length) Slot.unset).toArray = ls at hl ⊢
  have hl : lv_has ls 7 [(0, .ref h), (1, .int 2)] := hl
  refine lv_lconst (v := 0) hx hb dW_divide_0 (by decide) ?_
  refine lv_lstore_n hx hb dW_divide_1 rfl hl (by decide) rfl (fun ls hl => ?_)
  have hl : lv_has ls 7 [(2, .long 0), (0, .ref h), (1, .int 2)] := hl
  refine lv_aload_n hx hb dW_divide_2 rfl (lv_at hl 1 rfl) ?_
  refine va_get (D := D) (ci := 4) (v := .int 1) (C := R_W) (T := T_W) (N := 3) hx hb hT in_W hown hK hP 0 rfl rfl 1 (by decide) (hT _ w148) (fun _ h9 => h9) rfl dW_divide_3 ?_
  refine lv_iconst (v := 1) hx hb dW_divide_6 (by decide) ?_
  refine lv_isub hx hb dW_divide_7 ?_
  refine lv_topi (fun y9 e9 => ?_)
  cases (show y9 = 0 from e9.trans (by decide))
  refine lv_istore hx hb dW_divide_8 hl (by decide) rfl (fun ls hl => ?_)
  have hl : lv_has ls 7 [(4, .int 0), (2, .long 0), (0, .ref h), (1, .int 2)] := hl
  refine lv_iload hx hb dW_divide_10 (lv_at hl 0 rfl) ?_
  refine lv_if_lt (tgt := 56) hx hb dW_divide_12 rfl (fun hj1 => absurd hj1 (by decide)) (fun _ => ?_)
  refine lv_lload_n hx hb dW_divide_15 rfl (lv_at hl 1 rfl) ?_
  refine lv_ldc2 (v := 1000000000) hx hb hown (hT _ w421) dW_divide_16 ?_
  refine lv_lmul hx hb dW_divide_19 ?_
  refine lv_topl (fun y9 e9 => ?_)
  cases (show y9 = 0 from e9.trans (by decide))
  refine lv_aload_n hx hb dW_divide_20 rfl (lv_at hl 2 rfl) ?_
  refine va_get (D := D) (ci := 4) (v := .ref ww) (C := R_W) (T := T_W) (N := 3) hx hb hT in_W hown hK hP 0 rfl rfl 0 (by decide) (hT _ w145) (fun _ h9 => h9) rfl dW_divide_21 ?_
  refine lv_iload hx hb dW_divide_24 (lv_at hl 0 rfl) ?_
  refine va_iald hx hb hK hP 1 0 rfl rfl (by unfold vp_in; decide) dW_divide_26 ?_
  refine lv_topi (fun y9 e9 => ?_)
  cases (show y9 = 1 from e9.trans h0)
  refine lv_i2l (v := 1) hx hb dW_divide_27 (by decide) ?_
  refine lv_ladd hx hb dW_divide_28 ?_
  refine lv_topl (fun y9 e9 => ?_)
  cases (show y9 = 1 from e9.trans (by decide))
  refine lv_lstore hx hb dW_divide_29 hl (by decide) rfl (fun ls hl => ?_)
  have hl : lv_has ls 7 [(5, .long 1), (4, .int 0), (2, .long 0), (0, .ref h), (1, .int 2)] := hl
  refine lv_aload_n hx hb dW_divide_31 rfl (lv_at hl 3 rfl) ?_
  refine va_get (D := D) (ci := 4) (v := .ref ww) (C := R_W) (T := T_W) (N := 3) hx hb hT in_W hown hK hP 0 rfl rfl 0 (by decide) (hT _ w145) (fun _ h9 => h9) rfl dW_divide_32 ?_
  refine lv_iload hx hb dW_divide_35 (lv_at hl 1 rfl) ?_
  refine lv_lload hx hb dW_divide_37 (lv_at hl 0 rfl) ?_
  refine lv_iload_n hx hb dW_divide_39 rfl (lv_at hl 4 rfl) ?_
  refine lv_i2l (v := 2) hx hb dW_divide_40 (by decide) ?_
  refine lv_ldiv hx hb dW_divide_41 (by decide) ?_
  refine lv_topl (fun y9 e9 => ?_)
  cases (show y9 = 0 from e9.trans (by decide +kernel))
  refine lv_l2i (v := 0) hx hb dW_divide_42 (by decide) ?_
  refine va_iast hx hb hK hP hD hS 1 0 rfl rfl (by unfold vp_in; decide) dW_divide_43 (fun H locs hP hD hS => ?_)
  have hP : va_P D vwCl [(h, .inr (4, [.ref ww, .int 1, .int wb])), (ww, .inl (cT 0, 24, .inl (upd wf 0 0)))] H := hP
  have hD : va_D A [(h, .inr (4, [.ref ww, .int 1, .int wb])), (ww, .inl (cT 0, 24, .inl (upd wf 0 0)))] := hD
  refine lv_lload hx hb dW_divide_44 (lv_at hl 0 rfl) ?_
  refine lv_iload_n hx hb dW_divide_46 rfl (lv_at hl 4 rfl) ?_
  refine lv_i2l (v := 2) hx hb dW_divide_47 (by decide) ?_
  refine lv_lrem hx hb dW_divide_48 (by decide) ?_
  refine lv_topl (fun y9 e9 => ?_)
  cases (show y9 = 1 from e9.trans (by decide +kernel))
  refine lv_lstore_n hx hb dW_divide_49 rfl hl (by decide) rfl (fun ls hl => ?_)
  have hl : lv_has ls 7 [(2, .long 1), (5, .long 1), (4, .int 0), (0, .ref h), (1, .int 2)] := hl
  refine lv_iinc (k := 2) (v := (-1)) hx hb dW_divide_50 hl rfl (by decide) (by decide) rfl (fun ls hl => ?_)
  have hl : lv_has ls 7 [(4, .int (-1)), (2, .long 1), (5, .long 1), (0, .ref h), (1, .int 2)] := hl
  refine lv_goto (tgt := 10) hx hb dW_divide_53 rfl ?_
  refine lv_iload hx hb dW_divide_10 (lv_at hl 0 rfl) ?_
  refine lv_if_lt (tgt := 56) hx hb dW_divide_12 rfl (fun _ => ?_) (fun hj2 => absurd (by decide) hj2)
  refine lv_aload_n hx hb dW_divide_56 rfl (lv_at hl 3 rfl) ?_
  refine lv_aload_n hx hb dW_divide_57 rfl (lv_at hl 3 rfl) ?_
  refine va_get (D := D) (ci := 4) (v := .int 1) (C := R_W) (T := T_W) (N := 3) hx hb hT in_W hown hK hP 0 rfl rfl 1 (by decide) (hT _ w148) (fun _ h9 => h9) rfl dW_divide_58 ?_
  refine rw_v (wc := [(h, .inr (4, [.ref ww, .int 1, .int wb])), (ww, .inl (cT 0, 24, .inl (upd wf 0 0)))]) (wr := []) hP hD hS hA [0, 1] [] rfl rfl (by decide) (by decide) (va_runV (As := [.int 1]) (rest := []) ⟨hx, hb, hml, hown, hT⟩ (k_trimZ24 l D cT h ww 1 wb (upd wf 0 0) rfl _) ⟨callB_of 1 hT (tb_gd w397) rfl rfl rfl (hT _ w5) (hT _ w394) hW_trim ⟨Nat.le_of_ble_eq_true rfl, Nat.le_of_ble_eq_true rfl⟩, (hT _ w396), (hT _ wp3)⟩ (RW.preV (ci := 4) (q0 := 0) hZ hS (va_free (wc := [(h, .inr (4, [.ref ww, .int 1, .int wb])), (ww, .inl (cT 0, 24, .inl (upd wf 0 0)))]) hD hS hA [0, 1] rfl) (hP.sub (ws' := [(h, .inr (4, [.ref ww, .int 1, .int wb])), (ww, .inl (cT 0, 24, .inl (upd wf 0 0)))]) [0, 1] rfl) hK (hD.sub (ws' := [(h, .inr (4, [.ref ww, .int 1, .int wb])), (ww, .inl (cT 0, 24, .inl (upd wf 0 0)))]) [0, 1] (by decide) rfl) rfl rfl) rfl rfl hl.1 rfl (lv_room (Nat.le_of_ble_eq_true rfl)) dW_divide_61 ⟨Nat.le_of_ble_eq_true rfl, Nat.le_of_ble_eq_true rfl⟩) (fun u3 H locs hpu3 hP hD hS => ?_)
  have hP : va_P D vwCl [(h, .inr (4, [.ref ww, .int 0, .int wb])), (ww, .inl (cT 0, 24, .inl (upd wf 0 0)))] H := hP
  have hD : va_D A [(h, .inr (4, [.ref ww, .int 0, .int wb])), (ww, .inl (cT 0, 24, .inl (upd wf 0 0)))] := hD
  have hP9 := hP.sub (ws' := [(h, .inr (4, [.ref ww, .int 0, .int wb])), (ww, .inl (cT 0, 24, .inl (upd wf 0 0)))]) [0, 1] rfl
  have hD9 := hD.sub (ws' := [(h, .inr (4, [.ref ww, .int 0, .int wb])), (ww, .inl (cT 0, 24, .inl (upd wf 0 0)))]) [0, 1] (by decide) rfl
  refine W.widen (k := 0) (n := 0) (Nat.le_of_ble_eq_true rfl) (Nat.le_of_ble_eq_true rfl) ?_
  exact W.vret hx hb hr (fun t ht hW => ⟨⟨(fun _ => 0), rfl, trivial, by rw [ht]; exact hP9, hD9⟩, hS.F ht⟩) hS.2.2 dW_divide_64
set_option maxHeartbeats 4000000 in
set_option maxRecDepth 100000 in
theorem k_halveAway24 (l : Launch) (D : va_G) (cT : Nat → ClassId) (h : Nat) (ww : Nat) (wb : Int32) (wf : Nat → Int32) (h0 : wf 0 = 1) (sz : Nat) : Met l yW_halveAway WW_halveAway ({ frames := 2, cells := 0, slots := 0, locals := 47 } : Room) (RW D vwCl [.ref h] [(h, .inr (4, [.ref ww, .int 1, .int wb])), (ww, .inl (cT 0, 24, .inl wf))] (TY cT) sz) (va_Qi (fun (r : Int32) (_ : Nat → Nat) => r = 1) (BW D vwCl (va_A [(h, .inr (4, [.ref ww, .int 1, .int wb])), (ww, .inl (cT 0, 24, .inl wf))] sz) (fun u => [(h, .inr (4, [.ref ww, .int 0, .int wb])), (ww, .inl (cT 0, 24, .inl (upd wf 0 0)))])) (va_A [(h, .inr (4, [.ref ww, .int 1, .int wb])), (ww, .inl (cT 0, 24, .inl wf))] sz)) 0 0 (va_A [(h, .inr (4, [.ref ww, .int 1, .int wb])), (ww, .inl (cT 0, 24, .inl wf))] sz) := by
  refine Met.ofW (cc := cW_halveAway) (maxL := 2) (ret := (some .int)) (by decide) rfl ?_
  intro p e s m args below meth c s₁ B hml hv
  obtain ⟨rfl, hsz, hZ, hP, hK, hD0⟩ := hv
  have hx := B.exec
  have hb := B.bytes
  have hr := B.returns
  have hts := atoms_spec (ws := WW_halveAway) B.pre
  have hT : ∀ w ∈ TB, w.before _ s = true := fun w h => hts w (List.mem_cons_of_mem _ h)
  have hown : s.vm.findClass R_W = some m.cls := findClass_of_methodNamed B.named
  have hlocks := B.notSynchronized
  subst hsz
  have hD := hD0.self (sz := s.heap.size)
  generalize hAe : va_A [(h, .inr (4, [.ref ww, .int 1, .int wb])), (ww, .inl (cT 0, 24, .inl wf))] s.heap.size = A at hD hZ ⊢
  have hA : ∀ q : Nat, s.heap.size ≤ q → A q := fun q h => by rw [← hAe]; exact Or.inr h
  have hS : va_S A s.heap s.heap [] := va_S.rf
  have hl := lv_entry ([.ref h]) (n := 2) (Nat.le_of_ble_eq_true rfl)
  rw [lg_entry_eq]
  generalize (lg_sl ([.ref h]) ++ List.replicate (2 - (lg_sl ([.ref h])).length) Slot.unset).toArray = ls at hl ⊢
  have hl : lv_has ls 2 [(0, .ref h)] := hl
  refine lv_iconst (v := 0) hx hb dW_halveAway_0 (by decide) ?_
  refine lv_istore_n hx hb dW_halveAway_1 rfl hl (by decide) rfl (fun ls hl => ?_)
  have hl : lv_has ls 2 [(1, .int 0), (0, .ref h)] := hl
  refine lv_iload_n hx hb dW_halveAway_2 rfl (lv_at hl 0 rfl) ?_
  refine lv_aload_n hx hb dW_halveAway_3 rfl (lv_at hl 1 rfl) ?_
  refine ro_i (va_Run.run (va_runV (As := []) (rest := [.int 0]) ⟨hx, hb, hml, hown, hT⟩ (k_mostBits24 l D cT h ww 1 wb wf) ⟨callB_of 0 hT (tb_gd w975) rfl rfl rfl (hT _ w5) (hT _ w985) hW_mostBits ⟨Nat.le_of_ble_eq_true rfl, Nat.le_of_ble_eq_true rfl⟩, (hT _ w973), (hT _ w974)⟩ (RO.preV (ci := 4) (q0 := 0) hZ hS (hP.sub (ws' := [(h, .inr (4, [.ref ww, .int 1, .int wb])), (ww, .inl (cT 0, 24, .inl wf))]) [0, 1] rfl) hK rfl rfl) rfl rfl hl.1 rfl (lv_room (Nat.le_of_ble_eq_true rfl)) dW_halveAway_4 ⟨Nat.le_of_ble_eq_true rfl, Nat.le_of_ble_eq_true rfl⟩)) ?_
  refine lv_icmp_ge (tgt := 28) hx hb dW_halveAway_7 rfl (fun hj1 => absurd hj1 (by decide)) (fun _ => ?_)
  refine lv_aload_n hx hb dW_halveAway_10 rfl (lv_at hl 1 rfl) ?_
  refine va_get (D := D) (ci := 4) (v := .int 1) (C := R_W) (T := T_W) (N := 3) hx hb hT in_W hown hK hP 0 rfl rfl 1 (by decide) (hT _ w148) (fun _ h9 => h9) rfl dW_halveAway_11 ?_
  refine lv_if_le (tgt := 28) hx hb dW_halveAway_14 rfl (fun hj2 => absurd hj2 (by decide)) (fun _ => ?_)
  refine lv_aload_n hx hb dW_halveAway_17 rfl (lv_at hl 1 rfl) ?_
  refine lv_iconst (v := 2) hx hb dW_halveAway_18 (by decide) ?_
  refine rw_v (wc := [(h, .inr (4, [.ref ww, .int 1, .int wb])), (ww, .inl (cT 0, 24, .inl wf))]) (wr := []) hP hD hS hA [0, 1] [] rfl rfl (by decide) (by decide) (va_runV (As := [.int 2]) (rest := []) ⟨hx, hb, hml, hown, hT⟩ (k_divideOne24 l D cT h ww wb wf h0 _) ⟨callB_of 1 hT (tb_gd w457) rfl rfl rfl (hT _ w5) (hT _ w986) hW_divide ⟨Nat.le_of_ble_eq_true rfl, Nat.le_of_ble_eq_true rfl⟩, (hT _ w455), (hT _ w456)⟩ (RW.preV (ci := 4) (q0 := 0) hZ hS (va_free (wc := [(h, .inr (4, [.ref ww, .int 1, .int wb])), (ww, .inl (cT 0, 24, .inl wf))]) hD hS hA [0, 1] rfl) (hP.sub (ws' := [(h, .inr (4, [.ref ww, .int 1, .int wb])), (ww, .inl (cT 0, 24, .inl wf))]) [0, 1] rfl) hK (hD.sub (ws' := [(h, .inr (4, [.ref ww, .int 1, .int wb])), (ww, .inl (cT 0, 24, .inl wf))]) [0, 1] (by decide) rfl) rfl rfl) rfl rfl hl.1 rfl (lv_room (Nat.le_of_ble_eq_true rfl)) dW_halveAway_19 ⟨Nat.le_of_ble_eq_true rfl, Nat.le_of_ble_eq_true rfl⟩) (fun u3 H locs hpu3 hP hD hS => ?_)
  have hP : va_P D vwCl [(h, .inr (4, [.ref ww, .int 0, .int wb])), (ww, .inl (cT 0, 24, .inl (upd wf 0 0)))] H := hP
  have hD : va_D A [(h, .inr (4, [.ref ww, .int 0, .int wb])), (ww, .inl (cT 0, 24, .inl (upd wf 0 0)))] := hD
  refine lv_iinc (k := 0) (v := 1) hx hb dW_halveAway_22 hl rfl (by decide) (by decide) rfl (fun ls hl => ?_)
  have hl : lv_has ls 2 [(1, .int 1), (0, .ref h)] := hl
  refine lv_goto (tgt := 2) hx hb dW_halveAway_25 rfl ?_
  refine lv_iload_n hx hb dW_halveAway_2 rfl (lv_at hl 0 rfl) ?_
  refine lv_aload_n hx hb dW_halveAway_3 rfl (lv_at hl 1 rfl) ?_
  refine ro_i (va_Run.run (va_runV (As := []) (rest := [.int 1]) ⟨hx, hb, hml, hown, hT⟩ (k_mostBits24 l D cT h ww 0 wb (upd wf 0 0)) ⟨callB_of 0 hT (tb_gd w975) rfl rfl rfl (hT _ w5) (hT _ w985) hW_mostBits ⟨Nat.le_of_ble_eq_true rfl, Nat.le_of_ble_eq_true rfl⟩, (hT _ w973), (hT _ w974)⟩ (RO.preV (ci := 4) (q0 := 0) hZ hS (hP.sub (ws' := [(h, .inr (4, [.ref ww, .int 0, .int wb])), (ww, .inl (cT 0, 24, .inl (upd wf 0 0)))]) [0, 1] rfl) hK rfl rfl) rfl rfl hl.1 rfl (lv_room (Nat.le_of_ble_eq_true rfl)) dW_halveAway_4 ⟨Nat.le_of_ble_eq_true rfl, Nat.le_of_ble_eq_true rfl⟩)) ?_
  refine lv_icmp_ge (tgt := 28) hx hb dW_halveAway_7 rfl (fun hj4 => absurd hj4 (by decide)) (fun _ => ?_)
  refine lv_aload_n hx hb dW_halveAway_10 rfl (lv_at hl 1 rfl) ?_
  refine va_get (D := D) (ci := 4) (v := .int 0) (C := R_W) (T := T_W) (N := 3) hx hb hT in_W hown hK hP 0 rfl rfl 1 (by decide) (hT _ w148) (fun _ h9 => h9) rfl dW_halveAway_11 ?_
  refine lv_if_le (tgt := 28) hx hb dW_halveAway_14 rfl (fun _ => ?_) (fun hj5 => absurd (by decide) hj5)
  refine lv_iload_n hx hb dW_halveAway_28 rfl (lv_at hl 0 rfl) ?_
  have hP9 := hP.sub (ws' := [(h, .inr (4, [.ref ww, .int 0, .int wb])), (ww, .inl (cT 0, 24, .inl (upd wf 0 0)))]) [0, 1] rfl
  have hD9 := hD.sub (ws' := [(h, .inr (4, [.ref ww, .int 0, .int wb])), (ww, .inl (cT 0, 24, .inl (upd wf 0 0)))]) [0, 1] (by decide) rfl
  refine W.widen (k := 0) (n := 0) (Nat.le_of_ble_eq_true rfl) (Nat.le_of_ble_eq_true rfl) ?_
  exact W.iret (v := 1) hx hb hr (fun t ht hW => ⟨⟨1, (fun _ => 0), rfl, rfl, by rw [ht]; exact hP9, hD9⟩, hS.F ht⟩) hS.2.2 dW_halveAway_29
set_option maxHeartbeats 4000000 in
set_option maxRecDepth 100000 in
theorem k_turn0 (l : Launch) (D : va_G) (cT : Nat → ClassId) (h : Nat) (ww : Nat) (wl : Int32) (sz : Nat) : Met l yW_turn WW_turn ({ frames := 0, cells := 0, slots := 0, locals := 0 } : Room) (RW D vwCl [.ref h] [(h, .inr (4, [.ref ww, .int wl, .int 0]))] (TY cT) sz) (va_Qv (fun _ : Nat → Nat => True) (BW D vwCl (va_A [(h, .inr (4, [.ref ww, .int wl, .int 0]))] sz) (fun u => [(h, .inr (4, [.ref ww, .int wl, .int 1]))])) (va_A [(h, .inr (4, [.ref ww, .int wl, .int 0]))] sz)) 0 0 (va_A [(h, .inr (4, [.ref ww, .int wl, .int 0]))] sz) := by
  refine Met.ofW (cc := cW_turn) (maxL := 1) (ret := none) (by decide) rfl ?_
  intro p e s m args below meth c s₁ B hml hv
  obtain ⟨rfl, hsz, hZ, hP, hK, hD0⟩ := hv
  have hx := B.exec
  have hb := B.bytes
  have hr := B.returns
  have hts := atoms_spec (ws := WW_turn) B.pre
  have hT : ∀ w ∈ TB, w.before _ s = true := fun w h => hts w (List.mem_cons_of_mem _ h)
  have hown : s.vm.findClass R_W = some m.cls := findClass_of_methodNamed B.named
  have hlocks := B.notSynchronized
  subst hsz
  have hD := hD0.self (sz := s.heap.size)
  generalize hAe : va_A [(h, .inr (4, [.ref ww, .int wl, .int 0]))] s.heap.size = A at hD hZ ⊢
  have hA : ∀ q : Nat, s.heap.size ≤ q → A q := fun q h => by rw [← hAe]; exact Or.inr h
  have hS : va_S A s.heap s.heap [] := va_S.rf
  have hl := lv_entry ([.ref h]) (n := 1) (Nat.le_of_ble_eq_true rfl)
  rw [lg_entry_eq]
  generalize (lg_sl ([.ref h]) ++ List.replicate (1 - (lg_sl ([.ref h])).length) Slot.unset).toArray = ls at hl ⊢
  have hl : lv_has ls 1 [(0, .ref h)] := hl
  refine lv_aload_n hx hb dW_turn_0 rfl (lv_at hl 0 rfl) ?_
  refine lv_aload_n hx hb dW_turn_1 rfl (lv_at hl 0 rfl) ?_
  refine va_get (D := D) (ci := 4) (v := .int 0) (C := R_W) (T := T_W) (N := 3) hx hb hT in_W hown hK hP 0 rfl rfl 2 (by decide) (hT _ w149) (fun _ h9 => h9) rfl dW_turn_2 ?_
  refine lv_if_ne (tgt := 12) hx hb dW_turn_5 rfl (fun hj1 => absurd (by decide) hj1) (fun _ => ?_)
  refine lv_iconst (v := 1) hx hb dW_turn_8 (by decide) ?_
  refine lv_goto (tgt := 13) hx hb dW_turn_9 rfl ?_
  refine va_put (D := D) (ci := 4) (v := .int 1) (ty := .boolean) (C := R_W) (T := T_W) (N := 3) hx hb hT in_W ty_W ty_W_ok m_W hown hK hP hD hS 0 rfl rfl 2 (by decide) (hT _ w149) (fun _ h9 => h9) rfl (by decide +kernel) rfl rfl (Nat.le_of_ble_eq_true rfl) dW_turn_13 (fun H locs hP hD hS => ?_)
  have hP : va_P D vwCl [(h, .inr (4, [.ref ww, .int wl, .int 1]))] H := hP
  have hD : va_D A [(h, .inr (4, [.ref ww, .int wl, .int 1]))] := hD
  have hP9 := hP.sub (ws' := [(h, .inr (4, [.ref ww, .int wl, .int 1]))]) [0] rfl
  have hD9 := hD.sub (ws' := [(h, .inr (4, [.ref ww, .int wl, .int 1]))]) [0] (by decide) rfl
  refine W.widen (k := 0) (n := 0) (Nat.le_of_ble_eq_true rfl) (Nat.le_of_ble_eq_true rfl) ?_
  exact W.vret hx hb hr (fun t ht hW => ⟨⟨(fun _ => 0), rfl, trivial, by rw [ht]; exact hP9, hD9⟩, hS.F ht⟩) hS.2.2 dW_turn_16
set_option maxHeartbeats 4000000 in
set_option maxRecDepth 100000 in
theorem k_sign0 (l : Launch) (D : va_G) (cT : Nat → ClassId) (h : Nat) (ww : Nat) (wb : Int32) : Met l yW_sign WW_sign ({ frames := 0, cells := 0, slots := 0, locals := 0 } : Room) (RO D vwCl [.ref h] [(h, .inr (4, [.ref ww, .int 0, .int wb]))] (TY cT)) (QcRead 0) 0 0 (fun _ => False) := by
  refine Met.ofW (cc := cW_sign) (maxL := 1) (ret := (some .int)) (by decide) rfl ?_
  intro p e s m args below meth c s₁ B hml hv
  obtain ⟨rfl, hZ, hP, hK⟩ := hv
  have hx := B.exec
  have hb := B.bytes
  have hr := B.returns
  have hts := atoms_spec (ws := WW_sign) B.pre
  have hT : ∀ w ∈ TB, w.before _ s = true := fun w h => hts w (List.mem_cons_of_mem _ h)
  have hown : s.vm.findClass R_W = some m.cls := findClass_of_methodNamed B.named
  have hlocks := B.notSynchronized
  have hS : va_S (fun _ => False) s.heap s.heap [] := va_S.rf
  have hl := lv_entry ([.ref h]) (n := 1) (Nat.le_of_ble_eq_true rfl)
  rw [lg_entry_eq]
  generalize (lg_sl ([.ref h]) ++ List.replicate (1 - (lg_sl ([.ref h])).length) Slot.unset).toArray = ls at hl ⊢
  have hl : lv_has ls 1 [(0, .ref h)] := hl
  refine lv_aload_n hx hb dW_sign_0 rfl (lv_at hl 0 rfl) ?_
  refine va_get (D := D) (ci := 4) (v := .int 0) (C := R_W) (T := T_W) (N := 3) hx hb hT in_W hown hK hP 0 rfl rfl 1 (by decide) (hT _ w148) (fun _ h9 => h9) rfl dW_sign_1 ?_
  refine lv_if_ne (tgt := 11) hx hb dW_sign_4 rfl (fun hj1 => absurd (by decide) hj1) (fun _ => ?_)
  refine lv_iconst (v := 0) hx hb dW_sign_7 (by decide) ?_
  refine lv_goto (tgt := 23) hx hb dW_sign_8 rfl ?_
  exact W.iret (v := 0) hx hb hr (fun t ht hW => ⟨rfl, ht⟩) (fun q h => nomatch h) dW_sign_23
set_option maxHeartbeats 4000000 in
set_option maxRecDepth 100000 in
theorem k_setb0 (l : Launch) (D : va_G) (cT : Nat → ClassId) (h : Nat) (ww : Nat) (o : Nat) (ov : Nat) (wl : Int32) (wb : Int32) (wf : Nat → Int32) (og : Nat → Int32) (sz : Nat) : Met l yW_setb WW_setb ({ frames := 1, cells := 0, slots := 0, locals := 40 } : Room) (RW D vwCl [.ref h, .ref o] [(h, .inr (4, [.ref ww, .int wl, .int wb])), (ww, .inl (cT 0, 48, .inl wf)), (o, .inr (4, [.ref ov, .int 0, .int 0])), (ov, .inl (cT 0, 48, .inl og))] (TY cT) sz) (va_Qv (fun _ : Nat → Nat => True) (BW D vwCl (va_A [(h, .inr (4, [.ref ww, .int wl, .int wb])), (ww, .inl (cT 0, 48, .inl wf)), (o, .inr (4, [.ref ov, .int 0, .int 0])), (ov, .inl (cT 0, 48, .inl og))] sz) (fun u => [(h, .inr (4, [.ref ww, .int 0, .int 0])), (ww, .inl (cT 0, 48, .inl (va_cpy og wf 0 0 0))), (o, .inr (4, [.ref ov, .int 0, .int 0])), (ov, .inl (cT 0, 48, .inl og))])) (va_A [(h, .inr (4, [.ref ww, .int wl, .int wb])), (ww, .inl (cT 0, 48, .inl wf)), (o, .inr (4, [.ref ov, .int 0, .int 0])), (ov, .inl (cT 0, 48, .inl og))] sz)) 0 0 (va_A [(h, .inr (4, [.ref ww, .int wl, .int wb])), (ww, .inl (cT 0, 48, .inl wf)), (o, .inr (4, [.ref ov, .int 0, .int 0])), (ov, .inl (cT 0, 48, .inl og))] sz) := by
  refine Met.ofW (cc := cW_setb) (maxL := 2) (ret := none) (by decide) rfl ?_
  intro p e s m args below meth c s₁ B hml hv
  obtain ⟨rfl, hsz, hZ, hP, hK, hD0⟩ := hv
  have hx := B.exec
  have hb := B.bytes
  have hr := B.returns
  have hts := atoms_spec (ws := WW_setb) B.pre
  have hT : ∀ w ∈ TB, w.before _ s = true := fun w h => hts w (List.mem_cons_of_mem _ h)
  have hown : s.vm.findClass R_W = some m.cls := findClass_of_methodNamed B.named
  have hlocks := B.notSynchronized
  subst hsz
  have hD := hD0.self (sz := s.heap.size)
  generalize hAe : va_A [(h, .inr (4, [.ref ww, .int wl, .int wb])), (ww, .inl (cT 0, 48, .inl wf)), (o, .inr (4, [.ref ov, .int 0, .int 0])), (ov, .inl (cT 0, 48, .inl og))] s.heap.size = A at hD hZ ⊢
  have hA : ∀ q : Nat, s.heap.size ≤ q → A q := fun q h => by rw [← hAe]; exact Or.inr h
  have hS : va_S A s.heap s.heap [] := va_S.rf
  have hl := lv_entry ([.ref h, .ref o]) (n := 2) (Nat.le_of_ble_eq_true rfl)
  rw [lg_entry_eq]
  generalize (lg_sl ([.ref h, .ref o]) ++ List.replicate (2 - (lg_sl ([.ref h, .ref o])).length) Slot.unset).toArray = ls at hl ⊢
  have hl : lv_has ls 2 [(0, .ref h), (1, .ref o)] := hl
  refine lv_aload_n hx hb dW_setb_0 rfl (lv_at hl 0 rfl) ?_
  refine lv_aload_n hx hb dW_setb_1 rfl (lv_at hl 1 rfl) ?_
  refine va_get (D := D) (ci := 4) (v := .int 0) (C := R_W) (T := T_W) (N := 3) hx hb hT in_W hown hK hP 2 rfl rfl 1 (by decide) (hT _ w148) (fun _ h9 => h9) rfl dW_setb_2 ?_
  refine lv_aload_n hx hb dW_setb_5 rfl (lv_at hl 0 rfl) ?_
  refine va_get (D := D) (ci := 4) (v := .ref ww) (C := R_W) (T := T_W) (N := 3) hx hb hT in_W hown hK hP 0 rfl rfl 0 (by decide) (hT _ w145) (fun _ h9 => h9) rfl dW_setb_6 ?_
  refine va_alen (v := 48) hx hb hK hP 1 0 rfl rfl rfl dW_setb_9 ?_
  refine va_mmin hx hb (hml.trans hl.1.symm) hown (hT _ w447) (hT _ w448) (hT _ w22) (hT _ w449) (Nat.le_of_ble_eq_true rfl) (Nat.le_of_ble_eq_true rfl) (Nat.le_of_ble_eq_true rfl) (Nat.le_of_ble_eq_true rfl) dW_setb_10 ?_
  refine lv_topi (fun y9 e9 => ?_)
  cases (show y9 = 0 from e9.trans (by decide))
  refine va_put (D := D) (ci := 4) (v := .int 0) (ty := .int) (C := R_W) (T := T_W) (N := 3) hx hb hT in_W ty_W ty_W_ok m_W hown hK hP hD hS 0 rfl rfl 1 (by decide) (hT _ w148) (fun _ h9 => h9) rfl (by decide +kernel) rfl rfl (Nat.le_of_ble_eq_true rfl) dW_setb_13 (fun H locs hP hD hS => ?_)
  have hP : va_P D vwCl [(h, .inr (4, [.ref ww, .int 0, .int wb])), (ww, .inl (cT 0, 48, .inl wf)), (o, .inr (4, [.ref ov, .int 0, .int 0])), (ov, .inl (cT 0, 48, .inl og))] H := hP
  have hD : va_D A [(h, .inr (4, [.ref ww, .int 0, .int wb])), (ww, .inl (cT 0, 48, .inl wf)), (o, .inr (4, [.ref ov, .int 0, .int 0])), (ov, .inl (cT 0, 48, .inl og))] := hD
  refine lv_aload_n hx hb dW_setb_16 rfl (lv_at hl 1 rfl) ?_
  refine va_get (D := D) (ci := 4) (v := .ref ov) (C := R_W) (T := T_W) (N := 3) hx hb hT in_W hown hK hP 2 rfl rfl 0 (by decide) (hT _ w145) (fun _ h9 => h9) rfl dW_setb_17 ?_
  refine lv_iconst (v := 0) hx hb dW_setb_20 (by decide) ?_
  refine lv_aload_n hx hb dW_setb_21 rfl (lv_at hl 0 rfl) ?_
  refine va_get (D := D) (ci := 4) (v := .ref ww) (C := R_W) (T := T_W) (N := 3) hx hb hT in_W hown hK hP 0 rfl rfl 0 (by decide) (hT _ w145) (fun _ h9 => h9) rfl dW_setb_22 ?_
  refine lv_iconst (v := 0) hx hb dW_setb_25 (by decide) ?_
  refine lv_aload_n hx hb dW_setb_26 rfl (lv_at hl 0 rfl) ?_
  refine va_get (D := D) (ci := 4) (v := .int 0) (C := R_W) (T := T_W) (N := 3) hx hb hT in_W hown hK hP 0 rfl rfl 1 (by decide) (hT _ w148) (fun _ h9 => h9) rfl dW_setb_27 ?_
  refine va_copyi (ty := .int) hx hb (hml.trans hl.1.symm) hown (hT _ w450) (hT _ w452) (hT _ w451) (hT _ w23) hK hP hD hS 3 1 0 0 rfl rfl rfl rfl rfl (by decide) (by decide) (by decide) (by decide) (by decide) (fun i _ => rfl) (Nat.le_of_ble_eq_true rfl) (by decide) dW_setb_30 (fun H locs hP hD hS => ?_)
  have hP : va_P D vwCl [(h, .inr (4, [.ref ww, .int 0, .int wb])), (ww, .inl (cT 0, 48, .inl (va_cpy og wf 0 0 0))), (o, .inr (4, [.ref ov, .int 0, .int 0])), (ov, .inl (cT 0, 48, .inl og))] H := hP
  have hD : va_D A [(h, .inr (4, [.ref ww, .int 0, .int wb])), (ww, .inl (cT 0, 48, .inl (va_cpy og wf 0 0 0))), (o, .inr (4, [.ref ov, .int 0, .int 0])), (ov, .inl (cT 0, 48, .inl og))] := hD
  refine lv_aload_n hx hb dW_setb_33 rfl (lv_at hl 0 rfl) ?_
  refine lv_aload_n hx hb dW_setb_34 rfl (lv_at hl 1 rfl) ?_
  refine va_get (D := D) (ci := 4) (v := .int 0) (C := R_W) (T := T_W) (N := 3) hx hb hT in_W hown hK hP 2 rfl rfl 2 (by decide) (hT _ w149) (fun _ h9 => h9) rfl dW_setb_35 ?_
  refine va_put (D := D) (ci := 4) (v := .int 0) (ty := .boolean) (C := R_W) (T := T_W) (N := 3) hx hb hT in_W ty_W ty_W_ok m_W hown hK hP hD hS 0 rfl rfl 2 (by decide) (hT _ w149) (fun _ h9 => h9) rfl (by decide +kernel) rfl rfl (Nat.le_of_ble_eq_true rfl) dW_setb_38 (fun H locs hP hD hS => ?_)
  have hP : va_P D vwCl [(h, .inr (4, [.ref ww, .int 0, .int 0])), (ww, .inl (cT 0, 48, .inl (va_cpy og wf 0 0 0))), (o, .inr (4, [.ref ov, .int 0, .int 0])), (ov, .inl (cT 0, 48, .inl og))] H := hP
  have hD : va_D A [(h, .inr (4, [.ref ww, .int 0, .int 0])), (ww, .inl (cT 0, 48, .inl (va_cpy og wf 0 0 0))), (o, .inr (4, [.ref ov, .int 0, .int 0])), (ov, .inl (cT 0, 48, .inl og))] := hD
  have hP9 := hP.sub (ws' := [(h, .inr (4, [.ref ww, .int 0, .int 0])), (ww, .inl (cT 0, 48, .inl (va_cpy og wf 0 0 0))), (o, .inr (4, [.ref ov, .int 0, .int 0])), (ov, .inl (cT 0, 48, .inl og))]) [0, 1, 2, 3] rfl
  have hD9 := hD.sub (ws' := [(h, .inr (4, [.ref ww, .int 0, .int 0])), (ww, .inl (cT 0, 48, .inl (va_cpy og wf 0 0 0))), (o, .inr (4, [.ref ov, .int 0, .int 0])), (ov, .inl (cT 0, 48, .inl og))]) [0, 1, 2, 3] (by decide) rfl
  refine W.widen (k := 0) (n := 0) (Nat.le_of_ble_eq_true rfl) (Nat.le_of_ble_eq_true rfl) ?_
  exact W.vret hx hb hr (fun t ht hW => ⟨⟨(fun _ => 0), rfl, trivial, by rw [ht]; exact hP9, hD9⟩, hS.F ht⟩) hS.2.2 dW_setb_41
set_option maxHeartbeats 4000000 in
set_option maxRecDepth 100000 in
theorem k_rangeCheck (l : Launch) (D : va_G) (cT : Nat → ClassId) : Met l yAr_rangeCheck WAr_rangeCheck ({ frames := 0, cells := 0, slots := 0, locals := 0 } : Room) (RO D vwCl [.int 48, .int 0, .int 2] [] (TY cT)) (QcReadV) 0 0 (fun _ => False) := by
  refine Met.ofW (cc := cAr_rangeCheck) (maxL := 3) (ret := none) (by decide) rfl ?_
  intro p e s m args below meth c s₁ B hml hv
  obtain ⟨rfl, hZ, hP, hK⟩ := hv
  have hx := B.exec
  have hb := B.bytes
  have hr := B.returns
  have hts := atoms_spec (ws := WAr_rangeCheck) B.pre
  have hT : ∀ w ∈ TB, w.before _ s = true := fun w h => hts w (List.mem_cons_of_mem _ h)
  have hown : s.vm.findClass R_Ar = some m.cls := findClass_of_methodNamed B.named
  have hlocks := B.notSynchronized
  have hS : va_S (fun _ => False) s.heap s.heap [] := va_S.rf
  have hl := lv_entry ([.int 48, .int 0, .int 2]) (n := 3) (Nat.le_of_ble_eq_true rfl)
  rw [lg_entry_eq]
  generalize (lg_sl ([.int 48, .int 0, .int 2]) ++ List.replicate (3 - (lg_sl ([.int 48, .int 0, .int 2])).length) Slot.unset).toArray = ls at hl ⊢
  have hl : lv_has ls 3 [(0, .int 48), (1, .int 0), (2, .int 2)] := hl
  refine lv_iload_n hx hb dAr_rangeCheck_0 rfl (lv_at hl 1 rfl) ?_
  refine lv_iload_n hx hb dAr_rangeCheck_1 rfl (lv_at hl 2 rfl) ?_
  refine lv_icmp_le (tgt := 46) hx hb dAr_rangeCheck_2 rfl (fun _ => ?_) (fun hj1 => absurd (by decide) hj1)
  refine lv_iload_n hx hb dAr_rangeCheck_46 rfl (lv_at hl 1 rfl) ?_
  refine lv_if_ge (tgt := 59) hx hb dAr_rangeCheck_47 rfl (fun _ => ?_) (fun hj2 => absurd (by decide) hj2)
  refine lv_iload_n hx hb dAr_rangeCheck_59 rfl (lv_at hl 2 rfl) ?_
  refine lv_iload_n hx hb dAr_rangeCheck_60 rfl (lv_at hl 0 rfl) ?_
  refine lv_icmp_le (tgt := 73) hx hb dAr_rangeCheck_61 rfl (fun _ => ?_) (fun hj3 => absurd (by decide) hj3)
  exact W.vret hx hb hr (fun t ht hW => ⟨rfl, ht⟩) (fun q h => nomatch h) dAr_rangeCheck_73
set_option maxHeartbeats 4000000 in
set_option maxRecDepth 100000 in
theorem k_fill2 (l : Launch) (D : va_G) (cT : Nat → ClassId) (ww : Nat) (wf : Nat → Int32) (sz : Nat) : Met l yAr_fill WAr_fill ({ frames := 1, cells := 0, slots := 0, locals := 22 } : Room) (RW D vwCl [.ref ww, .int 0, .int 2, .int 0] [(ww, .inl (cT 0, 48, .inl wf))] (TY cT) sz) (va_Qv (fun _ : Nat → Nat => True) (BW D vwCl (va_A [(ww, .inl (cT 0, 48, .inl wf))] sz) (fun u => [(ww, .inl (cT 0, 48, .inl (upd (upd wf 0 0) 1 0)))])) (va_A [(ww, .inl (cT 0, 48, .inl wf))] sz)) 0 0 (va_A [(ww, .inl (cT 0, 48, .inl wf))] sz) := by
  refine Met.ofW (cc := cAr_fill) (maxL := 5) (ret := none) (by decide) rfl ?_
  intro p e s m args below meth c s₁ B hml hv
  obtain ⟨rfl, hsz, hZ, hP, hK, hD0⟩ := hv
  have hx := B.exec
  have hb := B.bytes
  have hr := B.returns
  have hts := atoms_spec (ws := WAr_fill) B.pre
  have hT : ∀ w ∈ TB, w.before _ s = true := fun w h => hts w (List.mem_cons_of_mem _ h)
  have hown : s.vm.findClass R_Ar = some m.cls := findClass_of_methodNamed B.named
  have hlocks := B.notSynchronized
  subst hsz
  have hD := hD0.self (sz := s.heap.size)
  generalize hAe : va_A [(ww, .inl (cT 0, 48, .inl wf))] s.heap.size = A at hD hZ ⊢
  have hA : ∀ q : Nat, s.heap.size ≤ q → A q := fun q h => by rw [← hAe]; exact Or.inr h
  have hS : va_S A s.heap s.heap [] := va_S.rf
  have hl := lv_entry ([.ref ww, .int 0, .int 2, .int 0]) (n := 5) (Nat.le_of_ble_eq_true rfl)
  rw [lg_entry_eq]
  generalize (lg_sl ([.ref ww, .int 0, .int 2, .int 0]) ++ List.replicate (5 - (lg_sl ([.ref ww, .int 0, .int 2, .int 0])).length) Slot.unset).toArray = ls at hl ⊢
  have hl : lv_has ls 5 [(0, .ref ww), (1, .int 0), (2, .int 2), (3, .int 0)] := hl
  refine lv_aload_n hx hb dAr_fill_0 rfl (lv_at hl 0 rfl) ?_
  refine va_alen (v := 48) hx hb hK hP 0 0 rfl rfl rfl dAr_fill_1 ?_
  refine lv_iload_n hx hb dAr_fill_2 rfl (lv_at hl 1 rfl) ?_
  refine lv_iload_n hx hb dAr_fill_3 rfl (lv_at hl 2 rfl) ?_
  refine ro_v (va_Run.run (va_runS (As := [.int 48, .int 0, .int 2]) (rest := []) ⟨hx, hb, hml, hown, hT⟩ (k_rangeCheck l D cT ) ⟨callB_of 3 hT (tb_gd w480) rfl rfl rfl (hT _ w26) (hT _ w478) hAr_rangeCheck ⟨Nat.le_of_ble_eq_true rfl, Nat.le_of_ble_eq_true rfl⟩, (hT _ w479)⟩ (RO.preS hZ hS ((show va_P D vwCl [] _ from fun _ _ h => nomatch h)) hK) rfl rfl hl.1 rfl (lv_room (Nat.le_of_ble_eq_true rfl)) dAr_fill_4 ⟨Nat.le_of_ble_eq_true rfl, Nat.le_of_ble_eq_true rfl⟩)) ?_
  refine lv_iload_n hx hb dAr_fill_7 rfl (lv_at hl 1 rfl) ?_
  refine lv_istore hx hb dAr_fill_8 hl (by decide) rfl (fun ls hl => ?_)
  have hl : lv_has ls 5 [(4, .int 0), (0, .ref ww), (1, .int 0), (2, .int 2), (3, .int 0)] := hl
  refine lv_iload hx hb dAr_fill_10 (lv_at hl 0 rfl) ?_
  refine lv_iload_n hx hb dAr_fill_12 rfl (lv_at hl 3 rfl) ?_
  refine lv_icmp_ge (tgt := 27) hx hb dAr_fill_13 rfl (fun hj1 => absurd hj1 (by decide)) (fun _ => ?_)
  refine lv_aload_n hx hb dAr_fill_16 rfl (lv_at hl 1 rfl) ?_
  refine lv_iload hx hb dAr_fill_17 (lv_at hl 0 rfl) ?_
  refine lv_iload_n hx hb dAr_fill_19 rfl (lv_at hl 4 rfl) ?_
  refine va_iast hx hb hK hP hD hS 0 0 rfl rfl (by unfold vp_in; decide) dAr_fill_20 (fun H locs hP hD hS => ?_)
  have hP : va_P D vwCl [(ww, .inl (cT 0, 48, .inl (upd wf 0 0)))] H := hP
  have hD : va_D A [(ww, .inl (cT 0, 48, .inl (upd wf 0 0)))] := hD
  refine lv_iinc (k := 0) (v := 1) hx hb dAr_fill_21 hl rfl (by decide) (by decide) rfl (fun ls hl => ?_)
  have hl : lv_has ls 5 [(4, .int 1), (0, .ref ww), (1, .int 0), (2, .int 2), (3, .int 0)] := hl
  refine lv_goto (tgt := 10) hx hb dAr_fill_24 rfl ?_
  refine lv_iload hx hb dAr_fill_10 (lv_at hl 0 rfl) ?_
  refine lv_iload_n hx hb dAr_fill_12 rfl (lv_at hl 3 rfl) ?_
  refine lv_icmp_ge (tgt := 27) hx hb dAr_fill_13 rfl (fun hj2 => absurd hj2 (by decide)) (fun _ => ?_)
  refine lv_aload_n hx hb dAr_fill_16 rfl (lv_at hl 1 rfl) ?_
  refine lv_iload hx hb dAr_fill_17 (lv_at hl 0 rfl) ?_
  refine lv_iload_n hx hb dAr_fill_19 rfl (lv_at hl 4 rfl) ?_
  refine va_iast hx hb hK hP hD hS 0 0 rfl rfl (by unfold vp_in; decide) dAr_fill_20 (fun H locs hP hD hS => ?_)
  have hP : va_P D vwCl [(ww, .inl (cT 0, 48, .inl (upd (upd wf 0 0) 1 0)))] H := hP
  have hD : va_D A [(ww, .inl (cT 0, 48, .inl (upd (upd wf 0 0) 1 0)))] := hD
  refine lv_iinc (k := 0) (v := 2) hx hb dAr_fill_21 hl rfl (by decide) (by decide) rfl (fun ls hl => ?_)
  have hl : lv_has ls 5 [(4, .int 2), (0, .ref ww), (1, .int 0), (2, .int 2), (3, .int 0)] := hl
  refine lv_goto (tgt := 10) hx hb dAr_fill_24 rfl ?_
  refine lv_iload hx hb dAr_fill_10 (lv_at hl 0 rfl) ?_
  refine lv_iload_n hx hb dAr_fill_12 rfl (lv_at hl 3 rfl) ?_
  refine lv_icmp_ge (tgt := 27) hx hb dAr_fill_13 rfl (fun _ => ?_) (fun hj3 => absurd (by decide) hj3)
  have hP9 := hP.sub (ws' := [(ww, .inl (cT 0, 48, .inl (upd (upd wf 0 0) 1 0)))]) [0] rfl
  have hD9 := hD.sub (ws' := [(ww, .inl (cT 0, 48, .inl (upd (upd wf 0 0) 1 0)))]) [0] (by decide) rfl
  refine W.widen (k := 0) (n := 0) (Nat.le_of_ble_eq_true rfl) (Nat.le_of_ble_eq_true rfl) ?_
  exact W.vret hx hb hr (fun t ht hW => ⟨⟨(fun _ => 0), rfl, trivial, by rw [ht]; exact hP9, hD9⟩, hS.F ht⟩) hS.2.2 dAr_fill_27
set_option maxHeartbeats 4000000 in
set_option maxRecDepth 100000 in
theorem k_trim2 (l : Launch) (D : va_G) (cT : Nat → ClassId) (h : Nat) (ww : Nat) (wl : Int32) (wb : Int32) (wf : Nat → Int32) (h1 : wf 1 = 0) (h0 : ¬ wf 0 = 0) (sz : Nat) : Met l yW_trim WW_trim ({ frames := 0, cells := 0, slots := 0, locals := 0 } : Room) (RW D vwCl [.ref h, .int 2] [(h, .inr (4, [.ref ww, .int wl, .int wb])), (ww, .inl (cT 0, 48, .inl wf))] (TY cT) sz) (va_Qv (fun _ : Nat → Nat => True) (BW D vwCl (va_A [(h, .inr (4, [.ref ww, .int wl, .int wb])), (ww, .inl (cT 0, 48, .inl wf))] sz) (fun u => [(h, .inr (4, [.ref ww, .int 1, .int wb])), (ww, .inl (cT 0, 48, .inl wf))])) (va_A [(h, .inr (4, [.ref ww, .int wl, .int wb])), (ww, .inl (cT 0, 48, .inl wf))] sz)) 0 0 (va_A [(h, .inr (4, [.ref ww, .int wl, .int wb])), (ww, .inl (cT 0, 48, .inl wf))] sz) := by
  refine Met.ofW (cc := cW_trim) (maxL := 2) (ret := none) (by decide) rfl ?_
  intro p e s m args below meth c s₁ B hml hv
  obtain ⟨rfl, hsz, hZ, hP, hK, hD0⟩ := hv
  have hx := B.exec
  have hb := B.bytes
  have hr := B.returns
  have hts := atoms_spec (ws := WW_trim) B.pre
  have hT : ∀ w ∈ TB, w.before _ s = true := fun w h => hts w (List.mem_cons_of_mem _ h)
  have hown : s.vm.findClass R_W = some m.cls := findClass_of_methodNamed B.named
  have hlocks := B.notSynchronized
  subst hsz
  have hD := hD0.self (sz := s.heap.size)
  generalize hAe : va_A [(h, .inr (4, [.ref ww, .int wl, .int wb])), (ww, .inl (cT 0, 48, .inl wf))] s.heap.size = A at hD hZ ⊢
  have hA : ∀ q : Nat, s.heap.size ≤ q → A q := fun q h => by rw [← hAe]; exact Or.inr h
  have hS : va_S A s.heap s.heap [] := va_S.rf
  have hl := lv_entry ([.ref h, .int 2]) (n := 2) (Nat.le_of_ble_eq_true rfl)
  rw [lg_entry_eq]
  generalize (lg_sl ([.ref h, .int 2]) ++ List.replicate (2 - (lg_sl ([.ref h, .int 2])).length) Slot.unset).toArray = ls at hl ⊢
  have hl : lv_has ls 2 [(0, .ref h), (1, .int 2)] := hl
  refine lv_aload_n hx hb dW_trim_0 rfl (lv_at hl 0 rfl) ?_
  refine lv_iload_n hx hb dW_trim_1 rfl (lv_at hl 1 rfl) ?_
  refine va_put (D := D) (ci := 4) (v := .int 2) (ty := .int) (C := R_W) (T := T_W) (N := 3) hx hb hT in_W ty_W ty_W_ok m_W hown hK hP hD hS 0 rfl rfl 1 (by decide) (hT _ w148) (fun _ h9 => h9) rfl (by decide +kernel) rfl rfl (Nat.le_of_ble_eq_true rfl) dW_trim_2 (fun H locs hP hD hS => ?_)
  have hP : va_P D vwCl [(h, .inr (4, [.ref ww, .int 2, .int wb])), (ww, .inl (cT 0, 48, .inl wf))] H := hP
  have hD : va_D A [(h, .inr (4, [.ref ww, .int 2, .int wb])), (ww, .inl (cT 0, 48, .inl wf))] := hD
  refine lv_aload_n hx hb dW_trim_5 rfl (lv_at hl 0 rfl) ?_
  refine va_get (D := D) (ci := 4) (v := .int 2) (C := R_W) (T := T_W) (N := 3) hx hb hT in_W hown hK hP 0 rfl rfl 1 (by decide) (hT _ w148) (fun _ h9 => h9) rfl dW_trim_6 ?_
  refine lv_if_le (tgt := 39) hx hb dW_trim_9 rfl (fun hj1 => absurd hj1 (by decide)) (fun _ => ?_)
  refine lv_aload_n hx hb dW_trim_12 rfl (lv_at hl 0 rfl) ?_
  refine va_get (D := D) (ci := 4) (v := .ref ww) (C := R_W) (T := T_W) (N := 3) hx hb hT in_W hown hK hP 0 rfl rfl 0 (by decide) (hT _ w145) (fun _ h9 => h9) rfl dW_trim_13 ?_
  refine lv_aload_n hx hb dW_trim_16 rfl (lv_at hl 0 rfl) ?_
  refine va_get (D := D) (ci := 4) (v := .int 2) (C := R_W) (T := T_W) (N := 3) hx hb hT in_W hown hK hP 0 rfl rfl 1 (by decide) (hT _ w148) (fun _ h9 => h9) rfl dW_trim_17 ?_
  refine lv_iconst (v := 1) hx hb dW_trim_20 (by decide) ?_
  refine lv_isub hx hb dW_trim_21 ?_
  refine lv_topi (fun y9 e9 => ?_)
  cases (show y9 = 1 from e9.trans (by decide))
  refine va_iald hx hb hK hP 1 0 rfl rfl (by unfold vp_in; decide) dW_trim_22 ?_
  refine lv_if_ne (tgt := 39) hx hb dW_trim_23 rfl (fun hj2 => absurd h1 hj2) (fun _ => ?_)
  refine lv_aload_n hx hb dW_trim_26 rfl (lv_at hl 0 rfl) ?_
  refine lv_dup hx hb dW_trim_27 rfl ?_
  refine va_get (D := D) (ci := 4) (v := .int 2) (C := R_W) (T := T_W) (N := 3) hx hb hT in_W hown hK hP 0 rfl rfl 1 (by decide) (hT _ w148) (fun _ h9 => h9) rfl dW_trim_28 ?_
  refine lv_iconst (v := 1) hx hb dW_trim_31 (by decide) ?_
  refine lv_isub hx hb dW_trim_32 ?_
  refine lv_topi (fun y9 e9 => ?_)
  cases (show y9 = 1 from e9.trans (by decide))
  refine va_put (D := D) (ci := 4) (v := .int 1) (ty := .int) (C := R_W) (T := T_W) (N := 3) hx hb hT in_W ty_W ty_W_ok m_W hown hK hP hD hS 0 rfl rfl 1 (by decide) (hT _ w148) (fun _ h9 => h9) rfl (by decide +kernel) rfl rfl (Nat.le_of_ble_eq_true rfl) dW_trim_33 (fun H locs hP hD hS => ?_)
  have hP : va_P D vwCl [(h, .inr (4, [.ref ww, .int 1, .int wb])), (ww, .inl (cT 0, 48, .inl wf))] H := hP
  have hD : va_D A [(h, .inr (4, [.ref ww, .int 1, .int wb])), (ww, .inl (cT 0, 48, .inl wf))] := hD
  refine lv_goto (tgt := 5) hx hb dW_trim_36 rfl ?_
  refine lv_aload_n hx hb dW_trim_5 rfl (lv_at hl 0 rfl) ?_
  refine va_get (D := D) (ci := 4) (v := .int 1) (C := R_W) (T := T_W) (N := 3) hx hb hT in_W hown hK hP 0 rfl rfl 1 (by decide) (hT _ w148) (fun _ h9 => h9) rfl dW_trim_6 ?_
  refine lv_if_le (tgt := 39) hx hb dW_trim_9 rfl (fun hj3 => absurd hj3 (by decide)) (fun _ => ?_)
  refine lv_aload_n hx hb dW_trim_12 rfl (lv_at hl 0 rfl) ?_
  refine va_get (D := D) (ci := 4) (v := .ref ww) (C := R_W) (T := T_W) (N := 3) hx hb hT in_W hown hK hP 0 rfl rfl 0 (by decide) (hT _ w145) (fun _ h9 => h9) rfl dW_trim_13 ?_
  refine lv_aload_n hx hb dW_trim_16 rfl (lv_at hl 0 rfl) ?_
  refine va_get (D := D) (ci := 4) (v := .int 1) (C := R_W) (T := T_W) (N := 3) hx hb hT in_W hown hK hP 0 rfl rfl 1 (by decide) (hT _ w148) (fun _ h9 => h9) rfl dW_trim_17 ?_
  refine lv_iconst (v := 1) hx hb dW_trim_20 (by decide) ?_
  refine lv_isub hx hb dW_trim_21 ?_
  refine lv_topi (fun y9 e9 => ?_)
  cases (show y9 = 0 from e9.trans (by decide))
  refine va_iald hx hb hK hP 1 0 rfl rfl (by unfold vp_in; decide) dW_trim_22 ?_
  refine lv_if_ne (tgt := 39) hx hb dW_trim_23 rfl (fun _ => ?_) (fun hj4 => absurd hj4 h0)
  have hP9 := hP.sub (ws' := [(h, .inr (4, [.ref ww, .int 1, .int wb])), (ww, .inl (cT 0, 48, .inl wf))]) [0, 1] rfl
  have hD9 := hD.sub (ws' := [(h, .inr (4, [.ref ww, .int 1, .int wb])), (ww, .inl (cT 0, 48, .inl wf))]) [0, 1] (by decide) rfl
  refine W.widen (k := 0) (n := 0) (Nat.le_of_ble_eq_true rfl) (Nat.le_of_ble_eq_true rfl) ?_
  exact W.vret hx hb hr (fun t ht hW => ⟨⟨(fun _ => 0), rfl, trivial, by rw [ht]; exact hP9, hD9⟩, hS.F ht⟩) hS.2.2 dW_trim_39
set_option maxHeartbeats 4000000 in
set_option maxRecDepth 100000 in
theorem k_setProductOne (l : Launch) (D : va_G) (cT : Nat → ClassId) (h : Nat) (ww : Nat) (wl : Int32) (wb : Int32) (wf : Nat → Int32) (o : Nat) (ov : Nat) (og : Nat → Int32) (h0 : og 0 = 1) (sz : Nat) : Met l yW_setProduct WW_setProduct ({ frames := 2, cells := 0, slots := 0, locals := 46 } : Room) (RW D vwCl [.ref h, .ref o, .ref o] [(h, .inr (4, [.ref ww, .int wl, .int wb])), (ww, .inl (cT 0, 48, .inl wf)), (o, .inr (4, [.ref ov, .int 1, .int 0])), (ov, .inl (cT 0, 24, .inl og))] (TY cT) sz) (va_Qv (fun _ : Nat → Nat => True) (BW D vwCl (va_A [(h, .inr (4, [.ref ww, .int wl, .int wb])), (ww, .inl (cT 0, 48, .inl wf)), (o, .inr (4, [.ref ov, .int 1, .int 0])), (ov, .inl (cT 0, 24, .inl og))] sz) (fun u => [(o, .inr (4, [.ref ov, .int 1, .int 0])), (ov, .inl (cT 0, 24, .inl og)), (h, .inr (4, [.ref ww, .int 1, .int 0])), (ww, .inl (cT 0, 48, .inl (upd (upd (upd (upd wf 0 0) 1 0) 0 1) 1 0)))])) (va_A [(h, .inr (4, [.ref ww, .int wl, .int wb])), (ww, .inl (cT 0, 48, .inl wf)), (o, .inr (4, [.ref ov, .int 1, .int 0])), (ov, .inl (cT 0, 24, .inl og))] sz)) 0 0 (va_A [(h, .inr (4, [.ref ww, .int wl, .int wb])), (ww, .inl (cT 0, 48, .inl wf)), (o, .inr (4, [.ref ov, .int 1, .int 0])), (ov, .inl (cT 0, 24, .inl og))] sz) := by
  refine Met.ofW (cc := cW_setProduct) (maxL := 12) (ret := none) (by decide) rfl ?_
  intro p e s m args below meth c s₁ B hml hv
  obtain ⟨rfl, hsz, hZ, hP, hK, hD0⟩ := hv
  have hx := B.exec
  have hb := B.bytes
  have hr := B.returns
  have hts := atoms_spec (ws := WW_setProduct) B.pre
  have hT : ∀ w ∈ TB, w.before _ s = true := fun w h => hts w (List.mem_cons_of_mem _ h)
  have hown : s.vm.findClass R_W = some m.cls := findClass_of_methodNamed B.named
  have hlocks := B.notSynchronized
  subst hsz
  have hD := hD0.self (sz := s.heap.size)
  generalize hAe : va_A [(h, .inr (4, [.ref ww, .int wl, .int wb])), (ww, .inl (cT 0, 48, .inl wf)), (o, .inr (4, [.ref ov, .int 1, .int 0])), (ov, .inl (cT 0, 24, .inl og))] s.heap.size = A at hD hZ ⊢
  have hA : ∀ q : Nat, s.heap.size ≤ q → A q := fun q h => by rw [← hAe]; exact Or.inr h
  have hS : va_S A s.heap s.heap [] := va_S.rf
  have hl := lv_entry ([.ref h, .ref o, .ref o]) (n := 12) (Nat.le_of_ble_eq_true rfl)
  rw [lg_entry_eq]
  generalize (lg_sl ([.ref h, .ref o, .ref o]) ++ List.replicate (12 - (lg_sl ([.ref h, .ref o, .ref o])).length) Slot.unset).toArray = ls at hl ⊢
  have hl : lv_has ls 12 [(0, .ref h), (1, .ref o), (2, .ref o)] := hl
  refine lv_aload_n hx hb dW_setProduct_0 rfl (lv_at hl 1 rfl) ?_
  refine va_get (D := D) (ci := 4) (v := .int 1) (C := R_W) (T := T_W) (N := 3) hx hb hT in_W hown hK hP 2 rfl rfl 1 (by decide) (hT _ w148) (fun _ h9 => h9) rfl dW_setProduct_1 ?_
  refine lv_aload_n hx hb dW_setProduct_4 rfl (lv_at hl 2 rfl) ?_
  refine va_get (D := D) (ci := 4) (v := .int 1) (C := R_W) (T := T_W) (N := 3) hx hb hT in_W hown hK hP 2 rfl rfl 1 (by decide) (hT _ w148) (fun _ h9 => h9) rfl dW_setProduct_5 ?_
  refine lv_iadd hx hb dW_setProduct_8 ?_
  refine lv_topi (fun y9 e9 => ?_)
  cases (show y9 = 2 from e9.trans (by decide))
  refine lv_aload_n hx hb dW_setProduct_9 rfl (lv_at hl 0 rfl) ?_
  refine va_get (D := D) (ci := 4) (v := .ref ww) (C := R_W) (T := T_W) (N := 3) hx hb hT in_W hown hK hP 0 rfl rfl 0 (by decide) (hT _ w145) (fun _ h9 => h9) rfl dW_setProduct_10 ?_
  refine va_alen (v := 48) hx hb hK hP 1 0 rfl rfl rfl dW_setProduct_13 ?_
  refine va_mmin hx hb (hml.trans hl.1.symm) hown (hT _ w447) (hT _ w448) (hT _ w22) (hT _ w449) (Nat.le_of_ble_eq_true rfl) (Nat.le_of_ble_eq_true rfl) (Nat.le_of_ble_eq_true rfl) (Nat.le_of_ble_eq_true rfl) dW_setProduct_14 ?_
  refine lv_topi (fun y9 e9 => ?_)
  cases (show y9 = 2 from e9.trans (by decide))
  refine lv_istore_n hx hb dW_setProduct_17 rfl hl (by decide) rfl (fun ls hl => ?_)
  have hl : lv_has ls 12 [(3, .int 2), (0, .ref h), (1, .ref o), (2, .ref o)] := hl
  refine lv_aload_n hx hb dW_setProduct_18 rfl (lv_at hl 1 rfl) ?_
  refine va_get (D := D) (ci := 4) (v := .ref ww) (C := R_W) (T := T_W) (N := 3) hx hb hT in_W hown hK hP 0 rfl rfl 0 (by decide) (hT _ w145) (fun _ h9 => h9) rfl dW_setProduct_19 ?_
  refine lv_iconst (v := 0) hx hb dW_setProduct_22 (by decide) ?_
  refine lv_iload_n hx hb dW_setProduct_23 rfl (lv_at hl 0 rfl) ?_
  refine lv_iconst (v := 0) hx hb dW_setProduct_24 (by decide) ?_
  refine rw_v (wc := [(ww, .inl (cT 0, 48, .inl wf))]) (wr := [(h, .inr (4, [.ref ww, .int wl, .int wb])), (o, .inr (4, [.ref ov, .int 1, .int 0])), (ov, .inl (cT 0, 24, .inl og))]) hP hD hS hA [1] [0, 2, 3] rfl rfl (by decide) (by decide) (va_runS (As := [.ref ww, .int 0, .int 2, .int 0]) (rest := []) ⟨hx, hb, hml, hown, hT⟩ (k_fill2 l D cT ww wf _) ⟨callB_of 4 hT (tb_gd w477) rfl rfl rfl (hT _ w26) (hT _ w475) hAr_fill ⟨Nat.le_of_ble_eq_true rfl, Nat.le_of_ble_eq_true rfl⟩, (hT _ w476)⟩ (RW.preS hZ hS (va_free (wc := [(ww, .inl (cT 0, 48, .inl wf))]) hD hS hA [1] rfl) (hP.sub (ws' := [(ww, .inl (cT 0, 48, .inl wf))]) [1] rfl) hK (hD.sub (ws' := [(ww, .inl (cT 0, 48, .inl wf))]) [1] (by decide) rfl)) rfl rfl hl.1 rfl (lv_room (Nat.le_of_ble_eq_true rfl)) dW_setProduct_25 ⟨Nat.le_of_ble_eq_true rfl, Nat.le_of_ble_eq_true rfl⟩) (fun u1 H locs hpu1 hP hD hS => ?_)
  have hP : va_P D vwCl [(h, .inr (4, [.ref ww, .int wl, .int wb])), (o, .inr (4, [.ref ov, .int 1, .int 0])), (ov, .inl (cT 0, 24, .inl og)), (ww, .inl (cT 0, 48, .inl (upd (upd wf 0 0) 1 0)))] H := hP
  have hD : va_D A [(h, .inr (4, [.ref ww, .int wl, .int wb])), (o, .inr (4, [.ref ov, .int 1, .int 0])), (ov, .inl (cT 0, 24, .inl og)), (ww, .inl (cT 0, 48, .inl (upd (upd wf 0 0) 1 0)))] := hD
  refine lv_iconst (v := 0) hx hb dW_setProduct_28 (by decide) ?_
  refine lv_istore hx hb dW_setProduct_29 hl (by decide) rfl (fun ls hl => ?_)
  have hl : lv_has ls 12 [(4, .int 0), (3, .int 2), (0, .ref h), (1, .ref o), (2, .ref o)] := hl
  refine lv_iload hx hb dW_setProduct_31 (lv_at hl 0 rfl) ?_
  refine lv_aload_n hx hb dW_setProduct_33 rfl (lv_at hl 3 rfl) ?_
  refine va_get (D := D) (ci := 4) (v := .int 1) (C := R_W) (T := T_W) (N := 3) hx hb hT in_W hown hK hP 1 rfl rfl 1 (by decide) (hT _ w148) (fun _ h9 => h9) rfl dW_setProduct_34 ?_
  refine lv_icmp_ge (tgt := 168) hx hb dW_setProduct_37 rfl (fun hj2 => absurd hj2 (by decide)) (fun _ => ?_)
  refine lv_aload_n hx hb dW_setProduct_40 rfl (lv_at hl 3 rfl) ?_
  refine va_get (D := D) (ci := 4) (v := .ref ov) (C := R_W) (T := T_W) (N := 3) hx hb hT in_W hown hK hP 1 rfl rfl 0 (by decide) (hT _ w145) (fun _ h9 => h9) rfl dW_setProduct_41 ?_
  refine lv_iload hx hb dW_setProduct_44 (lv_at hl 0 rfl) ?_
  refine va_iald hx hb hK hP 2 0 rfl rfl (by unfold vp_in; decide) dW_setProduct_46 ?_
  refine lv_topi (fun y9 e9 => ?_)
  cases (show y9 = 1 from e9.trans h0)
  refine lv_i2l (v := 1) hx hb dW_setProduct_47 (by decide) ?_
  refine lv_lstore hx hb dW_setProduct_48 hl (by decide) rfl (fun ls hl => ?_)
  have hl : lv_has ls 12 [(5, .long 1), (4, .int 0), (3, .int 2), (0, .ref h), (1, .ref o), (2, .ref o)] := hl
  refine lv_lconst (v := 0) hx hb dW_setProduct_50 (by decide) ?_
  refine lv_lstore hx hb dW_setProduct_51 hl (by decide) rfl (fun ls hl => ?_)
  have hl : lv_has ls 12 [(7, .long 0), (5, .long 1), (4, .int 0), (3, .int 2), (0, .ref h), (1, .ref o), (2, .ref o)] := hl
  refine lv_iconst (v := 0) hx hb dW_setProduct_53 (by decide) ?_
  refine lv_istore hx hb dW_setProduct_54 hl (by decide) rfl (fun ls hl => ?_)
  have hl : lv_has ls 12 [(9, .int 0), (7, .long 0), (5, .long 1), (4, .int 0), (3, .int 2), (0, .ref h), (1, .ref o), (2, .ref o)] := hl
  refine lv_iload hx hb dW_setProduct_56 (lv_at hl 0 rfl) ?_
  refine lv_aload_n hx hb dW_setProduct_58 rfl (lv_at hl 7 rfl) ?_
  refine va_get (D := D) (ci := 4) (v := .int 1) (C := R_W) (T := T_W) (N := 3) hx hb hT in_W hown hK hP 1 rfl rfl 1 (by decide) (hT _ w148) (fun _ h9 => h9) rfl dW_setProduct_59 ?_
  refine lv_icmp_ge (tgt := 136) hx hb dW_setProduct_62 rfl (fun hj3 => absurd hj3 (by decide)) (fun _ => ?_)
  refine lv_iload hx hb dW_setProduct_65 (lv_at hl 3 rfl) ?_
  refine lv_iload hx hb dW_setProduct_67 (lv_at hl 0 rfl) ?_
  refine lv_iadd hx hb dW_setProduct_69 ?_
  refine lv_topi (fun y9 e9 => ?_)
  cases (show y9 = 0 from e9.trans (by decide))
  refine lv_iload_n hx hb dW_setProduct_70 rfl (lv_at hl 4 rfl) ?_
  refine lv_icmp_ge (tgt := 136) hx hb dW_setProduct_71 rfl (fun hj4 => absurd hj4 (by decide)) (fun _ => ?_)
  refine lv_lload hx hb dW_setProduct_74 (lv_at hl 2 rfl) ?_
  refine lv_aload_n hx hb dW_setProduct_76 rfl (lv_at hl 7 rfl) ?_
  refine va_get (D := D) (ci := 4) (v := .ref ov) (C := R_W) (T := T_W) (N := 3) hx hb hT in_W hown hK hP 1 rfl rfl 0 (by decide) (hT _ w145) (fun _ h9 => h9) rfl dW_setProduct_77 ?_
  refine lv_iload hx hb dW_setProduct_80 (lv_at hl 0 rfl) ?_
  refine va_iald hx hb hK hP 2 0 rfl rfl (by unfold vp_in; decide) dW_setProduct_82 ?_
  refine lv_topi (fun y9 e9 => ?_)
  cases (show y9 = 1 from e9.trans h0)
  refine lv_i2l (v := 1) hx hb dW_setProduct_83 (by decide) ?_
  refine lv_lmul hx hb dW_setProduct_84 ?_
  refine lv_topl (fun y9 e9 => ?_)
  cases (show y9 = 1 from e9.trans (by decide))
  refine lv_aload_n hx hb dW_setProduct_85 rfl (lv_at hl 5 rfl) ?_
  refine va_get (D := D) (ci := 4) (v := .ref ww) (C := R_W) (T := T_W) (N := 3) hx hb hT in_W hown hK hP 0 rfl rfl 0 (by decide) (hT _ w145) (fun _ h9 => h9) rfl dW_setProduct_86 ?_
  refine lv_iload hx hb dW_setProduct_89 (lv_at hl 3 rfl) ?_
  refine lv_iload hx hb dW_setProduct_91 (lv_at hl 0 rfl) ?_
  refine lv_iadd hx hb dW_setProduct_93 ?_
  refine lv_topi (fun y9 e9 => ?_)
  cases (show y9 = 0 from e9.trans (by decide))
  refine va_iald hx hb hK hP 3 0 rfl rfl (by unfold vp_in; decide) dW_setProduct_94 ?_
  refine lv_topi (fun y9 e9 => ?_)
  cases (show y9 = 0 from e9.trans rfl)
  refine lv_i2l (v := 0) hx hb dW_setProduct_95 (by decide) ?_
  refine lv_ladd hx hb dW_setProduct_96 ?_
  refine lv_topl (fun y9 e9 => ?_)
  cases (show y9 = 1 from e9.trans (by decide))
  refine lv_lload hx hb dW_setProduct_97 (lv_at hl 1 rfl) ?_
  refine lv_ladd hx hb dW_setProduct_99 ?_
  refine lv_topl (fun y9 e9 => ?_)
  cases (show y9 = 1 from e9.trans (by decide))
  refine lv_lstore hx hb dW_setProduct_100 hl (by decide) rfl (fun ls hl => ?_)
  have hl : lv_has ls 12 [(10, .long 1), (9, .int 0), (7, .long 0), (5, .long 1), (4, .int 0), (3, .int 2), (0, .ref h), (1, .ref o), (2, .ref o)] := hl
  refine lv_lload hx hb dW_setProduct_102 (lv_at hl 0 rfl) ?_
  refine lv_ldc2 (v := 1000000000) hx hb hown (hT _ w421) dW_setProduct_104 ?_
  refine lv_ldiv hx hb dW_setProduct_107 (by decide) ?_
  refine lv_topl (fun y9 e9 => ?_)
  cases (show y9 = 0 from e9.trans (by decide +kernel))
  refine lv_lstore hx hb dW_setProduct_108 hl (by decide) rfl (fun ls hl => ?_)
  have hl : lv_has ls 12 [(7, .long 0), (10, .long 1), (9, .int 0), (5, .long 1), (4, .int 0), (3, .int 2), (0, .ref h), (1, .ref o), (2, .ref o)] := hl
  refine lv_aload_n hx hb dW_setProduct_110 rfl (lv_at hl 6 rfl) ?_
  refine va_get (D := D) (ci := 4) (v := .ref ww) (C := R_W) (T := T_W) (N := 3) hx hb hT in_W hown hK hP 0 rfl rfl 0 (by decide) (hT _ w145) (fun _ h9 => h9) rfl dW_setProduct_111 ?_
  refine lv_iload hx hb dW_setProduct_114 (lv_at hl 4 rfl) ?_
  refine lv_iload hx hb dW_setProduct_116 (lv_at hl 2 rfl) ?_
  refine lv_iadd hx hb dW_setProduct_118 ?_
  refine lv_topi (fun y9 e9 => ?_)
  cases (show y9 = 0 from e9.trans (by decide))
  refine lv_lload hx hb dW_setProduct_119 (lv_at hl 1 rfl) ?_
  refine lv_lload hx hb dW_setProduct_121 (lv_at hl 0 rfl) ?_
  refine lv_ldc2 (v := 1000000000) hx hb hown (hT _ w421) dW_setProduct_123 ?_
  refine lv_lmul hx hb dW_setProduct_126 ?_
  refine lv_topl (fun y9 e9 => ?_)
  cases (show y9 = 0 from e9.trans (by decide))
  refine lv_lsub hx hb dW_setProduct_127 ?_
  refine lv_topl (fun y9 e9 => ?_)
  cases (show y9 = 1 from e9.trans (by decide))
  refine lv_l2i (v := 1) hx hb dW_setProduct_128 (by decide) ?_
  refine va_iast hx hb hK hP hD hS 3 0 rfl rfl (by unfold vp_in; decide) dW_setProduct_129 (fun H locs hP hD hS => ?_)
  have hP : va_P D vwCl [(h, .inr (4, [.ref ww, .int wl, .int wb])), (o, .inr (4, [.ref ov, .int 1, .int 0])), (ov, .inl (cT 0, 24, .inl og)), (ww, .inl (cT 0, 48, .inl (upd (upd (upd wf 0 0) 1 0) 0 1)))] H := hP
  have hD : va_D A [(h, .inr (4, [.ref ww, .int wl, .int wb])), (o, .inr (4, [.ref ov, .int 1, .int 0])), (ov, .inl (cT 0, 24, .inl og)), (ww, .inl (cT 0, 48, .inl (upd (upd (upd wf 0 0) 1 0) 0 1)))] := hD
  refine lv_iinc (k := 2) (v := 1) hx hb dW_setProduct_130 hl rfl (by decide) (by decide) rfl (fun ls hl => ?_)
  have hl : lv_has ls 12 [(9, .int 1), (7, .long 0), (10, .long 1), (5, .long 1), (4, .int 0), (3, .int 2), (0, .ref h), (1, .ref o), (2, .ref o)] := hl
  refine lv_goto (tgt := 56) hx hb dW_setProduct_133 rfl ?_
  refine lv_iload hx hb dW_setProduct_56 (lv_at hl 0 rfl) ?_
  refine lv_aload_n hx hb dW_setProduct_58 rfl (lv_at hl 8 rfl) ?_
  refine va_get (D := D) (ci := 4) (v := .int 1) (C := R_W) (T := T_W) (N := 3) hx hb hT in_W hown hK hP 1 rfl rfl 1 (by decide) (hT _ w148) (fun _ h9 => h9) rfl dW_setProduct_59 ?_
  refine lv_icmp_ge (tgt := 136) hx hb dW_setProduct_62 rfl (fun _ => ?_) (fun hj5 => absurd (by decide) hj5)
  refine lv_iload hx hb dW_setProduct_136 (lv_at hl 4 rfl) ?_
  refine lv_aload_n hx hb dW_setProduct_138 rfl (lv_at hl 8 rfl) ?_
  refine va_get (D := D) (ci := 4) (v := .int 1) (C := R_W) (T := T_W) (N := 3) hx hb hT in_W hown hK hP 1 rfl rfl 1 (by decide) (hT _ w148) (fun _ h9 => h9) rfl dW_setProduct_139 ?_
  refine lv_iadd hx hb dW_setProduct_142 ?_
  refine lv_topi (fun y9 e9 => ?_)
  cases (show y9 = 1 from e9.trans (by decide))
  refine lv_iload_n hx hb dW_setProduct_143 rfl (lv_at hl 5 rfl) ?_
  refine lv_icmp_ge (tgt := 162) hx hb dW_setProduct_144 rfl (fun hj6 => absurd hj6 (by decide)) (fun _ => ?_)
  refine lv_aload_n hx hb dW_setProduct_147 rfl (lv_at hl 6 rfl) ?_
  refine va_get (D := D) (ci := 4) (v := .ref ww) (C := R_W) (T := T_W) (N := 3) hx hb hT in_W hown hK hP 0 rfl rfl 0 (by decide) (hT _ w145) (fun _ h9 => h9) rfl dW_setProduct_148 ?_
  refine lv_iload hx hb dW_setProduct_151 (lv_at hl 4 rfl) ?_
  refine lv_aload_n hx hb dW_setProduct_153 rfl (lv_at hl 8 rfl) ?_
  refine va_get (D := D) (ci := 4) (v := .int 1) (C := R_W) (T := T_W) (N := 3) hx hb hT in_W hown hK hP 1 rfl rfl 1 (by decide) (hT _ w148) (fun _ h9 => h9) rfl dW_setProduct_154 ?_
  refine lv_iadd hx hb dW_setProduct_157 ?_
  refine lv_topi (fun y9 e9 => ?_)
  cases (show y9 = 1 from e9.trans (by decide))
  refine lv_lload hx hb dW_setProduct_158 (lv_at hl 1 rfl) ?_
  refine lv_l2i (v := 0) hx hb dW_setProduct_160 (by decide) ?_
  refine va_iast hx hb hK hP hD hS 3 0 rfl rfl (by unfold vp_in; decide) dW_setProduct_161 (fun H locs hP hD hS => ?_)
  have hP : va_P D vwCl [(h, .inr (4, [.ref ww, .int wl, .int wb])), (o, .inr (4, [.ref ov, .int 1, .int 0])), (ov, .inl (cT 0, 24, .inl og)), (ww, .inl (cT 0, 48, .inl (upd (upd (upd (upd wf 0 0) 1 0) 0 1) 1 0)))] H := hP
  have hD : va_D A [(h, .inr (4, [.ref ww, .int wl, .int wb])), (o, .inr (4, [.ref ov, .int 1, .int 0])), (ov, .inl (cT 0, 24, .inl og)), (ww, .inl (cT 0, 48, .inl (upd (upd (upd (upd wf 0 0) 1 0) 0 1) 1 0)))] := hD
  refine lv_iinc (k := 4) (v := 1) hx hb dW_setProduct_162 hl rfl (by decide) (by decide) rfl (fun ls hl => ?_)
  have hl : lv_has ls 12 [(4, .int 1), (9, .int 1), (7, .long 0), (10, .long 1), (5, .long 1), (3, .int 2), (0, .ref h), (1, .ref o), (2, .ref o)] := hl
  refine lv_goto (tgt := 31) hx hb dW_setProduct_165 rfl ?_
  refine lv_iload hx hb dW_setProduct_31 (lv_at hl 0 rfl) ?_
  refine lv_aload_n hx hb dW_setProduct_33 rfl (lv_at hl 7 rfl) ?_
  refine va_get (D := D) (ci := 4) (v := .int 1) (C := R_W) (T := T_W) (N := 3) hx hb hT in_W hown hK hP 1 rfl rfl 1 (by decide) (hT _ w148) (fun _ h9 => h9) rfl dW_setProduct_34 ?_
  refine lv_icmp_ge (tgt := 168) hx hb dW_setProduct_37 rfl (fun _ => ?_) (fun hj7 => absurd (by decide) hj7)
  refine lv_aload_n hx hb dW_setProduct_168 rfl (lv_at hl 6 rfl) ?_
  refine lv_aload_n hx hb dW_setProduct_169 rfl (lv_at hl 7 rfl) ?_
  refine va_get (D := D) (ci := 4) (v := .int 0) (C := R_W) (T := T_W) (N := 3) hx hb hT in_W hown hK hP 1 rfl rfl 2 (by decide) (hT _ w149) (fun _ h9 => h9) rfl dW_setProduct_170 ?_
  refine lv_aload_n hx hb dW_setProduct_173 rfl (lv_at hl 8 rfl) ?_
  refine va_get (D := D) (ci := 4) (v := .int 0) (C := R_W) (T := T_W) (N := 3) hx hb hT in_W hown hK hP 1 rfl rfl 2 (by decide) (hT _ w149) (fun _ h9 => h9) rfl dW_setProduct_174 ?_
  refine lv_icmp_eq (tgt := 184) hx hb dW_setProduct_177 rfl (fun _ => ?_) (fun hj8 => absurd (by decide) hj8)
  refine lv_iconst (v := 0) hx hb dW_setProduct_184 (by decide) ?_
  refine va_put (D := D) (ci := 4) (v := .int 0) (ty := .boolean) (C := R_W) (T := T_W) (N := 3) hx hb hT in_W ty_W ty_W_ok m_W hown hK hP hD hS 0 rfl rfl 2 (by decide) (hT _ w149) (fun _ h9 => h9) rfl (by decide +kernel) rfl rfl (Nat.le_of_ble_eq_true rfl) dW_setProduct_185 (fun H locs hP hD hS => ?_)
  have hP : va_P D vwCl [(h, .inr (4, [.ref ww, .int wl, .int 0])), (o, .inr (4, [.ref ov, .int 1, .int 0])), (ov, .inl (cT 0, 24, .inl og)), (ww, .inl (cT 0, 48, .inl (upd (upd (upd (upd wf 0 0) 1 0) 0 1) 1 0)))] H := hP
  have hD : va_D A [(h, .inr (4, [.ref ww, .int wl, .int 0])), (o, .inr (4, [.ref ov, .int 1, .int 0])), (ov, .inl (cT 0, 24, .inl og)), (ww, .inl (cT 0, 48, .inl (upd (upd (upd (upd wf 0 0) 1 0) 0 1) 1 0)))] := hD
  refine lv_aload_n hx hb dW_setProduct_188 rfl (lv_at hl 6 rfl) ?_
  refine lv_iload_n hx hb dW_setProduct_189 rfl (lv_at hl 5 rfl) ?_
  refine rw_v (wc := [(h, .inr (4, [.ref ww, .int wl, .int 0])), (ww, .inl (cT 0, 48, .inl (upd (upd (upd (upd wf 0 0) 1 0) 0 1) 1 0)))]) (wr := [(o, .inr (4, [.ref ov, .int 1, .int 0])), (ov, .inl (cT 0, 24, .inl og))]) hP hD hS hA [0, 3] [1, 2] rfl rfl (by decide) (by decide) (va_runV (As := [.int 2]) (rest := []) ⟨hx, hb, hml, hown, hT⟩ (k_trim2 l D cT h ww wl 0 (upd (upd (upd (upd wf 0 0) 1 0) 0 1) 1 0) rfl (show ¬ (1 : Int32) = 0 by decide) _) ⟨callB_of 1 hT (tb_gd w397) rfl rfl rfl (hT _ w5) (hT _ w394) hW_trim ⟨Nat.le_of_ble_eq_true rfl, Nat.le_of_ble_eq_true rfl⟩, (hT _ w396), (hT _ wp3)⟩ (RW.preV (ci := 4) (q0 := 0) hZ hS (va_free (wc := [(h, .inr (4, [.ref ww, .int wl, .int 0])), (ww, .inl (cT 0, 48, .inl (upd (upd (upd (upd wf 0 0) 1 0) 0 1) 1 0)))]) hD hS hA [0, 3] rfl) (hP.sub (ws' := [(h, .inr (4, [.ref ww, .int wl, .int 0])), (ww, .inl (cT 0, 48, .inl (upd (upd (upd (upd wf 0 0) 1 0) 0 1) 1 0)))]) [0, 3] rfl) hK (hD.sub (ws' := [(h, .inr (4, [.ref ww, .int wl, .int 0])), (ww, .inl (cT 0, 48, .inl (upd (upd (upd (upd wf 0 0) 1 0) 0 1) 1 0)))]) [0, 3] (by decide) rfl) rfl rfl) rfl rfl hl.1 rfl (lv_room (Nat.le_of_ble_eq_true rfl)) dW_setProduct_190 ⟨Nat.le_of_ble_eq_true rfl, Nat.le_of_ble_eq_true rfl⟩) (fun u9 H locs hpu9 hP hD hS => ?_)
  have hP : va_P D vwCl [(o, .inr (4, [.ref ov, .int 1, .int 0])), (ov, .inl (cT 0, 24, .inl og)), (h, .inr (4, [.ref ww, .int 1, .int 0])), (ww, .inl (cT 0, 48, .inl (upd (upd (upd (upd wf 0 0) 1 0) 0 1) 1 0)))] H := hP
  have hD : va_D A [(o, .inr (4, [.ref ov, .int 1, .int 0])), (ov, .inl (cT 0, 24, .inl og)), (h, .inr (4, [.ref ww, .int 1, .int 0])), (ww, .inl (cT 0, 48, .inl (upd (upd (upd (upd wf 0 0) 1 0) 0 1) 1 0)))] := hD
  have hP9 := hP.sub (ws' := [(o, .inr (4, [.ref ov, .int 1, .int 0])), (ov, .inl (cT 0, 24, .inl og)), (h, .inr (4, [.ref ww, .int 1, .int 0])), (ww, .inl (cT 0, 48, .inl (upd (upd (upd (upd wf 0 0) 1 0) 0 1) 1 0)))]) [0, 1, 2, 3] rfl
  have hD9 := hD.sub (ws' := [(o, .inr (4, [.ref ov, .int 1, .int 0])), (ov, .inl (cT 0, 24, .inl og)), (h, .inr (4, [.ref ww, .int 1, .int 0])), (ww, .inl (cT 0, 48, .inl (upd (upd (upd (upd wf 0 0) 1 0) 0 1) 1 0)))]) [0, 1, 2, 3] (by decide) rfl
  refine W.widen (k := 0) (n := 0) (Nat.le_of_ble_eq_true rfl) (Nat.le_of_ble_eq_true rfl) ?_
  exact W.vret hx hb hr (fun t ht hW => ⟨⟨(fun _ => 0), rfl, trivial, by rw [ht]; exact hP9, hD9⟩, hS.F ht⟩) hS.2.2 dW_setProduct_193
