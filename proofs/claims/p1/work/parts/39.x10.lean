set_option maxHeartbeats 4000000 in
set_option maxRecDepth 100000 in
theorem k_trimZ24 (l : Launch) (D : va_G) (cT : Nat → ClassId) (h : Nat) (ww : Nat) (wl : Int32) (wb : Int32) (wf : Nat → Int32) (h0 : wf 0 = 0) (sz : Nat) : Met l yW_trim WW_trim ({ frames := 0, cells := 0, slots := 0, locals := 0 } : Room) (RW D vwCl [.ref h, .int 1] [(h, .inr (4, [.ref ww, .int wl, .int wb])), (ww, .inl (cT 0, 24, .inl wf))] (TY cT) sz) (va_Qv (fun _ : Nat → Nat => True) (BW D vwCl (va_A [(h, .inr (4, [.ref ww, .int wl, .int wb])), (ww, .inl (cT 0, 24, .inl wf))] sz) (fun u => [(h, .inr (4, [.ref ww, .int 0, .int wb])), (ww, .inl (cT 0, 24, .inl wf))])) (va_A [(h, .inr (4, [.ref ww, .int wl, .int wb])), (ww, .inl (cT 0, 24, .inl wf))] sz)) 0 0 (va_A [(h, .inr (4, [.ref ww, .int wl, .int wb])), (ww, .inl (cT 0, 24, .inl wf))] sz) := by
  refine Met.ofW (cc := cW_trim) (maxL := 2) (ret := none) (by decide) rfl ?_
  intro p e s m args below meth c s₁ B hml hv
  obtain ⟨rfl, hsz, hZ, hP, hK, hD0⟩ := hv
  have hx := B.exec
  have hb := B.bytes
  have hr := B.returns
  have hts := atoms_spec (ws := WW_trim) B.pre
  have hT : ∀ w ∈ TB, w.before _ s = true := fun w h => hts w (List.mem_cons_of_mem _ h)
  have hown : s.vm.findClass R_W = some m.cls := findClass_of_methodNamed B.named
  have hlocks := B.notSynchronized
  subst hsz
  have hD := hD0.self (sz := s.heap.size)
  generalize hAe : va_A [(h, .inr (4, [.ref ww, .int wl, .int wb])), (ww, .inl (cT 0, 24, .inl wf))] s.heap.size = A at hD hZ ⊢
  have hA : ∀ q : Nat, s.heap.size ≤ q → A q := fun q h => by rw [← hAe]; exact Or.inr h
  have hS : va_S A s.heap s.heap [] := va_S.rf
  have hl := lv_entry ([.ref h, .int 1]) (n := 2) (Nat.le_of_ble_eq_true rfl)
  rw [lg_entry_eq]
  generalize (lg_sl ([.ref h, .int 1]) ++ List.replicate (2 - (lg_sl ([.ref h, .int 1])).length) Slot.unset).toArray = ls at hl ⊢
  have hl : lv_has ls 2 [(0, .ref h), (1, .int 1)] := hl
  refine lv_aload_n hx hb dW_trim_0 rfl (lv_at hl 0 rfl) ?_
  refine lv_iload_n hx hb dW_trim_1 rfl (lv_at hl 1 rfl) ?_
  refine va_put (D := D) (ci := 4) (v := .int 1) (ty := .int) (C := R_W) (T := T_W) (N := 3) hx hb hT in_W ty_W ty_W_ok m_W hown hK hP hD hS 0 rfl rfl 1 (by decide) (hT _ w148) (fun _ h9 => h9) rfl (by decide +kernel) rfl rfl (Nat.le_of_ble_eq_true rfl) dW_trim_2 (fun H locs hP hD hS => ?_)
  have hP : va_P D vwCl [(h, .inr (4, [.ref ww, .int 1, .int wb])), (ww, .inl (cT 0, 24, .inl wf))] H := hP
  have hD : va_D A [(h, .inr (4, [.ref ww, .int 1, .int wb])), (ww, .inl (cT 0, 24, .inl wf))] := hD
  refine lv_aload_n hx hb dW_trim_5 rfl (lv_at hl 0 rfl) ?_
  refine va_get (D := D) (ci := 4) (v := .int 1) (C := R_W) (T := T_W) (N := 3) hx hb hT in_W hown hK hP 0 rfl rfl 1 (by decide) (hT _ w148) (fun _ h9 => h9) rfl dW_trim_6 ?_
  refine lv_if_le (tgt := 39) hx hb dW_trim_9 rfl (fun hj1 => absurd hj1 (by decide)) (fun _ => ?_)
  refine lv_aload_n hx hb dW_trim_12 rfl (lv_at hl 0 rfl) ?_
  refine va_get (D := D) (ci := 4) (v := .ref ww) (C := R_W) (T := T_W) (N := 3) hx hb hT in_W hown hK hP 0 rfl rfl 0 (by decide) (hT _ w145) (fun _ h9 => h9) rfl dW_trim_13 ?_
  refine lv_aload_n hx hb dW_trim_16 rfl (lv_at hl 0 rfl) ?_
  refine va_get (D := D) (ci := 4) (v := .int 1) (C := R_W) (T := T_W) (N := 3) hx hb hT in_W hown hK hP 0 rfl rfl 1 (by decide) (hT _ w148) (fun _ h9 => h9) rfl dW_trim_17 ?_
  refine lv_iconst (v := 1) hx hb dW_trim_20 (by decide) ?_
  refine lv_isub hx hb dW_trim_21 ?_
  refine lv_topi (fun y9 e9 => ?_)
  cases (show y9 = 0 from e9.trans (by decide))
  refine va_iald hx hb hK hP 1 0 rfl rfl (by unfold vp_in; decide) dW_trim_22 ?_
  refine lv_if_ne (tgt := 39) hx hb dW_trim_23 rfl (fun hj2 => absurd h0 hj2) (fun _ => ?_)
  refine lv_aload_n hx hb dW_trim_26 rfl (lv_at hl 0 rfl) ?_
  refine lv_dup hx hb dW_trim_27 rfl ?_
  refine va_get (D := D) (ci := 4) (v := .int 1) (C := R_W) (T := T_W) (N := 3) hx hb hT in_W hown hK hP 0 rfl rfl 1 (by decide) (hT _ w148) (fun _ h9 => h9) rfl dW_trim_28 ?_
  refine lv_iconst (v := 1) hx hb dW_trim_31 (by decide) ?_
  refine lv_isub hx hb dW_trim_32 ?_
  refine lv_topi (fun y9 e9 => ?_)
  cases (show y9 = 0 from e9.trans (by decide))
  refine va_put (D := D) (ci := 4) (v := .int 0) (ty := .int) (C := R_W) (T := T_W) (N := 3) hx hb hT in_W ty_W ty_W_ok m_W hown hK hP hD hS 0 rfl rfl 1 (by decide) (hT _ w148) (fun _ h9 => h9) rfl (by decide +kernel) rfl rfl (Nat.le_of_ble_eq_true rfl) dW_trim_33 (fun H locs hP hD hS => ?_)
  have hP : va_P D vwCl [(h, .inr (4, [.ref ww, .int 0, .int wb])), (ww, .inl (cT 0, 24, .inl wf))] H := hP
  have hD : va_D A [(h, .inr (4, [.ref ww, .int 0, .int wb])), (ww, .inl (cT 0, 24, .inl wf))] := hD
  refine lv_goto (tgt := 5) hx hb dW_trim_36 rfl ?_
  refine lv_aload_n hx hb dW_trim_5 rfl (lv_at hl 0 rfl) ?_
  refine va_get (D := D) (ci := 4) (v := .int 0) (C := R_W) (T := T_W) (N := 3) hx hb hT in_W hown hK hP 0 rfl rfl 1 (by decide) (hT _ w148) (fun _ h9 => h9) rfl dW_trim_6 ?_
  refine lv_if_le (tgt := 39) hx hb dW_trim_9 rfl (fun _ => ?_) (fun hj3 => absurd (by decide) hj3)
  have hP9 := hP.sub (ws' := [(h, .inr (4, [.ref ww, .int 0, .int wb])), (ww, .inl (cT 0, 24, .inl wf))]) [0, 1] rfl
  have hD9 := hD.sub (ws' := [(h, .inr (4, [.ref ww, .int 0, .int wb])), (ww, .inl (cT 0, 24, .inl wf))]) [0, 1] (by decide) rfl
  refine W.widen (k := 0) (n := 0) (Nat.le_of_ble_eq_true rfl) (Nat.le_of_ble_eq_true rfl) ?_
  exact W.vret hx hb hr (fun t ht hW => ⟨⟨(fun _ => 0), rfl, trivial, by rw [ht]; exact hP9, hD9⟩, hS.F ht⟩) hS.2.2 dW_trim_39
set_option maxHeartbeats 4000000 in
set_option maxRecDepth 100000 in
theorem k_trimO24 (l : Launch) (D : va_G) (cT : Nat → ClassId) (h : Nat) (ww : Nat) (wl : Int32) (wb : Int32) (wf : Nat → Int32) (h0 : ¬ wf 0 = 0) (sz : Nat) : Met l yW_trim WW_trim ({ frames := 0, cells := 0, slots := 0, locals := 0 } : Room) (RW D vwCl [.ref h, .int 1] [(h, .inr (4, [.ref ww, .int wl, .int wb])), (ww, .inl (cT 0, 24, .inl wf))] (TY cT) sz) (va_Qv (fun _ : Nat → Nat => True) (BW D vwCl (va_A [(h, .inr (4, [.ref ww, .int wl, .int wb])), (ww, .inl (cT 0, 24, .inl wf))] sz) (fun u => [(h, .inr (4, [.ref ww, .int 1, .int wb])), (ww, .inl (cT 0, 24, .inl wf))])) (va_A [(h, .inr (4, [.ref ww, .int wl, .int wb])), (ww, .inl (cT 0, 24, .inl wf))] sz)) 0 0 (va_A [(h, .inr (4, [.ref ww, .int wl, .int wb])), (ww, .inl (cT 0, 24, .inl wf))] sz) := by
  refine Met.ofW (cc := cW_trim) (maxL := 2) (ret := none) (by decide) rfl ?_
  intro p e s m args below meth c s₁ B hml hv
  obtain ⟨rfl, hsz, hZ, hP, hK, hD0⟩ := hv
  have hx := B.exec
  have hb := B.bytes
  have hr := B.returns
  have hts := atoms_spec (ws := WW_trim) B.pre
  have hT : ∀ w ∈ TB, w.before _ s = true := fun w h => hts w (List.mem_cons_of_mem _ h)
  have hown : s.vm.findClass R_W = some m.cls := findClass_of_methodNamed B.named
  have hlocks := B.notSynchronized
  subst hsz
  have hD := hD0.self (sz := s.heap.size)
  generalize hAe : va_A [(h, .inr (4, [.ref ww, .int wl, .int wb])), (ww, .inl (cT 0, 24, .inl wf))] s.heap.size = A at hD hZ ⊢
  have hA : ∀ q : Nat, s.heap.size ≤ q → A q := fun q h => by rw [← hAe]; exact Or.inr h
  have hS : va_S A s.heap s.heap [] := va_S.rf
  have hl := lv_entry ([.ref h, .int 1]) (n := 2) (Nat.le_of_ble_eq_true rfl)
  rw [lg_entry_eq]
  generalize (lg_sl ([.ref h, .int 1]) ++ List.replicate (2 - (lg_sl ([.ref h, .int 1])).length) Slot.unset).toArray = ls at hl ⊢
  have hl : lv_has ls 2 [(0, .ref h), (1, .int 1)] := hl
  refine lv_aload_n hx hb dW_trim_0 rfl (lv_at hl 0 rfl) ?_
  refine lv_iload_n hx hb dW_trim_1 rfl (lv_at hl 1 rfl) ?_
  refine va_put (D := D) (ci := 4) (v := .int 1) (ty := .int) (C := R_W) (T := T_W) (N := 3) hx hb hT in_W ty_W ty_W_ok m_W hown hK hP hD hS 0 rfl rfl 1 (by decide) (hT _ w148) (fun _ h9 => h9) rfl (by decide +kernel) rfl rfl (Nat.le_of_ble_eq_true rfl) dW_trim_2 (fun H locs hP hD hS => ?_)
  have hP : va_P D vwCl [(h, .inr (4, [.ref ww, .int 1, .int wb])), (ww, .inl (cT 0, 24, .inl wf))] H := hP
  have hD : va_D A [(h, .inr (4, [.ref ww, .int 1, .int wb])), (ww, .inl (cT 0, 24, .inl wf))] := hD
  refine lv_aload_n hx hb dW_trim_5 rfl (lv_at hl 0 rfl) ?_
  refine va_get (D := D) (ci := 4) (v := .int 1) (C := R_W) (T := T_W) (N := 3) hx hb hT in_W hown hK hP 0 rfl rfl 1 (by decide) (hT _ w148) (fun _ h9 => h9) rfl dW_trim_6 ?_
  refine lv_if_le (tgt := 39) hx hb dW_trim_9 rfl (fun hj1 => absurd hj1 (by decide)) (fun _ => ?_)
  refine lv_aload_n hx hb dW_trim_12 rfl (lv_at hl 0 rfl) ?_
  refine va_get (D := D) (ci := 4) (v := .ref ww) (C := R_W) (T := T_W) (N := 3) hx hb hT in_W hown hK hP 0 rfl rfl 0 (by decide) (hT _ w145) (fun _ h9 => h9) rfl dW_trim_13 ?_
  refine lv_aload_n hx hb dW_trim_16 rfl (lv_at hl 0 rfl) ?_
  refine va_get (D := D) (ci := 4) (v := .int 1) (C := R_W) (T := T_W) (N := 3) hx hb hT in_W hown hK hP 0 rfl rfl 1 (by decide) (hT _ w148) (fun _ h9 => h9) rfl dW_trim_17 ?_
  refine lv_iconst (v := 1) hx hb dW_trim_20 (by decide) ?_
  refine lv_isub hx hb dW_trim_21 ?_
  refine lv_topi (fun y9 e9 => ?_)
  cases (show y9 = 0 from e9.trans (by decide))
  refine va_iald hx hb hK hP 1 0 rfl rfl (by unfold vp_in; decide) dW_trim_22 ?_
  refine lv_if_ne (tgt := 39) hx hb dW_trim_23 rfl (fun _ => ?_) (fun hj2 => absurd hj2 h0)
  have hP9 := hP.sub (ws' := [(h, .inr (4, [.ref ww, .int 1, .int wb])), (ww, .inl (cT 0, 24, .inl wf))]) [0, 1] rfl
  have hD9 := hD.sub (ws' := [(h, .inr (4, [.ref ww, .int 1, .int wb])), (ww, .inl (cT 0, 24, .inl wf))]) [0, 1] (by decide) rfl
  refine W.widen (k := 0) (n := 0) (Nat.le_of_ble_eq_true rfl) (Nat.le_of_ble_eq_true rfl) ?_
  exact W.vret hx hb hr (fun t ht hW => ⟨⟨(fun _ => 0), rfl, trivial, by rw [ht]; exact hP9, hD9⟩, hS.F ht⟩) hS.2.2 dW_trim_39
set_option maxHeartbeats 4000000 in
set_option maxRecDepth 100000 in
theorem k_setZ24 (l : Launch) (D : va_G) (cT : Nat → ClassId) (h : Nat) (ww : Nat) (wl : Int32) (wb : Int32) (wf : Nat → Int32) (sz : Nat) : Met l yW_set WW_set ({ frames := 1, cells := 0, slots := 0, locals := 21 } : Room) (RW D vwCl [.ref h, .int 0] [(h, .inr (4, [.ref ww, .int wl, .int wb])), (ww, .inl (cT 0, 24, .inl wf))] (TY cT) sz) (va_Qv (fun _ : Nat → Nat => True) (BW D vwCl (va_A [(h, .inr (4, [.ref ww, .int wl, .int wb])), (ww, .inl (cT 0, 24, .inl wf))] sz) (fun u => [(h, .inr (4, [.ref ww, .int 0, .int 0])), (ww, .inl (cT 0, 24, .inl (upd wf 0 0)))])) (va_A [(h, .inr (4, [.ref ww, .int wl, .int wb])), (ww, .inl (cT 0, 24, .inl wf))] sz)) 0 0 (va_A [(h, .inr (4, [.ref ww, .int wl, .int wb])), (ww, .inl (cT 0, 24, .inl wf))] sz) := by
  refine Met.ofW (cc := cW_set) (maxL := 2) (ret := none) (by decide) rfl ?_
  intro p e s m args below meth c s₁ B hml hv
  obtain ⟨rfl, hsz, hZ, hP, hK, hD0⟩ := hv
  have hx := B.exec
  have hb := B.bytes
  have hr := B.returns
  have hts := atoms_spec (ws := WW_set) B.pre
  have hT : ∀ w ∈ TB, w.before _ s = true := fun w h => hts w (List.mem_cons_of_mem _ h)
  have hown : s.vm.findClass R_W = some m.cls := findClass_of_methodNamed B.named
  have hlocks := B.notSynchronized
  subst hsz
  have hD := hD0.self (sz := s.heap.size)
  generalize hAe : va_A [(h, .inr (4, [.ref ww, .int wl, .int wb])), (ww, .inl (cT 0, 24, .inl wf))] s.heap.size = A at hD hZ ⊢
  have hA : ∀ q : Nat, s.heap.size ≤ q → A q := fun q h => by rw [← hAe]; exact Or.inr h
  have hS : va_S A s.heap s.heap [] := va_S.rf
  have hl := lv_entry ([.ref h, .int 0]) (n := 2) (Nat.le_of_ble_eq_true rfl)
  rw [lg_entry_eq]
  generalize (lg_sl ([.ref h, .int 0]) ++ List.replicate (2 - (lg_sl ([.ref h, .int 0])).length) Slot.unset).toArray = ls at hl ⊢
  have hl : lv_has ls 2 [(0, .ref h), (1, .int 0)] := hl
  refine lv_aload_n hx hb dW_set_0 rfl (lv_at hl 0 rfl) ?_
  refine lv_iload_n hx hb dW_set_1 rfl (lv_at hl 1 rfl) ?_
  refine lv_if_ge (tgt := 9) hx hb dW_set_2 rfl (fun _ => ?_) (fun hj1 => absurd (by decide) hj1)
  refine lv_iconst (v := 0) hx hb dW_set_9 (by decide) ?_
  refine va_put (D := D) (ci := 4) (v := .int 0) (ty := .boolean) (C := R_W) (T := T_W) (N := 3) hx hb hT in_W ty_W ty_W_ok m_W hown hK hP hD hS 0 rfl rfl 2 (by decide) (hT _ w149) (fun _ h9 => h9) rfl (by decide +kernel) rfl rfl (Nat.le_of_ble_eq_true rfl) dW_set_10 (fun H locs hP hD hS => ?_)
  have hP : va_P D vwCl [(h, .inr (4, [.ref ww, .int wl, .int 0])), (ww, .inl (cT 0, 24, .inl wf))] H := hP
  have hD : va_D A [(h, .inr (4, [.ref ww, .int wl, .int 0])), (ww, .inl (cT 0, 24, .inl wf))] := hD
  refine lv_aload_n hx hb dW_set_13 rfl (lv_at hl 0 rfl) ?_
  refine va_get (D := D) (ci := 4) (v := .ref ww) (C := R_W) (T := T_W) (N := 3) hx hb hT in_W hown hK hP 0 rfl rfl 0 (by decide) (hT _ w145) (fun _ h9 => h9) rfl dW_set_14 ?_
  refine lv_iconst (v := 0) hx hb dW_set_17 (by decide) ?_
  refine lv_aload_n hx hb dW_set_18 rfl (lv_at hl 0 rfl) ?_
  refine va_get (D := D) (ci := 4) (v := .int 0) (C := R_W) (T := T_W) (N := 3) hx hb hT in_W hown hK hP 0 rfl rfl 2 (by decide) (hT _ w149) (fun _ h9 => h9) rfl dW_set_19 ?_
  refine lv_if_eq (tgt := 30) hx hb dW_set_22 rfl (fun _ => ?_) (fun hj2 => absurd (by decide) hj2)
  refine lv_iload_n hx hb dW_set_30 rfl (lv_at hl 1 rfl) ?_
  refine va_iast hx hb hK hP hD hS 1 0 rfl rfl (by unfold vp_in; decide) dW_set_31 (fun H locs hP hD hS => ?_)
  have hP : va_P D vwCl [(h, .inr (4, [.ref ww, .int wl, .int 0])), (ww, .inl (cT 0, 24, .inl (upd wf 0 0)))] H := hP
  have hD : va_D A [(h, .inr (4, [.ref ww, .int wl, .int 0])), (ww, .inl (cT 0, 24, .inl (upd wf 0 0)))] := hD
  refine lv_aload_n hx hb dW_set_32 rfl (lv_at hl 0 rfl) ?_
  refine lv_iconst (v := 1) hx hb dW_set_33 (by decide) ?_
  refine rw_v (wc := [(h, .inr (4, [.ref ww, .int wl, .int 0])), (ww, .inl (cT 0, 24, .inl (upd wf 0 0)))]) (wr := []) hP hD hS hA [0, 1] [] rfl rfl (by decide) (by decide) (va_runV (As := [.int 1]) (rest := []) ⟨hx, hb, hml, hown, hT⟩ (k_trimZ24 l D cT h ww wl 0 (upd wf 0 0) rfl _) ⟨callB_of 1 hT (tb_gd w397) rfl rfl rfl (hT _ w5) (hT _ w394) hW_trim ⟨Nat.le_of_ble_eq_true rfl, Nat.le_of_ble_eq_true rfl⟩, (hT _ w396), (hT _ wp3)⟩ (RW.preV (ci := 4) (q0 := 0) hZ hS (va_free (wc := [(h, .inr (4, [.ref ww, .int wl, .int 0])), (ww, .inl (cT 0, 24, .inl (upd wf 0 0)))]) hD hS hA [0, 1] rfl) (hP.sub (ws' := [(h, .inr (4, [.ref ww, .int wl, .int 0])), (ww, .inl (cT 0, 24, .inl (upd wf 0 0)))]) [0, 1] rfl) hK (hD.sub (ws' := [(h, .inr (4, [.ref ww, .int wl, .int 0])), (ww, .inl (cT 0, 24, .inl (upd wf 0 0)))]) [0, 1] (by decide) rfl) rfl rfl) rfl rfl hl.1 rfl (lv_room (Nat.le_of_ble_eq_true rfl)) dW_set_34 ⟨Nat.le_of_ble_eq_true rfl, Nat.le_of_ble_eq_true rfl⟩) (fun u3 H locs hpu3 hP hD hS => ?_)
  have hP : va_P D vwCl [(h, .inr (4, [.ref ww, .int 0, .int 0])), (ww, .inl (cT 0, 24, .inl (upd wf 0 0)))] H := hP
  have hD : va_D A [(h, .inr (4, [.ref ww, .int 0, .int 0])), (ww, .inl (cT 0, 24, .inl (upd wf 0 0)))] := hD
  have hP9 := hP.sub (ws' := [(h, .inr (4, [.ref ww, .int 0, .int 0])), (ww, .inl (cT 0, 24, .inl (upd wf 0 0)))]) [0, 1] rfl
  have hD9 := hD.sub (ws' := [(h, .inr (4, [.ref ww, .int 0, .int 0])), (ww, .inl (cT 0, 24, .inl (upd wf 0 0)))]) [0, 1] (by decide) rfl
  refine W.widen (k := 0) (n := 0) (Nat.le_of_ble_eq_true rfl) (Nat.le_of_ble_eq_true rfl) ?_
  exact W.vret hx hb hr (fun t ht hW => ⟨⟨(fun _ => 0), rfl, trivial, by rw [ht]; exact hP9, hD9⟩, hS.F ht⟩) hS.2.2 dW_set_37
set_option maxHeartbeats 4000000 in
set_option maxRecDepth 100000 in
theorem k_setO24 (l : Launch) (D : va_G) (cT : Nat → ClassId) (h : Nat) (ww : Nat) (wl : Int32) (wb : Int32) (wf : Nat → Int32) (sz : Nat) : Met l yW_set WW_set ({ frames := 1, cells := 0, slots := 0, locals := 21 } : Room) (RW D vwCl [.ref h, .int 1] [(h, .inr (4, [.ref ww, .int wl, .int wb])), (ww, .inl (cT 0, 24, .inl wf))] (TY cT) sz) (va_Qv (fun _ : Nat → Nat => True) (BW D vwCl (va_A [(h, .inr (4, [.ref ww, .int wl, .int wb])), (ww, .inl (cT 0, 24, .inl wf))] sz) (fun u => [(h, .inr (4, [.ref ww, .int 1, .int 0])), (ww, .inl (cT 0, 24, .inl (upd wf 0 1)))])) (va_A [(h, .inr (4, [.ref ww, .int wl, .int wb])), (ww, .inl (cT 0, 24, .inl wf))] sz)) 0 0 (va_A [(h, .inr (4, [.ref ww, .int wl, .int wb])), (ww, .inl (cT 0, 24, .inl wf))] sz) := by
  refine Met.ofW (cc := cW_set) (maxL := 2) (ret := none) (by decide) rfl ?_
  intro p e s m args below meth c s₁ B hml hv
  obtain ⟨rfl, hsz, hZ, hP, hK, hD0⟩ := hv
  have hx := B.exec
  have hb := B.bytes
  have hr := B.returns
  have hts := atoms_spec (ws := WW_set) B.pre
  have hT : ∀ w ∈ TB, w.before _ s = true := fun w h => hts w (List.mem_cons_of_mem _ h)
  have hown : s.vm.findClass R_W = some m.cls := findClass_of_methodNamed B.named
  have hlocks := B.notSynchronized
  subst hsz
  have hD := hD0.self (sz := s.heap.size)
  generalize hAe : va_A [(h, .inr (4, [.ref ww, .int wl, .int wb])), (ww, .inl (cT 0, 24, .inl wf))] s.heap.size = A at hD hZ ⊢
  have hA : ∀ q : Nat, s.heap.size ≤ q → A q := fun q h => by rw [← hAe]; exact Or.inr h
  have hS : va_S A s.heap s.heap [] := va_S.rf
  have hl := lv_entry ([.ref h, .int 1]) (n := 2) (Nat.le_of_ble_eq_true rfl)
  rw [lg_entry_eq]
  generalize (lg_sl ([.ref h, .int 1]) ++ List.replicate (2 - (lg_sl ([.ref h, .int 1])).length) Slot.unset).toArray = ls at hl ⊢
  have hl : lv_has ls 2 [(0, .ref h), (1, .int 1)] := hl
  refine lv_aload_n hx hb dW_set_0 rfl (lv_at hl 0 rfl) ?_
  refine lv_iload_n hx hb dW_set_1 rfl (lv_at hl 1 rfl) ?_
  refine lv_if_ge (tgt := 9) hx hb dW_set_2 rfl (fun _ => ?_) (fun hj1 => absurd (by decide) hj1)
  refine lv_iconst (v := 0) hx hb dW_set_9 (by decide) ?_
  refine va_put (D := D) (ci := 4) (v := .int 0) (ty := .boolean) (C := R_W) (T := T_W) (N := 3) hx hb hT in_W ty_W ty_W_ok m_W hown hK hP hD hS 0 rfl rfl 2 (by decide) (hT _ w149) (fun _ h9 => h9) rfl (by decide +kernel) rfl rfl (Nat.le_of_ble_eq_true rfl) dW_set_10 (fun H locs hP hD hS => ?_)
  have hP : va_P D vwCl [(h, .inr (4, [.ref ww, .int wl, .int 0])), (ww, .inl (cT 0, 24, .inl wf))] H := hP
  have hD : va_D A [(h, .inr (4, [.ref ww, .int wl, .int 0])), (ww, .inl (cT 0, 24, .inl wf))] := hD
  refine lv_aload_n hx hb dW_set_13 rfl (lv_at hl 0 rfl) ?_
  refine va_get (D := D) (ci := 4) (v := .ref ww) (C := R_W) (T := T_W) (N := 3) hx hb hT in_W hown hK hP 0 rfl rfl 0 (by decide) (hT _ w145) (fun _ h9 => h9) rfl dW_set_14 ?_
  refine lv_iconst (v := 0) hx hb dW_set_17 (by decide) ?_
  refine lv_aload_n hx hb dW_set_18 rfl (lv_at hl 0 rfl) ?_
  refine va_get (D := D) (ci := 4) (v := .int 0) (C := R_W) (T := T_W) (N := 3) hx hb hT in_W hown hK hP 0 rfl rfl 2 (by decide) (hT _ w149) (fun _ h9 => h9) rfl dW_set_19 ?_
  refine lv_if_eq (tgt := 30) hx hb dW_set_22 rfl (fun _ => ?_) (fun hj2 => absurd (by decide) hj2)
  refine lv_iload_n hx hb dW_set_30 rfl (lv_at hl 1 rfl) ?_
  refine va_iast hx hb hK hP hD hS 1 0 rfl rfl (by unfold vp_in; decide) dW_set_31 (fun H locs hP hD hS => ?_)
  have hP : va_P D vwCl [(h, .inr (4, [.ref ww, .int wl, .int 0])), (ww, .inl (cT 0, 24, .inl (upd wf 0 1)))] H := hP
  have hD : va_D A [(h, .inr (4, [.ref ww, .int wl, .int 0])), (ww, .inl (cT 0, 24, .inl (upd wf 0 1)))] := hD
  refine lv_aload_n hx hb dW_set_32 rfl (lv_at hl 0 rfl) ?_
  refine lv_iconst (v := 1) hx hb dW_set_33 (by decide) ?_
  refine rw_v (wc := [(h, .inr (4, [.ref ww, .int wl, .int 0])), (ww, .inl (cT 0, 24, .inl (upd wf 0 1)))]) (wr := []) hP hD hS hA [0, 1] [] rfl rfl (by decide) (by decide) (va_runV (As := [.int 1]) (rest := []) ⟨hx, hb, hml, hown, hT⟩ (k_trimO24 l D cT h ww wl 0 (upd wf 0 1) (show ¬ (1 : Int32) = 0 by decide) _) ⟨callB_of 1 hT (tb_gd w397) rfl rfl rfl (hT _ w5) (hT _ w394) hW_trim ⟨Nat.le_of_ble_eq_true rfl, Nat.le_of_ble_eq_true rfl⟩, (hT _ w396), (hT _ wp3)⟩ (RW.preV (ci := 4) (q0 := 0) hZ hS (va_free (wc := [(h, .inr (4, [.ref ww, .int wl, .int 0])), (ww, .inl (cT 0, 24, .inl (upd wf 0 1)))]) hD hS hA [0, 1] rfl) (hP.sub (ws' := [(h, .inr (4, [.ref ww, .int wl, .int 0])), (ww, .inl (cT 0, 24, .inl (upd wf 0 1)))]) [0, 1] rfl) hK (hD.sub (ws' := [(h, .inr (4, [.ref ww, .int wl, .int 0])), (ww, .inl (cT 0, 24, .inl (upd wf 0 1)))]) [0, 1] (by decide) rfl) rfl rfl) rfl rfl hl.1 rfl (lv_room (Nat.le_of_ble_eq_true rfl)) dW_set_34 ⟨Nat.le_of_ble_eq_true rfl, Nat.le_of_ble_eq_true rfl⟩) (fun u3 H locs hpu3 hP hD hS => ?_)
  have hP : va_P D vwCl [(h, .inr (4, [.ref ww, .int 1, .int 0])), (ww, .inl (cT 0, 24, .inl (upd wf 0 1)))] H := hP
  have hD : va_D A [(h, .inr (4, [.ref ww, .int 1, .int 0])), (ww, .inl (cT 0, 24, .inl (upd wf 0 1)))] := hD
  have hP9 := hP.sub (ws' := [(h, .inr (4, [.ref ww, .int 1, .int 0])), (ww, .inl (cT 0, 24, .inl (upd wf 0 1)))]) [0, 1] rfl
  have hD9 := hD.sub (ws' := [(h, .inr (4, [.ref ww, .int 1, .int 0])), (ww, .inl (cT 0, 24, .inl (upd wf 0 1)))]) [0, 1] (by decide) rfl
  refine W.widen (k := 0) (n := 0) (Nat.le_of_ble_eq_true rfl) (Nat.le_of_ble_eq_true rfl) ?_
  exact W.vret hx hb hr (fun t ht hW => ⟨⟨(fun _ => 0), rfl, trivial, by rw [ht]; exact hP9, hD9⟩, hS.F ht⟩) hS.2.2 dW_set_37
set_option maxHeartbeats 4000000 in
set_option maxRecDepth 100000 in
theorem k_mostBits24 (l : Launch) (D : va_G) (cT : Nat → ClassId) (h : Nat) (ww : Nat) (wl : Int32) (wb : Int32) (wf : Nat → Int32) : Met l yW_mostBits WW_mostBits ({ frames := 0, cells := 0, slots := 0, locals := 0 } : Room) (RO D vwCl [.ref h] [(h, .inr (4, [.ref ww, .int wl, .int wb])), (ww, .inl (cT 0, 24, .inl wf))] (TY cT)) (QcRead 720) 0 0 (fun _ => False) := by
  refine Met.ofW (cc := cW_mostBits) (maxL := 1) (ret := (some .int)) (by decide) rfl ?_
  intro p e s m args below meth c s₁ B hml hv
  obtain ⟨rfl, hZ, hP, hK⟩ := hv
  have hx := B.exec
  have hb := B.bytes
  have hr := B.returns
  have hts := atoms_spec (ws := WW_mostBits) B.pre
  have hT : ∀ w ∈ TB, w.before _ s = true := fun w h => hts w (List.mem_cons_of_mem _ h)
  have hown : s.vm.findClass R_W = some m.cls := findClass_of_methodNamed B.named
  have hlocks := B.notSynchronized
  have hS : va_S (fun _ => False) s.heap s.heap [] := va_S.rf
  have hl := lv_entry ([.ref h]) (n := 1) (Nat.le_of_ble_eq_true rfl)
  rw [lg_entry_eq]
  generalize (lg_sl ([.ref h]) ++ List.replicate (1 - (lg_sl ([.ref h])).length) Slot.unset).toArray = ls at hl ⊢
  have hl : lv_has ls 1 [(0, .ref h)] := hl
  refine lv_aload_n hx hb dW_mostBits_0 rfl (lv_at hl 0 rfl) ?_
  refine va_get (D := D) (ci := 4) (v := .ref ww) (C := R_W) (T := T_W) (N := 3) hx hb hT in_W hown hK hP 0 rfl rfl 0 (by decide) (hT _ w145) (fun _ h9 => h9) rfl dW_mostBits_1 ?_
  refine va_alen (v := 24) hx hb hK hP 1 0 rfl rfl rfl dW_mostBits_4 ?_
  refine lv_bipush (v := 30) hx hb dW_mostBits_5 (by decide) ?_
  refine lv_imul hx hb dW_mostBits_7 ?_
  refine lv_topi (fun y9 e9 => ?_)
  cases (show y9 = 720 from e9.trans (by decide))
  exact W.iret (v := 720) hx hb hr (fun t ht hW => ⟨rfl, ht⟩) (fun q h => nomatch h) dW_mostBits_8
set_option maxHeartbeats 4000000 in
set_option maxRecDepth 100000 in
theorem k_restOne24 (l : Launch) (D : va_G) (cT : Nat → ClassId) (h : Nat) (ww : Nat) (wb : Int32) (wf : Nat → Int32) (d : Int32) (h0 : wf 0 = 1) (hn : ¬ (d : Int32).toInt64 = 0) (hr1 : 1 - 1 / (d : Int32).toInt64 * (d : Int32).toInt64 = 1) : Met l yW_rest WW_rest ({ frames := 0, cells := 0, slots := 0, locals := 0 } : Room) (RO D vwCl [.ref h, .int d] [(h, .inr (4, [.ref ww, .int 1, .int wb])), (ww, .inl (cT 0, 24, .inl wf))] (TY cT)) (QcRead 1) 0 0 (fun _ => False) := by
  refine Met.ofW (cc := cW_rest) (maxL := 5) (ret := (some .int)) (by decide) rfl ?_
  intro p e s m args below meth c s₁ B hml hv
  obtain ⟨rfl, hZ, hP, hK⟩ := hv
  have hx := B.exec
  have hb := B.bytes
  have hr := B.returns
  have hts := atoms_spec (ws := WW_rest) B.pre
  have hT : ∀ w ∈ TB, w.before _ s = true := fun w h => hts w (List.mem_cons_of_mem _ h)
  have hown : s.vm.findClass R_W = some m.cls := findClass_of_methodNamed B.named
  have hlocks := B.notSynchronized
  have hS : va_S (fun _ => False) s.heap s.heap [] := va_S.rf
  have hl := lv_entry ([.ref h, .int d]) (n := 5) (Nat.le_of_ble_eq_true rfl)
  rw [lg_entry_eq]
  generalize (lg_sl ([.ref h, .int d]) ++ List.replicate (5 - (lg_sl ([.ref h, .int d])).length) Slot.unset).toArray = ls at hl ⊢
  have hl : lv_has ls 5 [(0, .ref h), (1, .int d)] := hl
  refine lv_lconst (v := 0) hx hb dW_rest_0 (by decide) ?_
  refine lv_lstore_n hx hb dW_rest_1 rfl hl (by decide) rfl (fun ls hl => ?_)
  have hl : lv_has ls 5 [(2, .long 0), (0, .ref h), (1, .int d)] := hl
  refine lv_aload_n hx hb dW_rest_2 rfl (lv_at hl 1 rfl) ?_
  refine va_get (D := D) (ci := 4) (v := .int 1) (C := R_W) (T := T_W) (N := 3) hx hb hT in_W hown hK hP 0 rfl rfl 1 (by decide) (hT _ w148) (fun _ h9 => h9) rfl dW_rest_3 ?_
  refine lv_iconst (v := 1) hx hb dW_rest_6 (by decide) ?_
  refine lv_isub hx hb dW_rest_7 ?_
  refine lv_topi (fun y9 e9 => ?_)
  cases (show y9 = 0 from e9.trans (by decide))
  refine lv_istore hx hb dW_rest_8 hl (by decide) rfl (fun ls hl => ?_)
  have hl : lv_has ls 5 [(4, .int 0), (2, .long 0), (0, .ref h), (1, .int d)] := hl
  refine lv_iload hx hb dW_rest_10 (lv_at hl 0 rfl) ?_
  refine lv_if_lt (tgt := 39) hx hb dW_rest_12 rfl (fun hj1 => absurd hj1 (by decide)) (fun _ => ?_)
  refine lv_lload_n hx hb dW_rest_15 rfl (lv_at hl 1 rfl) ?_
  refine lv_ldc2 (v := 1000000000) hx hb hown (hT _ w421) dW_rest_16 ?_
  refine lv_lmul hx hb dW_rest_19 ?_
  refine lv_topl (fun y9 e9 => ?_)
  cases (show y9 = 0 from e9.trans (by decide))
  refine lv_aload_n hx hb dW_rest_20 rfl (lv_at hl 2 rfl) ?_
  refine va_get (D := D) (ci := 4) (v := .ref ww) (C := R_W) (T := T_W) (N := 3) hx hb hT in_W hown hK hP 0 rfl rfl 0 (by decide) (hT _ w145) (fun _ h9 => h9) rfl dW_rest_21 ?_
  refine lv_iload hx hb dW_rest_24 (lv_at hl 0 rfl) ?_
  refine va_iald hx hb hK hP 1 0 rfl rfl (by unfold vp_in; decide) dW_rest_26 ?_
  refine lv_topi (fun y9 e9 => ?_)
  cases (show y9 = 1 from e9.trans h0)
  refine lv_i2l (v := 1) hx hb dW_rest_27 (by decide) ?_
  refine lv_ladd hx hb dW_rest_28 ?_
  refine lv_topl (fun y9 e9 => ?_)
  cases (show y9 = 1 from e9.trans (by decide))
  refine lv_iload_n hx hb dW_rest_29 rfl (lv_at hl 3 rfl) ?_
  refine lv_i2l hx hb dW_rest_30 rfl ?_
  refine lv_lrem hx hb dW_rest_31 hn ?_
  refine lv_topl (fun y9 e9 => ?_)
  cases (show y9 = 1 from e9.trans hr1)
  refine lv_lstore_n hx hb dW_rest_32 rfl hl (by decide) rfl (fun ls hl => ?_)
  have hl : lv_has ls 5 [(2, .long 1), (4, .int 0), (0, .ref h), (1, .int d)] := hl
  refine lv_iinc (k := 1) (v := (-1)) hx hb dW_rest_33 hl rfl (by decide) (by decide) rfl (fun ls hl => ?_)
  have hl : lv_has ls 5 [(4, .int (-1)), (2, .long 1), (0, .ref h), (1, .int d)] := hl
  refine lv_goto (tgt := 10) hx hb dW_rest_36 rfl ?_
  refine lv_iload hx hb dW_rest_10 (lv_at hl 0 rfl) ?_
  refine lv_if_lt (tgt := 39) hx hb dW_rest_12 rfl (fun _ => ?_) (fun hj2 => absurd (by decide) hj2)
  refine lv_lload_n hx hb dW_rest_39 rfl (lv_at hl 1 rfl) ?_
  refine lv_l2i (v := 1) hx hb dW_rest_40 (by decide) ?_
  exact W.iret (v := 1) hx hb hr (fun t ht hW => ⟨rfl, ht⟩) (fun q h => nomatch h) dW_rest_41
set_option maxHeartbeats 4000000 in
set_option maxRecDepth 100000 in
theorem k_dividesOne24_0 (l : Launch) (D : va_G) (cT : Nat → ClassId) (h : Nat) (ww : Nat) (wb : Int32) (wf : Nat → Int32) (d : Int32) (ua : Nat) (h0 : wf 0 = 1) (hn : ¬ (d : Int32).toInt64 = 0) (hr1 : 1 - 1 / (d : Int32).toInt64 * (d : Int32).toInt64 = 1) : Met l yR_divides WR_divides ({ frames := 1, cells := 0, slots := 0, locals := 24 } : Room) (RO D vwCl [.int d, .ref ua, .int 0, .ref h] [(h, .inr (4, [.ref ww, .int 1, .int wb])), (ww, .inl (cT 0, 24, .inl wf))] (TY cT)) (QcRead 0) 0 0 (fun _ => False) := by
  refine Met.ofW (cc := cR_divides) (maxL := 6) (ret := (some .boolean)) (by decide) rfl ?_
  intro p e s m args below meth c s₁ B hml hv
  obtain ⟨rfl, hZ, hP, hK⟩ := hv
  have hx := B.exec
  have hb := B.bytes
  have hr := B.returns
  have hts := atoms_spec (ws := WR_divides) B.pre
  have hT : ∀ w ∈ TB, w.before _ s = true := fun w h => hts w (List.mem_cons_of_mem _ h)
  have hown : s.vm.findClass R_R = some m.cls := findClass_of_methodNamed B.named
  have hlocks := B.notSynchronized
  have hS : va_S (fun _ => False) s.heap s.heap [] := va_S.rf
  have hl := lv_entry ([.int d, .ref ua, .int 0, .ref h]) (n := 6) (Nat.le_of_ble_eq_true rfl)
  rw [lg_entry_eq]
  generalize (lg_sl ([.int d, .ref ua, .int 0, .ref h]) ++ List.replicate (6 - (lg_sl ([.int d, .ref ua, .int 0, .ref h])).length) Slot.unset).toArray = ls at hl ⊢
  have hl : lv_has ls 6 [(0, .int d), (1, .ref ua), (2, .int 0), (3, .ref h)] := hl
  refine lv_aload_n hx hb dR_divides_0 rfl (lv_at hl 3 rfl) ?_
  refine lv_iload_n hx hb dR_divides_1 rfl (lv_at hl 0 rfl) ?_
  refine ro_i (va_Run.run (va_runV (As := [.int d]) (rest := []) ⟨hx, hb, hml, hown, hT⟩ (k_restOne24 l D cT h ww wb wf d h0 hn hr1) ⟨callB_of 1 hT (tb_gd w958) rfl rfl rfl (hT _ w5) (hT _ w979) hW_rest ⟨Nat.le_of_ble_eq_true rfl, Nat.le_of_ble_eq_true rfl⟩, (hT _ w956), (hT _ w957)⟩ (RO.preV (ci := 4) (q0 := 0) hZ hS (hP.sub (ws' := [(h, .inr (4, [.ref ww, .int 1, .int wb])), (ww, .inl (cT 0, 24, .inl wf))]) [0, 1] rfl) hK rfl rfl) rfl rfl hl.1 rfl (lv_room (Nat.le_of_ble_eq_true rfl)) dR_divides_2 ⟨Nat.le_of_ble_eq_true rfl, Nat.le_of_ble_eq_true rfl⟩)) ?_
  refine lv_if_ne (tgt := 12) hx hb dR_divides_5 rfl (fun _ => ?_) (fun hj1 => absurd hj1 (by decide))
  refine lv_iconst (v := 0) hx hb dR_divides_12 (by decide) ?_
  refine lv_istore hx hb dR_divides_13 hl (by decide) rfl (fun ls hl => ?_)
  have hl : lv_has ls 6 [(4, .int 0), (0, .int d), (1, .ref ua), (2, .int 0), (3, .ref h)] := hl
  refine lv_iconst (v := 0) hx hb dR_divides_15 (by decide) ?_
  refine lv_istore hx hb dR_divides_16 hl (by decide) rfl (fun ls hl => ?_)
  have hl : lv_has ls 6 [(5, .int 0), (4, .int 0), (0, .int d), (1, .ref ua), (2, .int 0), (3, .ref h)] := hl
  refine lv_iload hx hb dR_divides_18 (lv_at hl 0 rfl) ?_
  refine lv_iload_n hx hb dR_divides_20 rfl (lv_at hl 4 rfl) ?_
  refine lv_icmp_ge (tgt := 53) hx hb dR_divides_21 rfl (fun _ => ?_) (fun hj2 => absurd (by decide) hj2)
  refine lv_iload hx hb dR_divides_53 (lv_at hl 1 rfl) ?_
  exact W.zret (v := 0) hx hb hr rfl (fun t ht hW => ⟨rfl, ht⟩) (fun q h => nomatch h) dR_divides_55
set_option maxHeartbeats 4000000 in
set_option maxRecDepth 100000 in
theorem k_dividesOne24_1 (l : Launch) (D : va_G) (cT : Nat → ClassId) (h : Nat) (ww : Nat) (wb : Int32) (wf : Nat → Int32) (d : Int32) (ua : Nat) (h0 : wf 0 = 1) (hn : ¬ (d : Int32).toInt64 = 0) (hr1 : 1 - 1 / (d : Int32).toInt64 * (d : Int32).toInt64 = 1) : Met l yR_divides WR_divides ({ frames := 1, cells := 0, slots := 0, locals := 24 } : Room) (RO D vwCl [.int d, .ref ua, .int 1, .ref h] [(h, .inr (4, [.ref ww, .int 1, .int wb])), (ww, .inl (cT 0, 24, .inl wf))] (TY cT)) (QcRead 0) 0 0 (fun _ => False) := by
  refine Met.ofW (cc := cR_divides) (maxL := 6) (ret := (some .boolean)) (by decide) rfl ?_
  intro p e s m args below meth c s₁ B hml hv
  obtain ⟨rfl, hZ, hP, hK⟩ := hv
  have hx := B.exec
  have hb := B.bytes
  have hr := B.returns
  have hts := atoms_spec (ws := WR_divides) B.pre
  have hT : ∀ w ∈ TB, w.before _ s = true := fun w h => hts w (List.mem_cons_of_mem _ h)
  have hown : s.vm.findClass R_R = some m.cls := findClass_of_methodNamed B.named
  have hlocks := B.notSynchronized
  have hS : va_S (fun _ => False) s.heap s.heap [] := va_S.rf
  have hl := lv_entry ([.int d, .ref ua, .int 1, .ref h]) (n := 6) (Nat.le_of_ble_eq_true rfl)
  rw [lg_entry_eq]
  generalize (lg_sl ([.int d, .ref ua, .int 1, .ref h]) ++ List.replicate (6 - (lg_sl ([.int d, .ref ua, .int 1, .ref h])).length) Slot.unset).toArray = ls at hl ⊢
  have hl : lv_has ls 6 [(0, .int d), (1, .ref ua), (2, .int 1), (3, .ref h)] := hl
  refine lv_aload_n hx hb dR_divides_0 rfl (lv_at hl 3 rfl) ?_
  refine lv_iload_n hx hb dR_divides_1 rfl (lv_at hl 0 rfl) ?_
  refine ro_i (va_Run.run (va_runV (As := [.int d]) (rest := []) ⟨hx, hb, hml, hown, hT⟩ (k_restOne24 l D cT h ww wb wf d h0 hn hr1) ⟨callB_of 1 hT (tb_gd w958) rfl rfl rfl (hT _ w5) (hT _ w979) hW_rest ⟨Nat.le_of_ble_eq_true rfl, Nat.le_of_ble_eq_true rfl⟩, (hT _ w956), (hT _ w957)⟩ (RO.preV (ci := 4) (q0 := 0) hZ hS (hP.sub (ws' := [(h, .inr (4, [.ref ww, .int 1, .int wb])), (ww, .inl (cT 0, 24, .inl wf))]) [0, 1] rfl) hK rfl rfl) rfl rfl hl.1 rfl (lv_room (Nat.le_of_ble_eq_true rfl)) dR_divides_2 ⟨Nat.le_of_ble_eq_true rfl, Nat.le_of_ble_eq_true rfl⟩)) ?_
  refine lv_if_ne (tgt := 12) hx hb dR_divides_5 rfl (fun _ => ?_) (fun hj1 => absurd hj1 (by decide))
  refine lv_iconst (v := 0) hx hb dR_divides_12 (by decide) ?_
  refine lv_istore hx hb dR_divides_13 hl (by decide) rfl (fun ls hl => ?_)
  have hl : lv_has ls 6 [(4, .int 0), (0, .int d), (1, .ref ua), (2, .int 1), (3, .ref h)] := hl
  refine lv_iconst (v := 0) hx hb dR_divides_15 (by decide) ?_
  refine lv_istore hx hb dR_divides_16 hl (by decide) rfl (fun ls hl => ?_)
  have hl : lv_has ls 6 [(5, .int 0), (4, .int 0), (0, .int d), (1, .ref ua), (2, .int 1), (3, .ref h)] := hl
  refine lv_iload hx hb dR_divides_18 (lv_at hl 0 rfl) ?_
  refine lv_iload_n hx hb dR_divides_20 rfl (lv_at hl 4 rfl) ?_
  refine lv_icmp_ge (tgt := 53) hx hb dR_divides_21 rfl (fun hj2 => absurd hj2 (by decide)) (fun _ => ?_)
  refine lv_iload hx hb dR_divides_24 (lv_at hl 1 rfl) ?_
  refine lv_if_eq (tgt := 53) hx hb dR_divides_26 rfl (fun _ => ?_) (fun hj3 => absurd (by decide) hj3)
  refine lv_iload hx hb dR_divides_53 (lv_at hl 1 rfl) ?_
  exact W.zret (v := 0) hx hb hr rfl (fun t ht hW => ⟨rfl, ht⟩) (fun q h => nomatch h) dR_divides_55
set_option maxHeartbeats 4000000 in
set_option maxRecDepth 100000 in
theorem k_trimZ48 (l : Launch) (D : va_G) (cT : Nat → ClassId) (h : Nat) (ww : Nat) (wl : Int32) (wb : Int32) (wf : Nat → Int32) (h0 : wf 0 = 0) (sz : Nat) : Met l yW_trim WW_trim ({ frames := 0, cells := 0, slots := 0, locals := 0 } : Room) (RW D vwCl [.ref h, .int 1] [(h, .inr (4, [.ref ww, .int wl, .int wb])), (ww, .inl (cT 0, 48, .inl wf))] (TY cT) sz) (va_Qv (fun _ : Nat → Nat => True) (BW D vwCl (va_A [(h, .inr (4, [.ref ww, .int wl, .int wb])), (ww, .inl (cT 0, 48, .inl wf))] sz) (fun u => [(h, .inr (4, [.ref ww, .int 0, .int wb])), (ww, .inl (cT 0, 48, .inl wf))])) (va_A [(h, .inr (4, [.ref ww, .int wl, .int wb])), (ww, .inl (cT 0, 48, .inl wf))] sz)) 0 0 (va_A [(h, .inr (4, [.ref ww, .int wl, .int wb])), (ww, .inl (cT 0, 48, .inl wf))] sz) := by
  refine Met.ofW (cc := cW_trim) (maxL := 2) (ret := none) (by decide) rfl ?_
  intro p e s m args below meth c s₁ B hml hv
  obtain ⟨rfl, hsz, hZ, hP, hK, hD0⟩ := hv
  have hx := B.exec
  have hb := B.bytes
  have hr := B.returns
  have hts := atoms_spec (ws := WW_trim) B.pre
  have hT : ∀ w ∈ TB, w.before _ s = true := fun w h => hts w (List.mem_cons_of_mem _ h)
  have hown : s.vm.findClass R_W = some m.cls := findClass_of_methodNamed B.named
  have hlocks := B.notSynchronized
  subst hsz
  have hD := hD0.self (sz := s.heap.size)
  generalize hAe : va_A [(h, .inr (4, [.ref ww, .int wl, .int wb])), (ww, .inl (cT 0, 48, .inl wf))] s.heap.size = A at hD hZ ⊢
  have hA : ∀ q : Nat, s.heap.size ≤ q → A q := fun q h => by rw [← hAe]; exact Or.inr h
  have hS : va_S A s.heap s.heap [] := va_S.rf
  have hl := lv_entry ([.ref h, .int 1]) (n := 2) (Nat.le_of_ble_eq_true rfl)
  rw [lg_entry_eq]
  generalize (lg_sl ([.ref h, .int 1]) ++ List.replicate (2 - (lg_sl ([.ref h, .int 1])).length) Slot.unset).toArray = ls at hl ⊢
  have hl : lv_has ls 2 [(0, .ref h), (1, .int 1)] := hl
  refine lv_aload_n hx hb dW_trim_0 rfl (lv_at hl 0 rfl) ?_
  refine lv_iload_n hx hb dW_trim_1 rfl (lv_at hl 1 rfl) ?_
  refine va_put (D := D) (ci := 4) (v := .int 1) (ty := .int) (C := R_W) (T := T_W) (N := 3) hx hb hT in_W ty_W ty_W_ok m_W hown hK hP hD hS 0 rfl rfl 1 (by decide) (hT _ w148) (fun _ h9 => h9) rfl (by decide +kernel) rfl rfl (Nat.le_of_ble_eq_true rfl) dW_trim_2 (fun H locs hP hD hS => ?_)
  have hP : va_P D vwCl [(h, .inr (4, [.ref ww, .int 1, .int wb])), (ww, .inl (cT 0, 48, .inl wf))] H := hP
  have hD : va_D A [(h, .inr (4, [.ref ww, .int 1, .int wb])), (ww, .inl (cT 0, 48, .inl wf))] := hD
  refine lv_aload_n hx hb dW_trim_5 rfl (lv_at hl 0 rfl) ?_
  refine va_get (D := D) (ci := 4) (v := .int 1) (C := R_W) (T := T_W) (N := 3) hx hb hT in_W hown hK hP 0 rfl rfl 1 (by decide) (hT _ w148) (fun _ h9 => h9) rfl dW_trim_6 ?_
  refine lv_if_le (tgt := 39) hx hb dW_trim_9 rfl (fun hj1 => absurd hj1 (by decide)) (fun _ => ?_)
  refine lv_aload_n hx hb dW_trim_12 rfl (lv_at hl 0 rfl) ?_
  refine va_get (D := D) (ci := 4) (v := .ref ww) (C := R_W) (T := T_W) (N := 3) hx hb hT in_W hown hK hP 0 rfl rfl 0 (by decide) (hT _ w145) (fun _ h9 => h9) rfl dW_trim_13 ?_
  refine lv_aload_n hx hb dW_trim_16 rfl (lv_at hl 0 rfl) ?_
  refine va_get (D := D) (ci := 4) (v := .int 1) (C := R_W) (T := T_W) (N := 3) hx hb hT in_W hown hK hP 0 rfl rfl 1 (by decide) (hT _ w148) (fun _ h9 => h9) rfl dW_trim_17 ?_
  refine lv_iconst (v := 1) hx hb dW_trim_20 (by decide) ?_
  refine lv_isub hx hb dW_trim_21 ?_
  refine lv_topi (fun y9 e9 => ?_)
  cases (show y9 = 0 from e9.trans (by decide))
  refine va_iald hx hb hK hP 1 0 rfl rfl (by unfold vp_in; decide) dW_trim_22 ?_
  refine lv_if_ne (tgt := 39) hx hb dW_trim_23 rfl (fun hj2 => absurd h0 hj2) (fun _ => ?_)
  refine lv_aload_n hx hb dW_trim_26 rfl (lv_at hl 0 rfl) ?_
  refine lv_dup hx hb dW_trim_27 rfl ?_
  refine va_get (D := D) (ci := 4) (v := .int 1) (C := R_W) (T := T_W) (N := 3) hx hb hT in_W hown hK hP 0 rfl rfl 1 (by decide) (hT _ w148) (fun _ h9 => h9) rfl dW_trim_28 ?_
  refine lv_iconst (v := 1) hx hb dW_trim_31 (by decide) ?_
  refine lv_isub hx hb dW_trim_32 ?_
  refine lv_topi (fun y9 e9 => ?_)
  cases (show y9 = 0 from e9.trans (by decide))
  refine va_put (D := D) (ci := 4) (v := .int 0) (ty := .int) (C := R_W) (T := T_W) (N := 3) hx hb hT in_W ty_W ty_W_ok m_W hown hK hP hD hS 0 rfl rfl 1 (by decide) (hT _ w148) (fun _ h9 => h9) rfl (by decide +kernel) rfl rfl (Nat.le_of_ble_eq_true rfl) dW_trim_33 (fun H locs hP hD hS => ?_)
  have hP : va_P D vwCl [(h, .inr (4, [.ref ww, .int 0, .int wb])), (ww, .inl (cT 0, 48, .inl wf))] H := hP
  have hD : va_D A [(h, .inr (4, [.ref ww, .int 0, .int wb])), (ww, .inl (cT 0, 48, .inl wf))] := hD
  refine lv_goto (tgt := 5) hx hb dW_trim_36 rfl ?_
  refine lv_aload_n hx hb dW_trim_5 rfl (lv_at hl 0 rfl) ?_
  refine va_get (D := D) (ci := 4) (v := .int 0) (C := R_W) (T := T_W) (N := 3) hx hb hT in_W hown hK hP 0 rfl rfl 1 (by decide) (hT _ w148) (fun _ h9 => h9) rfl dW_trim_6 ?_
  refine lv_if_le (tgt := 39) hx hb dW_trim_9 rfl (fun _ => ?_) (fun hj3 => absurd (by decide) hj3)
  have hP9 := hP.sub (ws' := [(h, .inr (4, [.ref ww, .int 0, .int wb])), (ww, .inl (cT 0, 48, .inl wf))]) [0, 1] rfl
  have hD9 := hD.sub (ws' := [(h, .inr (4, [.ref ww, .int 0, .int wb])), (ww, .inl (cT 0, 48, .inl wf))]) [0, 1] (by decide) rfl
  refine W.widen (k := 0) (n := 0) (Nat.le_of_ble_eq_true rfl) (Nat.le_of_ble_eq_true rfl) ?_
  exact W.vret hx hb hr (fun t ht hW => ⟨⟨(fun _ => 0), rfl, trivial, by rw [ht]; exact hP9, hD9⟩, hS.F ht⟩) hS.2.2 dW_trim_39
set_option maxHeartbeats 4000000 in
set_option maxRecDepth 100000 in
theorem k_trimO48 (l : Launch) (D : va_G) (cT : Nat → ClassId) (h : Nat) (ww : Nat) (wl : Int32) (wb : Int32) (wf : Nat → Int32) (h0 : ¬ wf 0 = 0) (sz : Nat) : Met l yW_trim WW_trim ({ frames := 0, cells := 0, slots := 0, locals := 0 } : Room) (RW D vwCl [.ref h, .int 1] [(h, .inr (4, [.ref ww, .int wl, .int wb])), (ww, .inl (cT 0, 48, .inl wf))] (TY cT) sz) (va_Qv (fun _ : Nat → Nat => True) (BW D vwCl (va_A [(h, .inr (4, [.ref ww, .int wl, .int wb])), (ww, .inl (cT 0, 48, .inl wf))] sz) (fun u => [(h, .inr (4, [.ref ww, .int 1, .int wb])), (ww, .inl (cT 0, 48, .inl wf))])) (va_A [(h, .inr (4, [.ref ww, .int wl, .int wb])), (ww, .inl (cT 0, 48, .inl wf))] sz)) 0 0 (va_A [(h, .inr (4, [.ref ww, .int wl, .int wb])), (ww, .inl (cT 0, 48, .inl wf))] sz) := by
  refine Met.ofW (cc := cW_trim) (maxL := 2) (ret := none) (by decide) rfl ?_
  intro p e s m args below meth c s₁ B hml hv
  obtain ⟨rfl, hsz, hZ, hP, hK, hD0⟩ := hv
  have hx := B.exec
  have hb := B.bytes
  have hr := B.returns
  have hts := atoms_spec (ws := WW_trim) B.pre
  have hT : ∀ w ∈ TB, w.before _ s = true := fun w h => hts w (List.mem_cons_of_mem _ h)
  have hown : s.vm.findClass R_W = some m.cls := findClass_of_methodNamed B.named
  have hlocks := B.notSynchronized
  subst hsz
  have hD := hD0.self (sz := s.heap.size)
  generalize hAe : va_A [(h, .inr (4, [.ref ww, .int wl, .int wb])), (ww, .inl (cT 0, 48, .inl wf))] s.heap.size = A at hD hZ ⊢
  have hA : ∀ q : Nat, s.heap.size ≤ q → A q := fun q h => by rw [← hAe]; exact Or.inr h
  have hS : va_S A s.heap s.heap [] := va_S.rf
  have hl := lv_entry ([.ref h, .int 1]) (n := 2) (Nat.le_of_ble_eq_true rfl)
  rw [lg_entry_eq]
  generalize (lg_sl ([.ref h, .int 1]) ++ List.replicate (2 - (lg_sl ([.ref h, .int 1])).length) Slot.unset).toArray = ls at hl ⊢
  have hl : lv_has ls 2 [(0, .ref h), (1, .int 1)] := hl
  refine lv_aload_n hx hb dW_trim_0 rfl (lv_at hl 0 rfl) ?_
  refine lv_iload_n hx hb dW_trim_1 rfl (lv_at hl 1 rfl) ?_
  refine va_put (D := D) (ci := 4) (v := .int 1) (ty := .int) (C := R_W) (T := T_W) (N := 3) hx hb hT in_W ty_W ty_W_ok m_W hown hK hP hD hS 0 rfl rfl 1 (by decide) (hT _ w148) (fun _ h9 => h9) rfl (by decide +kernel) rfl rfl (Nat.le_of_ble_eq_true rfl) dW_trim_2 (fun H locs hP hD hS => ?_)
  have hP : va_P D vwCl [(h, .inr (4, [.ref ww, .int 1, .int wb])), (ww, .inl (cT 0, 48, .inl wf))] H := hP
  have hD : va_D A [(h, .inr (4, [.ref ww, .int 1, .int wb])), (ww, .inl (cT 0, 48, .inl wf))] := hD
  refine lv_aload_n hx hb dW_trim_5 rfl (lv_at hl 0 rfl) ?_
  refine va_get (D := D) (ci := 4) (v := .int 1) (C := R_W) (T := T_W) (N := 3) hx hb hT in_W hown hK hP 0 rfl rfl 1 (by decide) (hT _ w148) (fun _ h9 => h9) rfl dW_trim_6 ?_
  refine lv_if_le (tgt := 39) hx hb dW_trim_9 rfl (fun hj1 => absurd hj1 (by decide)) (fun _ => ?_)
  refine lv_aload_n hx hb dW_trim_12 rfl (lv_at hl 0 rfl) ?_
  refine va_get (D := D) (ci := 4) (v := .ref ww) (C := R_W) (T := T_W) (N := 3) hx hb hT in_W hown hK hP 0 rfl rfl 0 (by decide) (hT _ w145) (fun _ h9 => h9) rfl dW_trim_13 ?_
  refine lv_aload_n hx hb dW_trim_16 rfl (lv_at hl 0 rfl) ?_
  refine va_get (D := D) (ci := 4) (v := .int 1) (C := R_W) (T := T_W) (N := 3) hx hb hT in_W hown hK hP 0 rfl rfl 1 (by decide) (hT _ w148) (fun _ h9 => h9) rfl dW_trim_17 ?_
  refine lv_iconst (v := 1) hx hb dW_trim_20 (by decide) ?_
  refine lv_isub hx hb dW_trim_21 ?_
  refine lv_topi (fun y9 e9 => ?_)
  cases (show y9 = 0 from e9.trans (by decide))
  refine va_iald hx hb hK hP 1 0 rfl rfl (by unfold vp_in; decide) dW_trim_22 ?_
  refine lv_if_ne (tgt := 39) hx hb dW_trim_23 rfl (fun _ => ?_) (fun hj2 => absurd hj2 h0)
  have hP9 := hP.sub (ws' := [(h, .inr (4, [.ref ww, .int 1, .int wb])), (ww, .inl (cT 0, 48, .inl wf))]) [0, 1] rfl
  have hD9 := hD.sub (ws' := [(h, .inr (4, [.ref ww, .int 1, .int wb])), (ww, .inl (cT 0, 48, .inl wf))]) [0, 1] (by decide) rfl
  refine W.widen (k := 0) (n := 0) (Nat.le_of_ble_eq_true rfl) (Nat.le_of_ble_eq_true rfl) ?_
  exact W.vret hx hb hr (fun t ht hW => ⟨⟨(fun _ => 0), rfl, trivial, by rw [ht]; exact hP9, hD9⟩, hS.F ht⟩) hS.2.2 dW_trim_39
set_option maxHeartbeats 4000000 in
set_option maxRecDepth 100000 in
theorem k_setZ48 (l : Launch) (D : va_G) (cT : Nat → ClassId) (h : Nat) (ww : Nat) (wl : Int32) (wb : Int32) (wf : Nat → Int32) (sz : Nat) : Met l yW_set WW_set ({ frames := 1, cells := 0, slots := 0, locals := 21 } : Room) (RW D vwCl [.ref h, .int 0] [(h, .inr (4, [.ref ww, .int wl, .int wb])), (ww, .inl (cT 0, 48, .inl wf))] (TY cT) sz) (va_Qv (fun _ : Nat → Nat => True) (BW D vwCl (va_A [(h, .inr (4, [.ref ww, .int wl, .int wb])), (ww, .inl (cT 0, 48, .inl wf))] sz) (fun u => [(h, .inr (4, [.ref ww, .int 0, .int 0])), (ww, .inl (cT 0, 48, .inl (upd wf 0 0)))])) (va_A [(h, .inr (4, [.ref ww, .int wl, .int wb])), (ww, .inl (cT 0, 48, .inl wf))] sz)) 0 0 (va_A [(h, .inr (4, [.ref ww, .int wl, .int wb])), (ww, .inl (cT 0, 48, .inl wf))] sz) := by
  refine Met.ofW (cc := cW_set) (maxL := 2) (ret := none) (by decide) rfl ?_
  intro p e s m args below meth c s₁ B hml hv
  obtain ⟨rfl, hsz, hZ, hP, hK, hD0⟩ := hv
  have hx := B.exec
  have hb := B.bytes
  have hr := B.returns
  have hts := atoms_spec (ws := WW_set) B.pre
  have hT : ∀ w ∈ TB, w.before _ s = true := fun w h => hts w (List.mem_cons_of_mem _ h)
  have hown : s.vm.findClass R_W = some m.cls := findClass_of_methodNamed B.named
  have hlocks := B.notSynchronized
  subst hsz
  have hD := hD0.self (sz := s.heap.size)
  generalize hAe : va_A [(h, .inr (4, [.ref ww, .int wl, .int wb])), (ww, .inl (cT 0, 48, .inl wf))] s.heap.size = A at hD hZ ⊢
  have hA : ∀ q : Nat, s.heap.size ≤ q → A q := fun q h => by rw [← hAe]; exact Or.inr h
  have hS : va_S A s.heap s.heap [] := va_S.rf
  have hl := lv_entry ([.ref h, .int 0]) (n := 2) (Nat.le_of_ble_eq_true rfl)
  rw [lg_entry_eq]
  generalize (lg_sl ([.ref h, .int 0]) ++ List.replicate (2 - (lg_sl ([.ref h, .int 0])).length) Slot.unset).toArray = ls at hl ⊢
  have hl : lv_has ls 2 [(0, .ref h), (1, .int 0)] := hl
  refine lv_aload_n hx hb dW_set_0 rfl (lv_at hl 0 rfl) ?_
  refine lv_iload_n hx hb dW_set_1 rfl (lv_at hl 1 rfl) ?_
  refine lv_if_ge (tgt := 9) hx hb dW_set_2 rfl (fun _ => ?_) (fun hj1 => absurd (by decide) hj1)
  refine lv_iconst (v := 0) hx hb dW_set_9 (by decide) ?_
  refine va_put (D := D) (ci := 4) (v := .int 0) (ty := .boolean) (C := R_W) (T := T_W) (N := 3) hx hb hT in_W ty_W ty_W_ok m_W hown hK hP hD hS 0 rfl rfl 2 (by decide) (hT _ w149) (fun _ h9 => h9) rfl (by decide +kernel) rfl rfl (Nat.le_of_ble_eq_true rfl) dW_set_10 (fun H locs hP hD hS => ?_)
  have hP : va_P D vwCl [(h, .inr (4, [.ref ww, .int wl, .int 0])), (ww, .inl (cT 0, 48, .inl wf))] H := hP
  have hD : va_D A [(h, .inr (4, [.ref ww, .int wl, .int 0])), (ww, .inl (cT 0, 48, .inl wf))] := hD
  refine lv_aload_n hx hb dW_set_13 rfl (lv_at hl 0 rfl) ?_
  refine va_get (D := D) (ci := 4) (v := .ref ww) (C := R_W) (T := T_W) (N := 3) hx hb hT in_W hown hK hP 0 rfl rfl 0 (by decide) (hT _ w145) (fun _ h9 => h9) rfl dW_set_14 ?_
  refine lv_iconst (v := 0) hx hb dW_set_17 (by decide) ?_
  refine lv_aload_n hx hb dW_set_18 rfl (lv_at hl 0 rfl) ?_
  refine va_get (D := D) (ci := 4) (v := .int 0) (C := R_W) (T := T_W) (N := 3) hx hb hT in_W hown hK hP 0 rfl rfl 2 (by decide) (hT _ w149) (fun _ h9 => h9) rfl dW_set_19 ?_
  refine lv_if_eq (tgt := 30) hx hb dW_set_22 rfl (fun _ => ?_) (fun hj2 => absurd (by decide) hj2)
  refine lv_iload_n hx hb dW_set_30 rfl (lv_at hl 1 rfl) ?_
  refine va_iast hx hb hK hP hD hS 1 0 rfl rfl (by unfold vp_in; decide) dW_set_31 (fun H locs hP hD hS => ?_)
  have hP : va_P D vwCl [(h, .inr (4, [.ref ww, .int wl, .int 0])), (ww, .inl (cT 0, 48, .inl (upd wf 0 0)))] H := hP
  have hD : va_D A [(h, .inr (4, [.ref ww, .int wl, .int 0])), (ww, .inl (cT 0, 48, .inl (upd wf 0 0)))] := hD
  refine lv_aload_n hx hb dW_set_32 rfl (lv_at hl 0 rfl) ?_
  refine lv_iconst (v := 1) hx hb dW_set_33 (by decide) ?_
  refine rw_v (wc := [(h, .inr (4, [.ref ww, .int wl, .int 0])), (ww, .inl (cT 0, 48, .inl (upd wf 0 0)))]) (wr := []) hP hD hS hA [0, 1] [] rfl rfl (by decide) (by decide) (va_runV (As := [.int 1]) (rest := []) ⟨hx, hb, hml, hown, hT⟩ (k_trimZ48 l D cT h ww wl 0 (upd wf 0 0) rfl _) ⟨callB_of 1 hT (tb_gd w397) rfl rfl rfl (hT _ w5) (hT _ w394) hW_trim ⟨Nat.le_of_ble_eq_true rfl, Nat.le_of_ble_eq_true rfl⟩, (hT _ w396), (hT _ wp3)⟩ (RW.preV (ci := 4) (q0 := 0) hZ hS (va_free (wc := [(h, .inr (4, [.ref ww, .int wl, .int 0])), (ww, .inl (cT 0, 48, .inl (upd wf 0 0)))]) hD hS hA [0, 1] rfl) (hP.sub (ws' := [(h, .inr (4, [.ref ww, .int wl, .int 0])), (ww, .inl (cT 0, 48, .inl (upd wf 0 0)))]) [0, 1] rfl) hK (hD.sub (ws' := [(h, .inr (4, [.ref ww, .int wl, .int 0])), (ww, .inl (cT 0, 48, .inl (upd wf 0 0)))]) [0, 1] (by decide) rfl) rfl rfl) rfl rfl hl.1 rfl (lv_room (Nat.le_of_ble_eq_true rfl)) dW_set_34 ⟨Nat.le_of_ble_eq_true rfl, Nat.le_of_ble_eq_true rfl⟩) (fun u3 H locs hpu3 hP hD hS => ?_)
  have hP : va_P D vwCl [(h, .inr (4, [.ref ww, .int 0, .int 0])), (ww, .inl (cT 0, 48, .inl (upd wf 0 0)))] H := hP
  have hD : va_D A [(h, .inr (4, [.ref ww, .int 0, .int 0])), (ww, .inl (cT 0, 48, .inl (upd wf 0 0)))] := hD
  have hP9 := hP.sub (ws' := [(h, .inr (4, [.ref ww, .int 0, .int 0])), (ww, .inl (cT 0, 48, .inl (upd wf 0 0)))]) [0, 1] rfl
  have hD9 := hD.sub (ws' := [(h, .inr (4, [.ref ww, .int 0, .int 0])), (ww, .inl (cT 0, 48, .inl (upd wf 0 0)))]) [0, 1] (by decide) rfl
  refine W.widen (k := 0) (n := 0) (Nat.le_of_ble_eq_true rfl) (Nat.le_of_ble_eq_true rfl) ?_
  exact W.vret hx hb hr (fun t ht hW => ⟨⟨(fun _ => 0), rfl, trivial, by rw [ht]; exact hP9, hD9⟩, hS.F ht⟩) hS.2.2 dW_set_37
set_option maxHeartbeats 4000000 in
set_option maxRecDepth 100000 in
theorem k_setO48 (l : Launch) (D : va_G) (cT : Nat → ClassId) (h : Nat) (ww : Nat) (wl : Int32) (wb : Int32) (wf : Nat → Int32) (sz : Nat) : Met l yW_set WW_set ({ frames := 1, cells := 0, slots := 0, locals := 21 } : Room) (RW D vwCl [.ref h, .int 1] [(h, .inr (4, [.ref ww, .int wl, .int wb])), (ww, .inl (cT 0, 48, .inl wf))] (TY cT) sz) (va_Qv (fun _ : Nat → Nat => True) (BW D vwCl (va_A [(h, .inr (4, [.ref ww, .int wl, .int wb])), (ww, .inl (cT 0, 48, .inl wf))] sz) (fun u => [(h, .inr (4, [.ref ww, .int 1, .int 0])), (ww, .inl (cT 0, 48, .inl (upd wf 0 1)))])) (va_A [(h, .inr (4, [.ref ww, .int wl, .int wb])), (ww, .inl (cT 0, 48, .inl wf))] sz)) 0 0 (va_A [(h, .inr (4, [.ref ww, .int wl, .int wb])), (ww, .inl (cT 0, 48, .inl wf))] sz) := by
  refine Met.ofW (cc := cW_set) (maxL := 2) (ret := none) (by decide) rfl ?_
  intro p e s m args below meth c s₁ B hml hv
  obtain ⟨rfl, hsz, hZ, hP, hK, hD0⟩ := hv
  have hx := B.exec
  have hb := B.bytes
  have hr := B.returns
  have hts := atoms_spec (ws := WW_set) B.pre
  have hT : ∀ w ∈ TB, w.before _ s = true := fun w h => hts w (List.mem_cons_of_mem _ h)
  have hown : s.vm.findClass R_W = some m.cls := findClass_of_methodNamed B.named
  have hlocks := B.notSynchronized
  subst hsz
  have hD := hD0.self (sz := s.heap.size)
  generalize hAe : va_A [(h, .inr (4, [.ref ww, .int wl, .int wb])), (ww, .inl (cT 0, 48, .inl wf))] s.heap.size = A at hD hZ ⊢
  have hA : ∀ q : Nat, s.heap.size ≤ q → A q := fun q h => by rw [← hAe]; exact Or.inr h
  have hS : va_S A s.heap s.heap [] := va_S.rf
  have hl := lv_entry ([.ref h, .int 1]) (n := 2) (Nat.le_of_ble_eq_true rfl)
  rw [lg_entry_eq]
  generalize (lg_sl ([.ref h, .int 1]) ++ List.replicate (2 - (lg_sl ([.ref h, .int 1])).length) Slot.unset).toArray = ls at hl ⊢
  have hl : lv_has ls 2 [(0, .ref h), (1, .int 1)] := hl
  refine lv_aload_n hx hb dW_set_0 rfl (lv_at hl 0 rfl) ?_
  refine lv_iload_n hx hb dW_set_1 rfl (lv_at hl 1 rfl) ?_
  refine lv_if_ge (tgt := 9) hx hb dW_set_2 rfl (fun _ => ?_) (fun hj1 => absurd (by decide) hj1)
  refine lv_iconst (v := 0) hx hb dW_set_9 (by decide) ?_
  refine va_put (D := D) (ci := 4) (v := .int 0) (ty := .boolean) (C := R_W) (T := T_W) (N := 3) hx hb hT in_W ty_W ty_W_ok m_W hown hK hP hD hS 0 rfl rfl 2 (by decide) (hT _ w149) (fun _ h9 => h9) rfl (by decide +kernel) rfl rfl (Nat.le_of_ble_eq_true rfl) dW_set_10 (fun H locs hP hD hS => ?_)
  have hP : va_P D vwCl [(h, .inr (4, [.ref ww, .int wl, .int 0])), (ww, .inl (cT 0, 48, .inl wf))] H := hP
  have hD : va_D A [(h, .inr (4, [.ref ww, .int wl, .int 0])), (ww, .inl (cT 0, 48, .inl wf))] := hD
  refine lv_aload_n hx hb dW_set_13 rfl (lv_at hl 0 rfl) ?_
  refine va_get (D := D) (ci := 4) (v := .ref ww) (C := R_W) (T := T_W) (N := 3) hx hb hT in_W hown hK hP 0 rfl rfl 0 (by decide) (hT _ w145) (fun _ h9 => h9) rfl dW_set_14 ?_
  refine lv_iconst (v := 0) hx hb dW_set_17 (by decide) ?_
  refine lv_aload_n hx hb dW_set_18 rfl (lv_at hl 0 rfl) ?_
  refine va_get (D := D) (ci := 4) (v := .int 0) (C := R_W) (T := T_W) (N := 3) hx hb hT in_W hown hK hP 0 rfl rfl 2 (by decide) (hT _ w149) (fun _ h9 => h9) rfl dW_set_19 ?_
  refine lv_if_eq (tgt := 30) hx hb dW_set_22 rfl (fun _ => ?_) (fun hj2 => absurd (by decide) hj2)
  refine lv_iload_n hx hb dW_set_30 rfl (lv_at hl 1 rfl) ?_
  refine va_iast hx hb hK hP hD hS 1 0 rfl rfl (by unfold vp_in; decide) dW_set_31 (fun H locs hP hD hS => ?_)
  have hP : va_P D vwCl [(h, .inr (4, [.ref ww, .int wl, .int 0])), (ww, .inl (cT 0, 48, .inl (upd wf 0 1)))] H := hP
  have hD : va_D A [(h, .inr (4, [.ref ww, .int wl, .int 0])), (ww, .inl (cT 0, 48, .inl (upd wf 0 1)))] := hD
  refine lv_aload_n hx hb dW_set_32 rfl (lv_at hl 0 rfl) ?_
  refine lv_iconst (v := 1) hx hb dW_set_33 (by decide) ?_
  refine rw_v (wc := [(h, .inr (4, [.ref ww, .int wl, .int 0])), (ww, .inl (cT 0, 48, .inl (upd wf 0 1)))]) (wr := []) hP hD hS hA [0, 1] [] rfl rfl (by decide) (by decide) (va_runV (As := [.int 1]) (rest := []) ⟨hx, hb, hml, hown, hT⟩ (k_trimO48 l D cT h ww wl 0 (upd wf 0 1) (show ¬ (1 : Int32) = 0 by decide) _) ⟨callB_of 1 hT (tb_gd w397) rfl rfl rfl (hT _ w5) (hT _ w394) hW_trim ⟨Nat.le_of_ble_eq_true rfl, Nat.le_of_ble_eq_true rfl⟩, (hT _ w396), (hT _ wp3)⟩ (RW.preV (ci := 4) (q0 := 0) hZ hS (va_free (wc := [(h, .inr (4, [.ref ww, .int wl, .int 0])), (ww, .inl (cT 0, 48, .inl (upd wf 0 1)))]) hD hS hA [0, 1] rfl) (hP.sub (ws' := [(h, .inr (4, [.ref ww, .int wl, .int 0])), (ww, .inl (cT 0, 48, .inl (upd wf 0 1)))]) [0, 1] rfl) hK (hD.sub (ws' := [(h, .inr (4, [.ref ww, .int wl, .int 0])), (ww, .inl (cT 0, 48, .inl (upd wf 0 1)))]) [0, 1] (by decide) rfl) rfl rfl) rfl rfl hl.1 rfl (lv_room (Nat.le_of_ble_eq_true rfl)) dW_set_34 ⟨Nat.le_of_ble_eq_true rfl, Nat.le_of_ble_eq_true rfl⟩) (fun u3 H locs hpu3 hP hD hS => ?_)
  have hP : va_P D vwCl [(h, .inr (4, [.ref ww, .int 1, .int 0])), (ww, .inl (cT 0, 48, .inl (upd wf 0 1)))] H := hP
  have hD : va_D A [(h, .inr (4, [.ref ww, .int 1, .int 0])), (ww, .inl (cT 0, 48, .inl (upd wf 0 1)))] := hD
  have hP9 := hP.sub (ws' := [(h, .inr (4, [.ref ww, .int 1, .int 0])), (ww, .inl (cT 0, 48, .inl (upd wf 0 1)))]) [0, 1] rfl
  have hD9 := hD.sub (ws' := [(h, .inr (4, [.ref ww, .int 1, .int 0])), (ww, .inl (cT 0, 48, .inl (upd wf 0 1)))]) [0, 1] (by decide) rfl
  refine W.widen (k := 0) (n := 0) (Nat.le_of_ble_eq_true rfl) (Nat.le_of_ble_eq_true rfl) ?_
  exact W.vret hx hb hr (fun t ht hW => ⟨⟨(fun _ => 0), rfl, trivial, by rw [ht]; exact hP9, hD9⟩, hS.F ht⟩) hS.2.2 dW_set_37
set_option maxHeartbeats 4000000 in
set_option maxRecDepth 100000 in
theorem k_mostBits48 (l : Launch) (D : va_G) (cT : Nat → ClassId) (h : Nat) (ww : Nat) (wl : Int32) (wb : Int32) (wf : Nat → Int32) : Met l yW_mostBits WW_mostBits ({ frames := 0, cells := 0, slots := 0, locals := 0 } : Room) (RO D vwCl [.ref h] [(h, .inr (4, [.ref ww, .int wl, .int wb])), (ww, .inl (cT 0, 48, .inl wf))] (TY cT)) (QcRead 1440) 0 0 (fun _ => False) := by
  refine Met.ofW (cc := cW_mostBits) (maxL := 1) (ret := (some .int)) (by decide) rfl ?_
  intro p e s m args below meth c s₁ B hml hv
  obtain ⟨rfl, hZ, hP, hK⟩ := hv
  have hx := B.exec
  have hb := B.bytes
  have hr := B.returns
  have hts := atoms_spec (ws := WW_mostBits) B.pre
  have hT : ∀ w ∈ TB, w.before _ s = true := fun w h => hts w (List.mem_cons_of_mem _ h)
  have hown : s.vm.findClass R_W = some m.cls := findClass_of_methodNamed B.named
  have hlocks := B.notSynchronized
  have hS : va_S (fun _ => False) s.heap s.heap [] := va_S.rf
  have hl := lv_entry ([.ref h]) (n := 1) (Nat.le_of_ble_eq_true rfl)
  rw [lg_entry_eq]
  generalize (lg_sl ([.ref h]) ++ List.replicate (1 - (lg_sl ([.ref h])).length) Slot.unset).toArray = ls at hl ⊢
  have hl : lv_has ls 1 [(0, .ref h)] := hl
  refine lv_aload_n hx hb dW_mostBits_0 rfl (lv_at hl 0 rfl) ?_
  refine va_get (D := D) (ci := 4) (v := .ref ww) (C := R_W) (T := T_W) (N := 3) hx hb hT in_W hown hK hP 0 rfl rfl 0 (by decide) (hT _ w145) (fun _ h9 => h9) rfl dW_mostBits_1 ?_
  refine va_alen (v := 48) hx hb hK hP 1 0 rfl rfl rfl dW_mostBits_4 ?_
  refine lv_bipush (v := 30) hx hb dW_mostBits_5 (by decide) ?_
  refine lv_imul hx hb dW_mostBits_7 ?_
  refine lv_topi (fun y9 e9 => ?_)
  cases (show y9 = 1440 from e9.trans (by decide))
  exact W.iret (v := 1440) hx hb hr (fun t ht hW => ⟨rfl, ht⟩) (fun q h => nomatch h) dW_mostBits_8
set_option maxHeartbeats 4000000 in
set_option maxRecDepth 100000 in
theorem k_restOne48 (l : Launch) (D : va_G) (cT : Nat → ClassId) (h : Nat) (ww : Nat) (wb : Int32) (wf : Nat → Int32) (d : Int32) (h0 : wf 0 = 1) (hn : ¬ (d : Int32).toInt64 = 0) (hr1 : 1 - 1 / (d : Int32).toInt64 * (d : Int32).toInt64 = 1) : Met l yW_rest WW_rest ({ frames := 0, cells := 0, slots := 0, locals := 0 } : Room) (RO D vwCl [.ref h, .int d] [(h, .inr (4, [.ref ww, .int 1, .int wb])), (ww, .inl (cT 0, 48, .inl wf))] (TY cT)) (QcRead 1) 0 0 (fun _ => False) := by
  refine Met.ofW (cc := cW_rest) (maxL := 5) (ret := (some .int)) (by decide) rfl ?_
  intro p e s m args below meth c s₁ B hml hv
  obtain ⟨rfl, hZ, hP, hK⟩ := hv
  have hx := B.exec
  have hb := B.bytes
  have hr := B.returns
  have hts := atoms_spec (ws := WW_rest) B.pre
  have hT : ∀ w ∈ TB, w.before _ s = true := fun w h => hts w (List.mem_cons_of_mem _ h)
  have hown : s.vm.findClass R_W = some m.cls := findClass_of_methodNamed B.named
  have hlocks := B.notSynchronized
  have hS : va_S (fun _ => False) s.heap s.heap [] := va_S.rf
  have hl := lv_entry ([.ref h, .int d]) (n := 5) (Nat.le_of_ble_eq_true rfl)
  rw [lg_entry_eq]
  generalize (lg_sl ([.ref h, .int d]) ++ List.replicate (5 - (lg_sl ([.ref h, .int d])).length) Slot.unset).toArray = ls at hl ⊢
  have hl : lv_has ls 5 [(0, .ref h), (1, .int d)] := hl
  refine lv_lconst (v := 0) hx hb dW_rest_0 (by decide) ?_
  refine lv_lstore_n hx hb dW_rest_1 rfl hl (by decide) rfl (fun ls hl => ?_)
  have hl : lv_has ls 5 [(2, .long 0), (0, .ref h), (1, .int d)] := hl
  refine lv_aload_n hx hb dW_rest_2 rfl (lv_at hl 1 rfl) ?_
  refine va_get (D := D) (ci := 4) (v := .int 1) (C := R_W) (T := T_W) (N := 3) hx hb hT in_W hown hK hP 0 rfl rfl 1 (by decide) (hT _ w148) (fun _ h9 => h9) rfl dW_rest_3 ?_
  refine lv_iconst (v := 1) hx hb dW_rest_6 (by decide) ?_
  refine lv_isub hx hb dW_rest_7 ?_
  refine lv_topi (fun y9 e9 => ?_)
  cases (show y9 = 0 from e9.trans (by decide))
  refine lv_istore hx hb dW_rest_8 hl (by decide) rfl (fun ls hl => ?_)
  have hl : lv_has ls 5 [(4, .int 0), (2, .long 0), (0, .ref h), (1, .int d)] := hl
  refine lv_iload hx hb dW_rest_10 (lv_at hl 0 rfl) ?_
  refine lv_if_lt (tgt := 39) hx hb dW_rest_12 rfl (fun hj1 => absurd hj1 (by decide)) (fun _ => ?_)
  refine lv_lload_n hx hb dW_rest_15 rfl (lv_at hl 1 rfl) ?_
  refine lv_ldc2 (v := 1000000000) hx hb hown (hT _ w421) dW_rest_16 ?_
  refine lv_lmul hx hb dW_rest_19 ?_
  refine lv_topl (fun y9 e9 => ?_)
  cases (show y9 = 0 from e9.trans (by decide))
  refine lv_aload_n hx hb dW_rest_20 rfl (lv_at hl 2 rfl) ?_
  refine va_get (D := D) (ci := 4) (v := .ref ww) (C := R_W) (T := T_W) (N := 3) hx hb hT in_W hown hK hP 0 rfl rfl 0 (by decide) (hT _ w145) (fun _ h9 => h9) rfl dW_rest_21 ?_
  refine lv_iload hx hb dW_rest_24 (lv_at hl 0 rfl) ?_
  refine va_iald hx hb hK hP 1 0 rfl rfl (by unfold vp_in; decide) dW_rest_26 ?_
  refine lv_topi (fun y9 e9 => ?_)
  cases (show y9 = 1 from e9.trans h0)
  refine lv_i2l (v := 1) hx hb dW_rest_27 (by decide) ?_
  refine lv_ladd hx hb dW_rest_28 ?_
  refine lv_topl (fun y9 e9 => ?_)
  cases (show y9 = 1 from e9.trans (by decide))
  refine lv_iload_n hx hb dW_rest_29 rfl (lv_at hl 3 rfl) ?_
  refine lv_i2l hx hb dW_rest_30 rfl ?_
  refine lv_lrem hx hb dW_rest_31 hn ?_
  refine lv_topl (fun y9 e9 => ?_)
  cases (show y9 = 1 from e9.trans hr1)
  refine lv_lstore_n hx hb dW_rest_32 rfl hl (by decide) rfl (fun ls hl => ?_)
  have hl : lv_has ls 5 [(2, .long 1), (4, .int 0), (0, .ref h), (1, .int d)] := hl
  refine lv_iinc (k := 1) (v := (-1)) hx hb dW_rest_33 hl rfl (by decide) (by decide) rfl (fun ls hl => ?_)
  have hl : lv_has ls 5 [(4, .int (-1)), (2, .long 1), (0, .ref h), (1, .int d)] := hl
  refine lv_goto (tgt := 10) hx hb dW_rest_36 rfl ?_
  refine lv_iload hx hb dW_rest_10 (lv_at hl 0 rfl) ?_
  refine lv_if_lt (tgt := 39) hx hb dW_rest_12 rfl (fun _ => ?_) (fun hj2 => absurd (by decide) hj2)
  refine lv_lload_n hx hb dW_rest_39 rfl (lv_at hl 1 rfl) ?_
  refine lv_l2i (v := 1) hx hb dW_rest_40 (by decide) ?_
  exact W.iret (v := 1) hx hb hr (fun t ht hW => ⟨rfl, ht⟩) (fun q h => nomatch h) dW_rest_41
set_option maxHeartbeats 4000000 in
set_option maxRecDepth 100000 in
theorem k_dividesOne48_0 (l : Launch) (D : va_G) (cT : Nat → ClassId) (h : Nat) (ww : Nat) (wb : Int32) (wf : Nat → Int32) (d : Int32) (ua : Nat) (h0 : wf 0 = 1) (hn : ¬ (d : Int32).toInt64 = 0) (hr1 : 1 - 1 / (d : Int32).toInt64 * (d : Int32).toInt64 = 1) : Met l yR_divides WR_divides ({ frames := 1, cells := 0, slots := 0, locals := 24 } : Room) (RO D vwCl [.int d, .ref ua, .int 0, .ref h] [(h, .inr (4, [.ref ww, .int 1, .int wb])), (ww, .inl (cT 0, 48, .inl wf))] (TY cT)) (QcRead 0) 0 0 (fun _ => False) := by
  refine Met.ofW (cc := cR_divides) (maxL := 6) (ret := (some .boolean)) (by decide) rfl ?_
  intro p e s m args below meth c s₁ B hml hv
  obtain ⟨rfl, hZ, hP, hK⟩ := hv
  have hx := B.exec
  have hb := B.bytes
  have hr := B.returns
  have hts := atoms_spec (ws := WR_divides) B.pre
  have hT : ∀ w ∈ TB, w.before _ s = true := fun w h => hts w (List.mem_cons_of_mem _ h)
  have hown : s.vm.findClass R_R = some m.cls := findClass_of_methodNamed B.named
  have hlocks := B.notSynchronized
  have hS : va_S (fun _ => False) s.heap s.heap [] := va_S.rf
  have hl := lv_entry ([.int d, .ref ua, .int 0, .ref h]) (n := 6) (Nat.le_of_ble_eq_true rfl)
  rw [lg_entry_eq]
  generalize (lg_sl ([.int d, .ref ua, .int 0, .ref h]) ++ List.replicate (6 - (lg_sl ([.int d, .ref ua, .int 0, .ref h])).length) Slot.unset).toArray = ls at hl ⊢
  have hl : lv_has ls 6 [(0, .int d), (1, .ref ua), (2, .int 0), (3, .ref h)] := hl
  refine lv_aload_n hx hb dR_divides_0 rfl (lv_at hl 3 rfl) ?_
  refine lv_iload_n hx hb dR_divides_1 rfl (lv_at hl 0 rfl) ?_
  refine ro_i (va_Run.run (va_runV (As := [.int d]) (rest := []) ⟨hx, hb, hml, hown, hT⟩ (k_restOne48 l D cT h ww wb wf d h0 hn hr1) ⟨callB_of 1 hT (tb_gd w958) rfl rfl rfl (hT _ w5) (hT _ w979) hW_rest ⟨Nat.le_of_ble_eq_true rfl, Nat.le_of_ble_eq_true rfl⟩, (hT _ w956), (hT _ w957)⟩ (RO.preV (ci := 4) (q0 := 0) hZ hS (hP.sub (ws' := [(h, .inr (4, [.ref ww, .int 1, .int wb])), (ww, .inl (cT 0, 48, .inl wf))]) [0, 1] rfl) hK rfl rfl) rfl rfl hl.1 rfl (lv_room (Nat.le_of_ble_eq_true rfl)) dR_divides_2 ⟨Nat.le_of_ble_eq_true rfl, Nat.le_of_ble_eq_true rfl⟩)) ?_
  refine lv_if_ne (tgt := 12) hx hb dR_divides_5 rfl (fun _ => ?_) (fun hj1 => absurd hj1 (by decide))
  refine lv_iconst (v := 0) hx hb dR_divides_12 (by decide) ?_
  refine lv_istore hx hb dR_divides_13 hl (by decide) rfl (fun ls hl => ?_)
  have hl : lv_has ls 6 [(4, .int 0), (0, .int d), (1, .ref ua), (2, .int 0), (3, .ref h)] := hl
  refine lv_iconst (v := 0) hx hb dR_divides_15 (by decide) ?_
  refine lv_istore hx hb dR_divides_16 hl (by decide) rfl (fun ls hl => ?_)
  have hl : lv_has ls 6 [(5, .int 0), (4, .int 0), (0, .int d), (1, .ref ua), (2, .int 0), (3, .ref h)] := hl
  refine lv_iload hx hb dR_divides_18 (lv_at hl 0 rfl) ?_
  refine lv_iload_n hx hb dR_divides_20 rfl (lv_at hl 4 rfl) ?_
  refine lv_icmp_ge (tgt := 53) hx hb dR_divides_21 rfl (fun _ => ?_) (fun hj2 => absurd (by decide) hj2)
  refine lv_iload hx hb dR_divides_53 (lv_at hl 1 rfl) ?_
  exact W.zret (v := 0) hx hb hr rfl (fun t ht hW => ⟨rfl, ht⟩) (fun q h => nomatch h) dR_divides_55
set_option maxHeartbeats 4000000 in
set_option maxRecDepth 100000 in
theorem k_dividesOne48_1 (l : Launch) (D : va_G) (cT : Nat → ClassId) (h : Nat) (ww : Nat) (wb : Int32) (wf : Nat → Int32) (d : Int32) (ua : Nat) (h0 : wf 0 = 1) (hn : ¬ (d : Int32).toInt64 = 0) (hr1 : 1 - 1 / (d : Int32).toInt64 * (d : Int32).toInt64 = 1) : Met l yR_divides WR_divides ({ frames := 1, cells := 0, slots := 0, locals := 24 } : Room) (RO D vwCl [.int d, .ref ua, .int 1, .ref h] [(h, .inr (4, [.ref ww, .int 1, .int wb])), (ww, .inl (cT 0, 48, .inl wf))] (TY cT)) (QcRead 0) 0 0 (fun _ => False) := by
  refine Met.ofW (cc := cR_divides) (maxL := 6) (ret := (some .boolean)) (by decide) rfl ?_
  intro p e s m args below meth c s₁ B hml hv
  obtain ⟨rfl, hZ, hP, hK⟩ := hv
  have hx := B.exec
  have hb := B.bytes
  have hr := B.returns
  have hts := atoms_spec (ws := WR_divides) B.pre
  have hT : ∀ w ∈ TB, w.before _ s = true := fun w h => hts w (List.mem_cons_of_mem _ h)
  have hown : s.vm.findClass R_R = some m.cls := findClass_of_methodNamed B.named
  have hlocks := B.notSynchronized
  have hS : va_S (fun _ => False) s.heap s.heap [] := va_S.rf
  have hl := lv_entry ([.int d, .ref ua, .int 1, .ref h]) (n := 6) (Nat.le_of_ble_eq_true rfl)
  rw [lg_entry_eq]
  generalize (lg_sl ([.int d, .ref ua, .int 1, .ref h]) ++ List.replicate (6 - (lg_sl ([.int d, .ref ua, .int 1, .ref h])).length) Slot.unset).toArray = ls at hl ⊢
  have hl : lv_has ls 6 [(0, .int d), (1, .ref ua), (2, .int 1), (3, .ref h)] := hl
  refine lv_aload_n hx hb dR_divides_0 rfl (lv_at hl 3 rfl) ?_
  refine lv_iload_n hx hb dR_divides_1 rfl (lv_at hl 0 rfl) ?_
  refine ro_i (va_Run.run (va_runV (As := [.int d]) (rest := []) ⟨hx, hb, hml, hown, hT⟩ (k_restOne48 l D cT h ww wb wf d h0 hn hr1) ⟨callB_of 1 hT (tb_gd w958) rfl rfl rfl (hT _ w5) (hT _ w979) hW_rest ⟨Nat.le_of_ble_eq_true rfl, Nat.le_of_ble_eq_true rfl⟩, (hT _ w956), (hT _ w957)⟩ (RO.preV (ci := 4) (q0 := 0) hZ hS (hP.sub (ws' := [(h, .inr (4, [.ref ww, .int 1, .int wb])), (ww, .inl (cT 0, 48, .inl wf))]) [0, 1] rfl) hK rfl rfl) rfl rfl hl.1 rfl (lv_room (Nat.le_of_ble_eq_true rfl)) dR_divides_2 ⟨Nat.le_of_ble_eq_true rfl, Nat.le_of_ble_eq_true rfl⟩)) ?_
  refine lv_if_ne (tgt := 12) hx hb dR_divides_5 rfl (fun _ => ?_) (fun hj1 => absurd hj1 (by decide))
  refine lv_iconst (v := 0) hx hb dR_divides_12 (by decide) ?_
  refine lv_istore hx hb dR_divides_13 hl (by decide) rfl (fun ls hl => ?_)
  have hl : lv_has ls 6 [(4, .int 0), (0, .int d), (1, .ref ua), (2, .int 1), (3, .ref h)] := hl
  refine lv_iconst (v := 0) hx hb dR_divides_15 (by decide) ?_
  refine lv_istore hx hb dR_divides_16 hl (by decide) rfl (fun ls hl => ?_)
  have hl : lv_has ls 6 [(5, .int 0), (4, .int 0), (0, .int d), (1, .ref ua), (2, .int 1), (3, .ref h)] := hl
  refine lv_iload hx hb dR_divides_18 (lv_at hl 0 rfl) ?_
  refine lv_iload_n hx hb dR_divides_20 rfl (lv_at hl 4 rfl) ?_
  refine lv_icmp_ge (tgt := 53) hx hb dR_divides_21 rfl (fun hj2 => absurd hj2 (by decide)) (fun _ => ?_)
  refine lv_iload hx hb dR_divides_24 (lv_at hl 1 rfl) ?_
  refine lv_if_eq (tgt := 53) hx hb dR_divides_26 rfl (fun _ => ?_) (fun hj3 => absurd (by decide) hj3)
  refine lv_iload hx hb dR_divides_53 (lv_at hl 1 rfl) ?_
  exact W.zret (v := 0) hx hb hr rfl (fun t ht hW => ⟨rfl, ht⟩) (fun q h => nomatch h) dR_divides_55
