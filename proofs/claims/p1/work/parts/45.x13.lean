set_option maxHeartbeats 4000000 in
set_option maxRecDepth 100000 in
theorem k_append0 (l : Launch) (D : va_G) (cT : Nat → ClassId) (h : Nat) (ob : Nat) (ou : Nat) (ow : Nat) (bf : Nat → Int32) (sz : Nat) : Met l yO_append WO_append ({ frames := 0, cells := 0, slots := 0, locals := 0 } : Room) (RW D vwCl [.ref h, .int 48] [(h, .inr (8, [.ref ob, .int 0, .ref ou, .ref ow])), (ob, .inl (cT 2, 866, .inl bf))] (TY cT) sz) (va_Qv (fun _ : Nat → Nat => True) (BW D vwCl (va_A [(h, .inr (8, [.ref ob, .int 0, .ref ou, .ref ow])), (ob, .inl (cT 2, 866, .inl bf))] sz) (fun u => [(h, .inr (8, [.ref ob, .int 1, .ref ou, .ref ow])), (ob, .inl (cT 2, 866, .inl (upd bf 0 (vp_nar .byte 48))))])) (va_A [(h, .inr (8, [.ref ob, .int 0, .ref ou, .ref ow])), (ob, .inl (cT 2, 866, .inl bf))] sz)) 0 0 (va_A [(h, .inr (8, [.ref ob, .int 0, .ref ou, .ref ow])), (ob, .inl (cT 2, 866, .inl bf))] sz) := by
  refine Met.ofW (cc := cO_append) (maxL := 2) (ret := none) (by decide) rfl ?_
  intro p e s m args below meth c s₁ B hml hv
  obtain ⟨rfl, hsz, hZ, hP, hK, hD0⟩ := hv
  have hx := B.exec
  have hb := B.bytes
  have hr := B.returns
  have hts := atoms_spec (ws := WO_append) B.pre
  have hT : ∀ w ∈ TB, w.before _ s = true := fun w h => hts w (List.mem_cons_of_mem _ h)
  have hown : s.vm.findClass R_O = some m.cls := findClass_of_methodNamed B.named
  have hlocks := B.notSynchronized
  subst hsz
  have hD := hD0.self (sz := s.heap.size)
  generalize hAe : va_A [(h, .inr (8, [.ref ob, .int 0, .ref ou, .ref ow])), (ob, .inl (cT 2, 866, .inl bf))] s.heap.size = A at hD hZ ⊢
  have hA : ∀ q : Nat, s.heap.size ≤ q → A q := fun q h => by rw [← hAe]; exact Or.inr h
  have hS : va_S A s.heap s.heap [] := va_S.rf
  have hl := lv_entry ([.ref h, .int 48]) (n := 2) (Nat.le_of_ble_eq_true rfl)
  rw [lg_entry_eq]
  generalize (lg_sl ([.ref h, .int 48]) ++ List.replicate (2 - (lg_sl ([.ref h, .int 48])).length) Slot.unset).toArray = ls at hl ⊢
  have hl : lv_has ls 2 [(0, .ref h), (1, .int 48)] := hl
  refine lv_aload_n hx hb dO_append_0 rfl (lv_at hl 0 rfl) ?_
  refine va_get (D := D) (ci := 8) (v := .int 0) (C := R_O) (T := T_O) (N := 4) hx hb hT in_O hown hK hP 0 rfl rfl 1 (by decide) (hT _ w290) (fun _ h9 => h9) rfl dO_append_1 ?_
  refine lv_aload_n hx hb dO_append_4 rfl (lv_at hl 0 rfl) ?_
  refine va_get (D := D) (ci := 8) (v := .ref ob) (C := R_O) (T := T_O) (N := 4) hx hb hT in_O hown hK hP 0 rfl rfl 0 (by decide) (hT _ w288) (fun _ h9 => h9) rfl dO_append_5 ?_
  refine va_alen (v := 866) hx hb hK hP 1 2 rfl rfl rfl dO_append_8 ?_
  refine lv_icmp_ge (tgt := 30) hx hb dO_append_9 rfl (fun hj1 => absurd hj1 (by decide)) (fun _ => ?_)
  refine lv_aload_n hx hb dO_append_12 rfl (lv_at hl 0 rfl) ?_
  refine va_get (D := D) (ci := 8) (v := .ref ob) (C := R_O) (T := T_O) (N := 4) hx hb hT in_O hown hK hP 0 rfl rfl 0 (by decide) (hT _ w288) (fun _ h9 => h9) rfl dO_append_13 ?_
  refine lv_aload_n hx hb dO_append_16 rfl (lv_at hl 0 rfl) ?_
  refine lv_dup hx hb dO_append_17 rfl ?_
  refine va_get (D := D) (ci := 8) (v := .int 0) (C := R_O) (T := T_O) (N := 4) hx hb hT in_O hown hK hP 0 rfl rfl 1 (by decide) (hT _ w290) (fun _ h9 => h9) rfl dO_append_18 ?_
  refine lv_dup_x1 hx hb dO_append_21 rfl rfl ?_
  refine lv_iconst (v := 1) hx hb dO_append_22 (by decide) ?_
  refine lv_iadd hx hb dO_append_23 ?_
  refine lv_topi (fun y9 e9 => ?_)
  cases (show y9 = 1 from e9.trans (by decide))
  refine va_put (D := D) (ci := 8) (v := .int 1) (ty := .int) (C := R_O) (T := T_O) (N := 4) hx hb hT in_O ty_O ty_O_ok m_O hown hK hP hD hS 0 rfl rfl 1 (by decide) (hT _ w290) (fun _ h9 => h9) rfl (by decide +kernel) rfl rfl (Nat.le_of_ble_eq_true rfl) dO_append_24 (fun H locs hP hD hS => ?_)
  have hP : va_P D vwCl [(h, .inr (8, [.ref ob, .int 1, .ref ou, .ref ow])), (ob, .inl (cT 2, 866, .inl bf))] H := hP
  have hD : va_D A [(h, .inr (8, [.ref ob, .int 1, .ref ou, .ref ow])), (ob, .inl (cT 2, 866, .inl bf))] := hD
  refine lv_iload_n hx hb dO_append_27 rfl (lv_at hl 1 rfl) ?_
  refine lv_i2b (v := 48) hx hb dO_append_28 (by decide) ?_
  refine va_bast hx hb hK hP hD hS 1 2 rfl rfl (by unfold vp_in; decide) dO_append_29 (fun H locs hP hD hS => ?_)
  have hP : va_P D vwCl [(h, .inr (8, [.ref ob, .int 1, .ref ou, .ref ow])), (ob, .inl (cT 2, 866, .inl (upd bf 0 (vp_nar .byte 48))))] H := hP
  have hD : va_D A [(h, .inr (8, [.ref ob, .int 1, .ref ou, .ref ow])), (ob, .inl (cT 2, 866, .inl (upd bf 0 (vp_nar .byte 48))))] := hD
  have hP9 := hP.sub (ws' := [(h, .inr (8, [.ref ob, .int 1, .ref ou, .ref ow])), (ob, .inl (cT 2, 866, .inl (upd bf 0 (vp_nar .byte 48))))]) [0, 1] rfl
  have hD9 := hD.sub (ws' := [(h, .inr (8, [.ref ob, .int 1, .ref ou, .ref ow])), (ob, .inl (cT 2, 866, .inl (upd bf 0 (vp_nar .byte 48))))]) [0, 1] (by decide) rfl
  refine W.widen (k := 0) (n := 0) (Nat.le_of_ble_eq_true rfl) (Nat.le_of_ble_eq_true rfl) ?_
  exact W.vret hx hb hr (fun t ht hW => ⟨⟨(fun _ => 0), rfl, trivial, by rw [ht]; exact hP9, hD9⟩, hS.F ht⟩) hS.2.2 dO_append_30
set_option maxHeartbeats 4000000 in
set_option maxRecDepth 100000 in
theorem k_appendDigits0 (l : Launch) (D : va_G) (cT : Nat → ClassId) (h : Nat) (ob : Nat) (ou : Nat) (ow : Nat) (bf : Nat → Int32) (o : Nat) (ov : Nat) (wb : Int32) (sz : Nat) : Met l yO_appendDigits WO_appendDigits ({ frames := 1, cells := 0, slots := 0, locals := 21 } : Room) (RW D vwCl [.ref h, .ref o] [(h, .inr (8, [.ref ob, .int 0, .ref ou, .ref ow])), (ob, .inl (cT 2, 866, .inl bf)), (o, .inr (4, [.ref ov, .int 0, .int wb]))] (TY cT) sz) (va_Qv (fun _ : Nat → Nat => True) (BW D vwCl (va_A [(h, .inr (8, [.ref ob, .int 0, .ref ou, .ref ow])), (ob, .inl (cT 2, 866, .inl bf)), (o, .inr (4, [.ref ov, .int 0, .int wb]))] sz) (fun u => [(o, .inr (4, [.ref ov, .int 0, .int wb])), (h, .inr (8, [.ref ob, .int 1, .ref ou, .ref ow])), (ob, .inl (cT 2, 866, .inl (upd bf 0 (vp_nar .byte 48))))])) (va_A [(h, .inr (8, [.ref ob, .int 0, .ref ou, .ref ow])), (ob, .inl (cT 2, 866, .inl bf)), (o, .inr (4, [.ref ov, .int 0, .int wb]))] sz)) 0 0 (va_A [(h, .inr (8, [.ref ob, .int 0, .ref ou, .ref ow])), (ob, .inl (cT 2, 866, .inl bf)), (o, .inr (4, [.ref ov, .int 0, .int wb]))] sz) := by
  refine Met.ofW (cc := cO_appendDigits) (maxL := 6) (ret := none) (by decide) rfl ?_
  intro p e s m args below meth c s₁ B hml hv
  obtain ⟨rfl, hsz, hZ, hP, hK, hD0⟩ := hv
  have hx := B.exec
  have hb := B.bytes
  have hr := B.returns
  have hts := atoms_spec (ws := WO_appendDigits) B.pre
  have hT : ∀ w ∈ TB, w.before _ s = true := fun w h => hts w (List.mem_cons_of_mem _ h)
  have hown : s.vm.findClass R_O = some m.cls := findClass_of_methodNamed B.named
  have hlocks := B.notSynchronized
  subst hsz
  have hD := hD0.self (sz := s.heap.size)
  generalize hAe : va_A [(h, .inr (8, [.ref ob, .int 0, .ref ou, .ref ow])), (ob, .inl (cT 2, 866, .inl bf)), (o, .inr (4, [.ref ov, .int 0, .int wb]))] s.heap.size = A at hD hZ ⊢
  have hA : ∀ q : Nat, s.heap.size ≤ q → A q := fun q h => by rw [← hAe]; exact Or.inr h
  have hS : va_S A s.heap s.heap [] := va_S.rf
  have hl := lv_entry ([.ref h, .ref o]) (n := 6) (Nat.le_of_ble_eq_true rfl)
  rw [lg_entry_eq]
  generalize (lg_sl ([.ref h, .ref o]) ++ List.replicate (6 - (lg_sl ([.ref h, .ref o])).length) Slot.unset).toArray = ls at hl ⊢
  have hl : lv_has ls 6 [(0, .ref h), (1, .ref o)] := hl
  refine lv_aload_n hx hb dO_appendDigits_0 rfl (lv_at hl 0 rfl) ?_
  refine va_get (D := D) (ci := 8) (v := .int 0) (C := R_O) (T := T_O) (N := 4) hx hb hT in_O hown hK hP 0 rfl rfl 1 (by decide) (hT _ w290) (fun _ h9 => h9) rfl dO_appendDigits_1 ?_
  refine lv_istore_n hx hb dO_appendDigits_4 rfl hl (by decide) rfl (fun ls hl => ?_)
  have hl : lv_has ls 6 [(2, .int 0), (0, .ref h), (1, .ref o)] := hl
  refine lv_aload_n hx hb dO_appendDigits_5 rfl (lv_at hl 2 rfl) ?_
  refine va_get (D := D) (ci := 4) (v := .int 0) (C := R_W) (T := T_W) (N := 3) hx hb hT in_W hown hK hP 2 rfl rfl 1 (by decide) (hT _ w147) (fun _ h9 => h9) rfl dO_appendDigits_6 ?_
  refine lv_iconst (v := 1) hx hb dO_appendDigits_9 (by decide) ?_
  refine lv_isub hx hb dO_appendDigits_10 ?_
  refine lv_topi (fun y9 e9 => ?_)
  cases (show y9 = (-1) from e9.trans (by decide))
  refine lv_istore_n hx hb dO_appendDigits_11 rfl hl (by decide) rfl (fun ls hl => ?_)
  have hl : lv_has ls 6 [(3, .int (-1)), (2, .int 0), (0, .ref h), (1, .ref o)] := hl
  refine lv_iload_n hx hb dO_appendDigits_12 rfl (lv_at hl 0 rfl) ?_
  refine lv_if_lt (tgt := 77) hx hb dO_appendDigits_13 rfl (fun _ => ?_) (fun hj1 => absurd (by decide) hj1)
  refine lv_aload_n hx hb dO_appendDigits_77 rfl (lv_at hl 2 rfl) ?_
  refine va_get (D := D) (ci := 8) (v := .int 0) (C := R_O) (T := T_O) (N := 4) hx hb hT in_O hown hK hP 0 rfl rfl 1 (by decide) (hT _ w290) (fun _ h9 => h9) rfl dO_appendDigits_78 ?_
  refine lv_iload_n hx hb dO_appendDigits_81 rfl (lv_at hl 1 rfl) ?_
  refine lv_icmp_ne (tgt := 91) hx hb dO_appendDigits_82 rfl (fun hj2 => absurd (by decide) hj2) (fun _ => ?_)
  refine lv_aload_n hx hb dO_appendDigits_85 rfl (lv_at hl 2 rfl) ?_
  refine lv_bipush (v := 48) hx hb dO_appendDigits_86 (by decide) ?_
  refine rw_v (wc := [(h, .inr (8, [.ref ob, .int 0, .ref ou, .ref ow])), (ob, .inl (cT 2, 866, .inl bf))]) (wr := [(o, .inr (4, [.ref ov, .int 0, .int wb]))]) hP hD hS hA [0, 1] [2] rfl rfl (by decide) (by decide) (va_runV (As := [.int 48]) (rest := []) ⟨hx, hb, hml, hown, hT⟩ (k_append0 l D cT h ob ou ow bf _) ⟨callB_of 1 hT (tb_gd w1052) rfl rfl rfl (hT _ w12) (hT _ w1049) hO_append ⟨Nat.le_of_ble_eq_true rfl, Nat.le_of_ble_eq_true rfl⟩, (hT _ w1051), (hT _ wp26)⟩ (RW.preV (ci := 8) (q0 := 0) hZ hS (va_free (wc := [(h, .inr (8, [.ref ob, .int 0, .ref ou, .ref ow])), (ob, .inl (cT 2, 866, .inl bf))]) hD hS hA [0, 1] rfl) (hP.sub (ws' := [(h, .inr (8, [.ref ob, .int 0, .ref ou, .ref ow])), (ob, .inl (cT 2, 866, .inl bf))]) [0, 1] rfl) hK (hD.sub (ws' := [(h, .inr (8, [.ref ob, .int 0, .ref ou, .ref ow])), (ob, .inl (cT 2, 866, .inl bf))]) [0, 1] (by decide) rfl) rfl rfl) rfl rfl hl.1 rfl (lv_room (Nat.le_of_ble_eq_true rfl)) dO_appendDigits_88 ⟨Nat.le_of_ble_eq_true rfl, Nat.le_of_ble_eq_true rfl⟩) (fun u3 H locs hpu3 hP hD hS => ?_)
  have hP : va_P D vwCl [(o, .inr (4, [.ref ov, .int 0, .int wb])), (h, .inr (8, [.ref ob, .int 1, .ref ou, .ref ow])), (ob, .inl (cT 2, 866, .inl (upd bf 0 (vp_nar .byte 48))))] H := hP
  have hD : va_D A [(o, .inr (4, [.ref ov, .int 0, .int wb])), (h, .inr (8, [.ref ob, .int 1, .ref ou, .ref ow])), (ob, .inl (cT 2, 866, .inl (upd bf 0 (vp_nar .byte 48))))] := hD
  have hP9 := hP.sub (ws' := [(o, .inr (4, [.ref ov, .int 0, .int wb])), (h, .inr (8, [.ref ob, .int 1, .ref ou, .ref ow])), (ob, .inl (cT 2, 866, .inl (upd bf 0 (vp_nar .byte 48))))]) [0, 1, 2] rfl
  have hD9 := hD.sub (ws' := [(o, .inr (4, [.ref ov, .int 0, .int wb])), (h, .inr (8, [.ref ob, .int 1, .ref ou, .ref ow])), (ob, .inl (cT 2, 866, .inl (upd bf 0 (vp_nar .byte 48))))]) [0, 1, 2] (by decide) rfl
  refine W.widen (k := 0) (n := 0) (Nat.le_of_ble_eq_true rfl) (Nat.le_of_ble_eq_true rfl) ?_
  exact W.vret hx hb hr (fun t ht hW => ⟨⟨(fun _ => 0), rfl, trivial, by rw [ht]; exact hP9, hD9⟩, hS.F ht⟩) hS.2.2 dO_appendDigits_91
set_option maxHeartbeats 4000000 in
set_option maxRecDepth 100000 in
theorem k_write0 (l : Launch) (D : va_G) (cT : Nat → ClassId) (h : Nat) (ob : Nat) (ou : Nat) (ow : Nat) (bf : Nat → Int32) (ol : Int32) (uf : Nat → Option Nat) (u0 : Nat) (uw : Nat) (ub : Int32) (lw : Nat) (lb : Int32) (lf : Nat → Int32) (hu : uf 0 = some u0) (h0 : lf 0 = 1) (sz : Nat) : Met l yO_write WO_write ({ frames := 3, cells := 0, slots := 0, locals := 77 } : Room) (RW D vwCl [.ref h] [(h, .inr (8, [.ref ob, .int ol, .ref ou, .ref ow])), (ob, .inl (cT 2, 866, .inl bf)), (ou, .inl (cT 4, 1, .inr (.inr (.inr (.inr uf))))), (u0, .inr (4, [.ref uw, .int 0, .int ub])), (ow, .inr (4, [.ref lw, .int 1, .int lb])), (lw, .inl (cT 0, 48, .inl lf))] (TY cT) sz) (va_Qi (fun (r : Int32) (_ : Nat → Nat) => r = 1) (BW D vwCl (va_A [(h, .inr (8, [.ref ob, .int ol, .ref ou, .ref ow])), (ob, .inl (cT 2, 866, .inl bf)), (ou, .inl (cT 4, 1, .inr (.inr (.inr (.inr uf))))), (u0, .inr (4, [.ref uw, .int 0, .int ub])), (ow, .inr (4, [.ref lw, .int 1, .int lb])), (lw, .inl (cT 0, 48, .inl lf))] sz) (fun u => [(ou, .inl (cT 4, 1, .inr (.inr (.inr (.inr uf))))), (ow, .inr (4, [.ref lw, .int 1, .int lb])), (lw, .inl (cT 0, 48, .inl lf)), (u0, .inr (4, [.ref uw, .int 0, .int ub])), (h, .inr (8, [.ref ob, .int 1, .ref ou, .ref ow])), (ob, .inl (cT 2, 866, .inl (upd bf 0 (vp_nar .byte 48))))])) (va_A [(h, .inr (8, [.ref ob, .int ol, .ref ou, .ref ow])), (ob, .inl (cT 2, 866, .inl bf)), (ou, .inl (cT 4, 1, .inr (.inr (.inr (.inr uf))))), (u0, .inr (4, [.ref uw, .int 0, .int ub])), (ow, .inr (4, [.ref lw, .int 1, .int lb])), (lw, .inl (cT 0, 48, .inl lf))] sz)) 0 0 (va_A [(h, .inr (8, [.ref ob, .int ol, .ref ou, .ref ow])), (ob, .inl (cT 2, 866, .inl bf)), (ou, .inl (cT 4, 1, .inr (.inr (.inr (.inr uf))))), (u0, .inr (4, [.ref uw, .int 0, .int ub])), (ow, .inr (4, [.ref lw, .int 1, .int lb])), (lw, .inl (cT 0, 48, .inl lf))] sz) := by
  refine Met.ofW (cc := cO_write) (maxL := 1) (ret := (some .int)) (by decide) rfl ?_
  intro p e s m args below meth c s₁ B hml hv
  obtain ⟨rfl, hsz, hZ, hP, hK, hD0⟩ := hv
  have hx := B.exec
  have hb := B.bytes
  have hr := B.returns
  have hts := atoms_spec (ws := WO_write) B.pre
  have hT : ∀ w ∈ TB, w.before _ s = true := fun w h => hts w (List.mem_cons_of_mem _ h)
  have hown : s.vm.findClass R_O = some m.cls := findClass_of_methodNamed B.named
  have hlocks := B.notSynchronized
  subst hsz
  have hD := hD0.self (sz := s.heap.size)
  generalize hAe : va_A [(h, .inr (8, [.ref ob, .int ol, .ref ou, .ref ow])), (ob, .inl (cT 2, 866, .inl bf)), (ou, .inl (cT 4, 1, .inr (.inr (.inr (.inr uf))))), (u0, .inr (4, [.ref uw, .int 0, .int ub])), (ow, .inr (4, [.ref lw, .int 1, .int lb])), (lw, .inl (cT 0, 48, .inl lf))] s.heap.size = A at hD hZ ⊢
  have hA : ∀ q : Nat, s.heap.size ≤ q → A q := fun q h => by rw [← hAe]; exact Or.inr h
  have hS : va_S A s.heap s.heap [] := va_S.rf
  have hl := lv_entry ([.ref h]) (n := 1) (Nat.le_of_ble_eq_true rfl)
  rw [lg_entry_eq]
  generalize (lg_sl ([.ref h]) ++ List.replicate (1 - (lg_sl ([.ref h])).length) Slot.unset).toArray = ls at hl ⊢
  have hl : lv_has ls 1 [(0, .ref h)] := hl
  refine lv_aload_n hx hb dO_write_0 rfl (lv_at hl 0 rfl) ?_
  refine va_get (D := D) (ci := 8) (v := .ref ou) (C := R_O) (T := T_O) (N := 4) hx hb hT in_O hown hK hP 0 rfl rfl 2 (by decide) (hT _ w292) (fun _ h9 => h9) rfl dO_write_1 ?_
  refine lv_iconst (v := 1) hx hb dO_write_4 (by decide) ?_
  refine lv_aload_n hx hb dO_write_5 rfl (lv_at hl 0 rfl) ?_
  refine va_get (D := D) (ci := 8) (v := .ref ow) (C := R_O) (T := T_O) (N := 4) hx hb hT in_O hown hK hP 0 rfl rfl 3 (by decide) (hT _ w294) (fun _ h9 => h9) rfl dO_write_6 ?_
  refine ro_v (va_Run.run (va_runSN (As := [.ref ou, .int 1, .ref ow]) (rest := []) ⟨hx, hb, hml, hown, hT⟩ (k_reduceOne48 l D cT ow lw lb lf ou h0) ⟨va_cnB 3 hT (tb_gd w969) rfl rfl rfl (hZ.1.2.1 ("ResidualTrees$Out", 28, ⟨"ResidualTrees", "reduce", "([LResidualTrees$Whole;ILResidualTrees$Whole;)V"⟩, "ResidualTrees") (List.mem_of_getElem? (i := 14) rfl)) (hT _ w1) hR_reduce ⟨Nat.le_of_ble_eq_true rfl, Nat.le_of_ble_eq_true rfl⟩, (hT _ w968), trivial⟩ (RO.preS hZ hS (hP.sub (ws' := [(ow, .inr (4, [.ref lw, .int 1, .int lb])), (lw, .inl (cT 0, 48, .inl lf))]) [4, 5] rfl) hK) rfl rfl hl.1 rfl (lv_room (Nat.le_of_ble_eq_true rfl)) dO_write_9 ⟨Nat.le_of_ble_eq_true rfl, Nat.le_of_ble_eq_true rfl⟩)) ?_
  refine lv_aload_n hx hb dO_write_12 rfl (lv_at hl 0 rfl) ?_
  refine lv_iconst (v := 0) hx hb dO_write_13 (by decide) ?_
  refine va_put (D := D) (ci := 8) (v := .int 0) (ty := .int) (C := R_O) (T := T_O) (N := 4) hx hb hT in_O ty_O ty_O_ok m_O hown hK hP hD hS 0 rfl rfl 1 (by decide) (hT _ w290) (fun _ h9 => h9) rfl (by decide +kernel) rfl rfl (Nat.le_of_ble_eq_true rfl) dO_write_14 (fun H locs hP hD hS => ?_)
  have hP : va_P D vwCl [(h, .inr (8, [.ref ob, .int 0, .ref ou, .ref ow])), (ob, .inl (cT 2, 866, .inl bf)), (ou, .inl (cT 4, 1, .inr (.inr (.inr (.inr uf))))), (u0, .inr (4, [.ref uw, .int 0, .int ub])), (ow, .inr (4, [.ref lw, .int 1, .int lb])), (lw, .inl (cT 0, 48, .inl lf))] H := hP
  have hD : va_D A [(h, .inr (8, [.ref ob, .int 0, .ref ou, .ref ow])), (ob, .inl (cT 2, 866, .inl bf)), (ou, .inl (cT 4, 1, .inr (.inr (.inr (.inr uf))))), (u0, .inr (4, [.ref uw, .int 0, .int ub])), (ow, .inr (4, [.ref lw, .int 1, .int lb])), (lw, .inl (cT 0, 48, .inl lf))] := hD
  refine lv_aload_n hx hb dO_write_17 rfl (lv_at hl 0 rfl) ?_
  refine va_get (D := D) (ci := 8) (v := .ref ou) (C := R_O) (T := T_O) (N := 4) hx hb hT in_O hown hK hP 0 rfl rfl 2 (by decide) (hT _ w292) (fun _ h9 => h9) rfl dO_write_18 ?_
  refine lv_iconst (v := 0) hx hb dO_write_21 (by decide) ?_
  refine al_q (q := u0) hx hb hK hP 2 4 rfl rfl (by unfold vp_in; decide) hu dO_write_22 ?_
  refine ro_i (va_Run.run (va_runV (As := []) (rest := []) ⟨hx, hb, hml, hown, hT⟩ (k_sign0 l D cT u0 uw ub) ⟨callB_of 0 hT (tb_gd w489) rfl rfl rfl (hT _ w5) (hT _ w1048) hW_sign ⟨Nat.le_of_ble_eq_true rfl, Nat.le_of_ble_eq_true rfl⟩, (hT _ w487), (hT _ w488)⟩ (RO.preV (ci := 4) (q0 := 0) hZ hS (hP.sub (ws' := [(u0, .inr (4, [.ref uw, .int 0, .int ub]))]) [3] rfl) hK rfl rfl) rfl rfl hl.1 rfl (lv_room (Nat.le_of_ble_eq_true rfl)) dO_write_23 ⟨Nat.le_of_ble_eq_true rfl, Nat.le_of_ble_eq_true rfl⟩)) ?_
  refine lv_if_ge (tgt := 35) hx hb dO_write_26 rfl (fun _ => ?_) (fun hj1 => absurd (by decide) hj1)
  refine lv_aload_n hx hb dO_write_35 rfl (lv_at hl 0 rfl) ?_
  refine lv_aload_n hx hb dO_write_36 rfl (lv_at hl 0 rfl) ?_
  refine va_get (D := D) (ci := 8) (v := .ref ou) (C := R_O) (T := T_O) (N := 4) hx hb hT in_O hown hK hP 0 rfl rfl 2 (by decide) (hT _ w292) (fun _ h9 => h9) rfl dO_write_37 ?_
  refine lv_iconst (v := 0) hx hb dO_write_40 (by decide) ?_
  refine al_q (q := u0) hx hb hK hP 2 4 rfl rfl (by unfold vp_in; decide) hu dO_write_41 ?_
  refine rw_v (wc := [(h, .inr (8, [.ref ob, .int 0, .ref ou, .ref ow])), (ob, .inl (cT 2, 866, .inl bf)), (u0, .inr (4, [.ref uw, .int 0, .int ub]))]) (wr := [(ou, .inl (cT 4, 1, .inr (.inr (.inr (.inr uf))))), (ow, .inr (4, [.ref lw, .int 1, .int lb])), (lw, .inl (cT 0, 48, .inl lf))]) hP hD hS hA [0, 1, 3] [2, 4, 5] rfl rfl (by decide) (by decide) (va_runV (As := [.ref u0]) (rest := []) ⟨hx, hb, hml, hown, hT⟩ (k_appendDigits0 l D cT h ob ou ow bf u0 uw ub _) ⟨callB_of 1 hT (tb_gd w1056) rfl rfl rfl (hT _ w12) (hT _ w1053) hO_appendDigits ⟨Nat.le_of_ble_eq_true rfl, Nat.le_of_ble_eq_true rfl⟩, (hT _ w1055), (hT _ wp27)⟩ (RW.preV (ci := 8) (q0 := 0) hZ hS (va_free (wc := [(h, .inr (8, [.ref ob, .int 0, .ref ou, .ref ow])), (ob, .inl (cT 2, 866, .inl bf)), (u0, .inr (4, [.ref uw, .int 0, .int ub]))]) hD hS hA [0, 1, 3] rfl) (hP.sub (ws' := [(h, .inr (8, [.ref ob, .int 0, .ref ou, .ref ow])), (ob, .inl (cT 2, 866, .inl bf)), (u0, .inr (4, [.ref uw, .int 0, .int ub]))]) [0, 1, 3] rfl) hK (hD.sub (ws' := [(h, .inr (8, [.ref ob, .int 0, .ref ou, .ref ow])), (ob, .inl (cT 2, 866, .inl bf)), (u0, .inr (4, [.ref uw, .int 0, .int ub]))]) [0, 1, 3] (by decide) rfl) rfl rfl) rfl rfl hl.1 rfl (lv_room (Nat.le_of_ble_eq_true rfl)) dO_write_42 ⟨Nat.le_of_ble_eq_true rfl, Nat.le_of_ble_eq_true rfl⟩) (fun u2 H locs hpu2 hP hD hS => ?_)
  have hP : va_P D vwCl [(ou, .inl (cT 4, 1, .inr (.inr (.inr (.inr uf))))), (ow, .inr (4, [.ref lw, .int 1, .int lb])), (lw, .inl (cT 0, 48, .inl lf)), (u0, .inr (4, [.ref uw, .int 0, .int ub])), (h, .inr (8, [.ref ob, .int 1, .ref ou, .ref ow])), (ob, .inl (cT 2, 866, .inl (upd bf 0 (vp_nar .byte 48))))] H := hP
  have hD : va_D A [(ou, .inl (cT 4, 1, .inr (.inr (.inr (.inr uf))))), (ow, .inr (4, [.ref lw, .int 1, .int lb])), (lw, .inl (cT 0, 48, .inl lf)), (u0, .inr (4, [.ref uw, .int 0, .int ub])), (h, .inr (8, [.ref ob, .int 1, .ref ou, .ref ow])), (ob, .inl (cT 2, 866, .inl (upd bf 0 (vp_nar .byte 48))))] := hD
  refine lv_aload_n hx hb dO_write_45 rfl (lv_at hl 0 rfl) ?_
  refine va_get (D := D) (ci := 8) (v := .ref ow) (C := R_O) (T := T_O) (N := 4) hx hb hT in_O hown hK hP 4 rfl rfl 3 (by decide) (hT _ w294) (fun _ h9 => h9) rfl dO_write_46 ?_
  refine va_get (D := D) (ci := 4) (v := .int 1) (C := R_W) (T := T_W) (N := 3) hx hb hT in_W hown hK hP 1 rfl rfl 1 (by decide) (hT _ w147) (fun _ h9 => h9) rfl dO_write_49 ?_
  refine lv_iconst (v := 1) hx hb dO_write_52 (by decide) ?_
  refine lv_icmp_gt (tgt := 69) hx hb dO_write_53 rfl (fun hj3 => absurd hj3 (by decide)) (fun _ => ?_)
  refine lv_aload_n hx hb dO_write_56 rfl (lv_at hl 0 rfl) ?_
  refine va_get (D := D) (ci := 8) (v := .ref ow) (C := R_O) (T := T_O) (N := 4) hx hb hT in_O hown hK hP 4 rfl rfl 3 (by decide) (hT _ w294) (fun _ h9 => h9) rfl dO_write_57 ?_
  refine va_get (D := D) (ci := 4) (v := .ref lw) (C := R_W) (T := T_W) (N := 3) hx hb hT in_W hown hK hP 1 rfl rfl 0 (by decide) (hT _ w146) (fun _ h9 => h9) rfl dO_write_60 ?_
  refine lv_iconst (v := 0) hx hb dO_write_63 (by decide) ?_
  refine va_iald hx hb hK hP 2 0 rfl rfl (by unfold vp_in; decide) dO_write_64 ?_
  refine lv_topi (fun y9 e9 => ?_)
  cases (show y9 = 1 from e9.trans h0)
  refine lv_iconst (v := 1) hx hb dO_write_65 (by decide) ?_
  refine lv_icmp_eq (tgt := 83) hx hb dO_write_66 rfl (fun _ => ?_) (fun hj4 => absurd (by decide) hj4)
  refine lv_aload_n hx hb dO_write_83 rfl (lv_at hl 0 rfl) ?_
  refine va_get (D := D) (ci := 8) (v := .int 1) (C := R_O) (T := T_O) (N := 4) hx hb hT in_O hown hK hP 4 rfl rfl 1 (by decide) (hT _ w290) (fun _ h9 => h9) rfl dO_write_84 ?_
  have hP9 := hP.sub (ws' := [(ou, .inl (cT 4, 1, .inr (.inr (.inr (.inr uf))))), (ow, .inr (4, [.ref lw, .int 1, .int lb])), (lw, .inl (cT 0, 48, .inl lf)), (u0, .inr (4, [.ref uw, .int 0, .int ub])), (h, .inr (8, [.ref ob, .int 1, .ref ou, .ref ow])), (ob, .inl (cT 2, 866, .inl (upd bf 0 (vp_nar .byte 48))))]) [0, 1, 2, 3, 4, 5] rfl
  have hD9 := hD.sub (ws' := [(ou, .inl (cT 4, 1, .inr (.inr (.inr (.inr uf))))), (ow, .inr (4, [.ref lw, .int 1, .int lb])), (lw, .inl (cT 0, 48, .inl lf)), (u0, .inr (4, [.ref uw, .int 0, .int ub])), (h, .inr (8, [.ref ob, .int 1, .ref ou, .ref ow])), (ob, .inl (cT 2, 866, .inl (upd bf 0 (vp_nar .byte 48))))]) [0, 1, 2, 3, 4, 5] (by decide) rfl
  refine W.widen (k := 0) (n := 0) (Nat.le_of_ble_eq_true rfl) (Nat.le_of_ble_eq_true rfl) ?_
  exact W.iret (v := 1) hx hb hr (fun t ht hW => ⟨⟨1, (fun _ => 0), rfl, rfl, by rw [ht]; exact hP9, hD9⟩, hS.F ht⟩) hS.2.2 dO_write_87
set_option maxHeartbeats 4000000 in
set_option maxRecDepth 100000 in
theorem k_setToScales24 (l : Launch) (D : va_G) (cT : Nat → ClassId) (x : Nat) (xT : Nat) (xP : Nat) (xR : Nat) (xG : Nat) (xF : Nat) (tc : Int32) (xO : Nat) (xS : Nat) (xL : Nat) (xC : Nat) (xQ : Nat) (xU : Nat) (xW : Nat) (h : Nat) (ww : Nat) (wl : Int32) (wb : Int32) (wf : Nat → Int32) (sz : Nat) : Met l yR_setToScales WR_setToScales ({ frames := 2, cells := 0, slots := 0, locals := 42 } : Room) (RW D vwCl [.ref x, .ref h, .int 0] [(x, .inr (0, [.ref xT, .ref xP, .ref xR, .ref xG, .ref xF, .int tc, .ref xO, .ref xS, .ref xL, .ref xC, .ref xQ, .ref xU, .ref xW])), (h, .inr (4, [.ref ww, .int wl, .int wb])), (ww, .inl (cT 0, 24, .inl wf))] (TY cT) sz) (va_Qv (fun _ : Nat → Nat => True) (BW D vwCl (va_A [(x, .inr (0, [.ref xT, .ref xP, .ref xR, .ref xG, .ref xF, .int tc, .ref xO, .ref xS, .ref xL, .ref xC, .ref xQ, .ref xU, .ref xW])), (h, .inr (4, [.ref ww, .int wl, .int wb])), (ww, .inl (cT 0, 24, .inl wf))] sz) (fun u => [(x, .inr (0, [.ref xT, .ref xP, .ref xR, .ref xG, .ref xF, .int tc, .ref xO, .ref xS, .ref xL, .ref xC, .ref xQ, .ref xU, .ref xW])), (h, .inr (4, [.ref ww, .int 1, .int 0])), (ww, .inl (cT 0, 24, .inl (upd wf 0 1)))])) (va_A [(x, .inr (0, [.ref xT, .ref xP, .ref xR, .ref xG, .ref xF, .int tc, .ref xO, .ref xS, .ref xL, .ref xC, .ref xQ, .ref xU, .ref xW])), (h, .inr (4, [.ref ww, .int wl, .int wb])), (ww, .inl (cT 0, 24, .inl wf))] sz)) 0 0 (va_A [(x, .inr (0, [.ref xT, .ref xP, .ref xR, .ref xG, .ref xF, .int tc, .ref xO, .ref xS, .ref xL, .ref xC, .ref xQ, .ref xU, .ref xW])), (h, .inr (4, [.ref ww, .int wl, .int wb])), (ww, .inl (cT 0, 24, .inl wf))] sz) := by
  refine Met.ofW (cc := cR_setToScales) (maxL := 4) (ret := none) (by decide) rfl ?_
  intro p e s m args below meth c s₁ B hml hv
  obtain ⟨rfl, hsz, hZ, hP, hK, hD0⟩ := hv
  have hx := B.exec
  have hb := B.bytes
  have hr := B.returns
  have hts := atoms_spec (ws := WR_setToScales) B.pre
  have hT : ∀ w ∈ TB, w.before _ s = true := fun w h => hts w (List.mem_cons_of_mem _ h)
  have hown : s.vm.findClass R_R = some m.cls := findClass_of_methodNamed B.named
  have hlocks := B.notSynchronized
  subst hsz
  have hD := hD0.self (sz := s.heap.size)
  generalize hAe : va_A [(x, .inr (0, [.ref xT, .ref xP, .ref xR, .ref xG, .ref xF, .int tc, .ref xO, .ref xS, .ref xL, .ref xC, .ref xQ, .ref xU, .ref xW])), (h, .inr (4, [.ref ww, .int wl, .int wb])), (ww, .inl (cT 0, 24, .inl wf))] s.heap.size = A at hD hZ ⊢
  have hA : ∀ q : Nat, s.heap.size ≤ q → A q := fun q h => by rw [← hAe]; exact Or.inr h
  have hS : va_S A s.heap s.heap [] := va_S.rf
  have hl := lv_entry ([.ref x, .ref h, .int 0]) (n := 4) (Nat.le_of_ble_eq_true rfl)
  rw [lg_entry_eq]
  generalize (lg_sl ([.ref x, .ref h, .int 0]) ++ List.replicate (4 - (lg_sl ([.ref x, .ref h, .int 0])).length) Slot.unset).toArray = ls at hl ⊢
  have hl : lv_has ls 4 [(0, .ref x), (1, .ref h), (2, .int 0)] := hl
  refine lv_aload_n hx hb dR_setToScales_0 rfl (lv_at hl 1 rfl) ?_
  refine lv_iconst (v := 1) hx hb dR_setToScales_1 (by decide) ?_
  refine rw_v (wc := [(h, .inr (4, [.ref ww, .int wl, .int wb])), (ww, .inl (cT 0, 24, .inl wf))]) (wr := [(x, .inr (0, [.ref xT, .ref xP, .ref xR, .ref xG, .ref xF, .int tc, .ref xO, .ref xS, .ref xL, .ref xC, .ref xQ, .ref xU, .ref xW]))]) hP hD hS hA [1, 2] [0] rfl rfl (by decide) (by decide) (va_runV (As := [.int 1]) (rest := []) ⟨hx, hb, hml, hown, hT⟩ (k_setO24 l D cT h ww wl wb wf _) ⟨callB_of 1 hT (tb_gd w393) rfl rfl rfl (hT _ w5) (hT _ w390) hW_set ⟨Nat.le_of_ble_eq_true rfl, Nat.le_of_ble_eq_true rfl⟩, (hT _ w391), (hT _ w392)⟩ (RW.preV (ci := 4) (q0 := 0) hZ hS (va_free (wc := [(h, .inr (4, [.ref ww, .int wl, .int wb])), (ww, .inl (cT 0, 24, .inl wf))]) hD hS hA [1, 2] rfl) (hP.sub (ws' := [(h, .inr (4, [.ref ww, .int wl, .int wb])), (ww, .inl (cT 0, 24, .inl wf))]) [1, 2] rfl) hK (hD.sub (ws' := [(h, .inr (4, [.ref ww, .int wl, .int wb])), (ww, .inl (cT 0, 24, .inl wf))]) [1, 2] (by decide) rfl) rfl rfl) rfl rfl hl.1 rfl (lv_room (Nat.le_of_ble_eq_true rfl)) dR_setToScales_2 ⟨Nat.le_of_ble_eq_true rfl, Nat.le_of_ble_eq_true rfl⟩) (fun u1 H locs hpu1 hP hD hS => ?_)
  have hP : va_P D vwCl [(x, .inr (0, [.ref xT, .ref xP, .ref xR, .ref xG, .ref xF, .int tc, .ref xO, .ref xS, .ref xL, .ref xC, .ref xQ, .ref xU, .ref xW])), (h, .inr (4, [.ref ww, .int 1, .int 0])), (ww, .inl (cT 0, 24, .inl (upd wf 0 1)))] H := hP
  have hD : va_D A [(x, .inr (0, [.ref xT, .ref xP, .ref xR, .ref xG, .ref xF, .int tc, .ref xO, .ref xS, .ref xL, .ref xC, .ref xQ, .ref xU, .ref xW])), (h, .inr (4, [.ref ww, .int 1, .int 0])), (ww, .inl (cT 0, 24, .inl (upd wf 0 1)))] := hD
  refine lv_iconst (v := 0) hx hb dR_setToScales_5 (by decide) ?_
  refine lv_istore_n hx hb dR_setToScales_6 rfl hl (by decide) rfl (fun ls hl => ?_)
  have hl : lv_has ls 4 [(3, .int 0), (0, .ref x), (1, .ref h), (2, .int 0)] := hl
  refine lv_iload_n hx hb dR_setToScales_7 rfl (lv_at hl 0 rfl) ?_
  refine lv_iload_n hx hb dR_setToScales_8 rfl (lv_at hl 3 rfl) ?_
  refine lv_icmp_ge (tgt := 36) hx hb dR_setToScales_9 rfl (fun _ => ?_) (fun hj2 => absurd (by decide) hj2)
  have hP9 := hP.sub (ws' := [(x, .inr (0, [.ref xT, .ref xP, .ref xR, .ref xG, .ref xF, .int tc, .ref xO, .ref xS, .ref xL, .ref xC, .ref xQ, .ref xU, .ref xW])), (h, .inr (4, [.ref ww, .int 1, .int 0])), (ww, .inl (cT 0, 24, .inl (upd wf 0 1)))]) [0, 1, 2] rfl
  have hD9 := hD.sub (ws' := [(x, .inr (0, [.ref xT, .ref xP, .ref xR, .ref xG, .ref xF, .int tc, .ref xO, .ref xS, .ref xL, .ref xC, .ref xQ, .ref xU, .ref xW])), (h, .inr (4, [.ref ww, .int 1, .int 0])), (ww, .inl (cT 0, 24, .inl (upd wf 0 1)))]) [0, 1, 2] (by decide) rfl
  refine W.widen (k := 0) (n := 0) (Nat.le_of_ble_eq_true rfl) (Nat.le_of_ble_eq_true rfl) ?_
  exact W.vret hx hb hr (fun t ht hW => ⟨⟨(fun _ => 0), rfl, trivial, by rw [ht]; exact hP9, hD9⟩, hS.F ht⟩) hS.2.2 dR_setToScales_36
set_option maxHeartbeats 4000000 in
set_option maxRecDepth 100000 in
theorem k_setToScales48 (l : Launch) (D : va_G) (cT : Nat → ClassId) (x : Nat) (xT : Nat) (xP : Nat) (xR : Nat) (xG : Nat) (xF : Nat) (tc : Int32) (xO : Nat) (xS : Nat) (xL : Nat) (xC : Nat) (xQ : Nat) (xU : Nat) (xW : Nat) (h : Nat) (ww : Nat) (wl : Int32) (wb : Int32) (wf : Nat → Int32) (sz : Nat) : Met l yR_setToScales WR_setToScales ({ frames := 2, cells := 0, slots := 0, locals := 42 } : Room) (RW D vwCl [.ref x, .ref h, .int 0] [(x, .inr (0, [.ref xT, .ref xP, .ref xR, .ref xG, .ref xF, .int tc, .ref xO, .ref xS, .ref xL, .ref xC, .ref xQ, .ref xU, .ref xW])), (h, .inr (4, [.ref ww, .int wl, .int wb])), (ww, .inl (cT 0, 48, .inl wf))] (TY cT) sz) (va_Qv (fun _ : Nat → Nat => True) (BW D vwCl (va_A [(x, .inr (0, [.ref xT, .ref xP, .ref xR, .ref xG, .ref xF, .int tc, .ref xO, .ref xS, .ref xL, .ref xC, .ref xQ, .ref xU, .ref xW])), (h, .inr (4, [.ref ww, .int wl, .int wb])), (ww, .inl (cT 0, 48, .inl wf))] sz) (fun u => [(x, .inr (0, [.ref xT, .ref xP, .ref xR, .ref xG, .ref xF, .int tc, .ref xO, .ref xS, .ref xL, .ref xC, .ref xQ, .ref xU, .ref xW])), (h, .inr (4, [.ref ww, .int 1, .int 0])), (ww, .inl (cT 0, 48, .inl (upd wf 0 1)))])) (va_A [(x, .inr (0, [.ref xT, .ref xP, .ref xR, .ref xG, .ref xF, .int tc, .ref xO, .ref xS, .ref xL, .ref xC, .ref xQ, .ref xU, .ref xW])), (h, .inr (4, [.ref ww, .int wl, .int wb])), (ww, .inl (cT 0, 48, .inl wf))] sz)) 0 0 (va_A [(x, .inr (0, [.ref xT, .ref xP, .ref xR, .ref xG, .ref xF, .int tc, .ref xO, .ref xS, .ref xL, .ref xC, .ref xQ, .ref xU, .ref xW])), (h, .inr (4, [.ref ww, .int wl, .int wb])), (ww, .inl (cT 0, 48, .inl wf))] sz) := by
  refine Met.ofW (cc := cR_setToScales) (maxL := 4) (ret := none) (by decide) rfl ?_
  intro p e s m args below meth c s₁ B hml hv
  obtain ⟨rfl, hsz, hZ, hP, hK, hD0⟩ := hv
  have hx := B.exec
  have hb := B.bytes
  have hr := B.returns
  have hts := atoms_spec (ws := WR_setToScales) B.pre
  have hT : ∀ w ∈ TB, w.before _ s = true := fun w h => hts w (List.mem_cons_of_mem _ h)
  have hown : s.vm.findClass R_R = some m.cls := findClass_of_methodNamed B.named
  have hlocks := B.notSynchronized
  subst hsz
  have hD := hD0.self (sz := s.heap.size)
  generalize hAe : va_A [(x, .inr (0, [.ref xT, .ref xP, .ref xR, .ref xG, .ref xF, .int tc, .ref xO, .ref xS, .ref xL, .ref xC, .ref xQ, .ref xU, .ref xW])), (h, .inr (4, [.ref ww, .int wl, .int wb])), (ww, .inl (cT 0, 48, .inl wf))] s.heap.size = A at hD hZ ⊢
  have hA : ∀ q : Nat, s.heap.size ≤ q → A q := fun q h => by rw [← hAe]; exact Or.inr h
  have hS : va_S A s.heap s.heap [] := va_S.rf
  have hl := lv_entry ([.ref x, .ref h, .int 0]) (n := 4) (Nat.le_of_ble_eq_true rfl)
  rw [lg_entry_eq]
  generalize (lg_sl ([.ref x, .ref h, .int 0]) ++ List.replicate (4 - (lg_sl ([.ref x, .ref h, .int 0])).length) Slot.unset).toArray = ls at hl ⊢
  have hl : lv_has ls 4 [(0, .ref x), (1, .ref h), (2, .int 0)] := hl
  refine lv_aload_n hx hb dR_setToScales_0 rfl (lv_at hl 1 rfl) ?_
  refine lv_iconst (v := 1) hx hb dR_setToScales_1 (by decide) ?_
  refine rw_v (wc := [(h, .inr (4, [.ref ww, .int wl, .int wb])), (ww, .inl (cT 0, 48, .inl wf))]) (wr := [(x, .inr (0, [.ref xT, .ref xP, .ref xR, .ref xG, .ref xF, .int tc, .ref xO, .ref xS, .ref xL, .ref xC, .ref xQ, .ref xU, .ref xW]))]) hP hD hS hA [1, 2] [0] rfl rfl (by decide) (by decide) (va_runV (As := [.int 1]) (rest := []) ⟨hx, hb, hml, hown, hT⟩ (k_setO48 l D cT h ww wl wb wf _) ⟨callB_of 1 hT (tb_gd w393) rfl rfl rfl (hT _ w5) (hT _ w390) hW_set ⟨Nat.le_of_ble_eq_true rfl, Nat.le_of_ble_eq_true rfl⟩, (hT _ w391), (hT _ w392)⟩ (RW.preV (ci := 4) (q0 := 0) hZ hS (va_free (wc := [(h, .inr (4, [.ref ww, .int wl, .int wb])), (ww, .inl (cT 0, 48, .inl wf))]) hD hS hA [1, 2] rfl) (hP.sub (ws' := [(h, .inr (4, [.ref ww, .int wl, .int wb])), (ww, .inl (cT 0, 48, .inl wf))]) [1, 2] rfl) hK (hD.sub (ws' := [(h, .inr (4, [.ref ww, .int wl, .int wb])), (ww, .inl (cT 0, 48, .inl wf))]) [1, 2] (by decide) rfl) rfl rfl) rfl rfl hl.1 rfl (lv_room (Nat.le_of_ble_eq_true rfl)) dR_setToScales_2 ⟨Nat.le_of_ble_eq_true rfl, Nat.le_of_ble_eq_true rfl⟩) (fun u1 H locs hpu1 hP hD hS => ?_)
  have hP : va_P D vwCl [(x, .inr (0, [.ref xT, .ref xP, .ref xR, .ref xG, .ref xF, .int tc, .ref xO, .ref xS, .ref xL, .ref xC, .ref xQ, .ref xU, .ref xW])), (h, .inr (4, [.ref ww, .int 1, .int 0])), (ww, .inl (cT 0, 48, .inl (upd wf 0 1)))] H := hP
  have hD : va_D A [(x, .inr (0, [.ref xT, .ref xP, .ref xR, .ref xG, .ref xF, .int tc, .ref xO, .ref xS, .ref xL, .ref xC, .ref xQ, .ref xU, .ref xW])), (h, .inr (4, [.ref ww, .int 1, .int 0])), (ww, .inl (cT 0, 48, .inl (upd wf 0 1)))] := hD
  refine lv_iconst (v := 0) hx hb dR_setToScales_5 (by decide) ?_
  refine lv_istore_n hx hb dR_setToScales_6 rfl hl (by decide) rfl (fun ls hl => ?_)
  have hl : lv_has ls 4 [(3, .int 0), (0, .ref x), (1, .ref h), (2, .int 0)] := hl
  refine lv_iload_n hx hb dR_setToScales_7 rfl (lv_at hl 0 rfl) ?_
  refine lv_iload_n hx hb dR_setToScales_8 rfl (lv_at hl 3 rfl) ?_
  refine lv_icmp_ge (tgt := 36) hx hb dR_setToScales_9 rfl (fun _ => ?_) (fun hj2 => absurd (by decide) hj2)
  have hP9 := hP.sub (ws' := [(x, .inr (0, [.ref xT, .ref xP, .ref xR, .ref xG, .ref xF, .int tc, .ref xO, .ref xS, .ref xL, .ref xC, .ref xQ, .ref xU, .ref xW])), (h, .inr (4, [.ref ww, .int 1, .int 0])), (ww, .inl (cT 0, 48, .inl (upd wf 0 1)))]) [0, 1, 2] rfl
  have hD9 := hD.sub (ws' := [(x, .inr (0, [.ref xT, .ref xP, .ref xR, .ref xG, .ref xF, .int tc, .ref xO, .ref xS, .ref xL, .ref xC, .ref xQ, .ref xU, .ref xW])), (h, .inr (4, [.ref ww, .int 1, .int 0])), (ww, .inl (cT 0, 48, .inl (upd wf 0 1)))]) [0, 1, 2] (by decide) rfl
  refine W.widen (k := 0) (n := 0) (Nat.le_of_ble_eq_true rfl) (Nat.le_of_ble_eq_true rfl) ?_
  exact W.vret hx hb hr (fun t ht hW => ⟨⟨(fun _ => 0), rfl, trivial, by rw [ht]; exact hP9, hD9⟩, hS.F ht⟩) hS.2.2 dR_setToScales_36
set_option maxHeartbeats 4000000 in
set_option maxRecDepth 100000 in
theorem k_leaveQ (l : Launch) (D : va_G) (cT : Nat → ClassId) (x : Nat) (xT : Nat) (xP : Nat) (xR : Nat) (xG : Nat) (xF : Nat) (tc : Int32) (xO : Nat) (xS : Nat) (xL : Nat) (xC : Nat) (xQ : Nat) (xU : Nat) (xW : Nat) (ca : Nat) (ta : Nat) (w : Int32) (r : Int32) (tf : Nat → Int32) (h : Nat) (ww : Nat) (wl : Int32) (wb : Int32) (wf : Nat → Int32) (h0 : tf 48 = 0) (sz : Nat) : Met l yR_leave WR_leave ({ frames := 2, cells := 0, slots := 0, locals := 42 } : Room) (RW D vwCl [.ref x, .int 48, .int 0, .ref h] [(x, .inr (0, [.ref xT, .ref xP, .ref xR, .ref xG, .ref xF, .int tc, .ref xO, .ref xS, .ref xL, .ref xC, .ref xQ, .ref xU, .ref xW])), (xT, .inr (2, [.ref ca, .ref ta, .int w, .int r])), (ta, .inl (cT 0, 49, .inl tf)), (h, .inr (4, [.ref ww, .int wl, .int wb])), (ww, .inl (cT 0, 48, .inl wf))] (TY cT) sz) (va_Qv (fun _ : Nat → Nat => True) (BW D vwCl (va_A [(x, .inr (0, [.ref xT, .ref xP, .ref xR, .ref xG, .ref xF, .int tc, .ref xO, .ref xS, .ref xL, .ref xC, .ref xQ, .ref xU, .ref xW])), (xT, .inr (2, [.ref ca, .ref ta, .int w, .int r])), (ta, .inl (cT 0, 49, .inl tf)), (h, .inr (4, [.ref ww, .int wl, .int wb])), (ww, .inl (cT 0, 48, .inl wf))] sz) (fun u => [(x, .inr (0, [.ref xT, .ref xP, .ref xR, .ref xG, .ref xF, .int tc, .ref xO, .ref xS, .ref xL, .ref xC, .ref xQ, .ref xU, .ref xW])), (xT, .inr (2, [.ref ca, .ref ta, .int w, .int r])), (ta, .inl (cT 0, 49, .inl tf)), (h, .inr (4, [.ref ww, .int 0, .int 0])), (ww, .inl (cT 0, 48, .inl (upd wf 0 0)))])) (va_A [(x, .inr (0, [.ref xT, .ref xP, .ref xR, .ref xG, .ref xF, .int tc, .ref xO, .ref xS, .ref xL, .ref xC, .ref xQ, .ref xU, .ref xW])), (xT, .inr (2, [.ref ca, .ref ta, .int w, .int r])), (ta, .inl (cT 0, 49, .inl tf)), (h, .inr (4, [.ref ww, .int wl, .int wb])), (ww, .inl (cT 0, 48, .inl wf))] sz)) 0 0 (va_A [(x, .inr (0, [.ref xT, .ref xP, .ref xR, .ref xG, .ref xF, .int tc, .ref xO, .ref xS, .ref xL, .ref xC, .ref xQ, .ref xU, .ref xW])), (xT, .inr (2, [.ref ca, .ref ta, .int w, .int r])), (ta, .inl (cT 0, 49, .inl tf)), (h, .inr (4, [.ref ww, .int wl, .int wb])), (ww, .inl (cT 0, 48, .inl wf))] sz) := by
  refine Met.ofW (cc := cR_leave) (maxL := 5) (ret := none) (by decide) rfl ?_
  intro p e s m args below meth c s₁ B hml hv
  obtain ⟨rfl, hsz, hZ, hP, hK, hD0⟩ := hv
  have hx := B.exec
  have hb := B.bytes
  have hr := B.returns
  have hts := atoms_spec (ws := WR_leave) B.pre
  have hT : ∀ w ∈ TB, w.before _ s = true := fun w h => hts w (List.mem_cons_of_mem _ h)
  have hown : s.vm.findClass R_R = some m.cls := findClass_of_methodNamed B.named
  have hlocks := B.notSynchronized
  subst hsz
  have hD := hD0.self (sz := s.heap.size)
  generalize hAe : va_A [(x, .inr (0, [.ref xT, .ref xP, .ref xR, .ref xG, .ref xF, .int tc, .ref xO, .ref xS, .ref xL, .ref xC, .ref xQ, .ref xU, .ref xW])), (xT, .inr (2, [.ref ca, .ref ta, .int w, .int r])), (ta, .inl (cT 0, 49, .inl tf)), (h, .inr (4, [.ref ww, .int wl, .int wb])), (ww, .inl (cT 0, 48, .inl wf))] s.heap.size = A at hD hZ ⊢
  have hA : ∀ q : Nat, s.heap.size ≤ q → A q := fun q h => by rw [← hAe]; exact Or.inr h
  have hS : va_S A s.heap s.heap [] := va_S.rf
  have hl := lv_entry ([.ref x, .int 48, .int 0, .ref h]) (n := 5) (Nat.le_of_ble_eq_true rfl)
  rw [lg_entry_eq]
  generalize (lg_sl ([.ref x, .int 48, .int 0, .ref h]) ++ List.replicate (5 - (lg_sl ([.ref x, .int 48, .int 0, .ref h])).length) Slot.unset).toArray = ls at hl ⊢
  have hl : lv_has ls 5 [(0, .ref x), (1, .int 48), (2, .int 0), (3, .ref h)] := hl
  refine lv_aload_n hx hb dR_leave_0 rfl (lv_at hl 3 rfl) ?_
  refine lv_aload_n hx hb dR_leave_1 rfl (lv_at hl 0 rfl) ?_
  refine va_get (D := D) (ci := 0) (v := .ref xT) (C := R_R) (T := T_R) (N := 13) hx hb hT in_R hown hK hP 0 rfl rfl 0 (by decide) (hT _ w324) (fun _ h9 => h9) rfl dR_leave_2 ?_
  refine va_get (D := D) (ci := 2) (v := .ref ta) (C := R_T) (T := T_T) (N := 4) hx hb hT in_T hown hK hP 1 rfl rfl 1 (by decide) (hT _ w77) (fun _ h9 => h9) rfl dR_leave_5 ?_
  refine lv_iload_n hx hb dR_leave_8 rfl (lv_at hl 1 rfl) ?_
  refine va_iald hx hb hK hP 2 0 rfl rfl (by unfold vp_in; decide) dR_leave_9 ?_
  refine lv_topi (fun y9 e9 => ?_)
  cases (show y9 = 0 from e9.trans h0)
  refine rw_v (wc := [(h, .inr (4, [.ref ww, .int wl, .int wb])), (ww, .inl (cT 0, 48, .inl wf))]) (wr := [(x, .inr (0, [.ref xT, .ref xP, .ref xR, .ref xG, .ref xF, .int tc, .ref xO, .ref xS, .ref xL, .ref xC, .ref xQ, .ref xU, .ref xW])), (xT, .inr (2, [.ref ca, .ref ta, .int w, .int r])), (ta, .inl (cT 0, 49, .inl tf))]) hP hD hS hA [3, 4] [0, 1, 2] rfl rfl (by decide) (by decide) (va_runV (As := [.int 0]) (rest := []) ⟨hx, hb, hml, hown, hT⟩ (k_setZ48 l D cT h ww wl wb wf _) ⟨callB_of 1 hT (tb_gd w393) rfl rfl rfl (hT _ w5) (hT _ w390) hW_set ⟨Nat.le_of_ble_eq_true rfl, Nat.le_of_ble_eq_true rfl⟩, (hT _ w391), (hT _ w392)⟩ (RW.preV (ci := 4) (q0 := 0) hZ hS (va_free (wc := [(h, .inr (4, [.ref ww, .int wl, .int wb])), (ww, .inl (cT 0, 48, .inl wf))]) hD hS hA [3, 4] rfl) (hP.sub (ws' := [(h, .inr (4, [.ref ww, .int wl, .int wb])), (ww, .inl (cT 0, 48, .inl wf))]) [3, 4] rfl) hK (hD.sub (ws' := [(h, .inr (4, [.ref ww, .int wl, .int wb])), (ww, .inl (cT 0, 48, .inl wf))]) [3, 4] (by decide) rfl) rfl rfl) rfl rfl hl.1 rfl (lv_room (Nat.le_of_ble_eq_true rfl)) dR_leave_10 ⟨Nat.le_of_ble_eq_true rfl, Nat.le_of_ble_eq_true rfl⟩) (fun u1 H locs hpu1 hP hD hS => ?_)
  have hP : va_P D vwCl [(x, .inr (0, [.ref xT, .ref xP, .ref xR, .ref xG, .ref xF, .int tc, .ref xO, .ref xS, .ref xL, .ref xC, .ref xQ, .ref xU, .ref xW])), (xT, .inr (2, [.ref ca, .ref ta, .int w, .int r])), (ta, .inl (cT 0, 49, .inl tf)), (h, .inr (4, [.ref ww, .int 0, .int 0])), (ww, .inl (cT 0, 48, .inl (upd wf 0 0)))] H := hP
  have hD : va_D A [(x, .inr (0, [.ref xT, .ref xP, .ref xR, .ref xG, .ref xF, .int tc, .ref xO, .ref xS, .ref xL, .ref xC, .ref xQ, .ref xU, .ref xW])), (xT, .inr (2, [.ref ca, .ref ta, .int w, .int r])), (ta, .inl (cT 0, 49, .inl tf)), (h, .inr (4, [.ref ww, .int 0, .int 0])), (ww, .inl (cT 0, 48, .inl (upd wf 0 0)))] := hD
  refine lv_iconst (v := 0) hx hb dR_leave_13 (by decide) ?_
  refine lv_istore hx hb dR_leave_14 hl (by decide) rfl (fun ls hl => ?_)
  have hl : lv_has ls 5 [(4, .int 0), (0, .ref x), (1, .int 48), (2, .int 0), (3, .ref h)] := hl
  refine lv_iload hx hb dR_leave_16 (lv_at hl 0 rfl) ?_
  refine lv_iload_n hx hb dR_leave_18 rfl (lv_at hl 3 rfl) ?_
  refine lv_icmp_ge (tgt := 46) hx hb dR_leave_19 rfl (fun _ => ?_) (fun hj2 => absurd (by decide) hj2)
  have hP9 := hP.sub (ws' := [(x, .inr (0, [.ref xT, .ref xP, .ref xR, .ref xG, .ref xF, .int tc, .ref xO, .ref xS, .ref xL, .ref xC, .ref xQ, .ref xU, .ref xW])), (xT, .inr (2, [.ref ca, .ref ta, .int w, .int r])), (ta, .inl (cT 0, 49, .inl tf)), (h, .inr (4, [.ref ww, .int 0, .int 0])), (ww, .inl (cT 0, 48, .inl (upd wf 0 0)))]) [0, 1, 2, 3, 4] rfl
  have hD9 := hD.sub (ws' := [(x, .inr (0, [.ref xT, .ref xP, .ref xR, .ref xG, .ref xF, .int tc, .ref xO, .ref xS, .ref xL, .ref xC, .ref xQ, .ref xU, .ref xW])), (xT, .inr (2, [.ref ca, .ref ta, .int w, .int r])), (ta, .inl (cT 0, 49, .inl tf)), (h, .inr (4, [.ref ww, .int 0, .int 0])), (ww, .inl (cT 0, 48, .inl (upd wf 0 0)))]) [0, 1, 2, 3, 4] (by decide) rfl
  refine W.widen (k := 0) (n := 0) (Nat.le_of_ble_eq_true rfl) (Nat.le_of_ble_eq_true rfl) ?_
  exact W.vret hx hb hr (fun t ht hW => ⟨⟨(fun _ => 0), rfl, trivial, by rw [ht]; exact hP9, hD9⟩, hS.F ht⟩) hS.2.2 dR_leave_46
set_option maxHeartbeats 4000000 in
set_option maxRecDepth 100000 in
theorem k_leaveAll0 (l : Launch) (D : va_G) (cT : Nat → ClassId) (x : Nat) (xT : Nat) (xP : Nat) (xR : Nat) (xG : Nat) (xF : Nat) (tc : Int32) (xO : Nat) (xS : Nat) (xL : Nat) (xC : Nat) (xQ : Nat) (xU : Nat) (xW : Nat) (ca : Nat) (ta : Nat) (w : Int32) (a1 : Int32) : Met l yR_leaveAll WR_leaveAll ({ frames := 0, cells := 0, slots := 0, locals := 0 } : Room) (RO D vwCl [.ref x, .int a1] [(x, .inr (0, [.ref xT, .ref xP, .ref xR, .ref xG, .ref xF, .int tc, .ref xO, .ref xS, .ref xL, .ref xC, .ref xQ, .ref xU, .ref xW])), (xT, .inr (2, [.ref ca, .ref ta, .int w, .int 0]))] (TY cT)) (QcReadV) 0 0 (fun _ => False) := by
  refine Met.ofW (cc := cR_leaveAll) (maxL := 3) (ret := none) (by decide) rfl ?_
  intro p e s m args below meth c s₁ B hml hv
  obtain ⟨rfl, hZ, hP, hK⟩ := hv
  have hx := B.exec
  have hb := B.bytes
  have hr := B.returns
  have hts := atoms_spec (ws := WR_leaveAll) B.pre
  have hT : ∀ w ∈ TB, w.before _ s = true := fun w h => hts w (List.mem_cons_of_mem _ h)
  have hown : s.vm.findClass R_R = some m.cls := findClass_of_methodNamed B.named
  have hlocks := B.notSynchronized
  have hS : va_S (fun _ => False) s.heap s.heap [] := va_S.rf
  have hl := lv_entry ([.ref x, .int a1]) (n := 3) (Nat.le_of_ble_eq_true rfl)
  rw [lg_entry_eq]
  generalize (lg_sl ([.ref x, .int a1]) ++ List.replicate (3 - (lg_sl ([.ref x, .int a1])).length) Slot.unset).toArray = ls at hl ⊢
  have hl : lv_has ls 3 [(0, .ref x), (1, .int a1)] := hl
  refine lv_iconst (v := 0) hx hb dR_leaveAll_0 (by decide) ?_
  refine lv_istore_n hx hb dR_leaveAll_1 rfl hl (by decide) rfl (fun ls hl => ?_)
  have hl : lv_has ls 3 [(2, .int 0), (0, .ref x), (1, .int a1)] := hl
  refine lv_iload_n hx hb dR_leaveAll_2 rfl (lv_at hl 0 rfl) ?_
  refine lv_aload_n hx hb dR_leaveAll_3 rfl (lv_at hl 1 rfl) ?_
  refine va_get (D := D) (ci := 0) (v := .ref xT) (C := R_R) (T := T_R) (N := 13) hx hb hT in_R hown hK hP 0 rfl rfl 0 (by decide) (hT _ w324) (fun _ h9 => h9) rfl dR_leaveAll_4 ?_
  refine va_get (D := D) (ci := 2) (v := .int 0) (C := R_T) (T := T_T) (N := 4) hx hb hT in_T hown hK hP 1 rfl rfl 3 (by decide) (hT _ w82) (fun _ h9 => h9) rfl dR_leaveAll_7 ?_
  refine lv_icmp_ge (tgt := 31) hx hb dR_leaveAll_10 rfl (fun _ => ?_) (fun hj1 => absurd (by decide) hj1)
  exact W.vret hx hb hr (fun t ht hW => ⟨rfl, ht⟩) (fun q h => nomatch h) dR_leaveAll_31
set_option maxHeartbeats 4000000 in
set_option maxRecDepth 100000 in
theorem k_sumSquares0 (l : Launch) (D : va_G) (cT : Nat → ClassId) (x : Nat) (xT : Nat) (xP : Nat) (xR : Nat) (xG : Nat) (xF : Nat) (tc : Int32) (xO : Nat) (xS : Nat) (xL : Nat) (xC : Nat) (xQ : Nat) (xU : Nat) (xW : Nat) (ca : Nat) (ta : Nat) (w : Int32) (uw : Nat) (ul : Int32) (ub : Int32) (uf : Nat → Int32) (a1 : Int64) (sz : Nat) : Met l yR_sumSquares WR_sumSquares ({ frames := 2, cells := 0, slots := 0, locals := 42 } : Room) (RW D vwCl [.ref x, .long a1] [(x, .inr (0, [.ref xT, .ref xP, .ref xR, .ref xG, .ref xF, .int tc, .ref xO, .ref xS, .ref xL, .ref xC, .ref xQ, .ref xU, .ref xW])), (xT, .inr (2, [.ref ca, .ref ta, .int w, .int 0])), (xU, .inr (4, [.ref uw, .int ul, .int ub])), (uw, .inl (cT 0, 48, .inl uf))] (TY cT) sz) (va_Qv (fun _ : Nat → Nat => True) (BW D vwCl (va_A [(x, .inr (0, [.ref xT, .ref xP, .ref xR, .ref xG, .ref xF, .int tc, .ref xO, .ref xS, .ref xL, .ref xC, .ref xQ, .ref xU, .ref xW])), (xT, .inr (2, [.ref ca, .ref ta, .int w, .int 0])), (xU, .inr (4, [.ref uw, .int ul, .int ub])), (uw, .inl (cT 0, 48, .inl uf))] sz) (fun u => [(x, .inr (0, [.ref xT, .ref xP, .ref xR, .ref xG, .ref xF, .int tc, .ref xO, .ref xS, .ref xL, .ref xC, .ref xQ, .ref xU, .ref xW])), (xT, .inr (2, [.ref ca, .ref ta, .int w, .int 0])), (xU, .inr (4, [.ref uw, .int 0, .int 0])), (uw, .inl (cT 0, 48, .inl (upd uf 0 0)))])) (va_A [(x, .inr (0, [.ref xT, .ref xP, .ref xR, .ref xG, .ref xF, .int tc, .ref xO, .ref xS, .ref xL, .ref xC, .ref xQ, .ref xU, .ref xW])), (xT, .inr (2, [.ref ca, .ref ta, .int w, .int 0])), (xU, .inr (4, [.ref uw, .int ul, .int ub])), (uw, .inl (cT 0, 48, .inl uf))] sz)) 0 0 (va_A [(x, .inr (0, [.ref xT, .ref xP, .ref xR, .ref xG, .ref xF, .int tc, .ref xO, .ref xS, .ref xL, .ref xC, .ref xQ, .ref xU, .ref xW])), (xT, .inr (2, [.ref ca, .ref ta, .int w, .int 0])), (xU, .inr (4, [.ref uw, .int ul, .int ub])), (uw, .inl (cT 0, 48, .inl uf))] sz) := by
  refine Met.ofW (cc := cR_sumSquares) (maxL := 4) (ret := none) (by decide) rfl ?_
  intro p e s m args below meth c s₁ B hml hv
  obtain ⟨rfl, hsz, hZ, hP, hK, hD0⟩ := hv
  have hx := B.exec
  have hb := B.bytes
  have hr := B.returns
  have hts := atoms_spec (ws := WR_sumSquares) B.pre
  have hT : ∀ w ∈ TB, w.before _ s = true := fun w h => hts w (List.mem_cons_of_mem _ h)
  have hown : s.vm.findClass R_R = some m.cls := findClass_of_methodNamed B.named
  have hlocks := B.notSynchronized
  subst hsz
  have hD := hD0.self (sz := s.heap.size)
  generalize hAe : va_A [(x, .inr (0, [.ref xT, .ref xP, .ref xR, .ref xG, .ref xF, .int tc, .ref xO, .ref xS, .ref xL, .ref xC, .ref xQ, .ref xU, .ref xW])), (xT, .inr (2, [.ref ca, .ref ta, .int w, .int 0])), (xU, .inr (4, [.ref uw, .int ul, .int ub])), (uw, .inl (cT 0, 48, .inl uf))] s.heap.size = A at hD hZ ⊢
  have hA : ∀ q : Nat, s.heap.size ≤ q → A q := fun q h => by rw [← hAe]; exact Or.inr h
  have hS : va_S A s.heap s.heap [] := va_S.rf
  have hl := lv_entry ([.ref x, .long a1]) (n := 4) (Nat.le_of_ble_eq_true rfl)
  rw [lg_entry_eq]
  generalize (lg_sl ([.ref x, .long a1]) ++ List.replicate (4 - (lg_sl ([.ref x, .long a1])).length) Slot.unset).toArray = ls at hl ⊢
  have hl : lv_has ls 4 [(0, .ref x), (1, .long a1)] := hl
  refine lv_aload_n hx hb dR_sumSquares_0 rfl (lv_at hl 0 rfl) ?_
  refine va_get (D := D) (ci := 0) (v := .ref xU) (C := R_R) (T := T_R) (N := 13) hx hb hT in_R hown hK hP 0 rfl rfl 11 (by decide) (hT _ w335) (fun _ h9 => h9) rfl dR_sumSquares_1 ?_
  refine lv_iconst (v := 0) hx hb dR_sumSquares_4 (by decide) ?_
  refine rw_v (wc := [(xU, .inr (4, [.ref uw, .int ul, .int ub])), (uw, .inl (cT 0, 48, .inl uf))]) (wr := [(x, .inr (0, [.ref xT, .ref xP, .ref xR, .ref xG, .ref xF, .int tc, .ref xO, .ref xS, .ref xL, .ref xC, .ref xQ, .ref xU, .ref xW])), (xT, .inr (2, [.ref ca, .ref ta, .int w, .int 0]))]) hP hD hS hA [2, 3] [0, 1] rfl rfl (by decide) (by decide) (va_runV (As := [.int 0]) (rest := []) ⟨hx, hb, hml, hown, hT⟩ (k_setZ48 l D cT xU uw ul ub uf _) ⟨callB_of 1 hT (tb_gd w393) rfl rfl rfl (hT _ w5) (hT _ w390) hW_set ⟨Nat.le_of_ble_eq_true rfl, Nat.le_of_ble_eq_true rfl⟩, (hT _ w391), (hT _ w392)⟩ (RW.preV (ci := 4) (q0 := 0) hZ hS (va_free (wc := [(xU, .inr (4, [.ref uw, .int ul, .int ub])), (uw, .inl (cT 0, 48, .inl uf))]) hD hS hA [2, 3] rfl) (hP.sub (ws' := [(xU, .inr (4, [.ref uw, .int ul, .int ub])), (uw, .inl (cT 0, 48, .inl uf))]) [2, 3] rfl) hK (hD.sub (ws' := [(xU, .inr (4, [.ref uw, .int ul, .int ub])), (uw, .inl (cT 0, 48, .inl uf))]) [2, 3] (by decide) rfl) rfl rfl) rfl rfl hl.1 rfl (lv_room (Nat.le_of_ble_eq_true rfl)) dR_sumSquares_5 ⟨Nat.le_of_ble_eq_true rfl, Nat.le_of_ble_eq_true rfl⟩) (fun u1 H locs hpu1 hP hD hS => ?_)
  have hP : va_P D vwCl [(x, .inr (0, [.ref xT, .ref xP, .ref xR, .ref xG, .ref xF, .int tc, .ref xO, .ref xS, .ref xL, .ref xC, .ref xQ, .ref xU, .ref xW])), (xT, .inr (2, [.ref ca, .ref ta, .int w, .int 0])), (xU, .inr (4, [.ref uw, .int 0, .int 0])), (uw, .inl (cT 0, 48, .inl (upd uf 0 0)))] H := hP
  have hD : va_D A [(x, .inr (0, [.ref xT, .ref xP, .ref xR, .ref xG, .ref xF, .int tc, .ref xO, .ref xS, .ref xL, .ref xC, .ref xQ, .ref xU, .ref xW])), (xT, .inr (2, [.ref ca, .ref ta, .int w, .int 0])), (xU, .inr (4, [.ref uw, .int 0, .int 0])), (uw, .inl (cT 0, 48, .inl (upd uf 0 0)))] := hD
  refine lv_iconst (v := 0) hx hb dR_sumSquares_8 (by decide) ?_
  refine lv_istore_n hx hb dR_sumSquares_9 rfl hl (by decide) rfl (fun ls hl => ?_)
  have hl : lv_has ls 4 [(3, .int 0), (0, .ref x), (1, .long a1)] := hl
  refine lv_iload_n hx hb dR_sumSquares_10 rfl (lv_at hl 0 rfl) ?_
  refine lv_aload_n hx hb dR_sumSquares_11 rfl (lv_at hl 1 rfl) ?_
  refine va_get (D := D) (ci := 0) (v := .ref xT) (C := R_R) (T := T_R) (N := 13) hx hb hT in_R hown hK hP 0 rfl rfl 0 (by decide) (hT _ w324) (fun _ h9 => h9) rfl dR_sumSquares_12 ?_
  refine va_get (D := D) (ci := 2) (v := .int 0) (C := R_T) (T := T_T) (N := 4) hx hb hT in_T hown hK hP 1 rfl rfl 3 (by decide) (hT _ w82) (fun _ h9 => h9) rfl dR_sumSquares_15 ?_
  refine lv_icmp_ge (tgt := 68) hx hb dR_sumSquares_18 rfl (fun _ => ?_) (fun hj2 => absurd (by decide) hj2)
  have hP9 := hP.sub (ws' := [(x, .inr (0, [.ref xT, .ref xP, .ref xR, .ref xG, .ref xF, .int tc, .ref xO, .ref xS, .ref xL, .ref xC, .ref xQ, .ref xU, .ref xW])), (xT, .inr (2, [.ref ca, .ref ta, .int w, .int 0])), (xU, .inr (4, [.ref uw, .int 0, .int 0])), (uw, .inl (cT 0, 48, .inl (upd uf 0 0)))]) [0, 1, 2, 3] rfl
  have hD9 := hD.sub (ws' := [(x, .inr (0, [.ref xT, .ref xP, .ref xR, .ref xG, .ref xF, .int tc, .ref xO, .ref xS, .ref xL, .ref xC, .ref xQ, .ref xU, .ref xW])), (xT, .inr (2, [.ref ca, .ref ta, .int w, .int 0])), (xU, .inr (4, [.ref uw, .int 0, .int 0])), (uw, .inl (cT 0, 48, .inl (upd uf 0 0)))]) [0, 1, 2, 3] (by decide) rfl
  refine W.widen (k := 0) (n := 0) (Nat.le_of_ble_eq_true rfl) (Nat.le_of_ble_eq_true rfl) ?_
  exact W.vret hx hb hr (fun t ht hW => ⟨⟨(fun _ => 0), rfl, trivial, by rw [ht]; exact hP9, hD9⟩, hS.F ht⟩) hS.2.2 dR_sumSquares_68
set_option maxHeartbeats 4000000 in
set_option maxRecDepth 100000 in
theorem k_commonBits0 (l : Launch) (D : va_G) (cT : Nat → ClassId) (x : Nat) (xT : Nat) (xP : Nat) (xR : Nat) (xG : Nat) (xF : Nat) (xO : Nat) (xS : Nat) (xL : Nat) (xC : Nat) (xQ : Nat) (xU : Nat) (xW : Nat) (ca : Nat) (ta : Nat) (w : Int32) (cw : Nat) (cl : Int32) (cb : Int32) (cg : Nat → Int32) (sz : Nat) : Met l yR_commonBits WR_commonBits ({ frames := 3, cells := 0, slots := 0, locals := 77 } : Room) (RW D vwCl [.ref x] [(x, .inr (0, [.ref xT, .ref xP, .ref xR, .ref xG, .ref xF, .int 0, .ref xO, .ref xS, .ref xL, .ref xC, .ref xQ, .ref xU, .ref xW])), (xT, .inr (2, [.ref ca, .ref ta, .int w, .int 0])), (xC, .inr (4, [.ref cw, .int cl, .int cb])), (cw, .inl (cT 0, 24, .inl cg))] (TY cT) sz) (va_Qi (fun (r : Int32) (_ : Nat → Nat) => r = 1) (BW D vwCl (va_A [(x, .inr (0, [.ref xT, .ref xP, .ref xR, .ref xG, .ref xF, .int 0, .ref xO, .ref xS, .ref xL, .ref xC, .ref xQ, .ref xU, .ref xW])), (xT, .inr (2, [.ref ca, .ref ta, .int w, .int 0])), (xC, .inr (4, [.ref cw, .int cl, .int cb])), (cw, .inl (cT 0, 24, .inl cg))] sz) (fun u => [(xT, .inr (2, [.ref ca, .ref ta, .int w, .int 0])), (x, .inr (0, [.ref xT, .ref xP, .ref xR, .ref xG, .ref xF, .int 0, .ref xO, .ref xS, .ref xL, .ref xC, .ref xQ, .ref xU, .ref xW])), (xC, .inr (4, [.ref cw, .int 0, .int 0])), (cw, .inl (cT 0, 24, .inl (upd (upd cg 0 1) 0 0)))])) (va_A [(x, .inr (0, [.ref xT, .ref xP, .ref xR, .ref xG, .ref xF, .int 0, .ref xO, .ref xS, .ref xL, .ref xC, .ref xQ, .ref xU, .ref xW])), (xT, .inr (2, [.ref ca, .ref ta, .int w, .int 0])), (xC, .inr (4, [.ref cw, .int cl, .int cb])), (cw, .inl (cT 0, 24, .inl cg))] sz)) 0 0 (va_A [(x, .inr (0, [.ref xT, .ref xP, .ref xR, .ref xG, .ref xF, .int 0, .ref xO, .ref xS, .ref xL, .ref xC, .ref xQ, .ref xU, .ref xW])), (xT, .inr (2, [.ref ca, .ref ta, .int w, .int 0])), (xC, .inr (4, [.ref cw, .int cl, .int cb])), (cw, .inl (cT 0, 24, .inl cg))] sz) := by
  refine Met.ofW (cc := cR_commonBits) (maxL := 1) (ret := (some .int)) (by decide) rfl ?_
  intro p e s m args below meth c s₁ B hml hv
  obtain ⟨rfl, hsz, hZ, hP, hK, hD0⟩ := hv
  have hx := B.exec
  have hb := B.bytes
  have hr := B.returns
  have hts := atoms_spec (ws := WR_commonBits) B.pre
  have hT : ∀ w ∈ TB, w.before _ s = true := fun w h => hts w (List.mem_cons_of_mem _ h)
  have hown : s.vm.findClass R_R = some m.cls := findClass_of_methodNamed B.named
  have hlocks := B.notSynchronized
  subst hsz
  have hD := hD0.self (sz := s.heap.size)
  generalize hAe : va_A [(x, .inr (0, [.ref xT, .ref xP, .ref xR, .ref xG, .ref xF, .int 0, .ref xO, .ref xS, .ref xL, .ref xC, .ref xQ, .ref xU, .ref xW])), (xT, .inr (2, [.ref ca, .ref ta, .int w, .int 0])), (xC, .inr (4, [.ref cw, .int cl, .int cb])), (cw, .inl (cT 0, 24, .inl cg))] s.heap.size = A at hD hZ ⊢
  have hA : ∀ q : Nat, s.heap.size ≤ q → A q := fun q h => by rw [← hAe]; exact Or.inr h
  have hS : va_S A s.heap s.heap [] := va_S.rf
  have hl := lv_entry ([.ref x]) (n := 1) (Nat.le_of_ble_eq_true rfl)
  rw [lg_entry_eq]
  generalize (lg_sl ([.ref x]) ++ List.replicate (1 - (lg_sl ([.ref x])).length) Slot.unset).toArray = ls at hl ⊢
  have hl : lv_has ls 1 [(0, .ref x)] := hl
  refine lv_aload_n hx hb dR_commonBits_0 rfl (lv_at hl 0 rfl) ?_
  refine lv_aload_n hx hb dR_commonBits_1 rfl (lv_at hl 0 rfl) ?_
  refine va_get (D := D) (ci := 0) (v := .int 0) (C := R_R) (T := T_R) (N := 13) hx hb hT in_R hown hK hP 0 rfl rfl 5 (by decide) (hT _ w329) (fun _ h9 => h9) rfl dR_commonBits_2 ?_
  refine ro_v (va_Run.run (va_runV (As := [.int 0]) (rest := []) ⟨hx, hb, hml, hown, hT⟩ (k_leaveAll0 l D cT x xT xP xR xG xF 0 xO xS xL xC xQ xU xW ca ta w 0) ⟨callB_of 1 hT (tb_gd w385) rfl rfl rfl (hT _ w1) (hT _ w382) hR_leaveAll ⟨Nat.le_of_ble_eq_true rfl, Nat.le_of_ble_eq_true rfl⟩, (hT _ w384), (hT _ wp1)⟩ (RO.preV (ci := 0) (q0 := 0) hZ hS (hP.sub (ws' := [(x, .inr (0, [.ref xT, .ref xP, .ref xR, .ref xG, .ref xF, .int 0, .ref xO, .ref xS, .ref xL, .ref xC, .ref xQ, .ref xU, .ref xW])), (xT, .inr (2, [.ref ca, .ref ta, .int w, .int 0]))]) [0, 1] rfl) hK rfl rfl) rfl rfl hl.1 rfl (lv_room (Nat.le_of_ble_eq_true rfl)) dR_commonBits_5 ⟨Nat.le_of_ble_eq_true rfl, Nat.le_of_ble_eq_true rfl⟩)) ?_
  refine lv_aload_n hx hb dR_commonBits_8 rfl (lv_at hl 0 rfl) ?_
  refine lv_aload_n hx hb dR_commonBits_9 rfl (lv_at hl 0 rfl) ?_
  refine va_get (D := D) (ci := 0) (v := .ref xC) (C := R_R) (T := T_R) (N := 13) hx hb hT in_R hown hK hP 0 rfl rfl 9 (by decide) (hT _ w333) (fun _ h9 => h9) rfl dR_commonBits_10 ?_
  refine lv_aload_n hx hb dR_commonBits_13 rfl (lv_at hl 0 rfl) ?_
  refine va_get (D := D) (ci := 0) (v := .int 0) (C := R_R) (T := T_R) (N := 13) hx hb hT in_R hown hK hP 0 rfl rfl 5 (by decide) (hT _ w329) (fun _ h9 => h9) rfl dR_commonBits_14 ?_
  refine rw_v (wc := [(x, .inr (0, [.ref xT, .ref xP, .ref xR, .ref xG, .ref xF, .int 0, .ref xO, .ref xS, .ref xL, .ref xC, .ref xQ, .ref xU, .ref xW])), (xC, .inr (4, [.ref cw, .int cl, .int cb])), (cw, .inl (cT 0, 24, .inl cg))]) (wr := [(xT, .inr (2, [.ref ca, .ref ta, .int w, .int 0]))]) hP hD hS hA [0, 2, 3] [1] rfl rfl (by decide) (by decide) (va_runV (As := [.ref xC, .int 0]) (rest := []) ⟨hx, hb, hml, hown, hT⟩ (k_setToScales24 l D cT x xT xP xR xG xF 0 xO xS xL xC xQ xU xW xC cw cl cb cg _) ⟨callB_of 2 hT (tb_gd w966) rfl rfl rfl (hT _ w1) (hT _ w963) hR_setToScales ⟨Nat.le_of_ble_eq_true rfl, Nat.le_of_ble_eq_true rfl⟩, (hT _ w965), (hT _ wp23)⟩ (RW.preV (ci := 0) (q0 := 0) hZ hS (va_free (wc := [(x, .inr (0, [.ref xT, .ref xP, .ref xR, .ref xG, .ref xF, .int 0, .ref xO, .ref xS, .ref xL, .ref xC, .ref xQ, .ref xU, .ref xW])), (xC, .inr (4, [.ref cw, .int cl, .int cb])), (cw, .inl (cT 0, 24, .inl cg))]) hD hS hA [0, 2, 3] rfl) (hP.sub (ws' := [(x, .inr (0, [.ref xT, .ref xP, .ref xR, .ref xG, .ref xF, .int 0, .ref xO, .ref xS, .ref xL, .ref xC, .ref xQ, .ref xU, .ref xW])), (xC, .inr (4, [.ref cw, .int cl, .int cb])), (cw, .inl (cT 0, 24, .inl cg))]) [0, 2, 3] rfl) hK (hD.sub (ws' := [(x, .inr (0, [.ref xT, .ref xP, .ref xR, .ref xG, .ref xF, .int 0, .ref xO, .ref xS, .ref xL, .ref xC, .ref xQ, .ref xU, .ref xW])), (xC, .inr (4, [.ref cw, .int cl, .int cb])), (cw, .inl (cT 0, 24, .inl cg))]) [0, 2, 3] (by decide) rfl) rfl rfl) rfl rfl hl.1 rfl (lv_room (Nat.le_of_ble_eq_true rfl)) dR_commonBits_17 ⟨Nat.le_of_ble_eq_true rfl, Nat.le_of_ble_eq_true rfl⟩) (fun u1 H locs hpu1 hP hD hS => ?_)
  have hP : va_P D vwCl [(xT, .inr (2, [.ref ca, .ref ta, .int w, .int 0])), (x, .inr (0, [.ref xT, .ref xP, .ref xR, .ref xG, .ref xF, .int 0, .ref xO, .ref xS, .ref xL, .ref xC, .ref xQ, .ref xU, .ref xW])), (xC, .inr (4, [.ref cw, .int 1, .int 0])), (cw, .inl (cT 0, 24, .inl (upd cg 0 1)))] H := hP
  have hD : va_D A [(xT, .inr (2, [.ref ca, .ref ta, .int w, .int 0])), (x, .inr (0, [.ref xT, .ref xP, .ref xR, .ref xG, .ref xF, .int 0, .ref xO, .ref xS, .ref xL, .ref xC, .ref xQ, .ref xU, .ref xW])), (xC, .inr (4, [.ref cw, .int 1, .int 0])), (cw, .inl (cT 0, 24, .inl (upd cg 0 1)))] := hD
  refine lv_aload_n hx hb dR_commonBits_20 rfl (lv_at hl 0 rfl) ?_
  refine va_get (D := D) (ci := 0) (v := .ref xR) (C := R_R) (T := T_R) (N := 13) hx hb hT in_R hown hK hP 1 rfl rfl 2 (by decide) (hT _ w326) (fun _ h9 => h9) rfl dR_commonBits_21 ?_
  refine lv_aload_n hx hb dR_commonBits_24 rfl (lv_at hl 0 rfl) ?_
  refine va_get (D := D) (ci := 0) (v := .ref xT) (C := R_R) (T := T_R) (N := 13) hx hb hT in_R hown hK hP 1 rfl rfl 0 (by decide) (hT _ w324) (fun _ h9 => h9) rfl dR_commonBits_25 ?_
  refine va_get (D := D) (ci := 2) (v := .int 0) (C := R_T) (T := T_T) (N := 4) hx hb hT in_T hown hK hP 0 rfl rfl 3 (by decide) (hT _ w82) (fun _ h9 => h9) rfl dR_commonBits_28 ?_
  refine lv_aload_n hx hb dR_commonBits_31 rfl (lv_at hl 0 rfl) ?_
  refine va_get (D := D) (ci := 0) (v := .ref xC) (C := R_R) (T := T_R) (N := 13) hx hb hT in_R hown hK hP 1 rfl rfl 9 (by decide) (hT _ w333) (fun _ h9 => h9) rfl dR_commonBits_32 ?_
  refine ro_v (va_Run.run (va_runS (As := [.ref xR, .int 0, .ref xC]) (rest := []) ⟨hx, hb, hml, hown, hT⟩ (k_reduceOne24 l D cT xC cw 0 (upd cg 0 1) xR rfl) ⟨callB_of 3 hT (tb_gd w969) rfl rfl rfl (hT _ w1) (hT _ w967) hR_reduce ⟨Nat.le_of_ble_eq_true rfl, Nat.le_of_ble_eq_true rfl⟩, (hT _ w968)⟩ (RO.preS hZ hS (hP.sub (ws' := [(xC, .inr (4, [.ref cw, .int 1, .int 0])), (cw, .inl (cT 0, 24, .inl (upd cg 0 1)))]) [2, 3] rfl) hK) rfl rfl hl.1 rfl (lv_room (Nat.le_of_ble_eq_true rfl)) dR_commonBits_35 ⟨Nat.le_of_ble_eq_true rfl, Nat.le_of_ble_eq_true rfl⟩)) ?_
  refine lv_aload_n hx hb dR_commonBits_38 rfl (lv_at hl 0 rfl) ?_
  refine va_get (D := D) (ci := 0) (v := .ref xC) (C := R_R) (T := T_R) (N := 13) hx hb hT in_R hown hK hP 1 rfl rfl 9 (by decide) (hT _ w333) (fun _ h9 => h9) rfl dR_commonBits_39 ?_
  refine rw_i (wc := [(xC, .inr (4, [.ref cw, .int 1, .int 0])), (cw, .inl (cT 0, 24, .inl (upd cg 0 1)))]) (wr := [(xT, .inr (2, [.ref ca, .ref ta, .int w, .int 0])), (x, .inr (0, [.ref xT, .ref xP, .ref xR, .ref xG, .ref xF, .int 0, .ref xO, .ref xS, .ref xL, .ref xC, .ref xQ, .ref xU, .ref xW]))]) hP hD hS hA [2, 3] [0, 1] rfl rfl (by decide) (by decide) (va_runV (As := []) (rest := []) ⟨hx, hb, hml, hown, hT⟩ (k_halveAway24 l D cT xC cw 0 (upd cg 0 1) rfl _) ⟨callB_of 0 hT (tb_gd w984) rfl rfl rfl (hT _ w5) (hT _ w981) hW_halveAway ⟨Nat.le_of_ble_eq_true rfl, Nat.le_of_ble_eq_true rfl⟩, (hT _ w982), (hT _ w983)⟩ (RW.preV (ci := 4) (q0 := 0) hZ hS (va_free (wc := [(xC, .inr (4, [.ref cw, .int 1, .int 0])), (cw, .inl (cT 0, 24, .inl (upd cg 0 1)))]) hD hS hA [2, 3] rfl) (hP.sub (ws' := [(xC, .inr (4, [.ref cw, .int 1, .int 0])), (cw, .inl (cT 0, 24, .inl (upd cg 0 1)))]) [2, 3] rfl) hK (hD.sub (ws' := [(xC, .inr (4, [.ref cw, .int 1, .int 0])), (cw, .inl (cT 0, 24, .inl (upd cg 0 1)))]) [2, 3] (by decide) rfl) rfl rfl) rfl rfl hl.1 rfl (lv_room (Nat.le_of_ble_eq_true rfl)) dR_commonBits_42 ⟨Nat.le_of_ble_eq_true rfl, Nat.le_of_ble_eq_true rfl⟩) (fun ru2 u2 H locs hpu2 hP hD hS => ?_)
  have hP : va_P D vwCl [(xT, .inr (2, [.ref ca, .ref ta, .int w, .int 0])), (x, .inr (0, [.ref xT, .ref xP, .ref xR, .ref xG, .ref xF, .int 0, .ref xO, .ref xS, .ref xL, .ref xC, .ref xQ, .ref xU, .ref xW])), (xC, .inr (4, [.ref cw, .int 0, .int 0])), (cw, .inl (cT 0, 24, .inl (upd (upd cg 0 1) 0 0)))] H := hP
  have hD : va_D A [(xT, .inr (2, [.ref ca, .ref ta, .int w, .int 0])), (x, .inr (0, [.ref xT, .ref xP, .ref xR, .ref xG, .ref xF, .int 0, .ref xO, .ref xS, .ref xL, .ref xC, .ref xQ, .ref xU, .ref xW])), (xC, .inr (4, [.ref cw, .int 0, .int 0])), (cw, .inl (cT 0, 24, .inl (upd (upd cg 0 1) 0 0)))] := hD
  rw [hpu2]
  have hP9 := hP.sub (ws' := [(xT, .inr (2, [.ref ca, .ref ta, .int w, .int 0])), (x, .inr (0, [.ref xT, .ref xP, .ref xR, .ref xG, .ref xF, .int 0, .ref xO, .ref xS, .ref xL, .ref xC, .ref xQ, .ref xU, .ref xW])), (xC, .inr (4, [.ref cw, .int 0, .int 0])), (cw, .inl (cT 0, 24, .inl (upd (upd cg 0 1) 0 0)))]) [0, 1, 2, 3] rfl
  have hD9 := hD.sub (ws' := [(xT, .inr (2, [.ref ca, .ref ta, .int w, .int 0])), (x, .inr (0, [.ref xT, .ref xP, .ref xR, .ref xG, .ref xF, .int 0, .ref xO, .ref xS, .ref xL, .ref xC, .ref xQ, .ref xU, .ref xW])), (xC, .inr (4, [.ref cw, .int 0, .int 0])), (cw, .inl (cT 0, 24, .inl (upd (upd cg 0 1) 0 0)))]) [0, 1, 2, 3] (by decide) rfl
  refine W.widen (k := 0) (n := 0) (Nat.le_of_ble_eq_true rfl) (Nat.le_of_ble_eq_true rfl) ?_
  exact W.iret (v := 1) hx hb hr (fun t ht hW => ⟨⟨1, (fun _ => 0), rfl, rfl, by rw [ht]; exact hP9, hD9⟩, hS.F ht⟩) hS.2.2 dR_commonBits_45
