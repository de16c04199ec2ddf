set_option maxHeartbeats 4000000 in
set_option maxRecDepth 100000 in
theorem y_setInt0 (l : Launch) (D : va_G) (cT : Nat → ClassId) (za : Nat) (af : Nat → Int32) (sz : Nat) : Met l yM_setInt WM_setInt ({ frames := 0, cells := 0, slots := 0, locals := 0 } : Room) (RW D vwCl [.ref za, .long 0] [(za, .inl (cT 0, 302, .inl af))] (TY cT) sz) (va_Qv (fun _ : Nat → Nat => True) (BW D vwCl (va_A [(za, .inl (cT 0, 302, .inl af))] sz) (fun u => [(za, .inl (cT 0, 302, .inl (upd (upd af 300 0) 301 0)))])) (va_A [(za, .inl (cT 0, 302, .inl af))] sz)) 0 0 (va_A [(za, .inl (cT 0, 302, .inl af))] sz) := by
  refine Met.ofW (cc := cM_setInt) (maxL := 6) (ret := none) (by decide) rfl ?_
  intro p e s m args below meth c s₁ B hml hv
  obtain ⟨rfl, hsz, hZ, hP, hK, hD0⟩ := hv
  have hx := B.exec
  have hb := B.bytes
  have hr := B.returns
  have hts := atoms_spec (ws := WM_setInt) B.pre
  have hT : ∀ w ∈ TB, w.before _ s = true := fun w h => hts w (List.mem_cons_of_mem _ h)
  have hown : s.vm.findClass R_M = some m.cls := findClass_of_methodNamed B.named
  have hlocks := B.notSynchronized
  subst hsz
  have hD := hD0.self (sz := s.heap.size)
  generalize hAe : va_A [(za, .inl (cT 0, 302, .inl af))] s.heap.size = A at hD hZ ⊢
  have hA : ∀ q : Nat, s.heap.size ≤ q → A q := fun q h => by rw [← hAe]; exact Or.inr h
  have hS : va_S A s.heap s.heap [] := va_S.rf
  have hl := lv_entry ([.ref za, .long 0]) (n := 6) (Nat.le_of_ble_eq_true rfl)
  rw [lg_entry_eq]
  generalize (lg_sl ([.ref za, .long 0]) ++ List.replicate (6 - (lg_sl ([.ref za, .long 0])).length) Slot.unset).toArray = ls at hl ⊢
  have hl : lv_has ls 6 [(0, .ref za), (1, .long 0)] := hl
  refine lv_lload_n hx hb dM_setInt_0 rfl (lv_at hl 1 rfl) ?_
  refine lv_lconst (v := 0) hx hb dM_setInt_1 (by decide) ?_
  refine W.lcmp hx hb dM_setInt_2 ?_
  refine lv_topi (fun y9 e9 => ?_)
  cases (show y9 = 0 from e9.trans (by decide))
  refine lv_if_ge (tgt := 11) hx hb dM_setInt_3 rfl (fun _ => ?_) (fun hj1 => absurd (by decide) hj1)
  refine lv_lload_n hx hb dM_setInt_11 rfl (lv_at hl 1 rfl) ?_
  refine lv_lstore_n hx hb dM_setInt_12 rfl hl (by decide) rfl (fun ls hl => ?_)
  have hl : lv_has ls 6 [(3, .long 0), (0, .ref za), (1, .long 0)] := hl
  refine lv_iconst (v := 0) hx hb dM_setInt_13 (by decide) ?_
  refine lv_istore hx hb dM_setInt_14 hl (by decide) rfl (fun ls hl => ?_)
  have hl : lv_has ls 6 [(5, .int 0), (3, .long 0), (0, .ref za), (1, .long 0)] := hl
  refine lv_lload_n hx hb dM_setInt_16 rfl (lv_at hl 1 rfl) ?_
  refine lv_lconst (v := 0) hx hb dM_setInt_17 (by decide) ?_
  refine W.lcmp hx hb dM_setInt_18 ?_
  refine lv_topi (fun y9 e9 => ?_)
  cases (show y9 = 0 from e9.trans (by decide))
  refine lv_if_le (tgt := 43) hx hb dM_setInt_19 rfl (fun _ => ?_) (fun hj2 => absurd (by decide) hj2)
  refine lv_aload_n hx hb dM_setInt_43 rfl (lv_at hl 2 rfl) ?_
  refine lv_sipush (v := 300) hx hb dM_setInt_44 (by decide) ?_
  refine lv_iload hx hb dM_setInt_47 (lv_at hl 0 rfl) ?_
  refine va_iast hx hb hK hP hD hS 0 0 rfl rfl (by unfold vp_in; decide) dM_setInt_49 (fun H locs hP hD hS => ?_)
  have hP : va_P D vwCl [(za, .inl (cT 0, 302, .inl (upd af 300 0)))] H := hP
  have hD : va_D A [(za, .inl (cT 0, 302, .inl (upd af 300 0)))] := hD
  refine lv_aload_n hx hb dM_setInt_50 rfl (lv_at hl 2 rfl) ?_
  refine lv_sipush (v := 301) hx hb dM_setInt_51 (by decide) ?_
  refine lv_lload_n hx hb dM_setInt_54 rfl (lv_at hl 3 rfl) ?_
  refine lv_lconst (v := 0) hx hb dM_setInt_55 (by decide) ?_
  refine W.lcmp hx hb dM_setInt_56 ?_
  refine lv_topi (fun y9 e9 => ?_)
  cases (show y9 = 0 from e9.trans (by decide))
  refine lv_if_ge (tgt := 64) hx hb dM_setInt_57 rfl (fun _ => ?_) (fun hj3 => absurd (by decide) hj3)
  refine lv_lload_n hx hb dM_setInt_64 rfl (lv_at hl 3 rfl) ?_
  refine lv_lconst (v := 0) hx hb dM_setInt_65 (by decide) ?_
  refine W.lcmp hx hb dM_setInt_66 ?_
  refine lv_topi (fun y9 e9 => ?_)
  cases (show y9 = 0 from e9.trans (by decide))
  refine lv_if_le (tgt := 74) hx hb dM_setInt_67 rfl (fun _ => ?_) (fun hj4 => absurd (by decide) hj4)
  refine lv_iconst (v := 0) hx hb dM_setInt_74 (by decide) ?_
  refine va_iast hx hb hK hP hD hS 0 0 rfl rfl (by unfold vp_in; decide) dM_setInt_75 (fun H locs hP hD hS => ?_)
  have hP : va_P D vwCl [(za, .inl (cT 0, 302, .inl (upd (upd af 300 0) 301 0)))] H := hP
  have hD : va_D A [(za, .inl (cT 0, 302, .inl (upd (upd af 300 0) 301 0)))] := hD
  have hP9 := hP.sub (ws' := [(za, .inl (cT 0, 302, .inl (upd (upd af 300 0) 301 0)))]) [0] rfl
  have hD9 := hD.sub (ws' := [(za, .inl (cT 0, 302, .inl (upd (upd af 300 0) 301 0)))]) [0] (by decide) rfl
  refine W.widen (k := 0) (n := 0) (Nat.le_of_ble_eq_true rfl) (Nat.le_of_ble_eq_true rfl) ?_
  exact W.vret hx hb hr (fun t ht hW => ⟨⟨(fun _ => 0), rfl, trivial, by rw [ht]; exact hP9, hD9⟩, hS.F ht⟩) hS.2.2 dM_setInt_76
set_option maxHeartbeats 4000000 in
set_option maxRecDepth 100000 in
theorem y_setInt1 (l : Launch) (D : va_G) (cT : Nat → ClassId) (za : Nat) (af : Nat → Int32) (sz : Nat) : Met l yM_setInt WM_setInt ({ frames := 0, cells := 0, slots := 0, locals := 0 } : Room) (RW D vwCl [.ref za, .long 1] [(za, .inl (cT 0, 302, .inl af))] (TY cT) sz) (va_Qv (fun _ : Nat → Nat => True) (BW D vwCl (va_A [(za, .inl (cT 0, 302, .inl af))] sz) (fun u => [(za, .inl (cT 0, 302, .inl (upd (upd (upd af 0 1) 300 1) 301 1)))])) (va_A [(za, .inl (cT 0, 302, .inl af))] sz)) 0 0 (va_A [(za, .inl (cT 0, 302, .inl af))] sz) := by
  refine Met.ofW (cc := cM_setInt) (maxL := 6) (ret := none) (by decide) rfl ?_
  intro p e s m args below meth c s₁ B hml hv
  obtain ⟨rfl, hsz, hZ, hP, hK, hD0⟩ := hv
  have hx := B.exec
  have hb := B.bytes
  have hr := B.returns
  have hts := atoms_spec (ws := WM_setInt) B.pre
  have hT : ∀ w ∈ TB, w.before _ s = true := fun w h => hts w (List.mem_cons_of_mem _ h)
  have hown : s.vm.findClass R_M = some m.cls := findClass_of_methodNamed B.named
  have hlocks := B.notSynchronized
  subst hsz
  have hD := hD0.self (sz := s.heap.size)
  generalize hAe : va_A [(za, .inl (cT 0, 302, .inl af))] s.heap.size = A at hD hZ ⊢
  have hA : ∀ q : Nat, s.heap.size ≤ q → A q := fun q h => by rw [← hAe]; exact Or.inr h
  have hS : va_S A s.heap s.heap [] := va_S.rf
  have hl := lv_entry ([.ref za, .long 1]) (n := 6) (Nat.le_of_ble_eq_true rfl)
  rw [lg_entry_eq]
  generalize (lg_sl ([.ref za, .long 1]) ++ List.replicate (6 - (lg_sl ([.ref za, .long 1])).length) Slot.unset).toArray = ls at hl ⊢
  have hl : lv_has ls 6 [(0, .ref za), (1, .long 1)] := hl
  refine lv_lload_n hx hb dM_setInt_0 rfl (lv_at hl 1 rfl) ?_
  refine lv_lconst (v := 0) hx hb dM_setInt_1 (by decide) ?_
  refine W.lcmp hx hb dM_setInt_2 ?_
  refine lv_topi (fun y9 e9 => ?_)
  cases (show y9 = 1 from e9.trans (by decide))
  refine lv_if_ge (tgt := 11) hx hb dM_setInt_3 rfl (fun _ => ?_) (fun hj1 => absurd (by decide) hj1)
  refine lv_lload_n hx hb dM_setInt_11 rfl (lv_at hl 1 rfl) ?_
  refine lv_lstore_n hx hb dM_setInt_12 rfl hl (by decide) rfl (fun ls hl => ?_)
  have hl : lv_has ls 6 [(3, .long 1), (0, .ref za), (1, .long 1)] := hl
  refine lv_iconst (v := 0) hx hb dM_setInt_13 (by decide) ?_
  refine lv_istore hx hb dM_setInt_14 hl (by decide) rfl (fun ls hl => ?_)
  have hl : lv_has ls 6 [(5, .int 0), (3, .long 1), (0, .ref za), (1, .long 1)] := hl
  refine lv_lload_n hx hb dM_setInt_16 rfl (lv_at hl 1 rfl) ?_
  refine lv_lconst (v := 0) hx hb dM_setInt_17 (by decide) ?_
  refine W.lcmp hx hb dM_setInt_18 ?_
  refine lv_topi (fun y9 e9 => ?_)
  cases (show y9 = 1 from e9.trans (by decide))
  refine lv_if_le (tgt := 43) hx hb dM_setInt_19 rfl (fun hj2 => absurd hj2 (by decide)) (fun _ => ?_)
  refine lv_aload_n hx hb dM_setInt_22 rfl (lv_at hl 2 rfl) ?_
  refine lv_iload hx hb dM_setInt_23 (lv_at hl 0 rfl) ?_
  refine lv_lload_n hx hb dM_setInt_25 rfl (lv_at hl 1 rfl) ?_
  refine lv_ldc2 (v := 268435455) hx hb hown (hT _ w1388) dM_setInt_26 ?_
  refine lv_land hx hb dM_setInt_29 ?_
  refine lv_topl (fun y9 e9 => ?_)
  cases (show y9 = 1 from e9.trans (by decide))
  refine lv_l2i (v := 1) hx hb dM_setInt_30 (by decide) ?_
  refine va_iast hx hb hK hP hD hS 0 0 rfl rfl (by unfold vp_in; decide) dM_setInt_31 (fun H locs hP hD hS => ?_)
  have hP : va_P D vwCl [(za, .inl (cT 0, 302, .inl (upd af 0 1)))] H := hP
  have hD : va_D A [(za, .inl (cT 0, 302, .inl (upd af 0 1)))] := hD
  refine lv_lload_n hx hb dM_setInt_32 rfl (lv_at hl 1 rfl) ?_
  refine lv_bipush (v := 28) hx hb dM_setInt_33 (by decide) ?_
  refine lv_lshr (v := 0) hx hb dM_setInt_35 (by decide +kernel) ?_
  refine lv_lstore_n hx hb dM_setInt_36 rfl hl (by decide) rfl (fun ls hl => ?_)
  have hl : lv_has ls 6 [(3, .long 0), (5, .int 0), (0, .ref za), (1, .long 1)] := hl
  refine lv_iinc (k := 1) (v := 1) hx hb dM_setInt_37 hl rfl (by decide) (by decide) rfl (fun ls hl => ?_)
  have hl : lv_has ls 6 [(5, .int 1), (3, .long 0), (0, .ref za), (1, .long 1)] := hl
  refine lv_goto (tgt := 16) hx hb dM_setInt_40 rfl ?_
  refine lv_lload_n hx hb dM_setInt_16 rfl (lv_at hl 1 rfl) ?_
  refine lv_lconst (v := 0) hx hb dM_setInt_17 (by decide) ?_
  refine W.lcmp hx hb dM_setInt_18 ?_
  refine lv_topi (fun y9 e9 => ?_)
  cases (show y9 = 0 from e9.trans (by decide))
  refine lv_if_le (tgt := 43) hx hb dM_setInt_19 rfl (fun _ => ?_) (fun hj3 => absurd (by decide) hj3)
  refine lv_aload_n hx hb dM_setInt_43 rfl (lv_at hl 2 rfl) ?_
  refine lv_sipush (v := 300) hx hb dM_setInt_44 (by decide) ?_
  refine lv_iload hx hb dM_setInt_47 (lv_at hl 0 rfl) ?_
  refine va_iast hx hb hK hP hD hS 0 0 rfl rfl (by unfold vp_in; decide) dM_setInt_49 (fun H locs hP hD hS => ?_)
  have hP : va_P D vwCl [(za, .inl (cT 0, 302, .inl (upd (upd af 0 1) 300 1)))] H := hP
  have hD : va_D A [(za, .inl (cT 0, 302, .inl (upd (upd af 0 1) 300 1)))] := hD
  refine lv_aload_n hx hb dM_setInt_50 rfl (lv_at hl 2 rfl) ?_
  refine lv_sipush (v := 301) hx hb dM_setInt_51 (by decide) ?_
  refine lv_lload_n hx hb dM_setInt_54 rfl (lv_at hl 3 rfl) ?_
  refine lv_lconst (v := 0) hx hb dM_setInt_55 (by decide) ?_
  refine W.lcmp hx hb dM_setInt_56 ?_
  refine lv_topi (fun y9 e9 => ?_)
  cases (show y9 = 1 from e9.trans (by decide))
  refine lv_if_ge (tgt := 64) hx hb dM_setInt_57 rfl (fun _ => ?_) (fun hj4 => absurd (by decide) hj4)
  refine lv_lload_n hx hb dM_setInt_64 rfl (lv_at hl 3 rfl) ?_
  refine lv_lconst (v := 0) hx hb dM_setInt_65 (by decide) ?_
  refine W.lcmp hx hb dM_setInt_66 ?_
  refine lv_topi (fun y9 e9 => ?_)
  cases (show y9 = 1 from e9.trans (by decide))
  refine lv_if_le (tgt := 74) hx hb dM_setInt_67 rfl (fun hj5 => absurd hj5 (by decide)) (fun _ => ?_)
  refine lv_iconst (v := 1) hx hb dM_setInt_70 (by decide) ?_
  refine lv_goto (tgt := 75) hx hb dM_setInt_71 rfl ?_
  refine va_iast hx hb hK hP hD hS 0 0 rfl rfl (by unfold vp_in; decide) dM_setInt_75 (fun H locs hP hD hS => ?_)
  have hP : va_P D vwCl [(za, .inl (cT 0, 302, .inl (upd (upd (upd af 0 1) 300 1) 301 1)))] H := hP
  have hD : va_D A [(za, .inl (cT 0, 302, .inl (upd (upd (upd af 0 1) 300 1) 301 1)))] := hD
  have hP9 := hP.sub (ws' := [(za, .inl (cT 0, 302, .inl (upd (upd (upd af 0 1) 300 1) 301 1)))]) [0] rfl
  have hD9 := hD.sub (ws' := [(za, .inl (cT 0, 302, .inl (upd (upd (upd af 0 1) 300 1) 301 1)))]) [0] (by decide) rfl
  refine W.widen (k := 0) (n := 0) (Nat.le_of_ble_eq_true rfl) (Nat.le_of_ble_eq_true rfl) ?_
  exact W.vret hx hb hr (fun t ht hW => ⟨⟨(fun _ => 0), rfl, trivial, by rw [ht]; exact hP9, hD9⟩, hS.F ht⟩) hS.2.2 dM_setInt_76
set_option maxHeartbeats 4000000 in
set_option maxRecDepth 100000 in
theorem y_zero (l : Launch) (D : va_G) (cT : Nat → ClassId) (zl : Nat) (lf : Nat → Int32) (sz : Nat) : Met l yM_zero WM_zero ({ frames := 0, cells := 0, slots := 0, locals := 0 } : Room) (RW D vwCl [.ref zl] [(zl, .inl (cT 0, 19, .inl lf))] (TY cT) sz) (va_Qv (fun _ : Nat → Nat => True) (BW D vwCl (va_A [(zl, .inl (cT 0, 19, .inl lf))] sz) (fun u => [(zl, .inl (cT 0, 19, .inl (upd (upd (upd (upd (upd (upd (upd (upd (upd (upd (upd (upd (upd (upd (upd (upd (upd (upd (upd lf 0 0) 1 0) 2 0) 3 0) 4 0) 5 0) 6 0) 7 0) 8 0) 9 0) 10 0) 11 0) 12 0) 13 0) 14 0) 15 0) 16 0) 17 0) 18 0)))])) (va_A [(zl, .inl (cT 0, 19, .inl lf))] sz)) 0 0 (va_A [(zl, .inl (cT 0, 19, .inl lf))] sz) := by
  refine Met.ofW (cc := cM_zero) (maxL := 2) (ret := none) (by decide) rfl ?_
  intro p e s m args below meth c s₁ B hml hv
  obtain ⟨rfl, hsz, hZ, hP, hK, hD0⟩ := hv
  have hx := B.exec
  have hb := B.bytes
  have hr := B.returns
  have hts := atoms_spec (ws := WM_zero) B.pre
  have hT : ∀ w ∈ TB, w.before _ s = true := fun w h => hts w (List.mem_cons_of_mem _ h)
  have hown : s.vm.findClass R_M = some m.cls := findClass_of_methodNamed B.named
  have hlocks := B.notSynchronized
  subst hsz
  have hD := hD0.self (sz := s.heap.size)
  generalize hAe : va_A [(zl, .inl (cT 0, 19, .inl lf))] s.heap.size = A at hD hZ ⊢
  have hA : ∀ q : Nat, s.heap.size ≤ q → A q := fun q h => by rw [← hAe]; exact Or.inr h
  have hS : va_S A s.heap s.heap [] := va_S.rf
  have hl := lv_entry ([.ref zl]) (n := 2) (Nat.le_of_ble_eq_true rfl)
  rw [lg_entry_eq]
  generalize (lg_sl ([.ref zl]) ++ List.replicate (2 - (lg_sl ([.ref zl])).length) Slot.unset).toArray = ls at hl ⊢
  have hl : lv_has ls 2 [(0, .ref zl)] := hl
  refine lv_iconst (v := 0) hx hb dM_zero_0 (by decide) ?_
  refine lv_istore_n hx hb dM_zero_1 rfl hl (by decide) rfl (fun ls hl => ?_)
  have hl : lv_has ls 2 [(1, .int 0), (0, .ref zl)] := hl
  refine lv_iload_n hx hb dM_zero_2 rfl (lv_at hl 0 rfl) ?_
  refine lv_bipush (v := 19) hx hb dM_zero_3 (by decide) ?_
  refine lv_icmp_ge (tgt := 18) hx hb dM_zero_5 rfl (fun hj1 => absurd hj1 (by decide)) (fun _ => ?_)
  refine lv_aload_n hx hb dM_zero_8 rfl (lv_at hl 1 rfl) ?_
  refine lv_iload_n hx hb dM_zero_9 rfl (lv_at hl 0 rfl) ?_
  refine lv_iconst (v := 0) hx hb dM_zero_10 (by decide) ?_
  refine va_iast hx hb hK hP hD hS 0 0 rfl rfl (by unfold vp_in; decide) dM_zero_11 (fun H locs hP hD hS => ?_)
  have hP : va_P D vwCl [(zl, .inl (cT 0, 19, .inl (upd lf 0 0)))] H := hP
  have hD : va_D A [(zl, .inl (cT 0, 19, .inl (upd lf 0 0)))] := hD
  refine lv_iinc (k := 0) (v := 1) hx hb dM_zero_12 hl rfl (by decide) (by decide) rfl (fun ls hl => ?_)
  have hl : lv_has ls 2 [(1, .int 1), (0, .ref zl)] := hl
  refine lv_goto (tgt := 2) hx hb dM_zero_15 rfl ?_
  refine lv_iload_n hx hb dM_zero_2 rfl (lv_at hl 0 rfl) ?_
  refine lv_bipush (v := 19) hx hb dM_zero_3 (by decide) ?_
  refine lv_icmp_ge (tgt := 18) hx hb dM_zero_5 rfl (fun hj2 => absurd hj2 (by decide)) (fun _ => ?_)
  refine lv_aload_n hx hb dM_zero_8 rfl (lv_at hl 1 rfl) ?_
  refine lv_iload_n hx hb dM_zero_9 rfl (lv_at hl 0 rfl) ?_
  refine lv_iconst (v := 0) hx hb dM_zero_10 (by decide) ?_
  refine va_iast hx hb hK hP hD hS 0 0 rfl rfl (by unfold vp_in; decide) dM_zero_11 (fun H locs hP hD hS => ?_)
  have hP : va_P D vwCl [(zl, .inl (cT 0, 19, .inl (upd (upd lf 0 0) 1 0)))] H := hP
  have hD : va_D A [(zl, .inl (cT 0, 19, .inl (upd (upd lf 0 0) 1 0)))] := hD
  refine lv_iinc (k := 0) (v := 2) hx hb dM_zero_12 hl rfl (by decide) (by decide) rfl (fun ls hl => ?_)
  have hl : lv_has ls 2 [(1, .int 2), (0, .ref zl)] := hl
  refine lv_goto (tgt := 2) hx hb dM_zero_15 rfl ?_
  refine lv_iload_n hx hb dM_zero_2 rfl (lv_at hl 0 rfl) ?_
  refine lv_bipush (v := 19) hx hb dM_zero_3 (by decide) ?_
  refine lv_icmp_ge (tgt := 18) hx hb dM_zero_5 rfl (fun hj3 => absurd hj3 (by decide)) (fun _ => ?_)
  refine lv_aload_n hx hb dM_zero_8 rfl (lv_at hl 1 rfl) ?_
  refine lv_iload_n hx hb dM_zero_9 rfl (lv_at hl 0 rfl) ?_
  refine lv_iconst (v := 0) hx hb dM_zero_10 (by decide) ?_
  refine va_iast hx hb hK hP hD hS 0 0 rfl rfl (by unfold vp_in; decide) dM_zero_11 (fun H locs hP hD hS => ?_)
  have hP : va_P D vwCl [(zl, .inl (cT 0, 19, .inl (upd (upd (upd lf 0 0) 1 0) 2 0)))] H := hP
  have hD : va_D A [(zl, .inl (cT 0, 19, .inl (upd (upd (upd lf 0 0) 1 0) 2 0)))] := hD
  refine lv_iinc (k := 0) (v := 3) hx hb dM_zero_12 hl rfl (by decide) (by decide) rfl (fun ls hl => ?_)
  have hl : lv_has ls 2 [(1, .int 3), (0, .ref zl)] := hl
  refine lv_goto (tgt := 2) hx hb dM_zero_15 rfl ?_
  refine lv_iload_n hx hb dM_zero_2 rfl (lv_at hl 0 rfl) ?_
  refine lv_bipush (v := 19) hx hb dM_zero_3 (by decide) ?_
  refine lv_icmp_ge (tgt := 18) hx hb dM_zero_5 rfl (fun hj4 => absurd hj4 (by decide)) (fun _ => ?_)
  refine lv_aload_n hx hb dM_zero_8 rfl (lv_at hl 1 rfl) ?_
  refine lv_iload_n hx hb dM_zero_9 rfl (lv_at hl 0 rfl) ?_
  refine lv_iconst (v := 0) hx hb dM_zero_10 (by decide) ?_
  refine va_iast hx hb hK hP hD hS 0 0 rfl rfl (by unfold vp_in; decide) dM_zero_11 (fun H locs hP hD hS => ?_)
  have hP : va_P D vwCl [(zl, .inl (cT 0, 19, .inl (upd (upd (upd (upd lf 0 0) 1 0) 2 0) 3 0)))] H := hP
  have hD : va_D A [(zl, .inl (cT 0, 19, .inl (upd (upd (upd (upd lf 0 0) 1 0) 2 0) 3 0)))] := hD
  refine lv_iinc (k := 0) (v := 4) hx hb dM_zero_12 hl rfl (by decide) (by decide) rfl (fun ls hl => ?_)
  have hl : lv_has ls 2 [(1, .int 4), (0, .ref zl)] := hl
  refine lv_goto (tgt := 2) hx hb dM_zero_15 rfl ?_
  refine lv_iload_n hx hb dM_zero_2 rfl (lv_at hl 0 rfl) ?_
  refine lv_bipush (v := 19) hx hb dM_zero_3 (by decide) ?_
  refine lv_icmp_ge (tgt := 18) hx hb dM_zero_5 rfl (fun hj5 => absurd hj5 (by decide)) (fun _ => ?_)
  refine lv_aload_n hx hb dM_zero_8 rfl (lv_at hl 1 rfl) ?_
  refine lv_iload_n hx hb dM_zero_9 rfl (lv_at hl 0 rfl) ?_
  refine lv_iconst (v := 0) hx hb dM_zero_10 (by decide) ?_
  refine va_iast hx hb hK hP hD hS 0 0 rfl rfl (by unfold vp_in; decide) dM_zero_11 (fun H locs hP hD hS => ?_)
  have hP : va_P D vwCl [(zl, .inl (cT 0, 19, .inl (upd (upd (upd (upd (upd lf 0 0) 1 0) 2 0) 3 0) 4 0)))] H := hP
  have hD : va_D A [(zl, .inl (cT 0, 19, .inl (upd (upd (upd (upd (upd lf 0 0) 1 0) 2 0) 3 0) 4 0)))] := hD
  refine lv_iinc (k := 0) (v := 5) hx hb dM_zero_12 hl rfl (by decide) (by decide) rfl (fun ls hl => ?_)
  have hl : lv_has ls 2 [(1, .int 5), (0, .ref zl)] := hl
  refine lv_goto (tgt := 2) hx hb dM_zero_15 rfl ?_
  refine lv_iload_n hx hb dM_zero_2 rfl (lv_at hl 0 rfl) ?_
  refine lv_bipush (v := 19) hx hb dM_zero_3 (by decide) ?_
  refine lv_icmp_ge (tgt := 18) hx hb dM_zero_5 rfl (fun hj6 => absurd hj6 (by decide)) (fun _ => ?_)
  refine lv_aload_n hx hb dM_zero_8 rfl (lv_at hl 1 rfl) ?_
  refine lv_iload_n hx hb dM_zero_9 rfl (lv_at hl 0 rfl) ?_
  refine lv_iconst (v := 0) hx hb dM_zero_10 (by decide) ?_
  refine va_iast hx hb hK hP hD hS 0 0 rfl rfl (by unfold vp_in; decide) dM_zero_11 (fun H locs hP hD hS => ?_)
  have hP : va_P D vwCl [(zl, .inl (cT 0, 19, .inl (upd (upd (upd (upd (upd (upd lf 0 0) 1 0) 2 0) 3 0) 4 0) 5 0)))] H := hP
  have hD : va_D A [(zl, .inl (cT 0, 19, .inl (upd (upd (upd (upd (upd (upd lf 0 0) 1 0) 2 0) 3 0) 4 0) 5 0)))] := hD
  refine lv_iinc (k := 0) (v := 6) hx hb dM_zero_12 hl rfl (by decide) (by decide) rfl (fun ls hl => ?_)
  have hl : lv_has ls 2 [(1, .int 6), (0, .ref zl)] := hl
  refine lv_goto (tgt := 2) hx hb dM_zero_15 rfl ?_
  refine lv_iload_n hx hb dM_zero_2 rfl (lv_at hl 0 rfl) ?_
  refine lv_bipush (v := 19) hx hb dM_zero_3 (by decide) ?_
  refine lv_icmp_ge (tgt := 18) hx hb dM_zero_5 rfl (fun hj7 => absurd hj7 (by decide)) (fun _ => ?_)
  refine lv_aload_n hx hb dM_zero_8 rfl (lv_at hl 1 rfl) ?_
  refine lv_iload_n hx hb dM_zero_9 rfl (lv_at hl 0 rfl) ?_
  refine lv_iconst (v := 0) hx hb dM_zero_10 (by decide) ?_
  refine va_iast hx hb hK hP hD hS 0 0 rfl rfl (by unfold vp_in; decide) dM_zero_11 (fun H locs hP hD hS => ?_)
  have hP : va_P D vwCl [(zl, .inl (cT 0, 19, .inl (upd (upd (upd (upd (upd (upd (upd lf 0 0) 1 0) 2 0) 3 0) 4 0) 5 0) 6 0)))] H := hP
  have hD : va_D A [(zl, .inl (cT 0, 19, .inl (upd (upd (upd (upd (upd (upd (upd lf 0 0) 1 0) 2 0) 3 0) 4 0) 5 0) 6 0)))] := hD
  refine lv_iinc (k := 0) (v := 7) hx hb dM_zero_12 hl rfl (by decide) (by decide) rfl (fun ls hl => ?_)
  have hl : lv_has ls 2 [(1, .int 7), (0, .ref zl)] := hl
  refine lv_goto (tgt := 2) hx hb dM_zero_15 rfl ?_
  refine lv_iload_n hx hb dM_zero_2 rfl (lv_at hl 0 rfl) ?_
  refine lv_bipush (v := 19) hx hb dM_zero_3 (by decide) ?_
  refine lv_icmp_ge (tgt := 18) hx hb dM_zero_5 rfl (fun hj8 => absurd hj8 (by decide)) (fun _ => ?_)
  refine lv_aload_n hx hb dM_zero_8 rfl (lv_at hl 1 rfl) ?_
  refine lv_iload_n hx hb dM_zero_9 rfl (lv_at hl 0 rfl) ?_
  refine lv_iconst (v := 0) hx hb dM_zero_10 (by decide) ?_
  refine va_iast hx hb hK hP hD hS 0 0 rfl rfl (by unfold vp_in; decide) dM_zero_11 (fun H locs hP hD hS => ?_)
  have hP : va_P D vwCl [(zl, .inl (cT 0, 19, .inl (upd (upd (upd (upd (upd (upd (upd (upd lf 0 0) 1 0) 2 0) 3 0) 4 0) 5 0) 6 0) 7 0)))] H := hP
  have hD : va_D A [(zl, .inl (cT 0, 19, .inl (upd (upd (upd (upd (upd (upd (upd (upd lf 0 0) 1 0) 2 0) 3 0) 4 0) 5 0) 6 0) 7 0)))] := hD
  refine lv_iinc (k := 0) (v := 8) hx hb dM_zero_12 hl rfl (by decide) (by decide) rfl (fun ls hl => ?_)
  have hl : lv_has ls 2 [(1, .int 8), (0, .ref zl)] := hl
  refine lv_goto (tgt := 2) hx hb dM_zero_15 rfl ?_
  refine lv_iload_n hx hb dM_zero_2 rfl (lv_at hl 0 rfl) ?_
  refine lv_bipush (v := 19) hx hb dM_zero_3 (by decide) ?_
  refine lv_icmp_ge (tgt := 18) hx hb dM_zero_5 rfl (fun hj9 => absurd hj9 (by decide)) (fun _ => ?_)
  refine lv_aload_n hx hb dM_zero_8 rfl (lv_at hl 1 rfl) ?_
  refine lv_iload_n hx hb dM_zero_9 rfl (lv_at hl 0 rfl) ?_
  refine lv_iconst (v := 0) hx hb dM_zero_10 (by decide) ?_
  refine va_iast hx hb hK hP hD hS 0 0 rfl rfl (by unfold vp_in; decide) dM_zero_11 (fun H locs hP hD hS => ?_)
  have hP : va_P D vwCl [(zl, .inl (cT 0, 19, .inl (upd (upd (upd (upd (upd (upd (upd (upd (upd lf 0 0) 1 0) 2 0) 3 0) 4 0) 5 0) 6 0) 7 0) 8 0)))] H := hP
  have hD : va_D A [(zl, .inl (cT 0, 19, .inl (upd (upd (upd (upd (upd (upd (upd (upd (upd lf 0 0) 1 0) 2 0) 3 0) 4 0) 5 0) 6 0) 7 0) 8 0)))] := hD
  refine lv_iinc (k := 0) (v := 9) hx hb dM_zero_12 hl rfl (by decide) (by decide) rfl (fun ls hl => ?_)
  have hl : lv_has ls 2 [(1, .int 9), (0, .ref zl)] := hl
  refine lv_goto (tgt := 2) hx hb dM_zero_15 rfl ?_
  refine lv_iload_n hx hb dM_zero_2 rfl (lv_at hl 0 rfl) ?_
  refine lv_bipush (v := 19) hx hb dM_zero_3 (by decide) ?_
  refine lv_icmp_ge (tgt := 18) hx hb dM_zero_5 rfl (fun hj10 => absurd hj10 (by decide)) (fun _ => ?_)
  refine lv_aload_n hx hb dM_zero_8 rfl (lv_at hl 1 rfl) ?_
  refine lv_iload_n hx hb dM_zero_9 rfl (lv_at hl 0 rfl) ?_
  refine lv_iconst (v := 0) hx hb dM_zero_10 (by decide) ?_
  refine va_iast hx hb hK hP hD hS 0 0 rfl rfl (by unfold vp_in; decide) dM_zero_11 (fun H locs hP hD hS => ?_)
  have hP : va_P D vwCl [(zl, .inl (cT 0, 19, .inl (upd (upd (upd (upd (upd (upd (upd (upd (upd (upd lf 0 0) 1 0) 2 0) 3 0) 4 0) 5 0) 6 0) 7 0) 8 0) 9 0)))] H := hP
  have hD : va_D A [(zl, .inl (cT 0, 19, .inl (upd (upd (upd (upd (upd (upd (upd (upd (upd (upd lf 0 0) 1 0) 2 0) 3 0) 4 0) 5 0) 6 0) 7 0) 8 0) 9 0)))] := hD
  refine lv_iinc (k := 0) (v := 10) hx hb dM_zero_12 hl rfl (by decide) (by decide) rfl (fun ls hl => ?_)
  have hl : lv_has ls 2 [(1, .int 10), (0, .ref zl)] := hl
  refine lv_goto (tgt := 2) hx hb dM_zero_15 rfl ?_
  refine lv_iload_n hx hb dM_zero_2 rfl (lv_at hl 0 rfl) ?_
  refine lv_bipush (v := 19) hx hb dM_zero_3 (by decide) ?_
  refine lv_icmp_ge (tgt := 18) hx hb dM_zero_5 rfl (fun hj11 => absurd hj11 (by decide)) (fun _ => ?_)
  refine lv_aload_n hx hb dM_zero_8 rfl (lv_at hl 1 rfl) ?_
  refine lv_iload_n hx hb dM_zero_9 rfl (lv_at hl 0 rfl) ?_
  refine lv_iconst (v := 0) hx hb dM_zero_10 (by decide) ?_
  refine va_iast hx hb hK hP hD hS 0 0 rfl rfl (by unfold vp_in; decide) dM_zero_11 (fun H locs hP hD hS => ?_)
  have hP : va_P D vwCl [(zl, .inl (cT 0, 19, .inl (upd (upd (upd (upd (upd (upd (upd (upd (upd (upd (upd lf 0 0) 1 0) 2 0) 3 0) 4 0) 5 0) 6 0) 7 0) 8 0) 9 0) 10 0)))] H := hP
  have hD : va_D A [(zl, .inl (cT 0, 19, .inl (upd (upd (upd (upd (upd (upd (upd (upd (upd (upd (upd lf 0 0) 1 0) 2 0) 3 0) 4 0) 5 0) 6 0) 7 0) 8 0) 9 0) 10 0)))] := hD
  refine lv_iinc (k := 0) (v := 11) hx hb dM_zero_12 hl rfl (by decide) (by decide) rfl (fun ls hl => ?_)
  have hl : lv_has ls 2 [(1, .int 11), (0, .ref zl)] := hl
  refine lv_goto (tgt := 2) hx hb dM_zero_15 rfl ?_
  refine lv_iload_n hx hb dM_zero_2 rfl (lv_at hl 0 rfl) ?_
  refine lv_bipush (v := 19) hx hb dM_zero_3 (by decide) ?_
  refine lv_icmp_ge (tgt := 18) hx hb dM_zero_5 rfl (fun hj12 => absurd hj12 (by decide)) (fun _ => ?_)
  refine lv_aload_n hx hb dM_zero_8 rfl (lv_at hl 1 rfl) ?_
  refine lv_iload_n hx hb dM_zero_9 rfl (lv_at hl 0 rfl) ?_
  refine lv_iconst (v := 0) hx hb dM_zero_10 (by decide) ?_
  refine va_iast hx hb hK hP hD hS 0 0 rfl rfl (by unfold vp_in; decide) dM_zero_11 (fun H locs hP hD hS => ?_)
  have hP : va_P D vwCl [(zl, .inl (cT 0, 19, .inl (upd (upd (upd (upd (upd (upd (upd (upd (upd (upd (upd (upd lf 0 0) 1 0) 2 0) 3 0) 4 0) 5 0) 6 0) 7 0) 8 0) 9 0) 10 0) 11 0)))] H := hP
  have hD : va_D A [(zl, .inl (cT 0, 19, .inl (upd (upd (upd (upd (upd (upd (upd (upd (upd (upd (upd (upd lf 0 0) 1 0) 2 0) 3 0) 4 0) 5 0) 6 0) 7 0) 8 0) 9 0) 10 0) 11 0)))] := hD
  refine lv_iinc (k := 0) (v := 12) hx hb dM_zero_12 hl rfl (by decide) (by decide) rfl (fun ls hl => ?_)
  have hl : lv_has ls 2 [(1, .int 12), (0, .ref zl)] := hl
  refine lv_goto (tgt := 2) hx hb dM_zero_15 rfl ?_
  refine lv_iload_n hx hb dM_zero_2 rfl (lv_at hl 0 rfl) ?_
  refine lv_bipush (v := 19) hx hb dM_zero_3 (by decide) ?_
  refine lv_icmp_ge (tgt := 18) hx hb dM_zero_5 rfl (fun hj13 => absurd hj13 (by decide)) (fun _ => ?_)
  refine lv_aload_n hx hb dM_zero_8 rfl (lv_at hl 1 rfl) ?_
  refine lv_iload_n hx hb dM_zero_9 rfl (lv_at hl 0 rfl) ?_
  refine lv_iconst (v := 0) hx hb dM_zero_10 (by decide) ?_
  refine va_iast hx hb hK hP hD hS 0 0 rfl rfl (by unfold vp_in; decide) dM_zero_11 (fun H locs hP hD hS => ?_)
  have hP : va_P D vwCl [(zl, .inl (cT 0, 19, .inl (upd (upd (upd (upd (upd (upd (upd (upd (upd (upd (upd (upd (upd lf 0 0) 1 0) 2 0) 3 0) 4 0) 5 0) 6 0) 7 0) 8 0) 9 0) 10 0) 11 0) 12 0)))] H := hP
  have hD : va_D A [(zl, .inl (cT 0, 19, .inl (upd (upd (upd (upd (upd (upd (upd (upd (upd (upd (upd (upd (upd lf 0 0) 1 0) 2 0) 3 0) 4 0) 5 0) 6 0) 7 0) 8 0) 9 0) 10 0) 11 0) 12 0)))] := hD
  refine lv_iinc (k := 0) (v := 13) hx hb dM_zero_12 hl rfl (by decide) (by decide) rfl (fun ls hl => ?_)
  have hl : lv_has ls 2 [(1, .int 13), (0, .ref zl)] := hl
  refine lv_goto (tgt := 2) hx hb dM_zero_15 rfl ?_
  refine lv_iload_n hx hb dM_zero_2 rfl (lv_at hl 0 rfl) ?_
  refine lv_bipush (v := 19) hx hb dM_zero_3 (by decide) ?_
  refine lv_icmp_ge (tgt := 18) hx hb dM_zero_5 rfl (fun hj14 => absurd hj14 (by decide)) (fun _ => ?_)
  refine lv_aload_n hx hb dM_zero_8 rfl (lv_at hl 1 rfl) ?_
  refine lv_iload_n hx hb dM_zero_9 rfl (lv_at hl 0 rfl) ?_
  refine lv_iconst (v := 0) hx hb dM_zero_10 (by decide) ?_
  refine va_iast hx hb hK hP hD hS 0 0 rfl rfl (by unfold vp_in; decide) dM_zero_11 (fun H locs hP hD hS => ?_)
  have hP : va_P D vwCl [(zl, .inl (cT 0, 19, .inl (upd (upd (upd (upd (upd (upd (upd (upd (upd (upd (upd (upd (upd (upd lf 0 0) 1 0) 2 0) 3 0) 4 0) 5 0) 6 0) 7 0) 8 0) 9 0) 10 0) 11 0) 12 0) 13 0)))] H := hP
  have hD : va_D A [(zl, .inl (cT 0, 19, .inl (upd (upd (upd (upd (upd (upd (upd (upd (upd (upd (upd (upd (upd (upd lf 0 0) 1 0) 2 0) 3 0) 4 0) 5 0) 6 0) 7 0) 8 0) 9 0) 10 0) 11 0) 12 0) 13 0)))] := hD
  refine lv_iinc (k := 0) (v := 14) hx hb dM_zero_12 hl rfl (by decide) (by decide) rfl (fun ls hl => ?_)
  have hl : lv_has ls 2 [(1, .int 14), (0, .ref zl)] := hl
  refine lv_goto (tgt := 2) hx hb dM_zero_15 rfl ?_
  refine lv_iload_n hx hb dM_zero_2 rfl (lv_at hl 0 rfl) ?_
  refine lv_bipush (v := 19) hx hb dM_zero_3 (by decide) ?_
  refine lv_icmp_ge (tgt := 18) hx hb dM_zero_5 rfl (fun hj15 => absurd hj15 (by decide)) (fun _ => ?_)
  refine lv_aload_n hx hb dM_zero_8 rfl (lv_at hl 1 rfl) ?_
  refine lv_iload_n hx hb dM_zero_9 rfl (lv_at hl 0 rfl) ?_
  refine lv_iconst (v := 0) hx hb dM_zero_10 (by decide) ?_
  refine va_iast hx hb hK hP hD hS 0 0 rfl rfl (by unfold vp_in; decide) dM_zero_11 (fun H locs hP hD hS => ?_)
  have hP : va_P D vwCl [(zl, .inl (cT 0, 19, .inl (upd (upd (upd (upd (upd (upd (upd (upd (upd (upd (upd (upd (upd (upd (upd lf 0 0) 1 0) 2 0) 3 0) 4 0) 5 0) 6 0) 7 0) 8 0) 9 0) 10 0) 11 0) 12 0) 13 0) 14 0)))] H := hP
  have hD : va_D A [(zl, .inl (cT 0, 19, .inl (upd (upd (upd (upd (upd (upd (upd (upd (upd (upd (upd (upd (upd (upd (upd lf 0 0) 1 0) 2 0) 3 0) 4 0) 5 0) 6 0) 7 0) 8 0) 9 0) 10 0) 11 0) 12 0) 13 0) 14 0)))] := hD
  refine lv_iinc (k := 0) (v := 15) hx hb dM_zero_12 hl rfl (by decide) (by decide) rfl (fun ls hl => ?_)
  have hl : lv_has ls 2 [(1, .int 15), (0, .ref zl)] := hl
  refine lv_goto (tgt := 2) hx hb dM_zero_15 rfl ?_
  refine lv_iload_n hx hb dM_zero_2 rfl (lv_at hl 0 rfl) ?_
  refine lv_bipush (v := 19) hx hb dM_zero_3 (by decide) ?_
  refine lv_icmp_ge (tgt := 18) hx hb dM_zero_5 rfl (fun hj16 => absurd hj16 (by decide)) (fun _ => ?_)
  refine lv_aload_n hx hb dM_zero_8 rfl (lv_at hl 1 rfl) ?_
  refine lv_iload_n hx hb dM_zero_9 rfl (lv_at hl 0 rfl) ?_
  refine lv_iconst (v := 0) hx hb dM_zero_10 (by decide) ?_
  refine va_iast hx hb hK hP hD hS 0 0 rfl rfl (by unfold vp_in; decide) dM_zero_11 (fun H locs hP hD hS => ?_)
  have hP : va_P D vwCl [(zl, .inl (cT 0, 19, .inl (upd (upd (upd (upd (upd (upd (upd (upd (upd (upd (upd (upd (upd (upd (upd (upd lf 0 0) 1 0) 2 0) 3 0) 4 0) 5 0) 6 0) 7 0) 8 0) 9 0) 10 0) 11 0) 12 0) 13 0) 14 0) 15 0)))] H := hP
  have hD : va_D A [(zl, .inl (cT 0, 19, .inl (upd (upd (upd (upd (upd (upd (upd (upd (upd (upd (upd (upd (upd (upd (upd (upd lf 0 0) 1 0) 2 0) 3 0) 4 0) 5 0) 6 0) 7 0) 8 0) 9 0) 10 0) 11 0) 12 0) 13 0) 14 0) 15 0)))] := hD
  refine lv_iinc (k := 0) (v := 16) hx hb dM_zero_12 hl rfl (by decide) (by decide) rfl (fun ls hl => ?_)
  have hl : lv_has ls 2 [(1, .int 16), (0, .ref zl)] := hl
  refine lv_goto (tgt := 2) hx hb dM_zero_15 rfl ?_
  refine lv_iload_n hx hb dM_zero_2 rfl (lv_at hl 0 rfl) ?_
  refine lv_bipush (v := 19) hx hb dM_zero_3 (by decide) ?_
  refine lv_icmp_ge (tgt := 18) hx hb dM_zero_5 rfl (fun hj17 => absurd hj17 (by decide)) (fun _ => ?_)
  refine lv_aload_n hx hb dM_zero_8 rfl (lv_at hl 1 rfl) ?_
  refine lv_iload_n hx hb dM_zero_9 rfl (lv_at hl 0 rfl) ?_
  refine lv_iconst (v := 0) hx hb dM_zero_10 (by decide) ?_
  refine va_iast hx hb hK hP hD hS 0 0 rfl rfl (by unfold vp_in; decide) dM_zero_11 (fun H locs hP hD hS => ?_)
  have hP : va_P D vwCl [(zl, .inl (cT 0, 19, .inl (upd (upd (upd (upd (upd (upd (upd (upd (upd (upd (upd (upd (upd (upd (upd (upd (upd lf 0 0) 1 0) 2 0) 3 0) 4 0) 5 0) 6 0) 7 0) 8 0) 9 0) 10 0) 11 0) 12 0) 13 0) 14 0) 15 0) 16 0)))] H := hP
  have hD : va_D A [(zl, .inl (cT 0, 19, .inl (upd (upd (upd (upd (upd (upd (upd (upd (upd (upd (upd (upd (upd (upd (upd (upd (upd lf 0 0) 1 0) 2 0) 3 0) 4 0) 5 0) 6 0) 7 0) 8 0) 9 0) 10 0) 11 0) 12 0) 13 0) 14 0) 15 0) 16 0)))] := hD
  refine lv_iinc (k := 0) (v := 17) hx hb dM_zero_12 hl rfl (by decide) (by decide) rfl (fun ls hl => ?_)
  have hl : lv_has ls 2 [(1, .int 17), (0, .ref zl)] := hl
  refine lv_goto (tgt := 2) hx hb dM_zero_15 rfl ?_
  refine lv_iload_n hx hb dM_zero_2 rfl (lv_at hl 0 rfl) ?_
  refine lv_bipush (v := 19) hx hb dM_zero_3 (by decide) ?_
  refine lv_icmp_ge (tgt := 18) hx hb dM_zero_5 rfl (fun hj18 => absurd hj18 (by decide)) (fun _ => ?_)
  refine lv_aload_n hx hb dM_zero_8 rfl (lv_at hl 1 rfl) ?_
  refine lv_iload_n hx hb dM_zero_9 rfl (lv_at hl 0 rfl) ?_
  refine lv_iconst (v := 0) hx hb dM_zero_10 (by decide) ?_
  refine va_iast hx hb hK hP hD hS 0 0 rfl rfl (by unfold vp_in; decide) dM_zero_11 (fun H locs hP hD hS => ?_)
  have hP : va_P D vwCl [(zl, .inl (cT 0, 19, .inl (upd (upd (upd (upd (upd (upd (upd (upd (upd (upd (upd (upd (upd (upd (upd (upd (upd (upd lf 0 0) 1 0) 2 0) 3 0) 4 0) 5 0) 6 0) 7 0) 8 0) 9 0) 10 0) 11 0) 12 0) 13 0) 14 0) 15 0) 16 0) 17 0)))] H := hP
  have hD : va_D A [(zl, .inl (cT 0, 19, .inl (upd (upd (upd (upd (upd (upd (upd (upd (upd (upd (upd (upd (upd (upd (upd (upd (upd (upd lf 0 0) 1 0) 2 0) 3 0) 4 0) 5 0) 6 0) 7 0) 8 0) 9 0) 10 0) 11 0) 12 0) 13 0) 14 0) 15 0) 16 0) 17 0)))] := hD
  refine lv_iinc (k := 0) (v := 18) hx hb dM_zero_12 hl rfl (by decide) (by decide) rfl (fun ls hl => ?_)
  have hl : lv_has ls 2 [(1, .int 18), (0, .ref zl)] := hl
  refine lv_goto (tgt := 2) hx hb dM_zero_15 rfl ?_
  refine lv_iload_n hx hb dM_zero_2 rfl (lv_at hl 0 rfl) ?_
  refine lv_bipush (v := 19) hx hb dM_zero_3 (by decide) ?_
  refine lv_icmp_ge (tgt := 18) hx hb dM_zero_5 rfl (fun hj19 => absurd hj19 (by decide)) (fun _ => ?_)
  refine lv_aload_n hx hb dM_zero_8 rfl (lv_at hl 1 rfl) ?_
  refine lv_iload_n hx hb dM_zero_9 rfl (lv_at hl 0 rfl) ?_
  refine lv_iconst (v := 0) hx hb dM_zero_10 (by decide) ?_
  refine va_iast hx hb hK hP hD hS 0 0 rfl rfl (by unfold vp_in; decide) dM_zero_11 (fun H locs hP hD hS => ?_)
  have hP : va_P D vwCl [(zl, .inl (cT 0, 19, .inl (upd (upd (upd (upd (upd (upd (upd (upd (upd (upd (upd (upd (upd (upd (upd (upd (upd (upd (upd lf 0 0) 1 0) 2 0) 3 0) 4 0) 5 0) 6 0) 7 0) 8 0) 9 0) 10 0) 11 0) 12 0) 13 0) 14 0) 15 0) 16 0) 17 0) 18 0)))] H := hP
  have hD : va_D A [(zl, .inl (cT 0, 19, .inl (upd (upd (upd (upd (upd (upd (upd (upd (upd (upd (upd (upd (upd (upd (upd (upd (upd (upd (upd lf 0 0) 1 0) 2 0) 3 0) 4 0) 5 0) 6 0) 7 0) 8 0) 9 0) 10 0) 11 0) 12 0) 13 0) 14 0) 15 0) 16 0) 17 0) 18 0)))] := hD
  refine lv_iinc (k := 0) (v := 19) hx hb dM_zero_12 hl rfl (by decide) (by decide) rfl (fun ls hl => ?_)
  have hl : lv_has ls 2 [(1, .int 19), (0, .ref zl)] := hl
  refine lv_goto (tgt := 2) hx hb dM_zero_15 rfl ?_
  refine lv_iload_n hx hb dM_zero_2 rfl (lv_at hl 0 rfl) ?_
  refine lv_bipush (v := 19) hx hb dM_zero_3 (by decide) ?_
  refine lv_icmp_ge (tgt := 18) hx hb dM_zero_5 rfl (fun _ => ?_) (fun hj20 => absurd (by decide) hj20)
  have hP9 := hP.sub (ws' := [(zl, .inl (cT 0, 19, .inl (upd (upd (upd (upd (upd (upd (upd (upd (upd (upd (upd (upd (upd (upd (upd (upd (upd (upd (upd lf 0 0) 1 0) 2 0) 3 0) 4 0) 5 0) 6 0) 7 0) 8 0) 9 0) 10 0) 11 0) 12 0) 13 0) 14 0) 15 0) 16 0) 17 0) 18 0)))]) [0] rfl
  have hD9 := hD.sub (ws' := [(zl, .inl (cT 0, 19, .inl (upd (upd (upd (upd (upd (upd (upd (upd (upd (upd (upd (upd (upd (upd (upd (upd (upd (upd (upd lf 0 0) 1 0) 2 0) 3 0) 4 0) 5 0) 6 0) 7 0) 8 0) 9 0) 10 0) 11 0) 12 0) 13 0) 14 0) 15 0) 16 0) 17 0) 18 0)))]) [0] (by decide) rfl
  refine W.widen (k := 0) (n := 0) (Nat.le_of_ble_eq_true rfl) (Nat.le_of_ble_eq_true rfl) ?_
  exact W.vret hx hb hr (fun t ht hW => ⟨⟨(fun _ => 0), rfl, trivial, by rw [ht]; exact hP9, hD9⟩, hS.F ht⟩) hS.2.2 dM_zero_18
set_option maxHeartbeats 4000000 in
set_option maxRecDepth 100000 in
theorem y_trim0 (l : Launch) (D : va_G) (cT : Nat → ClassId) (za : Nat) (af : Nat → Int32) (sz : Nat) : Met l yM_trim WM_trim ({ frames := 0, cells := 0, slots := 0, locals := 0 } : Room) (RW D vwCl [.ref za, .int 0] [(za, .inl (cT 0, 302, .inl af))] (TY cT) sz) (va_Qv (fun _ : Nat → Nat => True) (BW D vwCl (va_A [(za, .inl (cT 0, 302, .inl af))] sz) (fun u => [(za, .inl (cT 0, 302, .inl (upd (upd af 300 0) 301 0)))])) (va_A [(za, .inl (cT 0, 302, .inl af))] sz)) 0 0 (va_A [(za, .inl (cT 0, 302, .inl af))] sz) := by
  refine Met.ofW (cc := cM_trim) (maxL := 3) (ret := none) (by decide) rfl ?_
  intro p e s m args below meth c s₁ B hml hv
  obtain ⟨rfl, hsz, hZ, hP, hK, hD0⟩ := hv
  have hx := B.exec
  have hb := B.bytes
  have hr := B.returns
  have hts := atoms_spec (ws := WM_trim) B.pre
  have hT : ∀ w ∈ TB, w.before _ s = true := fun w h => hts w (List.mem_cons_of_mem _ h)
  have hown : s.vm.findClass R_M = some m.cls := findClass_of_methodNamed B.named
  have hlocks := B.notSynchronized
  subst hsz
  have hD := hD0.self (sz := s.heap.size)
  generalize hAe : va_A [(za, .inl (cT 0, 302, .inl af))] s.heap.size = A at hD hZ ⊢
  have hA : ∀ q : Nat, s.heap.size ≤ q → A q := fun q h => by rw [← hAe]; exact Or.inr h
  have hS : va_S A s.heap s.heap [] := va_S.rf
  have hl := lv_entry ([.ref za, .int 0]) (n := 3) (Nat.le_of_ble_eq_true rfl)
  rw [lg_entry_eq]
  generalize (lg_sl ([.ref za, .int 0]) ++ List.replicate (3 - (lg_sl ([.ref za, .int 0])).length) Slot.unset).toArray = ls at hl ⊢
  have hl : lv_has ls 3 [(0, .ref za), (1, .int 0)] := hl
  refine lv_iload_n hx hb dM_trim_0 rfl (lv_at hl 1 rfl) ?_
  refine lv_istore_n hx hb dM_trim_1 rfl hl (by decide) rfl (fun ls hl => ?_)
  have hl : lv_has ls 3 [(2, .int 0), (0, .ref za), (1, .int 0)] := hl
  refine lv_iload_n hx hb dM_trim_2 rfl (lv_at hl 0 rfl) ?_
  refine lv_if_le (tgt := 20) hx hb dM_trim_3 rfl (fun _ => ?_) (fun hj1 => absurd (by decide) hj1)
  refine lv_aload_n hx hb dM_trim_20 rfl (lv_at hl 1 rfl) ?_
  refine lv_sipush (v := 300) hx hb dM_trim_21 (by decide) ?_
  refine lv_iload_n hx hb dM_trim_24 rfl (lv_at hl 0 rfl) ?_
  refine va_iast hx hb hK hP hD hS 0 0 rfl rfl (by unfold vp_in; decide) dM_trim_25 (fun H locs hP hD hS => ?_)
  have hP : va_P D vwCl [(za, .inl (cT 0, 302, .inl (upd af 300 0)))] H := hP
  have hD : va_D A [(za, .inl (cT 0, 302, .inl (upd af 300 0)))] := hD
  refine lv_aload_n hx hb dM_trim_26 rfl (lv_at hl 1 rfl) ?_
  refine lv_sipush (v := 301) hx hb dM_trim_27 (by decide) ?_
  refine lv_iload_n hx hb dM_trim_30 rfl (lv_at hl 0 rfl) ?_
  refine lv_if_ne (tgt := 38) hx hb dM_trim_31 rfl (fun hj2 => absurd (by decide) hj2) (fun _ => ?_)
  refine lv_iconst (v := 0) hx hb dM_trim_34 (by decide) ?_
  refine lv_goto (tgt := 43) hx hb dM_trim_35 rfl ?_
  refine va_iast hx hb hK hP hD hS 0 0 rfl rfl (by unfold vp_in; decide) dM_trim_43 (fun H locs hP hD hS => ?_)
  have hP : va_P D vwCl [(za, .inl (cT 0, 302, .inl (upd (upd af 300 0) 301 0)))] H := hP
  have hD : va_D A [(za, .inl (cT 0, 302, .inl (upd (upd af 300 0) 301 0)))] := hD
  have hP9 := hP.sub (ws' := [(za, .inl (cT 0, 302, .inl (upd (upd af 300 0) 301 0)))]) [0] rfl
  have hD9 := hD.sub (ws' := [(za, .inl (cT 0, 302, .inl (upd (upd af 300 0) 301 0)))]) [0] (by decide) rfl
  refine W.widen (k := 0) (n := 0) (Nat.le_of_ble_eq_true rfl) (Nat.le_of_ble_eq_true rfl) ?_
  exact W.vret hx hb hr (fun t ht hW => ⟨⟨(fun _ => 0), rfl, trivial, by rw [ht]; exact hP9, hD9⟩, hS.F ht⟩) hS.2.2 dM_trim_44
set_option maxHeartbeats 4000000 in
set_option maxRecDepth 100000 in
theorem y_divide0 (l : Launch) (D : va_G) (cT : Nat → ClassId) (za : Nat) (af : Nat → Int32) (h0 : af 300 = 0) (sz : Nat) : Met l yM_divide WM_divide ({ frames := 1, cells := 0, slots := 0, locals := 22 } : Room) (RW D vwCl [.ref za, .int 10000] [(za, .inl (cT 0, 302, .inl af))] (TY cT) sz) (va_Qi (fun (r : Int32) (_ : Nat → Nat) => r = 0) (BW D vwCl (va_A [(za, .inl (cT 0, 302, .inl af))] sz) (fun u => [(za, .inl (cT 0, 302, .inl (upd (upd af 300 0) 301 0)))])) (va_A [(za, .inl (cT 0, 302, .inl af))] sz)) 0 0 (va_A [(za, .inl (cT 0, 302, .inl af))] sz) := by
  refine Met.ofW (cc := cM_divide) (maxL := 7) (ret := (some .int)) (by decide) rfl ?_
  intro p e s m args below meth c s₁ B hml hv
  obtain ⟨rfl, hsz, hZ, hP, hK, hD0⟩ := hv
  have hx := B.exec
  have hb := B.bytes
  have hr := B.returns
  have hts := atoms_spec (ws := WM_divide) B.pre
  have hT : ∀ w ∈ TB, w.before _ s = true := fun w h => hts w (List.mem_cons_of_mem _ h)
  have hown : s.vm.findClass R_M = some m.cls := findClass_of_methodNamed B.named
  have hlocks := B.notSynchronized
  subst hsz
  have hD := hD0.self (sz := s.heap.size)
  generalize hAe : va_A [(za, .inl (cT 0, 302, .inl af))] s.heap.size = A at hD hZ ⊢
  have hA : ∀ q : Nat, s.heap.size ≤ q → A q := fun q h => by rw [← hAe]; exact Or.inr h
  have hS : va_S A s.heap s.heap [] := va_S.rf
  have hl := lv_entry ([.ref za, .int 10000]) (n := 7) (Nat.le_of_ble_eq_true rfl)
  rw [lg_entry_eq]
  generalize (lg_sl ([.ref za, .int 10000]) ++ List.replicate (7 - (lg_sl ([.ref za, .int 10000])).length) Slot.unset).toArray = ls at hl ⊢
  have hl : lv_has ls 7 [(0, .ref za), (1, .int 10000)] := hl
  refine lv_lconst (v := 0) hx hb dM_divide_0 (by decide) ?_
  refine lv_lstore_n hx hb dM_divide_1 rfl hl (by decide) rfl (fun ls hl => ?_)
  have hl : lv_has ls 7 [(2, .long 0), (0, .ref za), (1, .int 10000)] := hl
  refine lv_aload_n hx hb dM_divide_2 rfl (lv_at hl 1 rfl) ?_
  refine lv_sipush (v := 300) hx hb dM_divide_3 (by decide) ?_
  refine va_iald hx hb hK hP 0 0 rfl rfl (by unfold vp_in; decide) dM_divide_6 ?_
  refine lv_topi (fun y9 e9 => ?_)
  cases (show y9 = 0 from e9.trans h0)
  refine lv_iconst (v := 1) hx hb dM_divide_7 (by decide) ?_
  refine lv_isub hx hb dM_divide_8 ?_
  refine lv_topi (fun y9 e9 => ?_)
  cases (show y9 = (-1) from e9.trans (by decide))
  refine lv_istore hx hb dM_divide_9 hl (by decide) rfl (fun ls hl => ?_)
  have hl : lv_has ls 7 [(4, .int (-1)), (2, .long 0), (0, .ref za), (1, .int 10000)] := hl
  refine lv_iload hx hb dM_divide_11 (lv_at hl 0 rfl) ?_
  refine lv_if_lt (tgt := 50) hx hb dM_divide_13 rfl (fun _ => ?_) (fun hj1 => absurd (by decide) hj1)
  refine lv_aload_n hx hb dM_divide_50 rfl (lv_at hl 2 rfl) ?_
  refine lv_aload_n hx hb dM_divide_51 rfl (lv_at hl 2 rfl) ?_
  refine lv_sipush (v := 300) hx hb dM_divide_52 (by decide) ?_
  refine va_iald hx hb hK hP 0 0 rfl rfl (by unfold vp_in; decide) dM_divide_55 ?_
  refine lv_topi (fun y9 e9 => ?_)
  cases (show y9 = 0 from e9.trans h0)
  refine rw_v (wc := [(za, .inl (cT 0, 302, .inl af))]) (wr := []) hP hD hS hA [0] [] rfl rfl (by decide) (by decide) (va_runS (As := [.ref za, .int 0]) (rest := []) ⟨hx, hb, hml, hown, hT⟩ (y_trim0 l D cT za af _) ⟨callB_of 2 hT (tb_gd w1420) rfl rfl rfl (hT _ w13) (hT _ w1418) hM_trim ⟨Nat.le_of_ble_eq_true rfl, Nat.le_of_ble_eq_true rfl⟩, (hT _ w1419)⟩ (RW.preS hZ hS (va_free (wc := [(za, .inl (cT 0, 302, .inl af))]) hD hS hA [0] rfl) (hP.sub (ws' := [(za, .inl (cT 0, 302, .inl af))]) [0] rfl) hK (hD.sub (ws' := [(za, .inl (cT 0, 302, .inl af))]) [0] (by decide) rfl)) rfl rfl hl.1 rfl (lv_room (Nat.le_of_ble_eq_true rfl)) dM_divide_56 ⟨Nat.le_of_ble_eq_true rfl, Nat.le_of_ble_eq_true rfl⟩) (fun u2 H locs hpu2 hP hD hS => ?_)
  have hP : va_P D vwCl [(za, .inl (cT 0, 302, .inl (upd (upd af 300 0) 301 0)))] H := hP
  have hD : va_D A [(za, .inl (cT 0, 302, .inl (upd (upd af 300 0) 301 0)))] := hD
  refine lv_lload_n hx hb dM_divide_59 rfl (lv_at hl 1 rfl) ?_
  refine lv_l2i (v := 0) hx hb dM_divide_60 (by decide) ?_
  have hP9 := hP.sub (ws' := [(za, .inl (cT 0, 302, .inl (upd (upd af 300 0) 301 0)))]) [0] rfl
  have hD9 := hD.sub (ws' := [(za, .inl (cT 0, 302, .inl (upd (upd af 300 0) 301 0)))]) [0] (by decide) rfl
  refine W.widen (k := 0) (n := 0) (Nat.le_of_ble_eq_true rfl) (Nat.le_of_ble_eq_true rfl) ?_
  exact W.iret (v := 0) hx hb hr (fun t ht hW => ⟨⟨0, (fun _ => 0), rfl, rfl, by rw [ht]; exact hP9, hD9⟩, hS.F ht⟩) hS.2.2 dM_divide_61
set_option maxHeartbeats 4000000 in
set_option maxRecDepth 100000 in
theorem y_copy0 (l : Launch) (D : va_G) (cT : Nat → ClassId) (za : Nat) (af : Nat → Int32) (zb : Nat) (bf : Nat → Int32) (h0 : af 300 = 0) (h1 : af 301 = 0) (sz : Nat) : Met l yM_copy WM_copy ({ frames := 0, cells := 0, slots := 0, locals := 0 } : Room) (RW D vwCl [.ref za, .ref zb] [(za, .inl (cT 0, 302, .inl af)), (zb, .inl (cT 0, 302, .inl bf))] (TY cT) sz) (va_Qv (fun _ : Nat → Nat => True) (BW D vwCl (va_A [(za, .inl (cT 0, 302, .inl af)), (zb, .inl (cT 0, 302, .inl bf))] sz) (fun u => [(za, .inl (cT 0, 302, .inl af)), (zb, .inl (cT 0, 302, .inl (upd (upd bf 300 0) 301 0)))])) (va_A [(za, .inl (cT 0, 302, .inl af)), (zb, .inl (cT 0, 302, .inl bf))] sz)) 0 0 (va_A [(za, .inl (cT 0, 302, .inl af)), (zb, .inl (cT 0, 302, .inl bf))] sz) := by
  refine Met.ofW (cc := cM_copy) (maxL := 3) (ret := none) (by decide) rfl ?_
  intro p e s m args below meth c s₁ B hml hv
  obtain ⟨rfl, hsz, hZ, hP, hK, hD0⟩ := hv
  have hx := B.exec
  have hb := B.bytes
  have hr := B.returns
  have hts := atoms_spec (ws := WM_copy) B.pre
  have hT : ∀ w ∈ TB, w.before _ s = true := fun w h => hts w (List.mem_cons_of_mem _ h)
  have hown : s.vm.findClass R_M = some m.cls := findClass_of_methodNamed B.named
  have hlocks := B.notSynchronized
  subst hsz
  have hD := hD0.self (sz := s.heap.size)
  generalize hAe : va_A [(za, .inl (cT 0, 302, .inl af)), (zb, .inl (cT 0, 302, .inl bf))] s.heap.size = A at hD hZ ⊢
  have hA : ∀ q : Nat, s.heap.size ≤ q → A q := fun q h => by rw [← hAe]; exact Or.inr h
  have hS : va_S A s.heap s.heap [] := va_S.rf
  have hl := lv_entry ([.ref za, .ref zb]) (n := 3) (Nat.le_of_ble_eq_true rfl)
  rw [lg_entry_eq]
  generalize (lg_sl ([.ref za, .ref zb]) ++ List.replicate (3 - (lg_sl ([.ref za, .ref zb])).length) Slot.unset).toArray = ls at hl ⊢
  have hl : lv_has ls 3 [(0, .ref za), (1, .ref zb)] := hl
  refine lv_iconst (v := 0) hx hb dM_copy_0 (by decide) ?_
  refine lv_istore_n hx hb dM_copy_1 rfl hl (by decide) rfl (fun ls hl => ?_)
  have hl : lv_has ls 3 [(2, .int 0), (0, .ref za), (1, .ref zb)] := hl
  refine lv_iload_n hx hb dM_copy_2 rfl (lv_at hl 0 rfl) ?_
  refine lv_aload_n hx hb dM_copy_3 rfl (lv_at hl 1 rfl) ?_
  refine lv_sipush (v := 300) hx hb dM_copy_4 (by decide) ?_
  refine va_iald hx hb hK hP 0 0 rfl rfl (by unfold vp_in; decide) dM_copy_7 ?_
  refine lv_topi (fun y9 e9 => ?_)
  cases (show y9 = 0 from e9.trans h0)
  refine lv_icmp_ge (tgt := 23) hx hb dM_copy_8 rfl (fun _ => ?_) (fun hj1 => absurd (by decide) hj1)
  refine lv_aload_n hx hb dM_copy_23 rfl (lv_at hl 2 rfl) ?_
  refine lv_sipush (v := 300) hx hb dM_copy_24 (by decide) ?_
  refine lv_aload_n hx hb dM_copy_27 rfl (lv_at hl 1 rfl) ?_
  refine lv_sipush (v := 300) hx hb dM_copy_28 (by decide) ?_
  refine va_iald hx hb hK hP 0 0 rfl rfl (by unfold vp_in; decide) dM_copy_31 ?_
  refine lv_topi (fun y9 e9 => ?_)
  cases (show y9 = 0 from e9.trans h0)
  refine va_iast hx hb hK hP hD hS 1 0 rfl rfl (by unfold vp_in; decide) dM_copy_32 (fun H locs hP hD hS => ?_)
  have hP : va_P D vwCl [(za, .inl (cT 0, 302, .inl af)), (zb, .inl (cT 0, 302, .inl (upd bf 300 0)))] H := hP
  have hD : va_D A [(za, .inl (cT 0, 302, .inl af)), (zb, .inl (cT 0, 302, .inl (upd bf 300 0)))] := hD
  refine lv_aload_n hx hb dM_copy_33 rfl (lv_at hl 2 rfl) ?_
  refine lv_sipush (v := 301) hx hb dM_copy_34 (by decide) ?_
  refine lv_aload_n hx hb dM_copy_37 rfl (lv_at hl 1 rfl) ?_
  refine lv_sipush (v := 301) hx hb dM_copy_38 (by decide) ?_
  refine va_iald hx hb hK hP 0 0 rfl rfl (by unfold vp_in; decide) dM_copy_41 ?_
  refine lv_topi (fun y9 e9 => ?_)
  cases (show y9 = 0 from e9.trans h1)
  refine va_iast hx hb hK hP hD hS 1 0 rfl rfl (by unfold vp_in; decide) dM_copy_42 (fun H locs hP hD hS => ?_)
  have hP : va_P D vwCl [(za, .inl (cT 0, 302, .inl af)), (zb, .inl (cT 0, 302, .inl (upd (upd bf 300 0) 301 0)))] H := hP
  have hD : va_D A [(za, .inl (cT 0, 302, .inl af)), (zb, .inl (cT 0, 302, .inl (upd (upd bf 300 0) 301 0)))] := hD
  have hP9 := hP.sub (ws' := [(za, .inl (cT 0, 302, .inl af)), (zb, .inl (cT 0, 302, .inl (upd (upd bf 300 0) 301 0)))]) [0, 1] rfl
  have hD9 := hD.sub (ws' := [(za, .inl (cT 0, 302, .inl af)), (zb, .inl (cT 0, 302, .inl (upd (upd bf 300 0) 301 0)))]) [0, 1] (by decide) rfl
  refine W.widen (k := 0) (n := 0) (Nat.le_of_ble_eq_true rfl) (Nat.le_of_ble_eq_true rfl) ?_
  exact W.vret hx hb hr (fun t ht hW => ⟨⟨(fun _ => 0), rfl, trivial, by rw [ht]; exact hP9, hD9⟩, hS.F ht⟩) hS.2.2 dM_copy_43
set_option maxHeartbeats 4000000 in
set_option maxRecDepth 100000 in
theorem y_storeLows (l : Launch) (D : va_G) (cT : Nat → ClassId) (zl : Nat) (lf : Nat → Int32) (zr : Nat) (rf : Nat → Int32) (sz : Nat) : Met l yM_storeLows WM_storeLows ({ frames := 0, cells := 0, slots := 0, locals := 0 } : Room) (RW D vwCl [.ref zl, .ref zr, .int 0] [(zl, .inl (cT 0, 19, .inl lf)), (zr, .inl (cT 0, 19, .inl rf))] (TY cT) sz) (va_Qv (fun _ : Nat → Nat => True) (BW D vwCl (va_A [(zl, .inl (cT 0, 19, .inl lf)), (zr, .inl (cT 0, 19, .inl rf))] sz) (fun u => [(zl, .inl (cT 0, 19, .inl lf)), (zr, .inl (cT 0, 19, .inl (upd (upd (upd (upd (upd (upd (upd (upd (upd (upd (upd (upd (upd (upd (upd (upd (upd (upd (upd rf 0 (lf 0)) 1 (lf 1)) 2 (lf 2)) 3 (lf 3)) 4 (lf 4)) 5 (lf 5)) 6 (lf 6)) 7 (lf 7)) 8 (lf 8)) 9 (lf 9)) 10 (lf 10)) 11 (lf 11)) 12 (lf 12)) 13 (lf 13)) 14 (lf 14)) 15 (lf 15)) 16 (lf 16)) 17 (lf 17)) 18 (lf 18))))])) (va_A [(zl, .inl (cT 0, 19, .inl lf)), (zr, .inl (cT 0, 19, .inl rf))] sz)) 0 0 (va_A [(zl, .inl (cT 0, 19, .inl lf)), (zr, .inl (cT 0, 19, .inl rf))] sz) := by
  refine Met.ofW (cc := cM_storeLows) (maxL := 4) (ret := none) (by decide) rfl ?_
  intro p e s m args below meth c s₁ B hml hv
  obtain ⟨rfl, hsz, hZ, hP, hK, hD0⟩ := hv
  have hx := B.exec
  have hb := B.bytes
  have hr := B.returns
  have hts := atoms_spec (ws := WM_storeLows) B.pre
  have hT : ∀ w ∈ TB, w.before _ s = true := fun w h => hts w (List.mem_cons_of_mem _ h)
  have hown : s.vm.findClass R_M = some m.cls := findClass_of_methodNamed B.named
  have hlocks := B.notSynchronized
  subst hsz
  have hD := hD0.self (sz := s.heap.size)
  generalize hAe : va_A [(zl, .inl (cT 0, 19, .inl lf)), (zr, .inl (cT 0, 19, .inl rf))] s.heap.size = A at hD hZ ⊢
  have hA : ∀ q : Nat, s.heap.size ≤ q → A q := fun q h => by rw [← hAe]; exact Or.inr h
  have hS : va_S A s.heap s.heap [] := va_S.rf
  have hl := lv_entry ([.ref zl, .ref zr, .int 0]) (n := 4) (Nat.le_of_ble_eq_true rfl)
  rw [lg_entry_eq]
  generalize (lg_sl ([.ref zl, .ref zr, .int 0]) ++ List.replicate (4 - (lg_sl ([.ref zl, .ref zr, .int 0])).length) Slot.unset).toArray = ls at hl ⊢
  have hl : lv_has ls 4 [(0, .ref zl), (1, .ref zr), (2, .int 0)] := hl
  refine lv_iconst (v := 0) hx hb dM_storeLows_0 (by decide) ?_
  refine lv_istore_n hx hb dM_storeLows_1 rfl hl (by decide) rfl (fun ls hl => ?_)
  have hl : lv_has ls 4 [(3, .int 0), (0, .ref zl), (1, .ref zr), (2, .int 0)] := hl
  refine lv_iload_n hx hb dM_storeLows_2 rfl (lv_at hl 0 rfl) ?_
  refine lv_bipush (v := 19) hx hb dM_storeLows_3 (by decide) ?_
  refine lv_icmp_ge (tgt := 22) hx hb dM_storeLows_5 rfl (fun hj1 => absurd hj1 (by decide)) (fun _ => ?_)
  refine lv_aload_n hx hb dM_storeLows_8 rfl (lv_at hl 2 rfl) ?_
  refine lv_iload_n hx hb dM_storeLows_9 rfl (lv_at hl 3 rfl) ?_
  refine lv_iload_n hx hb dM_storeLows_10 rfl (lv_at hl 0 rfl) ?_
  refine lv_iadd hx hb dM_storeLows_11 ?_
  refine lv_topi (fun y9 e9 => ?_)
  cases (show y9 = 0 from e9.trans (by decide))
  refine lv_aload_n hx hb dM_storeLows_12 rfl (lv_at hl 1 rfl) ?_
  refine lv_iload_n hx hb dM_storeLows_13 rfl (lv_at hl 0 rfl) ?_
  refine va_iald hx hb hK hP 0 0 rfl rfl (by unfold vp_in; decide) dM_storeLows_14 ?_
  refine va_iast hx hb hK hP hD hS 1 0 rfl rfl (by unfold vp_in; decide) dM_storeLows_15 (fun H locs hP hD hS => ?_)
  have hP : va_P D vwCl [(zl, .inl (cT 0, 19, .inl lf)), (zr, .inl (cT 0, 19, .inl (upd rf 0 (lf 0))))] H := hP
  have hD : va_D A [(zl, .inl (cT 0, 19, .inl lf)), (zr, .inl (cT 0, 19, .inl (upd rf 0 (lf 0))))] := hD
  refine lv_iinc (k := 0) (v := 1) hx hb dM_storeLows_16 hl rfl (by decide) (by decide) rfl (fun ls hl => ?_)
  have hl : lv_has ls 4 [(3, .int 1), (0, .ref zl), (1, .ref zr), (2, .int 0)] := hl
  refine lv_goto (tgt := 2) hx hb dM_storeLows_19 rfl ?_
  refine lv_iload_n hx hb dM_storeLows_2 rfl (lv_at hl 0 rfl) ?_
  refine lv_bipush (v := 19) hx hb dM_storeLows_3 (by decide) ?_
  refine lv_icmp_ge (tgt := 22) hx hb dM_storeLows_5 rfl (fun hj2 => absurd hj2 (by decide)) (fun _ => ?_)
  refine lv_aload_n hx hb dM_storeLows_8 rfl (lv_at hl 2 rfl) ?_
  refine lv_iload_n hx hb dM_storeLows_9 rfl (lv_at hl 3 rfl) ?_
  refine lv_iload_n hx hb dM_storeLows_10 rfl (lv_at hl 0 rfl) ?_
  refine lv_iadd hx hb dM_storeLows_11 ?_
  refine lv_topi (fun y9 e9 => ?_)
  cases (show y9 = 1 from e9.trans (by decide))
  refine lv_aload_n hx hb dM_storeLows_12 rfl (lv_at hl 1 rfl) ?_
  refine lv_iload_n hx hb dM_storeLows_13 rfl (lv_at hl 0 rfl) ?_
  refine va_iald hx hb hK hP 0 0 rfl rfl (by unfold vp_in; decide) dM_storeLows_14 ?_
  refine va_iast hx hb hK hP hD hS 1 0 rfl rfl (by unfold vp_in; decide) dM_storeLows_15 (fun H locs hP hD hS => ?_)
  have hP : va_P D vwCl [(zl, .inl (cT 0, 19, .inl lf)), (zr, .inl (cT 0, 19, .inl (upd (upd rf 0 (lf 0)) 1 (lf 1))))] H := hP
  have hD : va_D A [(zl, .inl (cT 0, 19, .inl lf)), (zr, .inl (cT 0, 19, .inl (upd (upd rf 0 (lf 0)) 1 (lf 1))))] := hD
  refine lv_iinc (k := 0) (v := 2) hx hb dM_storeLows_16 hl rfl (by decide) (by decide) rfl (fun ls hl => ?_)
  have hl : lv_has ls 4 [(3, .int 2), (0, .ref zl), (1, .ref zr), (2, .int 0)] := hl
  refine lv_goto (tgt := 2) hx hb dM_storeLows_19 rfl ?_
  refine lv_iload_n hx hb dM_storeLows_2 rfl (lv_at hl 0 rfl) ?_
  refine lv_bipush (v := 19) hx hb dM_storeLows_3 (by decide) ?_
  refine lv_icmp_ge (tgt := 22) hx hb dM_storeLows_5 rfl (fun hj3 => absurd hj3 (by decide)) (fun _ => ?_)
  refine lv_aload_n hx hb dM_storeLows_8 rfl (lv_at hl 2 rfl) ?_
  refine lv_iload_n hx hb dM_storeLows_9 rfl (lv_at hl 3 rfl) ?_
  refine lv_iload_n hx hb dM_storeLows_10 rfl (lv_at hl 0 rfl) ?_
  refine lv_iadd hx hb dM_storeLows_11 ?_
  refine lv_topi (fun y9 e9 => ?_)
  cases (show y9 = 2 from e9.trans (by decide))
  refine lv_aload_n hx hb dM_storeLows_12 rfl (lv_at hl 1 rfl) ?_
  refine lv_iload_n hx hb dM_storeLows_13 rfl (lv_at hl 0 rfl) ?_
  refine va_iald hx hb hK hP 0 0 rfl rfl (by unfold vp_in; decide) dM_storeLows_14 ?_
  refine va_iast hx hb hK hP hD hS 1 0 rfl rfl (by unfold vp_in; decide) dM_storeLows_15 (fun H locs hP hD hS => ?_)
  have hP : va_P D vwCl [(zl, .inl (cT 0, 19, .inl lf)), (zr, .inl (cT 0, 19, .inl (upd (upd (upd rf 0 (lf 0)) 1 (lf 1)) 2 (lf 2))))] H := hP
  have hD : va_D A [(zl, .inl (cT 0, 19, .inl lf)), (zr, .inl (cT 0, 19, .inl (upd (upd (upd rf 0 (lf 0)) 1 (lf 1)) 2 (lf 2))))] := hD
  refine lv_iinc (k := 0) (v := 3) hx hb dM_storeLows_16 hl rfl (by decide) (by decide) rfl (fun ls hl => ?_)
  have hl : lv_has ls 4 [(3, .int 3), (0, .ref zl), (1, .ref zr), (2, .int 0)] := hl
  refine lv_goto (tgt := 2) hx hb dM_storeLows_19 rfl ?_
  refine lv_iload_n hx hb dM_storeLows_2 rfl (lv_at hl 0 rfl) ?_
  refine lv_bipush (v := 19) hx hb dM_storeLows_3 (by decide) ?_
  refine lv_icmp_ge (tgt := 22) hx hb dM_storeLows_5 rfl (fun hj4 => absurd hj4 (by decide)) (fun _ => ?_)
  refine lv_aload_n hx hb dM_storeLows_8 rfl (lv_at hl 2 rfl) ?_
  refine lv_iload_n hx hb dM_storeLows_9 rfl (lv_at hl 3 rfl) ?_
  refine lv_iload_n hx hb dM_storeLows_10 rfl (lv_at hl 0 rfl) ?_
  refine lv_iadd hx hb dM_storeLows_11 ?_
  refine lv_topi (fun y9 e9 => ?_)
  cases (show y9 = 3 from e9.trans (by decide))
  refine lv_aload_n hx hb dM_storeLows_12 rfl (lv_at hl 1 rfl) ?_
  refine lv_iload_n hx hb dM_storeLows_13 rfl (lv_at hl 0 rfl) ?_
  refine va_iald hx hb hK hP 0 0 rfl rfl (by unfold vp_in; decide) dM_storeLows_14 ?_
  refine va_iast hx hb hK hP hD hS 1 0 rfl rfl (by unfold vp_in; decide) dM_storeLows_15 (fun H locs hP hD hS => ?_)
  have hP : va_P D vwCl [(zl, .inl (cT 0, 19, .inl lf)), (zr, .inl (cT 0, 19, .inl (upd (upd (upd (upd rf 0 (lf 0)) 1 (lf 1)) 2 (lf 2)) 3 (lf 3))))] H := hP
  have hD : va_D A [(zl, .inl (cT 0, 19, .inl lf)), (zr, .inl (cT 0, 19, .inl (upd (upd (upd (upd rf 0 (lf 0)) 1 (lf 1)) 2 (lf 2)) 3 (lf 3))))] := hD
  refine lv_iinc (k := 0) (v := 4) hx hb dM_storeLows_16 hl rfl (by decide) (by decide) rfl (fun ls hl => ?_)
  have hl : lv_has ls 4 [(3, .int 4), (0, .ref zl), (1, .ref zr), (2, .int 0)] := hl
  refine lv_goto (tgt := 2) hx hb dM_storeLows_19 rfl ?_
  refine lv_iload_n hx hb dM_storeLows_2 rfl (lv_at hl 0 rfl) ?_
  refine lv_bipush (v := 19) hx hb dM_storeLows_3 (by decide) ?_
  refine lv_icmp_ge (tgt := 22) hx hb dM_storeLows_5 rfl (fun hj5 => absurd hj5 (by decide)) (fun _ => ?_)
  refine lv_aload_n hx hb dM_storeLows_8 rfl (lv_at hl 2 rfl) ?_
  refine lv_iload_n hx hb dM_storeLows_9 rfl (lv_at hl 3 rfl) ?_
  refine lv_iload_n hx hb dM_storeLows_10 rfl (lv_at hl 0 rfl) ?_
  refine lv_iadd hx hb dM_storeLows_11 ?_
  refine lv_topi (fun y9 e9 => ?_)
  cases (show y9 = 4 from e9.trans (by decide))
  refine lv_aload_n hx hb dM_storeLows_12 rfl (lv_at hl 1 rfl) ?_
  refine lv_iload_n hx hb dM_storeLows_13 rfl (lv_at hl 0 rfl) ?_
  refine va_iald hx hb hK hP 0 0 rfl rfl (by unfold vp_in; decide) dM_storeLows_14 ?_
  refine va_iast hx hb hK hP hD hS 1 0 rfl rfl (by unfold vp_in; decide) dM_storeLows_15 (fun H locs hP hD hS => ?_)
  have hP : va_P D vwCl [(zl, .inl (cT 0, 19, .inl lf)), (zr, .inl (cT 0, 19, .inl (upd (upd (upd (upd (upd rf 0 (lf 0)) 1 (lf 1)) 2 (lf 2)) 3 (lf 3)) 4 (lf 4))))] H := hP
  have hD : va_D A [(zl, .inl (cT 0, 19, .inl lf)), (zr, .inl (cT 0, 19, .inl (upd (upd (upd (upd (upd rf 0 (lf 0)) 1 (lf 1)) 2 (lf 2)) 3 (lf 3)) 4 (lf 4))))] := hD
  refine lv_iinc (k := 0) (v := 5) hx hb dM_storeLows_16 hl rfl (by decide) (by decide) rfl (fun ls hl => ?_)
  have hl : lv_has ls 4 [(3, .int 5), (0, .ref zl), (1, .ref zr), (2, .int 0)] := hl
  refine lv_goto (tgt := 2) hx hb dM_storeLows_19 rfl ?_
  refine lv_iload_n hx hb dM_storeLows_2 rfl (lv_at hl 0 rfl) ?_
  refine lv_bipush (v := 19) hx hb dM_storeLows_3 (by decide) ?_
  refine lv_icmp_ge (tgt := 22) hx hb dM_storeLows_5 rfl (fun hj6 => absurd hj6 (by decide)) (fun _ => ?_)
  refine lv_aload_n hx hb dM_storeLows_8 rfl (lv_at hl 2 rfl) ?_
  refine lv_iload_n hx hb dM_storeLows_9 rfl (lv_at hl 3 rfl) ?_
  refine lv_iload_n hx hb dM_storeLows_10 rfl (lv_at hl 0 rfl) ?_
  refine lv_iadd hx hb dM_storeLows_11 ?_
  refine lv_topi (fun y9 e9 => ?_)
  cases (show y9 = 5 from e9.trans (by decide))
  refine lv_aload_n hx hb dM_storeLows_12 rfl (lv_at hl 1 rfl) ?_
  refine lv_iload_n hx hb dM_storeLows_13 rfl (lv_at hl 0 rfl) ?_
  refine va_iald hx hb hK hP 0 0 rfl rfl (by unfold vp_in; decide) dM_storeLows_14 ?_
  refine va_iast hx hb hK hP hD hS 1 0 rfl rfl (by unfold vp_in; decide) dM_storeLows_15 (fun H locs hP hD hS => ?_)
  have hP : va_P D vwCl [(zl, .inl (cT 0, 19, .inl lf)), (zr, .inl (cT 0, 19, .inl (upd (upd (upd (upd (upd (upd rf 0 (lf 0)) 1 (lf 1)) 2 (lf 2)) 3 (lf 3)) 4 (lf 4)) 5 (lf 5))))] H := hP
  have hD : va_D A [(zl, .inl (cT 0, 19, .inl lf)), (zr, .inl (cT 0, 19, .inl (upd (upd (upd (upd (upd (upd rf 0 (lf 0)) 1 (lf 1)) 2 (lf 2)) 3 (lf 3)) 4 (lf 4)) 5 (lf 5))))] := hD
  refine lv_iinc (k := 0) (v := 6) hx hb dM_storeLows_16 hl rfl (by decide) (by decide) rfl (fun ls hl => ?_)
  have hl : lv_has ls 4 [(3, .int 6), (0, .ref zl), (1, .ref zr), (2, .int 0)] := hl
  refine lv_goto (tgt := 2) hx hb dM_storeLows_19 rfl ?_
  refine lv_iload_n hx hb dM_storeLows_2 rfl (lv_at hl 0 rfl) ?_
  refine lv_bipush (v := 19) hx hb dM_storeLows_3 (by decide) ?_
  refine lv_icmp_ge (tgt := 22) hx hb dM_storeLows_5 rfl (fun hj7 => absurd hj7 (by decide)) (fun _ => ?_)
  refine lv_aload_n hx hb dM_storeLows_8 rfl (lv_at hl 2 rfl) ?_
  refine lv_iload_n hx hb dM_storeLows_9 rfl (lv_at hl 3 rfl) ?_
  refine lv_iload_n hx hb dM_storeLows_10 rfl (lv_at hl 0 rfl) ?_
  refine lv_iadd hx hb dM_storeLows_11 ?_
  refine lv_topi (fun y9 e9 => ?_)
  cases (show y9 = 6 from e9.trans (by decide))
  refine lv_aload_n hx hb dM_storeLows_12 rfl (lv_at hl 1 rfl) ?_
  refine lv_iload_n hx hb dM_storeLows_13 rfl (lv_at hl 0 rfl) ?_
  refine va_iald hx hb hK hP 0 0 rfl rfl (by unfold vp_in; decide) dM_storeLows_14 ?_
  refine va_iast hx hb hK hP hD hS 1 0 rfl rfl (by unfold vp_in; decide) dM_storeLows_15 (fun H locs hP hD hS => ?_)
  have hP : va_P D vwCl [(zl, .inl (cT 0, 19, .inl lf)), (zr, .inl (cT 0, 19, .inl (upd (upd (upd (upd (upd (upd (upd rf 0 (lf 0)) 1 (lf 1)) 2 (lf 2)) 3 (lf 3)) 4 (lf 4)) 5 (lf 5)) 6 (lf 6))))] H := hP
  have hD : va_D A [(zl, .inl (cT 0, 19, .inl lf)), (zr, .inl (cT 0, 19, .inl (upd (upd (upd (upd (upd (upd (upd rf 0 (lf 0)) 1 (lf 1)) 2 (lf 2)) 3 (lf 3)) 4 (lf 4)) 5 (lf 5)) 6 (lf 6))))] := hD
  refine lv_iinc (k := 0) (v := 7) hx hb dM_storeLows_16 hl rfl (by decide) (by decide) rfl (fun ls hl => ?_)
  have hl : lv_has ls 4 [(3, .int 7), (0, .ref zl), (1, .ref zr), (2, .int 0)] := hl
  refine lv_goto (tgt := 2) hx hb dM_storeLows_19 rfl ?_
  refine lv_iload_n hx hb dM_storeLows_2 rfl (lv_at hl 0 rfl) ?_
  refine lv_bipush (v := 19) hx hb dM_storeLows_3 (by decide) ?_
  refine lv_icmp_ge (tgt := 22) hx hb dM_storeLows_5 rfl (fun hj8 => absurd hj8 (by decide)) (fun _ => ?_)
  refine lv_aload_n hx hb dM_storeLows_8 rfl (lv_at hl 2 rfl) ?_
  refine lv_iload_n hx hb dM_storeLows_9 rfl (lv_at hl 3 rfl) ?_
  refine lv_iload_n hx hb dM_storeLows_10 rfl (lv_at hl 0 rfl) ?_
  refine lv_iadd hx hb dM_storeLows_11 ?_
  refine lv_topi (fun y9 e9 => ?_)
  cases (show y9 = 7 from e9.trans (by decide))
  refine lv_aload_n hx hb dM_storeLows_12 rfl (lv_at hl 1 rfl) ?_
  refine lv_iload_n hx hb dM_storeLows_13 rfl (lv_at hl 0 rfl) ?_
  refine va_iald hx hb hK hP 0 0 rfl rfl (by unfold vp_in; decide) dM_storeLows_14 ?_
  refine va_iast hx hb hK hP hD hS 1 0 rfl rfl (by unfold vp_in; decide) dM_storeLows_15 (fun H locs hP hD hS => ?_)
  have hP : va_P D vwCl [(zl, .inl (cT 0, 19, .inl lf)), (zr, .inl (cT 0, 19, .inl (upd (upd (upd (upd (upd (upd (upd (upd rf 0 (lf 0)) 1 (lf 1)) 2 (lf 2)) 3 (lf 3)) 4 (lf 4)) 5 (lf 5)) 6 (lf 6)) 7 (lf 7))))] H := hP
  have hD : va_D A [(zl, .inl (cT 0, 19, .inl lf)), (zr, .inl (cT 0, 19, .inl (upd (upd (upd (upd (upd (upd (upd (upd rf 0 (lf 0)) 1 (lf 1)) 2 (lf 2)) 3 (lf 3)) 4 (lf 4)) 5 (lf 5)) 6 (lf 6)) 7 (lf 7))))] := hD
  refine lv_iinc (k := 0) (v := 8) hx hb dM_storeLows_16 hl rfl (by decide) (by decide) rfl (fun ls hl => ?_)
  have hl : lv_has ls 4 [(3, .int 8), (0, .ref zl), (1, .ref zr), (2, .int 0)] := hl
  refine lv_goto (tgt := 2) hx hb dM_storeLows_19 rfl ?_
  refine lv_iload_n hx hb dM_storeLows_2 rfl (lv_at hl 0 rfl) ?_
  refine lv_bipush (v := 19) hx hb dM_storeLows_3 (by decide) ?_
  refine lv_icmp_ge (tgt := 22) hx hb dM_storeLows_5 rfl (fun hj9 => absurd hj9 (by decide)) (fun _ => ?_)
  refine lv_aload_n hx hb dM_storeLows_8 rfl (lv_at hl 2 rfl) ?_
  refine lv_iload_n hx hb dM_storeLows_9 rfl (lv_at hl 3 rfl) ?_
  refine lv_iload_n hx hb dM_storeLows_10 rfl (lv_at hl 0 rfl) ?_
  refine lv_iadd hx hb dM_storeLows_11 ?_
  refine lv_topi (fun y9 e9 => ?_)
  cases (show y9 = 8 from e9.trans (by decide))
  refine lv_aload_n hx hb dM_storeLows_12 rfl (lv_at hl 1 rfl) ?_
  refine lv_iload_n hx hb dM_storeLows_13 rfl (lv_at hl 0 rfl) ?_
  refine va_iald hx hb hK hP 0 0 rfl rfl (by unfold vp_in; decide) dM_storeLows_14 ?_
  refine va_iast hx hb hK hP hD hS 1 0 rfl rfl (by unfold vp_in; decide) dM_storeLows_15 (fun H locs hP hD hS => ?_)
  have hP : va_P D vwCl [(zl, .inl (cT 0, 19, .inl lf)), (zr, .inl (cT 0, 19, .inl (upd (upd (upd (upd (upd (upd (upd (upd (upd rf 0 (lf 0)) 1 (lf 1)) 2 (lf 2)) 3 (lf 3)) 4 (lf 4)) 5 (lf 5)) 6 (lf 6)) 7 (lf 7)) 8 (lf 8))))] H := hP
  have hD : va_D A [(zl, .inl (cT 0, 19, .inl lf)), (zr, .inl (cT 0, 19, .inl (upd (upd (upd (upd (upd (upd (upd (upd (upd rf 0 (lf 0)) 1 (lf 1)) 2 (lf 2)) 3 (lf 3)) 4 (lf 4)) 5 (lf 5)) 6 (lf 6)) 7 (lf 7)) 8 (lf 8))))] := hD
  refine lv_iinc (k := 0) (v := 9) hx hb dM_storeLows_16 hl rfl (by decide) (by decide) rfl (fun ls hl => ?_)
  have hl : lv_has ls 4 [(3, .int 9), (0, .ref zl), (1, .ref zr), (2, .int 0)] := hl
  refine lv_goto (tgt := 2) hx hb dM_storeLows_19 rfl ?_
  refine lv_iload_n hx hb dM_storeLows_2 rfl (lv_at hl 0 rfl) ?_
  refine lv_bipush (v := 19) hx hb dM_storeLows_3 (by decide) ?_
  refine lv_icmp_ge (tgt := 22) hx hb dM_storeLows_5 rfl (fun hj10 => absurd hj10 (by decide)) (fun _ => ?_)
  refine lv_aload_n hx hb dM_storeLows_8 rfl (lv_at hl 2 rfl) ?_
  refine lv_iload_n hx hb dM_storeLows_9 rfl (lv_at hl 3 rfl) ?_
  refine lv_iload_n hx hb dM_storeLows_10 rfl (lv_at hl 0 rfl) ?_
  refine lv_iadd hx hb dM_storeLows_11 ?_
  refine lv_topi (fun y9 e9 => ?_)
  cases (show y9 = 9 from e9.trans (by decide))
  refine lv_aload_n hx hb dM_storeLows_12 rfl (lv_at hl 1 rfl) ?_
  refine lv_iload_n hx hb dM_storeLows_13 rfl (lv_at hl 0 rfl) ?_
  refine va_iald hx hb hK hP 0 0 rfl rfl (by unfold vp_in; decide) dM_storeLows_14 ?_
  refine va_iast hx hb hK hP hD hS 1 0 rfl rfl (by unfold vp_in; decide) dM_storeLows_15 (fun H locs hP hD hS => ?_)
  have hP : va_P D vwCl [(zl, .inl (cT 0, 19, .inl lf)), (zr, .inl (cT 0, 19, .inl (upd (upd (upd (upd (upd (upd (upd (upd (upd (upd rf 0 (lf 0)) 1 (lf 1)) 2 (lf 2)) 3 (lf 3)) 4 (lf 4)) 5 (lf 5)) 6 (lf 6)) 7 (lf 7)) 8 (lf 8)) 9 (lf 9))))] H := hP
  have hD : va_D A [(zl, .inl (cT 0, 19, .inl lf)), (zr, .inl (cT 0, 19, .inl (upd (upd (upd (upd (upd (upd (upd (upd (upd (upd rf 0 (lf 0)) 1 (lf 1)) 2 (lf 2)) 3 (lf 3)) 4 (lf 4)) 5 (lf 5)) 6 (lf 6)) 7 (lf 7)) 8 (lf 8)) 9 (lf 9))))] := hD
  refine lv_iinc (k := 0) (v := 10) hx hb dM_storeLows_16 hl rfl (by decide) (by decide) rfl (fun ls hl => ?_)
  have hl : lv_has ls 4 [(3, .int 10), (0, .ref zl), (1, .ref zr), (2, .int 0)] := hl
  refine lv_goto (tgt := 2) hx hb dM_storeLows_19 rfl ?_
  refine lv_iload_n hx hb dM_storeLows_2 rfl (lv_at hl 0 rfl) ?_
  refine lv_bipush (v := 19) hx hb dM_storeLows_3 (by decide) ?_
  refine lv_icmp_ge (tgt := 22) hx hb dM_storeLows_5 rfl (fun hj11 => absurd hj11 (by decide)) (fun _ => ?_)
  refine lv_aload_n hx hb dM_storeLows_8 rfl (lv_at hl 2 rfl) ?_
  refine lv_iload_n hx hb dM_storeLows_9 rfl (lv_at hl 3 rfl) ?_
  refine lv_iload_n hx hb dM_storeLows_10 rfl (lv_at hl 0 rfl) ?_
  refine lv_iadd hx hb dM_storeLows_11 ?_
  refine lv_topi (fun y9 e9 => ?_)
  cases (show y9 = 10 from e9.trans (by decide))
  refine lv_aload_n hx hb dM_storeLows_12 rfl (lv_at hl 1 rfl) ?_
  refine lv_iload_n hx hb dM_storeLows_13 rfl (lv_at hl 0 rfl) ?_
  refine va_iald hx hb hK hP 0 0 rfl rfl (by unfold vp_in; decide) dM_storeLows_14 ?_
  refine va_iast hx hb hK hP hD hS 1 0 rfl rfl (by unfold vp_in; decide) dM_storeLows_15 (fun H locs hP hD hS => ?_)
  have hP : va_P D vwCl [(zl, .inl (cT 0, 19, .inl lf)), (zr, .inl (cT 0, 19, .inl (upd (upd (upd (upd (upd (upd (upd (upd (upd (upd (upd rf 0 (lf 0)) 1 (lf 1)) 2 (lf 2)) 3 (lf 3)) 4 (lf 4)) 5 (lf 5)) 6 (lf 6)) 7 (lf 7)) 8 (lf 8)) 9 (lf 9)) 10 (lf 10))))] H := hP
  have hD : va_D A [(zl, .inl (cT 0, 19, .inl lf)), (zr, .inl (cT 0, 19, .inl (upd (upd (upd (upd (upd (upd (upd (upd (upd (upd (upd rf 0 (lf 0)) 1 (lf 1)) 2 (lf 2)) 3 (lf 3)) 4 (lf 4)) 5 (lf 5)) 6 (lf 6)) 7 (lf 7)) 8 (lf 8)) 9 (lf 9)) 10 (lf 10))))] := hD
  refine lv_iinc (k := 0) (v := 11) hx hb dM_storeLows_16 hl rfl (by decide) (by decide) rfl (fun ls hl => ?_)
  have hl : lv_has ls 4 [(3, .int 11), (0, .ref zl), (1, .ref zr), (2, .int 0)] := hl
  refine lv_goto (tgt := 2) hx hb dM_storeLows_19 rfl ?_
  refine lv_iload_n hx hb dM_storeLows_2 rfl (lv_at hl 0 rfl) ?_
  refine lv_bipush (v := 19) hx hb dM_storeLows_3 (by decide) ?_
  refine lv_icmp_ge (tgt := 22) hx hb dM_storeLows_5 rfl (fun hj12 => absurd hj12 (by decide)) (fun _ => ?_)
  refine lv_aload_n hx hb dM_storeLows_8 rfl (lv_at hl 2 rfl) ?_
  refine lv_iload_n hx hb dM_storeLows_9 rfl (lv_at hl 3 rfl) ?_
  refine lv_iload_n hx hb dM_storeLows_10 rfl (lv_at hl 0 rfl) ?_
  refine lv_iadd hx hb dM_storeLows_11 ?_
  refine lv_topi (fun y9 e9 => ?_)
  cases (show y9 = 11 from e9.trans (by decide))
  refine lv_aload_n hx hb dM_storeLows_12 rfl (lv_at hl 1 rfl) ?_
  refine lv_iload_n hx hb dM_storeLows_13 rfl (lv_at hl 0 rfl) ?_
  refine va_iald hx hb hK hP 0 0 rfl rfl (by unfold vp_in; decide) dM_storeLows_14 ?_
  refine va_iast hx hb hK hP hD hS 1 0 rfl rfl (by unfold vp_in; decide) dM_storeLows_15 (fun H locs hP hD hS => ?_)
  have hP : va_P D vwCl [(zl, .inl (cT 0, 19, .inl lf)), (zr, .inl (cT 0, 19, .inl (upd (upd (upd (upd (upd (upd (upd (upd (upd (upd (upd (upd rf 0 (lf 0)) 1 (lf 1)) 2 (lf 2)) 3 (lf 3)) 4 (lf 4)) 5 (lf 5)) 6 (lf 6)) 7 (lf 7)) 8 (lf 8)) 9 (lf 9)) 10 (lf 10)) 11 (lf 11))))] H := hP
  have hD : va_D A [(zl, .inl (cT 0, 19, .inl lf)), (zr, .inl (cT 0, 19, .inl (upd (upd (upd (upd (upd (upd (upd (upd (upd (upd (upd (upd rf 0 (lf 0)) 1 (lf 1)) 2 (lf 2)) 3 (lf 3)) 4 (lf 4)) 5 (lf 5)) 6 (lf 6)) 7 (lf 7)) 8 (lf 8)) 9 (lf 9)) 10 (lf 10)) 11 (lf 11))))] := hD
  refine lv_iinc (k := 0) (v := 12) hx hb dM_storeLows_16 hl rfl (by decide) (by decide) rfl (fun ls hl => ?_)
  have hl : lv_has ls 4 [(3, .int 12), (0, .ref zl), (1, .ref zr), (2, .int 0)] := hl
  refine lv_goto (tgt := 2) hx hb dM_storeLows_19 rfl ?_
  refine lv_iload_n hx hb dM_storeLows_2 rfl (lv_at hl 0 rfl) ?_
  refine lv_bipush (v := 19) hx hb dM_storeLows_3 (by decide) ?_
  refine lv_icmp_ge (tgt := 22) hx hb dM_storeLows_5 rfl (fun hj13 => absurd hj13 (by decide)) (fun _ => ?_)
  refine lv_aload_n hx hb dM_storeLows_8 rfl (lv_at hl 2 rfl) ?_
  refine lv_iload_n hx hb dM_storeLows_9 rfl (lv_at hl 3 rfl) ?_
  refine lv_iload_n hx hb dM_storeLows_10 rfl (lv_at hl 0 rfl) ?_
  refine lv_iadd hx hb dM_storeLows_11 ?_
  refine lv_topi (fun y9 e9 => ?_)
  cases (show y9 = 12 from e9.trans (by decide))
  refine lv_aload_n hx hb dM_storeLows_12 rfl (lv_at hl 1 rfl) ?_
  refine lv_iload_n hx hb dM_storeLows_13 rfl (lv_at hl 0 rfl) ?_
  refine va_iald hx hb hK hP 0 0 rfl rfl (by unfold vp_in; decide) dM_storeLows_14 ?_
  refine va_iast hx hb hK hP hD hS 1 0 rfl rfl (by unfold vp_in; decide) dM_storeLows_15 (fun H locs hP hD hS => ?_)
  have hP : va_P D vwCl [(zl, .inl (cT 0, 19, .inl lf)), (zr, .inl (cT 0, 19, .inl (upd (upd (upd (upd (upd (upd (upd (upd (upd (upd (upd (upd (upd rf 0 (lf 0)) 1 (lf 1)) 2 (lf 2)) 3 (lf 3)) 4 (lf 4)) 5 (lf 5)) 6 (lf 6)) 7 (lf 7)) 8 (lf 8)) 9 (lf 9)) 10 (lf 10)) 11 (lf 11)) 12 (lf 12))))] H := hP
  have hD : va_D A [(zl, .inl (cT 0, 19, .inl lf)), (zr, .inl (cT 0, 19, .inl (upd (upd (upd (upd (upd (upd (upd (upd (upd (upd (upd (upd (upd rf 0 (lf 0)) 1 (lf 1)) 2 (lf 2)) 3 (lf 3)) 4 (lf 4)) 5 (lf 5)) 6 (lf 6)) 7 (lf 7)) 8 (lf 8)) 9 (lf 9)) 10 (lf 10)) 11 (lf 11)) 12 (lf 12))))] := hD
  refine lv_iinc (k := 0) (v := 13) hx hb dM_storeLows_16 hl rfl (by decide) (by decide) rfl (fun ls hl => ?_)
  have hl : lv_has ls 4 [(3, .int 13), (0, .ref zl), (1, .ref zr), (2, .int 0)] := hl
  refine lv_goto (tgt := 2) hx hb dM_storeLows_19 rfl ?_
  refine lv_iload_n hx hb dM_storeLows_2 rfl (lv_at hl 0 rfl) ?_
  refine lv_bipush (v := 19) hx hb dM_storeLows_3 (by decide) ?_
  refine lv_icmp_ge (tgt := 22) hx hb dM_storeLows_5 rfl (fun hj14 => absurd hj14 (by decide)) (fun _ => ?_)
  refine lv_aload_n hx hb dM_storeLows_8 rfl (lv_at hl 2 rfl) ?_
  refine lv_iload_n hx hb dM_storeLows_9 rfl (lv_at hl 3 rfl) ?_
  refine lv_iload_n hx hb dM_storeLows_10 rfl (lv_at hl 0 rfl) ?_
  refine lv_iadd hx hb dM_storeLows_11 ?_
  refine lv_topi (fun y9 e9 => ?_)
  cases (show y9 = 13 from e9.trans (by decide))
  refine lv_aload_n hx hb dM_storeLows_12 rfl (lv_at hl 1 rfl) ?_
  refine lv_iload_n hx hb dM_storeLows_13 rfl (lv_at hl 0 rfl) ?_
  refine va_iald hx hb hK hP 0 0 rfl rfl (by unfold vp_in; decide) dM_storeLows_14 ?_
  refine va_iast hx hb hK hP hD hS 1 0 rfl rfl (by unfold vp_in; decide) dM_storeLows_15 (fun H locs hP hD hS => ?_)
  have hP : va_P D vwCl [(zl, .inl (cT 0, 19, .inl lf)), (zr, .inl (cT 0, 19, .inl (upd (upd (upd (upd (upd (upd (upd (upd (upd (upd (upd (upd (upd (upd rf 0 (lf 0)) 1 (lf 1)) 2 (lf 2)) 3 (lf 3)) 4 (lf 4)) 5 (lf 5)) 6 (lf 6)) 7 (lf 7)) 8 (lf 8)) 9 (lf 9)) 10 (lf 10)) 11 (lf 11)) 12 (lf 12)) 13 (lf 13))))] H := hP
  have hD : va_D A [(zl, .inl (cT 0, 19, .inl lf)), (zr, .inl (cT 0, 19, .inl (upd (upd (upd (upd (upd (upd (upd (upd (upd (upd (upd (upd (upd (upd rf 0 (lf 0)) 1 (lf 1)) 2 (lf 2)) 3 (lf 3)) 4 (lf 4)) 5 (lf 5)) 6 (lf 6)) 7 (lf 7)) 8 (lf 8)) 9 (lf 9)) 10 (lf 10)) 11 (lf 11)) 12 (lf 12)) 13 (lf 13))))] := hD
  refine lv_iinc (k := 0) (v := 14) hx hb dM_storeLows_16 hl rfl (by decide) (by decide) rfl (fun ls hl => ?_)
  have hl : lv_has ls 4 [(3, .int 14), (0, .ref zl), (1, .ref zr), (2, .int 0)] := hl
  refine lv_goto (tgt := 2) hx hb dM_storeLows_19 rfl ?_
  refine lv_iload_n hx hb dM_storeLows_2 rfl (lv_at hl 0 rfl) ?_
  refine lv_bipush (v := 19) hx hb dM_storeLows_3 (by decide) ?_
  refine lv_icmp_ge (tgt := 22) hx hb dM_storeLows_5 rfl (fun hj15 => absurd hj15 (by decide)) (fun _ => ?_)
  refine lv_aload_n hx hb dM_storeLows_8 rfl (lv_at hl 2 rfl) ?_
  refine lv_iload_n hx hb dM_storeLows_9 rfl (lv_at hl 3 rfl) ?_
  refine lv_iload_n hx hb dM_storeLows_10 rfl (lv_at hl 0 rfl) ?_
  refine lv_iadd hx hb dM_storeLows_11 ?_
  refine lv_topi (fun y9 e9 => ?_)
  cases (show y9 = 14 from e9.trans (by decide))
  refine lv_aload_n hx hb dM_storeLows_12 rfl (lv_at hl 1 rfl) ?_
  refine lv_iload_n hx hb dM_storeLows_13 rfl (lv_at hl 0 rfl) ?_
  refine va_iald hx hb hK hP 0 0 rfl rfl (by unfold vp_in; decide) dM_storeLows_14 ?_
  refine va_iast hx hb hK hP hD hS 1 0 rfl rfl (by unfold vp_in; decide) dM_storeLows_15 (fun H locs hP hD hS => ?_)
  have hP : va_P D vwCl [(zl, .inl (cT 0, 19, .inl lf)), (zr, .inl (cT 0, 19, .inl (upd (upd (upd (upd (upd (upd (upd (upd (upd (upd (upd (upd (upd (upd (upd rf 0 (lf 0)) 1 (lf 1)) 2 (lf 2)) 3 (lf 3)) 4 (lf 4)) 5 (lf 5)) 6 (lf 6)) 7 (lf 7)) 8 (lf 8)) 9 (lf 9)) 10 (lf 10)) 11 (lf 11)) 12 (lf 12)) 13 (lf 13)) 14 (lf 14))))] H := hP
  have hD : va_D A [(zl, .inl (cT 0, 19, .inl lf)), (zr, .inl (cT 0, 19, .inl (upd (upd (upd (upd (upd (upd (upd (upd (upd (upd (upd (upd (upd (upd (upd rf 0 (lf 0)) 1 (lf 1)) 2 (lf 2)) 3 (lf 3)) 4 (lf 4)) 5 (lf 5)) 6 (lf 6)) 7 (lf 7)) 8 (lf 8)) 9 (lf 9)) 10 (lf 10)) 11 (lf 11)) 12 (lf 12)) 13 (lf 13)) 14 (lf 14))))] := hD
  refine lv_iinc (k := 0) (v := 15) hx hb dM_storeLows_16 hl rfl (by decide) (by decide) rfl (fun ls hl => ?_)
  have hl : lv_has ls 4 [(3, .int 15), (0, .ref zl), (1, .ref zr), (2, .int 0)] := hl
  refine lv_goto (tgt := 2) hx hb dM_storeLows_19 rfl ?_
  refine lv_iload_n hx hb dM_storeLows_2 rfl (lv_at hl 0 rfl) ?_
  refine lv_bipush (v := 19) hx hb dM_storeLows_3 (by decide) ?_
  refine lv_icmp_ge (tgt := 22) hx hb dM_storeLows_5 rfl (fun hj16 => absurd hj16 (by decide)) (fun _ => ?_)
  refine lv_aload_n hx hb dM_storeLows_8 rfl (lv_at hl 2 rfl) ?_
  refine lv_iload_n hx hb dM_storeLows_9 rfl (lv_at hl 3 rfl) ?_
  refine lv_iload_n hx hb dM_storeLows_10 rfl (lv_at hl 0 rfl) ?_
  refine lv_iadd hx hb dM_storeLows_11 ?_
  refine lv_topi (fun y9 e9 => ?_)
  cases (show y9 = 15 from e9.trans (by decide))
  refine lv_aload_n hx hb dM_storeLows_12 rfl (lv_at hl 1 rfl) ?_
  refine lv_iload_n hx hb dM_storeLows_13 rfl (lv_at hl 0 rfl) ?_
  refine va_iald hx hb hK hP 0 0 rfl rfl (by unfold vp_in; decide) dM_storeLows_14 ?_
  refine va_iast hx hb hK hP hD hS 1 0 rfl rfl (by unfold vp_in; decide) dM_storeLows_15 (fun H locs hP hD hS => ?_)
  have hP : va_P D vwCl [(zl, .inl (cT 0, 19, .inl lf)), (zr, .inl (cT 0, 19, .inl (upd (upd (upd (upd (upd (upd (upd (upd (upd (upd (upd (upd (upd (upd (upd (upd rf 0 (lf 0)) 1 (lf 1)) 2 (lf 2)) 3 (lf 3)) 4 (lf 4)) 5 (lf 5)) 6 (lf 6)) 7 (lf 7)) 8 (lf 8)) 9 (lf 9)) 10 (lf 10)) 11 (lf 11)) 12 (lf 12)) 13 (lf 13)) 14 (lf 14)) 15 (lf 15))))] H := hP
  have hD : va_D A [(zl, .inl (cT 0, 19, .inl lf)), (zr, .inl (cT 0, 19, .inl (upd (upd (upd (upd (upd (upd (upd (upd (upd (upd (upd (upd (upd (upd (upd (upd rf 0 (lf 0)) 1 (lf 1)) 2 (lf 2)) 3 (lf 3)) 4 (lf 4)) 5 (lf 5)) 6 (lf 6)) 7 (lf 7)) 8 (lf 8)) 9 (lf 9)) 10 (lf 10)) 11 (lf 11)) 12 (lf 12)) 13 (lf 13)) 14 (lf 14)) 15 (lf 15))))] := hD
  refine lv_iinc (k := 0) (v := 16) hx hb dM_storeLows_16 hl rfl (by decide) (by decide) rfl (fun ls hl => ?_)
  have hl : lv_has ls 4 [(3, .int 16), (0, .ref zl), (1, .ref zr), (2, .int 0)] := hl
  refine lv_goto (tgt := 2) hx hb dM_storeLows_19 rfl ?_
  refine lv_iload_n hx hb dM_storeLows_2 rfl (lv_at hl 0 rfl) ?_
  refine lv_bipush (v := 19) hx hb dM_storeLows_3 (by decide) ?_
  refine lv_icmp_ge (tgt := 22) hx hb dM_storeLows_5 rfl (fun hj17 => absurd hj17 (by decide)) (fun _ => ?_)
  refine lv_aload_n hx hb dM_storeLows_8 rfl (lv_at hl 2 rfl) ?_
  refine lv_iload_n hx hb dM_storeLows_9 rfl (lv_at hl 3 rfl) ?_
  refine lv_iload_n hx hb dM_storeLows_10 rfl (lv_at hl 0 rfl) ?_
  refine lv_iadd hx hb dM_storeLows_11 ?_
  refine lv_topi (fun y9 e9 => ?_)
  cases (show y9 = 16 from e9.trans (by decide))
  refine lv_aload_n hx hb dM_storeLows_12 rfl (lv_at hl 1 rfl) ?_
  refine lv_iload_n hx hb dM_storeLows_13 rfl (lv_at hl 0 rfl) ?_
  refine va_iald hx hb hK hP 0 0 rfl rfl (by unfold vp_in; decide) dM_storeLows_14 ?_
  refine va_iast hx hb hK hP hD hS 1 0 rfl rfl (by unfold vp_in; decide) dM_storeLows_15 (fun H locs hP hD hS => ?_)
  have hP : va_P D vwCl [(zl, .inl (cT 0, 19, .inl lf)), (zr, .inl (cT 0, 19, .inl (upd (upd (upd (upd (upd (upd (upd (upd (upd (upd (upd (upd (upd (upd (upd (upd (upd rf 0 (lf 0)) 1 (lf 1)) 2 (lf 2)) 3 (lf 3)) 4 (lf 4)) 5 (lf 5)) 6 (lf 6)) 7 (lf 7)) 8 (lf 8)) 9 (lf 9)) 10 (lf 10)) 11 (lf 11)) 12 (lf 12)) 13 (lf 13)) 14 (lf 14)) 15 (lf 15)) 16 (lf 16))))] H := hP
  have hD : va_D A [(zl, .inl (cT 0, 19, .inl lf)), (zr, .inl (cT 0, 19, .inl (upd (upd (upd (upd (upd (upd (upd (upd (upd (upd (upd (upd (upd (upd (upd (upd (upd rf 0 (lf 0)) 1 (lf 1)) 2 (lf 2)) 3 (lf 3)) 4 (lf 4)) 5 (lf 5)) 6 (lf 6)) 7 (lf 7)) 8 (lf 8)) 9 (lf 9)) 10 (lf 10)) 11 (lf 11)) 12 (lf 12)) 13 (lf 13)) 14 (lf 14)) 15 (lf 15)) 16 (lf 16))))] := hD
  refine lv_iinc (k := 0) (v := 17) hx hb dM_storeLows_16 hl rfl (by decide) (by decide) rfl (fun ls hl => ?_)
  have hl : lv_has ls 4 [(3, .int 17), (0, .ref zl), (1, .ref zr), (2, .int 0)] := hl
  refine lv_goto (tgt := 2) hx hb dM_storeLows_19 rfl ?_
  refine lv_iload_n hx hb dM_storeLows_2 rfl (lv_at hl 0 rfl) ?_
  refine lv_bipush (v := 19) hx hb dM_storeLows_3 (by decide) ?_
  refine lv_icmp_ge (tgt := 22) hx hb dM_storeLows_5 rfl (fun hj18 => absurd hj18 (by decide)) (fun _ => ?_)
  refine lv_aload_n hx hb dM_storeLows_8 rfl (lv_at hl 2 rfl) ?_
  refine lv_iload_n hx hb dM_storeLows_9 rfl (lv_at hl 3 rfl) ?_
  refine lv_iload_n hx hb dM_storeLows_10 rfl (lv_at hl 0 rfl) ?_
  refine lv_iadd hx hb dM_storeLows_11 ?_
  refine lv_topi (fun y9 e9 => ?_)
  cases (show y9 = 17 from e9.trans (by decide))
  refine lv_aload_n hx hb dM_storeLows_12 rfl (lv_at hl 1 rfl) ?_
  refine lv_iload_n hx hb dM_storeLows_13 rfl (lv_at hl 0 rfl) ?_
  refine va_iald hx hb hK hP 0 0 rfl rfl (by unfold vp_in; decide) dM_storeLows_14 ?_
  refine va_iast hx hb hK hP hD hS 1 0 rfl rfl (by unfold vp_in; decide) dM_storeLows_15 (fun H locs hP hD hS => ?_)
  have hP : va_P D vwCl [(zl, .inl (cT 0, 19, .inl lf)), (zr, .inl (cT 0, 19, .inl (upd (upd (upd (upd (upd (upd (upd (upd (upd (upd (upd (upd (upd (upd (upd (upd (upd (upd rf 0 (lf 0)) 1 (lf 1)) 2 (lf 2)) 3 (lf 3)) 4 (lf 4)) 5 (lf 5)) 6 (lf 6)) 7 (lf 7)) 8 (lf 8)) 9 (lf 9)) 10 (lf 10)) 11 (lf 11)) 12 (lf 12)) 13 (lf 13)) 14 (lf 14)) 15 (lf 15)) 16 (lf 16)) 17 (lf 17))))] H := hP
  have hD : va_D A [(zl, .inl (cT 0, 19, .inl lf)), (zr, .inl (cT 0, 19, .inl (upd (upd (upd (upd (upd (upd (upd (upd (upd (upd (upd (upd (upd (upd (upd (upd (upd (upd rf 0 (lf 0)) 1 (lf 1)) 2 (lf 2)) 3 (lf 3)) 4 (lf 4)) 5 (lf 5)) 6 (lf 6)) 7 (lf 7)) 8 (lf 8)) 9 (lf 9)) 10 (lf 10)) 11 (lf 11)) 12 (lf 12)) 13 (lf 13)) 14 (lf 14)) 15 (lf 15)) 16 (lf 16)) 17 (lf 17))))] := hD
  refine lv_iinc (k := 0) (v := 18) hx hb dM_storeLows_16 hl rfl (by decide) (by decide) rfl (fun ls hl => ?_)
  have hl : lv_has ls 4 [(3, .int 18), (0, .ref zl), (1, .ref zr), (2, .int 0)] := hl
  refine lv_goto (tgt := 2) hx hb dM_storeLows_19 rfl ?_
  refine lv_iload_n hx hb dM_storeLows_2 rfl (lv_at hl 0 rfl) ?_
  refine lv_bipush (v := 19) hx hb dM_storeLows_3 (by decide) ?_
  refine lv_icmp_ge (tgt := 22) hx hb dM_storeLows_5 rfl (fun hj19 => absurd hj19 (by decide)) (fun _ => ?_)
  refine lv_aload_n hx hb dM_storeLows_8 rfl (lv_at hl 2 rfl) ?_
  refine lv_iload_n hx hb dM_storeLows_9 rfl (lv_at hl 3 rfl) ?_
  refine lv_iload_n hx hb dM_storeLows_10 rfl (lv_at hl 0 rfl) ?_
  refine lv_iadd hx hb dM_storeLows_11 ?_
  refine lv_topi (fun y9 e9 => ?_)
  cases (show y9 = 18 from e9.trans (by decide))
  refine lv_aload_n hx hb dM_storeLows_12 rfl (lv_at hl 1 rfl) ?_
  refine lv_iload_n hx hb dM_storeLows_13 rfl (lv_at hl 0 rfl) ?_
  refine va_iald hx hb hK hP 0 0 rfl rfl (by unfold vp_in; decide) dM_storeLows_14 ?_
  refine va_iast hx hb hK hP hD hS 1 0 rfl rfl (by unfold vp_in; decide) dM_storeLows_15 (fun H locs hP hD hS => ?_)
  have hP : va_P D vwCl [(zl, .inl (cT 0, 19, .inl lf)), (zr, .inl (cT 0, 19, .inl (upd (upd (upd (upd (upd (upd (upd (upd (upd (upd (upd (upd (upd (upd (upd (upd (upd (upd (upd rf 0 (lf 0)) 1 (lf 1)) 2 (lf 2)) 3 (lf 3)) 4 (lf 4)) 5 (lf 5)) 6 (lf 6)) 7 (lf 7)) 8 (lf 8)) 9 (lf 9)) 10 (lf 10)) 11 (lf 11)) 12 (lf 12)) 13 (lf 13)) 14 (lf 14)) 15 (lf 15)) 16 (lf 16)) 17 (lf 17)) 18 (lf 18))))] H := hP
  have hD : va_D A [(zl, .inl (cT 0, 19, .inl lf)), (zr, .inl (cT 0, 19, .inl (upd (upd (upd (upd (upd (upd (upd (upd (upd (upd (upd (upd (upd (upd (upd (upd (upd (upd (upd rf 0 (lf 0)) 1 (lf 1)) 2 (lf 2)) 3 (lf 3)) 4 (lf 4)) 5 (lf 5)) 6 (lf 6)) 7 (lf 7)) 8 (lf 8)) 9 (lf 9)) 10 (lf 10)) 11 (lf 11)) 12 (lf 12)) 13 (lf 13)) 14 (lf 14)) 15 (lf 15)) 16 (lf 16)) 17 (lf 17)) 18 (lf 18))))] := hD
  refine lv_iinc (k := 0) (v := 19) hx hb dM_storeLows_16 hl rfl (by decide) (by decide) rfl (fun ls hl => ?_)
  have hl : lv_has ls 4 [(3, .int 19), (0, .ref zl), (1, .ref zr), (2, .int 0)] := hl
  refine lv_goto (tgt := 2) hx hb dM_storeLows_19 rfl ?_
  refine lv_iload_n hx hb dM_storeLows_2 rfl (lv_at hl 0 rfl) ?_
  refine lv_bipush (v := 19) hx hb dM_storeLows_3 (by decide) ?_
  refine lv_icmp_ge (tgt := 22) hx hb dM_storeLows_5 rfl (fun _ => ?_) (fun hj20 => absurd (by decide) hj20)
  have hP9 := hP.sub (ws' := [(zl, .inl (cT 0, 19, .inl lf)), (zr, .inl (cT 0, 19, .inl (upd (upd (upd (upd (upd (upd (upd (upd (upd (upd (upd (upd (upd (upd (upd (upd (upd (upd (upd rf 0 (lf 0)) 1 (lf 1)) 2 (lf 2)) 3 (lf 3)) 4 (lf 4)) 5 (lf 5)) 6 (lf 6)) 7 (lf 7)) 8 (lf 8)) 9 (lf 9)) 10 (lf 10)) 11 (lf 11)) 12 (lf 12)) 13 (lf 13)) 14 (lf 14)) 15 (lf 15)) 16 (lf 16)) 17 (lf 17)) 18 (lf 18))))]) [0, 1] rfl
  have hD9 := hD.sub (ws' := [(zl, .inl (cT 0, 19, .inl lf)), (zr, .inl (cT 0, 19, .inl (upd (upd (upd (upd (upd (upd (upd (upd (upd (upd (upd (upd (upd (upd (upd (upd (upd (upd (upd rf 0 (lf 0)) 1 (lf 1)) 2 (lf 2)) 3 (lf 3)) 4 (lf 4)) 5 (lf 5)) 6 (lf 6)) 7 (lf 7)) 8 (lf 8)) 9 (lf 9)) 10 (lf 10)) 11 (lf 11)) 12 (lf 12)) 13 (lf 13)) 14 (lf 14)) 15 (lf 15)) 16 (lf 16)) 17 (lf 17)) 18 (lf 18))))]) [0, 1] (by decide) rfl
  refine W.widen (k := 0) (n := 0) (Nat.le_of_ble_eq_true rfl) (Nat.le_of_ble_eq_true rfl) ?_
  exact W.vret hx hb hr (fun t ht hW => ⟨⟨(fun _ => 0), rfl, trivial, by rw [ht]; exact hP9, hD9⟩, hS.F ht⟩) hS.2.2 dM_storeLows_22
set_option maxHeartbeats 4000000 in
set_option maxRecDepth 100000 in
theorem y_raise0 (l : Launch) (D : va_G) (cT : Nat → ClassId) (y : Nat) (y0 : Nat) (y1 : Int32) (y2 : Int32) (y3 : Int32) (y4 : Nat) (y5 : Nat) (y6 : Nat) (y7 : Nat) (y8 : Nat) (y9 : Nat) (y10 : Int32) (y11 : Int32) (y12 : Int32) (y13 : Int32) (y14 : Int32) (y15 : Int64) (y16 : Int32) (y17 : Int32) (y18 : Nat) (y19 : Nat) (y20 : Nat) (y21 : Nat) (y22 : Nat) (y23 : Nat) (y24 : Nat) (y25 : Nat) (y26 : Nat) (y27 : Nat) (y28 : Nat) (y29 : Nat) (y30 : Nat) (y31 : Nat) (y32 : Nat) (y33 : Nat) (y34 : Nat) (y35 : Nat) (y36 : Nat) (y37 : Nat) (y38 : Nat) (y39 : Nat) (y40 : Nat) (y41 : Nat) (y42 : Nat) (y43 : Nat) (y44 : Nat) (y45 : Nat) (y46 : Nat) (y47 : Int32) (y48 : Nat) (y49 : Nat) (y50 : Int32) (y51 : Int32) (y52 : Int32) (y53 : Int32) (y54 : Int64) (y55 : Int32) (y56 : Nat) (y57 : Nat) (y58 : Nat) (y59 : Nat) (za : Nat) (zl : Nat) (lf : Nat → Int32) (zr : Nat) (rf : Nat → Int32) (hz : ∀ k : Nat, k < 19 → lf k = 0) (ht : ∀ k : Nat, k < 19 → rf k = 0) : Met l yM_raise WM_raise ({ frames := 0, cells := 0, slots := 0, locals := 0 } : Room) (RO D vwCl [.ref y, .ref za, .ref zl, .ref zr] [(y, .inr (11, [.ref y0, .int y1, .int y2, .int y3, .ref y4, .ref y5, .ref y6, .ref y7, .ref y8, .ref y9, .int y10, .int y11, .int y12, .int y13, .int y14, .long y15, .int y16, .int y17, .ref y18, .ref y19, .ref y20, .ref y21, .ref y22, .ref y23, .ref y24, .ref y25, .ref y26, .ref y27, .ref y28, .ref y29, .ref y30, .ref y31, .ref y32, .ref y33, .ref y34, .ref y35, .ref y36, .ref y37, .ref y38, .ref y39, .ref y40, .ref y41, .ref y42, .ref y43, .ref y44, .ref y45, .ref y46, .int y47, .ref y48, .ref y49, .int y50, .int y51, .int y52, .int y53, .long y54, .int y55, .ref y56, .ref y57, .ref y58, .ref y59])), (zl, .inl (cT 0, 19, .inl lf)), (zr, .inl (cT 0, 19, .inl rf))] (TY cT)) (QcReadV) 0 0 (fun _ => False) := by
  refine Met.ofW (cc := cM_raise) (maxL := 5) (ret := none) (by decide) rfl ?_
  intro p e s m args below meth c s₁ B hml hv
  obtain ⟨rfl, hZ, hP, hK⟩ := hv
  have hx := B.exec
  have hb := B.bytes
  have hr := B.returns
  have hts := atoms_spec (ws := WM_raise) B.pre
  have hT : ∀ w ∈ TB, w.before _ s = true := fun w h => hts w (List.mem_cons_of_mem _ h)
  have hown : s.vm.findClass R_M = some m.cls := findClass_of_methodNamed B.named
  have hlocks := B.notSynchronized
  have hS : va_S (fun _ => False) s.heap s.heap [] := va_S.rf
  have hl := lv_entry ([.ref y, .ref za, .ref zl, .ref zr]) (n := 5) (Nat.le_of_ble_eq_true rfl)
  rw [lg_entry_eq]
  generalize (lg_sl ([.ref y, .ref za, .ref zl, .ref zr]) ++ List.replicate (5 - (lg_sl ([.ref y, .ref za, .ref zl, .ref zr])).length) Slot.unset).toArray = ls at hl ⊢
  have hl : lv_has ls 5 [(0, .ref y), (1, .ref za), (2, .ref zl), (3, .ref zr)] := hl
  refine lv_iconst (v := 0) hx hb dM_raise_0 (by decide) ?_
  refine lv_istore hx hb dM_raise_1 hl (by decide) rfl (fun ls hl => ?_)
  have hl : lv_has ls 5 [(4, .int 0), (0, .ref y), (1, .ref za), (2, .ref zl), (3, .ref zr)] := hl
  refine lv_iload hx hb dM_raise_3 (lv_at hl 0 rfl) ?_
  refine lv_bipush (v := 19) hx hb dM_raise_5 (by decide) ?_
  refine lv_icmp_ge (tgt := 49) hx hb dM_raise_7 rfl (fun hj1 => absurd hj1 (by decide)) (fun _ => ?_)
  refine lv_aload_n hx hb dM_raise_10 rfl (lv_at hl 3 rfl) ?_
  refine lv_iload hx hb dM_raise_11 (lv_at hl 0 rfl) ?_
  refine va_iald hx hb hK hP 1 0 rfl rfl (by unfold vp_in; decide) dM_raise_13 ?_
  refine lv_topi (fun y9 e9 => ?_)
  cases (show y9 = 0 from e9.trans (hz 0 (by decide)))
  refine lv_aload_n hx hb dM_raise_14 rfl (lv_at hl 4 rfl) ?_
  refine lv_iload hx hb dM_raise_15 (lv_at hl 0 rfl) ?_
  refine va_iald hx hb hK hP 2 0 rfl rfl (by unfold vp_in; decide) dM_raise_17 ?_
  refine lv_topi (fun y9 e9 => ?_)
  cases (show y9 = 0 from e9.trans (ht 0 (by decide)))
  refine lv_icmp_ge (tgt := 43) hx hb dM_raise_18 rfl (fun _ => ?_) (fun hj2 => absurd (by decide) hj2)
  refine lv_iinc (k := 0) (v := 1) hx hb dM_raise_43 hl rfl (by decide) (by decide) rfl (fun ls hl => ?_)
  have hl : lv_has ls 5 [(4, .int 1), (0, .ref y), (1, .ref za), (2, .ref zl), (3, .ref zr)] := hl
  refine lv_goto (tgt := 3) hx hb dM_raise_46 rfl ?_
  refine lv_iload hx hb dM_raise_3 (lv_at hl 0 rfl) ?_
  refine lv_bipush (v := 19) hx hb dM_raise_5 (by decide) ?_
  refine lv_icmp_ge (tgt := 49) hx hb dM_raise_7 rfl (fun hj3 => absurd hj3 (by decide)) (fun _ => ?_)
  refine lv_aload_n hx hb dM_raise_10 rfl (lv_at hl 3 rfl) ?_
  refine lv_iload hx hb dM_raise_11 (lv_at hl 0 rfl) ?_
  refine va_iald hx hb hK hP 1 0 rfl rfl (by unfold vp_in; decide) dM_raise_13 ?_
  refine lv_topi (fun y9 e9 => ?_)
  cases (show y9 = 0 from e9.trans (hz 1 (by decide)))
  refine lv_aload_n hx hb dM_raise_14 rfl (lv_at hl 4 rfl) ?_
  refine lv_iload hx hb dM_raise_15 (lv_at hl 0 rfl) ?_
  refine va_iald hx hb hK hP 2 0 rfl rfl (by unfold vp_in; decide) dM_raise_17 ?_
  refine lv_topi (fun y9 e9 => ?_)
  cases (show y9 = 0 from e9.trans (ht 1 (by decide)))
  refine lv_icmp_ge (tgt := 43) hx hb dM_raise_18 rfl (fun _ => ?_) (fun hj4 => absurd (by decide) hj4)
  refine lv_iinc (k := 0) (v := 2) hx hb dM_raise_43 hl rfl (by decide) (by decide) rfl (fun ls hl => ?_)
  have hl : lv_has ls 5 [(4, .int 2), (0, .ref y), (1, .ref za), (2, .ref zl), (3, .ref zr)] := hl
  refine lv_goto (tgt := 3) hx hb dM_raise_46 rfl ?_
  refine lv_iload hx hb dM_raise_3 (lv_at hl 0 rfl) ?_
  refine lv_bipush (v := 19) hx hb dM_raise_5 (by decide) ?_
  refine lv_icmp_ge (tgt := 49) hx hb dM_raise_7 rfl (fun hj5 => absurd hj5 (by decide)) (fun _ => ?_)
  refine lv_aload_n hx hb dM_raise_10 rfl (lv_at hl 3 rfl) ?_
  refine lv_iload hx hb dM_raise_11 (lv_at hl 0 rfl) ?_
  refine va_iald hx hb hK hP 1 0 rfl rfl (by unfold vp_in; decide) dM_raise_13 ?_
  refine lv_topi (fun y9 e9 => ?_)
  cases (show y9 = 0 from e9.trans (hz 2 (by decide)))
  refine lv_aload_n hx hb dM_raise_14 rfl (lv_at hl 4 rfl) ?_
  refine lv_iload hx hb dM_raise_15 (lv_at hl 0 rfl) ?_
  refine va_iald hx hb hK hP 2 0 rfl rfl (by unfold vp_in; decide) dM_raise_17 ?_
  refine lv_topi (fun y9 e9 => ?_)
  cases (show y9 = 0 from e9.trans (ht 2 (by decide)))
  refine lv_icmp_ge (tgt := 43) hx hb dM_raise_18 rfl (fun _ => ?_) (fun hj6 => absurd (by decide) hj6)
  refine lv_iinc (k := 0) (v := 3) hx hb dM_raise_43 hl rfl (by decide) (by decide) rfl (fun ls hl => ?_)
  have hl : lv_has ls 5 [(4, .int 3), (0, .ref y), (1, .ref za), (2, .ref zl), (3, .ref zr)] := hl
  refine lv_goto (tgt := 3) hx hb dM_raise_46 rfl ?_
  refine lv_iload hx hb dM_raise_3 (lv_at hl 0 rfl) ?_
  refine lv_bipush (v := 19) hx hb dM_raise_5 (by decide) ?_
  refine lv_icmp_ge (tgt := 49) hx hb dM_raise_7 rfl (fun hj7 => absurd hj7 (by decide)) (fun _ => ?_)
  refine lv_aload_n hx hb dM_raise_10 rfl (lv_at hl 3 rfl) ?_
  refine lv_iload hx hb dM_raise_11 (lv_at hl 0 rfl) ?_
  refine va_iald hx hb hK hP 1 0 rfl rfl (by unfold vp_in; decide) dM_raise_13 ?_
  refine lv_topi (fun y9 e9 => ?_)
  cases (show y9 = 0 from e9.trans (hz 3 (by decide)))
  refine lv_aload_n hx hb dM_raise_14 rfl (lv_at hl 4 rfl) ?_
  refine lv_iload hx hb dM_raise_15 (lv_at hl 0 rfl) ?_
  refine va_iald hx hb hK hP 2 0 rfl rfl (by unfold vp_in; decide) dM_raise_17 ?_
  refine lv_topi (fun y9 e9 => ?_)
  cases (show y9 = 0 from e9.trans (ht 3 (by decide)))
  refine lv_icmp_ge (tgt := 43) hx hb dM_raise_18 rfl (fun _ => ?_) (fun hj8 => absurd (by decide) hj8)
  refine lv_iinc (k := 0) (v := 4) hx hb dM_raise_43 hl rfl (by decide) (by decide) rfl (fun ls hl => ?_)
  have hl : lv_has ls 5 [(4, .int 4), (0, .ref y), (1, .ref za), (2, .ref zl), (3, .ref zr)] := hl
  refine lv_goto (tgt := 3) hx hb dM_raise_46 rfl ?_
  refine lv_iload hx hb dM_raise_3 (lv_at hl 0 rfl) ?_
  refine lv_bipush (v := 19) hx hb dM_raise_5 (by decide) ?_
  refine lv_icmp_ge (tgt := 49) hx hb dM_raise_7 rfl (fun hj9 => absurd hj9 (by decide)) (fun _ => ?_)
  refine lv_aload_n hx hb dM_raise_10 rfl (lv_at hl 3 rfl) ?_
  refine lv_iload hx hb dM_raise_11 (lv_at hl 0 rfl) ?_
  refine va_iald hx hb hK hP 1 0 rfl rfl (by unfold vp_in; decide) dM_raise_13 ?_
  refine lv_topi (fun y9 e9 => ?_)
  cases (show y9 = 0 from e9.trans (hz 4 (by decide)))
  refine lv_aload_n hx hb dM_raise_14 rfl (lv_at hl 4 rfl) ?_
  refine lv_iload hx hb dM_raise_15 (lv_at hl 0 rfl) ?_
  refine va_iald hx hb hK hP 2 0 rfl rfl (by unfold vp_in; decide) dM_raise_17 ?_
  refine lv_topi (fun y9 e9 => ?_)
  cases (show y9 = 0 from e9.trans (ht 4 (by decide)))
  refine lv_icmp_ge (tgt := 43) hx hb dM_raise_18 rfl (fun _ => ?_) (fun hj10 => absurd (by decide) hj10)
  refine lv_iinc (k := 0) (v := 5) hx hb dM_raise_43 hl rfl (by decide) (by decide) rfl (fun ls hl => ?_)
  have hl : lv_has ls 5 [(4, .int 5), (0, .ref y), (1, .ref za), (2, .ref zl), (3, .ref zr)] := hl
  refine lv_goto (tgt := 3) hx hb dM_raise_46 rfl ?_
  refine lv_iload hx hb dM_raise_3 (lv_at hl 0 rfl) ?_
  refine lv_bipush (v := 19) hx hb dM_raise_5 (by decide) ?_
  refine lv_icmp_ge (tgt := 49) hx hb dM_raise_7 rfl (fun hj11 => absurd hj11 (by decide)) (fun _ => ?_)
  refine lv_aload_n hx hb dM_raise_10 rfl (lv_at hl 3 rfl) ?_
  refine lv_iload hx hb dM_raise_11 (lv_at hl 0 rfl) ?_
  refine va_iald hx hb hK hP 1 0 rfl rfl (by unfold vp_in; decide) dM_raise_13 ?_
  refine lv_topi (fun y9 e9 => ?_)
  cases (show y9 = 0 from e9.trans (hz 5 (by decide)))
  refine lv_aload_n hx hb dM_raise_14 rfl (lv_at hl 4 rfl) ?_
  refine lv_iload hx hb dM_raise_15 (lv_at hl 0 rfl) ?_
  refine va_iald hx hb hK hP 2 0 rfl rfl (by unfold vp_in; decide) dM_raise_17 ?_
  refine lv_topi (fun y9 e9 => ?_)
  cases (show y9 = 0 from e9.trans (ht 5 (by decide)))
  refine lv_icmp_ge (tgt := 43) hx hb dM_raise_18 rfl (fun _ => ?_) (fun hj12 => absurd (by decide) hj12)
  refine lv_iinc (k := 0) (v := 6) hx hb dM_raise_43 hl rfl (by decide) (by decide) rfl (fun ls hl => ?_)
  have hl : lv_has ls 5 [(4, .int 6), (0, .ref y), (1, .ref za), (2, .ref zl), (3, .ref zr)] := hl
  refine lv_goto (tgt := 3) hx hb dM_raise_46 rfl ?_
  refine lv_iload hx hb dM_raise_3 (lv_at hl 0 rfl) ?_
  refine lv_bipush (v := 19) hx hb dM_raise_5 (by decide) ?_
  refine lv_icmp_ge (tgt := 49) hx hb dM_raise_7 rfl (fun hj13 => absurd hj13 (by decide)) (fun _ => ?_)
  refine lv_aload_n hx hb dM_raise_10 rfl (lv_at hl 3 rfl) ?_
  refine lv_iload hx hb dM_raise_11 (lv_at hl 0 rfl) ?_
  refine va_iald hx hb hK hP 1 0 rfl rfl (by unfold vp_in; decide) dM_raise_13 ?_
  refine lv_topi (fun y9 e9 => ?_)
  cases (show y9 = 0 from e9.trans (hz 6 (by decide)))
  refine lv_aload_n hx hb dM_raise_14 rfl (lv_at hl 4 rfl) ?_
  refine lv_iload hx hb dM_raise_15 (lv_at hl 0 rfl) ?_
  refine va_iald hx hb hK hP 2 0 rfl rfl (by unfold vp_in; decide) dM_raise_17 ?_
  refine lv_topi (fun y9 e9 => ?_)
  cases (show y9 = 0 from e9.trans (ht 6 (by decide)))
  refine lv_icmp_ge (tgt := 43) hx hb dM_raise_18 rfl (fun _ => ?_) (fun hj14 => absurd (by decide) hj14)
  refine lv_iinc (k := 0) (v := 7) hx hb dM_raise_43 hl rfl (by decide) (by decide) rfl (fun ls hl => ?_)
  have hl : lv_has ls 5 [(4, .int 7), (0, .ref y), (1, .ref za), (2, .ref zl), (3, .ref zr)] := hl
  refine lv_goto (tgt := 3) hx hb dM_raise_46 rfl ?_
  refine lv_iload hx hb dM_raise_3 (lv_at hl 0 rfl) ?_
  refine lv_bipush (v := 19) hx hb dM_raise_5 (by decide) ?_
  refine lv_icmp_ge (tgt := 49) hx hb dM_raise_7 rfl (fun hj15 => absurd hj15 (by decide)) (fun _ => ?_)
  refine lv_aload_n hx hb dM_raise_10 rfl (lv_at hl 3 rfl) ?_
  refine lv_iload hx hb dM_raise_11 (lv_at hl 0 rfl) ?_
  refine va_iald hx hb hK hP 1 0 rfl rfl (by unfold vp_in; decide) dM_raise_13 ?_
  refine lv_topi (fun y9 e9 => ?_)
  cases (show y9 = 0 from e9.trans (hz 7 (by decide)))
  refine lv_aload_n hx hb dM_raise_14 rfl (lv_at hl 4 rfl) ?_
  refine lv_iload hx hb dM_raise_15 (lv_at hl 0 rfl) ?_
  refine va_iald hx hb hK hP 2 0 rfl rfl (by unfold vp_in; decide) dM_raise_17 ?_
  refine lv_topi (fun y9 e9 => ?_)
  cases (show y9 = 0 from e9.trans (ht 7 (by decide)))
  refine lv_icmp_ge (tgt := 43) hx hb dM_raise_18 rfl (fun _ => ?_) (fun hj16 => absurd (by decide) hj16)
  refine lv_iinc (k := 0) (v := 8) hx hb dM_raise_43 hl rfl (by decide) (by decide) rfl (fun ls hl => ?_)
  have hl : lv_has ls 5 [(4, .int 8), (0, .ref y), (1, .ref za), (2, .ref zl), (3, .ref zr)] := hl
  refine lv_goto (tgt := 3) hx hb dM_raise_46 rfl ?_
  refine lv_iload hx hb dM_raise_3 (lv_at hl 0 rfl) ?_
  refine lv_bipush (v := 19) hx hb dM_raise_5 (by decide) ?_
  refine lv_icmp_ge (tgt := 49) hx hb dM_raise_7 rfl (fun hj17 => absurd hj17 (by decide)) (fun _ => ?_)
  refine lv_aload_n hx hb dM_raise_10 rfl (lv_at hl 3 rfl) ?_
  refine lv_iload hx hb dM_raise_11 (lv_at hl 0 rfl) ?_
  refine va_iald hx hb hK hP 1 0 rfl rfl (by unfold vp_in; decide) dM_raise_13 ?_
  refine lv_topi (fun y9 e9 => ?_)
  cases (show y9 = 0 from e9.trans (hz 8 (by decide)))
  refine lv_aload_n hx hb dM_raise_14 rfl (lv_at hl 4 rfl) ?_
  refine lv_iload hx hb dM_raise_15 (lv_at hl 0 rfl) ?_
  refine va_iald hx hb hK hP 2 0 rfl rfl (by unfold vp_in; decide) dM_raise_17 ?_
  refine lv_topi (fun y9 e9 => ?_)
  cases (show y9 = 0 from e9.trans (ht 8 (by decide)))
  refine lv_icmp_ge (tgt := 43) hx hb dM_raise_18 rfl (fun _ => ?_) (fun hj18 => absurd (by decide) hj18)
  refine lv_iinc (k := 0) (v := 9) hx hb dM_raise_43 hl rfl (by decide) (by decide) rfl (fun ls hl => ?_)
  have hl : lv_has ls 5 [(4, .int 9), (0, .ref y), (1, .ref za), (2, .ref zl), (3, .ref zr)] := hl
  refine lv_goto (tgt := 3) hx hb dM_raise_46 rfl ?_
  refine lv_iload hx hb dM_raise_3 (lv_at hl 0 rfl) ?_
  refine lv_bipush (v := 19) hx hb dM_raise_5 (by decide) ?_
  refine lv_icmp_ge (tgt := 49) hx hb dM_raise_7 rfl (fun hj19 => absurd hj19 (by decide)) (fun _ => ?_)
  refine lv_aload_n hx hb dM_raise_10 rfl (lv_at hl 3 rfl) ?_
  refine lv_iload hx hb dM_raise_11 (lv_at hl 0 rfl) ?_
  refine va_iald hx hb hK hP 1 0 rfl rfl (by unfold vp_in; decide) dM_raise_13 ?_
  refine lv_topi (fun y9 e9 => ?_)
  cases (show y9 = 0 from e9.trans (hz 9 (by decide)))
  refine lv_aload_n hx hb dM_raise_14 rfl (lv_at hl 4 rfl) ?_
  refine lv_iload hx hb dM_raise_15 (lv_at hl 0 rfl) ?_
  refine va_iald hx hb hK hP 2 0 rfl rfl (by unfold vp_in; decide) dM_raise_17 ?_
  refine lv_topi (fun y9 e9 => ?_)
  cases (show y9 = 0 from e9.trans (ht 9 (by decide)))
  refine lv_icmp_ge (tgt := 43) hx hb dM_raise_18 rfl (fun _ => ?_) (fun hj20 => absurd (by decide) hj20)
  refine lv_iinc (k := 0) (v := 10) hx hb dM_raise_43 hl rfl (by decide) (by decide) rfl (fun ls hl => ?_)
  have hl : lv_has ls 5 [(4, .int 10), (0, .ref y), (1, .ref za), (2, .ref zl), (3, .ref zr)] := hl
  refine lv_goto (tgt := 3) hx hb dM_raise_46 rfl ?_
  refine lv_iload hx hb dM_raise_3 (lv_at hl 0 rfl) ?_
  refine lv_bipush (v := 19) hx hb dM_raise_5 (by decide) ?_
  refine lv_icmp_ge (tgt := 49) hx hb dM_raise_7 rfl (fun hj21 => absurd hj21 (by decide)) (fun _ => ?_)
  refine lv_aload_n hx hb dM_raise_10 rfl (lv_at hl 3 rfl) ?_
  refine lv_iload hx hb dM_raise_11 (lv_at hl 0 rfl) ?_
  refine va_iald hx hb hK hP 1 0 rfl rfl (by unfold vp_in; decide) dM_raise_13 ?_
  refine lv_topi (fun y9 e9 => ?_)
  cases (show y9 = 0 from e9.trans (hz 10 (by decide)))
  refine lv_aload_n hx hb dM_raise_14 rfl (lv_at hl 4 rfl) ?_
  refine lv_iload hx hb dM_raise_15 (lv_at hl 0 rfl) ?_
  refine va_iald hx hb hK hP 2 0 rfl rfl (by unfold vp_in; decide) dM_raise_17 ?_
  refine lv_topi (fun y9 e9 => ?_)
  cases (show y9 = 0 from e9.trans (ht 10 (by decide)))
  refine lv_icmp_ge (tgt := 43) hx hb dM_raise_18 rfl (fun _ => ?_) (fun hj22 => absurd (by decide) hj22)
  refine lv_iinc (k := 0) (v := 11) hx hb dM_raise_43 hl rfl (by decide) (by decide) rfl (fun ls hl => ?_)
  have hl : lv_has ls 5 [(4, .int 11), (0, .ref y), (1, .ref za), (2, .ref zl), (3, .ref zr)] := hl
  refine lv_goto (tgt := 3) hx hb dM_raise_46 rfl ?_
  refine lv_iload hx hb dM_raise_3 (lv_at hl 0 rfl) ?_
  refine lv_bipush (v := 19) hx hb dM_raise_5 (by decide) ?_
  refine lv_icmp_ge (tgt := 49) hx hb dM_raise_7 rfl (fun hj23 => absurd hj23 (by decide)) (fun _ => ?_)
  refine lv_aload_n hx hb dM_raise_10 rfl (lv_at hl 3 rfl) ?_
  refine lv_iload hx hb dM_raise_11 (lv_at hl 0 rfl) ?_
  refine va_iald hx hb hK hP 1 0 rfl rfl (by unfold vp_in; decide) dM_raise_13 ?_
  refine lv_topi (fun y9 e9 => ?_)
  cases (show y9 = 0 from e9.trans (hz 11 (by decide)))
  refine lv_aload_n hx hb dM_raise_14 rfl (lv_at hl 4 rfl) ?_
  refine lv_iload hx hb dM_raise_15 (lv_at hl 0 rfl) ?_
  refine va_iald hx hb hK hP 2 0 rfl rfl (by unfold vp_in; decide) dM_raise_17 ?_
  refine lv_topi (fun y9 e9 => ?_)
  cases (show y9 = 0 from e9.trans (ht 11 (by decide)))
  refine lv_icmp_ge (tgt := 43) hx hb dM_raise_18 rfl (fun _ => ?_) (fun hj24 => absurd (by decide) hj24)
  refine lv_iinc (k := 0) (v := 12) hx hb dM_raise_43 hl rfl (by decide) (by decide) rfl (fun ls hl => ?_)
  have hl : lv_has ls 5 [(4, .int 12), (0, .ref y), (1, .ref za), (2, .ref zl), (3, .ref zr)] := hl
  refine lv_goto (tgt := 3) hx hb dM_raise_46 rfl ?_
  refine lv_iload hx hb dM_raise_3 (lv_at hl 0 rfl) ?_
  refine lv_bipush (v := 19) hx hb dM_raise_5 (by decide) ?_
  refine lv_icmp_ge (tgt := 49) hx hb dM_raise_7 rfl (fun hj25 => absurd hj25 (by decide)) (fun _ => ?_)
  refine lv_aload_n hx hb dM_raise_10 rfl (lv_at hl 3 rfl) ?_
  refine lv_iload hx hb dM_raise_11 (lv_at hl 0 rfl) ?_
  refine va_iald hx hb hK hP 1 0 rfl rfl (by unfold vp_in; decide) dM_raise_13 ?_
  refine lv_topi (fun y9 e9 => ?_)
  cases (show y9 = 0 from e9.trans (hz 12 (by decide)))
  refine lv_aload_n hx hb dM_raise_14 rfl (lv_at hl 4 rfl) ?_
  refine lv_iload hx hb dM_raise_15 (lv_at hl 0 rfl) ?_
  refine va_iald hx hb hK hP 2 0 rfl rfl (by unfold vp_in; decide) dM_raise_17 ?_
  refine lv_topi (fun y9 e9 => ?_)
  cases (show y9 = 0 from e9.trans (ht 12 (by decide)))
  refine lv_icmp_ge (tgt := 43) hx hb dM_raise_18 rfl (fun _ => ?_) (fun hj26 => absurd (by decide) hj26)
  refine lv_iinc (k := 0) (v := 13) hx hb dM_raise_43 hl rfl (by decide) (by decide) rfl (fun ls hl => ?_)
  have hl : lv_has ls 5 [(4, .int 13), (0, .ref y), (1, .ref za), (2, .ref zl), (3, .ref zr)] := hl
  refine lv_goto (tgt := 3) hx hb dM_raise_46 rfl ?_
  refine lv_iload hx hb dM_raise_3 (lv_at hl 0 rfl) ?_
  refine lv_bipush (v := 19) hx hb dM_raise_5 (by decide) ?_
  refine lv_icmp_ge (tgt := 49) hx hb dM_raise_7 rfl (fun hj27 => absurd hj27 (by decide)) (fun _ => ?_)
  refine lv_aload_n hx hb dM_raise_10 rfl (lv_at hl 3 rfl) ?_
  refine lv_iload hx hb dM_raise_11 (lv_at hl 0 rfl) ?_
  refine va_iald hx hb hK hP 1 0 rfl rfl (by unfold vp_in; decide) dM_raise_13 ?_
  refine lv_topi (fun y9 e9 => ?_)
  cases (show y9 = 0 from e9.trans (hz 13 (by decide)))
  refine lv_aload_n hx hb dM_raise_14 rfl (lv_at hl 4 rfl) ?_
  refine lv_iload hx hb dM_raise_15 (lv_at hl 0 rfl) ?_
  refine va_iald hx hb hK hP 2 0 rfl rfl (by unfold vp_in; decide) dM_raise_17 ?_
  refine lv_topi (fun y9 e9 => ?_)
  cases (show y9 = 0 from e9.trans (ht 13 (by decide)))
  refine lv_icmp_ge (tgt := 43) hx hb dM_raise_18 rfl (fun _ => ?_) (fun hj28 => absurd (by decide) hj28)
  refine lv_iinc (k := 0) (v := 14) hx hb dM_raise_43 hl rfl (by decide) (by decide) rfl (fun ls hl => ?_)
  have hl : lv_has ls 5 [(4, .int 14), (0, .ref y), (1, .ref za), (2, .ref zl), (3, .ref zr)] := hl
  refine lv_goto (tgt := 3) hx hb dM_raise_46 rfl ?_
  refine lv_iload hx hb dM_raise_3 (lv_at hl 0 rfl) ?_
  refine lv_bipush (v := 19) hx hb dM_raise_5 (by decide) ?_
  refine lv_icmp_ge (tgt := 49) hx hb dM_raise_7 rfl (fun hj29 => absurd hj29 (by decide)) (fun _ => ?_)
  refine lv_aload_n hx hb dM_raise_10 rfl (lv_at hl 3 rfl) ?_
  refine lv_iload hx hb dM_raise_11 (lv_at hl 0 rfl) ?_
  refine va_iald hx hb hK hP 1 0 rfl rfl (by unfold vp_in; decide) dM_raise_13 ?_
  refine lv_topi (fun y9 e9 => ?_)
  cases (show y9 = 0 from e9.trans (hz 14 (by decide)))
  refine lv_aload_n hx hb dM_raise_14 rfl (lv_at hl 4 rfl) ?_
  refine lv_iload hx hb dM_raise_15 (lv_at hl 0 rfl) ?_
  refine va_iald hx hb hK hP 2 0 rfl rfl (by unfold vp_in; decide) dM_raise_17 ?_
  refine lv_topi (fun y9 e9 => ?_)
  cases (show y9 = 0 from e9.trans (ht 14 (by decide)))
  refine lv_icmp_ge (tgt := 43) hx hb dM_raise_18 rfl (fun _ => ?_) (fun hj30 => absurd (by decide) hj30)
  refine lv_iinc (k := 0) (v := 15) hx hb dM_raise_43 hl rfl (by decide) (by decide) rfl (fun ls hl => ?_)
  have hl : lv_has ls 5 [(4, .int 15), (0, .ref y), (1, .ref za), (2, .ref zl), (3, .ref zr)] := hl
  refine lv_goto (tgt := 3) hx hb dM_raise_46 rfl ?_
  refine lv_iload hx hb dM_raise_3 (lv_at hl 0 rfl) ?_
  refine lv_bipush (v := 19) hx hb dM_raise_5 (by decide) ?_
  refine lv_icmp_ge (tgt := 49) hx hb dM_raise_7 rfl (fun hj31 => absurd hj31 (by decide)) (fun _ => ?_)
  refine lv_aload_n hx hb dM_raise_10 rfl (lv_at hl 3 rfl) ?_
  refine lv_iload hx hb dM_raise_11 (lv_at hl 0 rfl) ?_
  refine va_iald hx hb hK hP 1 0 rfl rfl (by unfold vp_in; decide) dM_raise_13 ?_
  refine lv_topi (fun y9 e9 => ?_)
  cases (show y9 = 0 from e9.trans (hz 15 (by decide)))
  refine lv_aload_n hx hb dM_raise_14 rfl (lv_at hl 4 rfl) ?_
  refine lv_iload hx hb dM_raise_15 (lv_at hl 0 rfl) ?_
  refine va_iald hx hb hK hP 2 0 rfl rfl (by unfold vp_in; decide) dM_raise_17 ?_
  refine lv_topi (fun y9 e9 => ?_)
  cases (show y9 = 0 from e9.trans (ht 15 (by decide)))
  refine lv_icmp_ge (tgt := 43) hx hb dM_raise_18 rfl (fun _ => ?_) (fun hj32 => absurd (by decide) hj32)
  refine lv_iinc (k := 0) (v := 16) hx hb dM_raise_43 hl rfl (by decide) (by decide) rfl (fun ls hl => ?_)
  have hl : lv_has ls 5 [(4, .int 16), (0, .ref y), (1, .ref za), (2, .ref zl), (3, .ref zr)] := hl
  refine lv_goto (tgt := 3) hx hb dM_raise_46 rfl ?_
  refine lv_iload hx hb dM_raise_3 (lv_at hl 0 rfl) ?_
  refine lv_bipush (v := 19) hx hb dM_raise_5 (by decide) ?_
  refine lv_icmp_ge (tgt := 49) hx hb dM_raise_7 rfl (fun hj33 => absurd hj33 (by decide)) (fun _ => ?_)
  refine lv_aload_n hx hb dM_raise_10 rfl (lv_at hl 3 rfl) ?_
  refine lv_iload hx hb dM_raise_11 (lv_at hl 0 rfl) ?_
  refine va_iald hx hb hK hP 1 0 rfl rfl (by unfold vp_in; decide) dM_raise_13 ?_
  refine lv_topi (fun y9 e9 => ?_)
  cases (show y9 = 0 from e9.trans (hz 16 (by decide)))
  refine lv_aload_n hx hb dM_raise_14 rfl (lv_at hl 4 rfl) ?_
  refine lv_iload hx hb dM_raise_15 (lv_at hl 0 rfl) ?_
  refine va_iald hx hb hK hP 2 0 rfl rfl (by unfold vp_in; decide) dM_raise_17 ?_
  refine lv_topi (fun y9 e9 => ?_)
  cases (show y9 = 0 from e9.trans (ht 16 (by decide)))
  refine lv_icmp_ge (tgt := 43) hx hb dM_raise_18 rfl (fun _ => ?_) (fun hj34 => absurd (by decide) hj34)
  refine lv_iinc (k := 0) (v := 17) hx hb dM_raise_43 hl rfl (by decide) (by decide) rfl (fun ls hl => ?_)
  have hl : lv_has ls 5 [(4, .int 17), (0, .ref y), (1, .ref za), (2, .ref zl), (3, .ref zr)] := hl
  refine lv_goto (tgt := 3) hx hb dM_raise_46 rfl ?_
  refine lv_iload hx hb dM_raise_3 (lv_at hl 0 rfl) ?_
  refine lv_bipush (v := 19) hx hb dM_raise_5 (by decide) ?_
  refine lv_icmp_ge (tgt := 49) hx hb dM_raise_7 rfl (fun hj35 => absurd hj35 (by decide)) (fun _ => ?_)
  refine lv_aload_n hx hb dM_raise_10 rfl (lv_at hl 3 rfl) ?_
  refine lv_iload hx hb dM_raise_11 (lv_at hl 0 rfl) ?_
  refine va_iald hx hb hK hP 1 0 rfl rfl (by unfold vp_in; decide) dM_raise_13 ?_
  refine lv_topi (fun y9 e9 => ?_)
  cases (show y9 = 0 from e9.trans (hz 17 (by decide)))
  refine lv_aload_n hx hb dM_raise_14 rfl (lv_at hl 4 rfl) ?_
  refine lv_iload hx hb dM_raise_15 (lv_at hl 0 rfl) ?_
  refine va_iald hx hb hK hP 2 0 rfl rfl (by unfold vp_in; decide) dM_raise_17 ?_
  refine lv_topi (fun y9 e9 => ?_)
  cases (show y9 = 0 from e9.trans (ht 17 (by decide)))
  refine lv_icmp_ge (tgt := 43) hx hb dM_raise_18 rfl (fun _ => ?_) (fun hj36 => absurd (by decide) hj36)
  refine lv_iinc (k := 0) (v := 18) hx hb dM_raise_43 hl rfl (by decide) (by decide) rfl (fun ls hl => ?_)
  have hl : lv_has ls 5 [(4, .int 18), (0, .ref y), (1, .ref za), (2, .ref zl), (3, .ref zr)] := hl
  refine lv_goto (tgt := 3) hx hb dM_raise_46 rfl ?_
  refine lv_iload hx hb dM_raise_3 (lv_at hl 0 rfl) ?_
  refine lv_bipush (v := 19) hx hb dM_raise_5 (by decide) ?_
  refine lv_icmp_ge (tgt := 49) hx hb dM_raise_7 rfl (fun hj37 => absurd hj37 (by decide)) (fun _ => ?_)
  refine lv_aload_n hx hb dM_raise_10 rfl (lv_at hl 3 rfl) ?_
  refine lv_iload hx hb dM_raise_11 (lv_at hl 0 rfl) ?_
  refine va_iald hx hb hK hP 1 0 rfl rfl (by unfold vp_in; decide) dM_raise_13 ?_
  refine lv_topi (fun y9 e9 => ?_)
  cases (show y9 = 0 from e9.trans (hz 18 (by decide)))
  refine lv_aload_n hx hb dM_raise_14 rfl (lv_at hl 4 rfl) ?_
  refine lv_iload hx hb dM_raise_15 (lv_at hl 0 rfl) ?_
  refine va_iald hx hb hK hP 2 0 rfl rfl (by unfold vp_in; decide) dM_raise_17 ?_
  refine lv_topi (fun y9 e9 => ?_)
  cases (show y9 = 0 from e9.trans (ht 18 (by decide)))
  refine lv_icmp_ge (tgt := 43) hx hb dM_raise_18 rfl (fun _ => ?_) (fun hj38 => absurd (by decide) hj38)
  refine lv_iinc (k := 0) (v := 19) hx hb dM_raise_43 hl rfl (by decide) (by decide) rfl (fun ls hl => ?_)
  have hl : lv_has ls 5 [(4, .int 19), (0, .ref y), (1, .ref za), (2, .ref zl), (3, .ref zr)] := hl
  refine lv_goto (tgt := 3) hx hb dM_raise_46 rfl ?_
  refine lv_iload hx hb dM_raise_3 (lv_at hl 0 rfl) ?_
  refine lv_bipush (v := 19) hx hb dM_raise_5 (by decide) ?_
  refine lv_icmp_ge (tgt := 49) hx hb dM_raise_7 rfl (fun _ => ?_) (fun hj39 => absurd (by decide) hj39)
  exact W.vret hx hb hr (fun t ht hW => ⟨rfl, ht⟩) (fun q h => nomatch h) dM_raise_49
set_option maxHeartbeats 4000000 in
set_option maxRecDepth 100000 in
theorem y_writeDigits0 (l : Launch) (D : va_G) (cT : Nat → ClassId) (y : Nat) (y0 : Nat) (y1 : Int32) (y2 : Int32) (y3 : Int32) (y4 : Nat) (y5 : Nat) (y6 : Nat) (y7 : Nat) (y8 : Nat) (y9 : Nat) (y10 : Int32) (y11 : Int32) (y12 : Int32) (y13 : Int32) (y14 : Int32) (y15 : Int64) (y16 : Int32) (y17 : Int32) (y18 : Nat) (y19 : Nat) (y20 : Nat) (y21 : Nat) (y22 : Nat) (y23 : Nat) (y24 : Nat) (y25 : Nat) (y26 : Nat) (y27 : Nat) (y28 : Nat) (y29 : Nat) (y30 : Nat) (y31 : Nat) (y32 : Nat) (y33 : Nat) (y34 : Nat) (y35 : Nat) (y36 : Nat) (y37 : Nat) (y38 : Nat) (y39 : Nat) (y40 : Nat) (y41 : Nat) (y42 : Nat) (y43 : Nat) (y44 : Nat) (y45 : Nat) (y46 : Nat) (y48 : Nat) (y49 : Nat) (y50 : Int32) (y51 : Int32) (y52 : Int32) (y53 : Int32) (y54 : Int64) (y55 : Int32) (y56 : Nat) (y57 : Nat) (y58 : Nat) (y59 : Nat) (za : Nat) (af : Nat → Int32) (df : Nat → Int32) (of : Nat → Int32) (h0 : af 300 = 0) (sz : Nat) : Met l yM_writeDigits WM_writeDigits ({ frames := 2, cells := 0, slots := 0, locals := 48 } : Room) (RW D vwCl [.ref y, .ref za] [(y, .inr (11, [.ref y0, .int y1, .int y2, .int y3, .ref y4, .ref y5, .ref y6, .ref y7, .ref y8, .ref y9, .int y10, .int y11, .int y12, .int y13, .int y14, .long y15, .int y16, .int y17, .ref y18, .ref y19, .ref y20, .ref y21, .ref y22, .ref y23, .ref y24, .ref y25, .ref y26, .ref y27, .ref y28, .ref y29, .ref y30, .ref y31, .ref y32, .ref y33, .ref y34, .ref y35, .ref y36, .ref y37, .ref y38, .ref y39, .ref y40, .ref y41, .ref y42, .ref y43, .ref y44, .ref y45, .ref y46, .int 0, .ref y48, .ref y49, .int y50, .int y51, .int y52, .int y53, .long y54, .int y55, .ref y56, .ref y57, .ref y58, .ref y59])), (za, .inl (cT 0, 302, .inl af)), (y49, .inl (cT 2, 3000, .inl df)), (y48, .inl (cT 2, 6000, .inl of))] (TY cT) sz) (va_Qv (fun _ : Nat → Nat => True) (BW D vwCl (va_A [(y, .inr (11, [.ref y0, .int y1, .int y2, .int y3, .ref y4, .ref y5, .ref y6, .ref y7, .ref y8, .ref y9, .int y10, .int y11, .int y12, .int y13, .int y14, .long y15, .int y16, .int y17, .ref y18, .ref y19, .ref y20, .ref y21, .ref y22, .ref y23, .ref y24, .ref y25, .ref y26, .ref y27, .ref y28, .ref y29, .ref y30, .ref y31, .ref y32, .ref y33, .ref y34, .ref y35, .ref y36, .ref y37, .ref y38, .ref y39, .ref y40, .ref y41, .ref y42, .ref y43, .ref y44, .ref y45, .ref y46, .int 0, .ref y48, .ref y49, .int y50, .int y51, .int y52, .int y53, .long y54, .int y55, .ref y56, .ref y57, .ref y58, .ref y59])), (za, .inl (cT 0, 302, .inl af)), (y49, .inl (cT 2, 3000, .inl df)), (y48, .inl (cT 2, 6000, .inl of))] sz) (fun u => [(y, .inr (11, [.ref y0, .int y1, .int y2, .int y3, .ref y4, .ref y5, .ref y6, .ref y7, .ref y8, .ref y9, .int y10, .int y11, .int y12, .int y13, .int y14, .long y15, .int y16, .int y17, .ref y18, .ref y19, .ref y20, .ref y21, .ref y22, .ref y23, .ref y24, .ref y25, .ref y26, .ref y27, .ref y28, .ref y29, .ref y30, .ref y31, .ref y32, .ref y33, .ref y34, .ref y35, .ref y36, .ref y37, .ref y38, .ref y39, .ref y40, .ref y41, .ref y42, .ref y43, .ref y44, .ref y45, .ref y46, .int 1, .ref y48, .ref y49, .int y50, .int y51, .int y52, .int y53, .long y54, .int y55, .ref y56, .ref y57, .ref y58, .ref y59])), (y49, .inl (cT 2, 3000, .inl (upd (upd (upd (upd df 0 (vp_nar .byte 48)) 1 (vp_nar .byte 48)) 2 (vp_nar .byte 48)) 3 (vp_nar .byte 48)))), (y48, .inl (cT 2, 6000, .inl (upd of 0 (vp_nar .byte 48)))), (za, .inl (cT 0, 302, .inl (upd (upd af 300 0) 301 0)))])) (va_A [(y, .inr (11, [.ref y0, .int y1, .int y2, .int y3, .ref y4, .ref y5, .ref y6, .ref y7, .ref y8, .ref y9, .int y10, .int y11, .int y12, .int y13, .int y14, .long y15, .int y16, .int y17, .ref y18, .ref y19, .ref y20, .ref y21, .ref y22, .ref y23, .ref y24, .ref y25, .ref y26, .ref y27, .ref y28, .ref y29, .ref y30, .ref y31, .ref y32, .ref y33, .ref y34, .ref y35, .ref y36, .ref y37, .ref y38, .ref y39, .ref y40, .ref y41, .ref y42, .ref y43, .ref y44, .ref y45, .ref y46, .int 0, .ref y48, .ref y49, .int y50, .int y51, .int y52, .int y53, .long y54, .int y55, .ref y56, .ref y57, .ref y58, .ref y59])), (za, .inl (cT 0, 302, .inl af)), (y49, .inl (cT 2, 3000, .inl df)), (y48, .inl (cT 2, 6000, .inl of))] sz)) 0 0 (va_A [(y, .inr (11, [.ref y0, .int y1, .int y2, .int y3, .ref y4, .ref y5, .ref y6, .ref y7, .ref y8, .ref y9, .int y10, .int y11, .int y12, .int y13, .int y14, .long y15, .int y16, .int y17, .ref y18, .ref y19, .ref y20, .ref y21, .ref y22, .ref y23, .ref y24, .ref y25, .ref y26, .ref y27, .ref y28, .ref y29, .ref y30, .ref y31, .ref y32, .ref y33, .ref y34, .ref y35, .ref y36, .ref y37, .ref y38, .ref y39, .ref y40, .ref y41, .ref y42, .ref y43, .ref y44, .ref y45, .ref y46, .int 0, .ref y48, .ref y49, .int y50, .int y51, .int y52, .int y53, .long y54, .int y55, .ref y56, .ref y57, .ref y58, .ref y59])), (za, .inl (cT 0, 302, .inl af)), (y49, .inl (cT 2, 3000, .inl df)), (y48, .inl (cT 2, 6000, .inl of))] sz) := by
  refine Met.ofW (cc := cM_writeDigits) (maxL := 5) (ret := none) (by decide) rfl ?_
  intro p e s m args below meth c s₁ B hml hv
  obtain ⟨rfl, hsz, hZ, hP, hK, hD0⟩ := hv
  have hx := B.exec
  have hb := B.bytes
  have hr := B.returns
  have hts := atoms_spec (ws := WM_writeDigits) B.pre
  have hT : ∀ w ∈ TB, w.before _ s = true := fun w h => hts w (List.mem_cons_of_mem _ h)
  have hown : s.vm.findClass R_M = some m.cls := findClass_of_methodNamed B.named
  have hlocks := B.notSynchronized
  subst hsz
  have hD := hD0.self (sz := s.heap.size)
  generalize hAe : va_A [(y, .inr (11, [.ref y0, .int y1, .int y2, .int y3, .ref y4, .ref y5, .ref y6, .ref y7, .ref y8, .ref y9, .int y10, .int y11, .int y12, .int y13, .int y14, .long y15, .int y16, .int y17, .ref y18, .ref y19, .ref y20, .ref y21, .ref y22, .ref y23, .ref y24, .ref y25, .ref y26, .ref y27, .ref y28, .ref y29, .ref y30, .ref y31, .ref y32, .ref y33, .ref y34, .ref y35, .ref y36, .ref y37, .ref y38, .ref y39, .ref y40, .ref y41, .ref y42, .ref y43, .ref y44, .ref y45, .ref y46, .int 0, .ref y48, .ref y49, .int y50, .int y51, .int y52, .int y53, .long y54, .int y55, .ref y56, .ref y57, .ref y58, .ref y59])), (za, .inl (cT 0, 302, .inl af)), (y49, .inl (cT 2, 3000, .inl df)), (y48, .inl (cT 2, 6000, .inl of))] s.heap.size = A at hD hZ ⊢
  have hA : ∀ q : Nat, s.heap.size ≤ q → A q := fun q h => by rw [← hAe]; exact Or.inr h
  have hS : va_S A s.heap s.heap [] := va_S.rf
  have hl := lv_entry ([.ref y, .ref za]) (n := 5) (Nat.le_of_ble_eq_true rfl)
  rw [lg_entry_eq]
  generalize (lg_sl ([.ref y, .ref za]) ++ List.replicate (5 - (lg_sl ([.ref y, .ref za])).length) Slot.unset).toArray = ls at hl ⊢
  have hl : lv_has ls 5 [(0, .ref y), (1, .ref za)] := hl
  refine lv_iconst (v := 0) hx hb dM_writeDigits_0 (by decide) ?_
  refine lv_istore_n hx hb dM_writeDigits_1 rfl hl (by decide) rfl (fun ls hl => ?_)
  have hl : lv_has ls 5 [(2, .int 0), (0, .ref y), (1, .ref za)] := hl
  refine lv_aload_n hx hb dM_writeDigits_2 rfl (lv_at hl 2 rfl) ?_
  refine lv_sipush (v := 300) hx hb dM_writeDigits_3 (by decide) ?_
  refine va_iald hx hb hK hP 1 0 rfl rfl (by unfold vp_in; decide) dM_writeDigits_6 ?_
  refine lv_topi (fun y9 e9 => ?_)
  cases (show y9 = 0 from e9.trans h0)
  refine lv_if_gt (tgt := 14) hx hb dM_writeDigits_7 rfl (fun hj1 => absurd hj1 (by decide)) (fun _ => ?_)
  refine lv_iload_n hx hb dM_writeDigits_10 rfl (lv_at hl 0 rfl) ?_
  refine lv_if_ne (tgt := 62) hx hb dM_writeDigits_11 rfl (fun hj2 => absurd (by decide) hj2) (fun _ => ?_)
  refine lv_aload_n hx hb dM_writeDigits_14 rfl (lv_at hl 2 rfl) ?_
  refine lv_sipush (v := 10000) hx hb dM_writeDigits_15 (by decide) ?_
  refine rw_i (wc := [(za, .inl (cT 0, 302, .inl af))]) (wr := [(y, .inr (11, [.ref y0, .int y1, .int y2, .int y3, .ref y4, .ref y5, .ref y6, .ref y7, .ref y8, .ref y9, .int y10, .int y11, .int y12, .int y13, .int y14, .long y15, .int y16, .int y17, .ref y18, .ref y19, .ref y20, .ref y21, .ref y22, .ref y23, .ref y24, .ref y25, .ref y26, .ref y27, .ref y28, .ref y29, .ref y30, .ref y31, .ref y32, .ref y33, .ref y34, .ref y35, .ref y36, .ref y37, .ref y38, .ref y39, .ref y40, .ref y41, .ref y42, .ref y43, .ref y44, .ref y45, .ref y46, .int 0, .ref y48, .ref y49, .int y50, .int y51, .int y52, .int y53, .long y54, .int y55, .ref y56, .ref y57, .ref y58, .ref y59])), (y49, .inl (cT 2, 3000, .inl df)), (y48, .inl (cT 2, 6000, .inl of))]) hP hD hS hA [1] [0, 2, 3] rfl rfl (by decide) (by decide) (va_runS (As := [.ref za, .int 10000]) (rest := []) ⟨hx, hb, hml, hown, hT⟩ (y_divide0 l D cT za af h0 _) ⟨callB_of 2 hT (tb_gd w1446) rfl rfl rfl (hT _ w13) (hT _ w1444) hM_divide ⟨Nat.le_of_ble_eq_true rfl, Nat.le_of_ble_eq_true rfl⟩, (hT _ w1445)⟩ (RW.preS hZ hS (va_free (wc := [(za, .inl (cT 0, 302, .inl af))]) hD hS hA [1] rfl) (hP.sub (ws' := [(za, .inl (cT 0, 302, .inl af))]) [1] rfl) hK (hD.sub (ws' := [(za, .inl (cT 0, 302, .inl af))]) [1] (by decide) rfl)) rfl rfl hl.1 rfl (lv_room (Nat.le_of_ble_eq_true rfl)) dM_writeDigits_18 ⟨Nat.le_of_ble_eq_true rfl, Nat.le_of_ble_eq_true rfl⟩) (fun ru3 u3 H locs hpu3 hP hD hS => ?_)
  have hP : va_P D vwCl [(y, .inr (11, [.ref y0, .int y1, .int y2, .int y3, .ref y4, .ref y5, .ref y6, .ref y7, .ref y8, .ref y9, .int y10, .int y11, .int y12, .int y13, .int y14, .long y15, .int y16, .int y17, .ref y18, .ref y19, .ref y20, .ref y21, .ref y22, .ref y23, .ref y24, .ref y25, .ref y26, .ref y27, .ref y28, .ref y29, .ref y30, .ref y31, .ref y32, .ref y33, .ref y34, .ref y35, .ref y36, .ref y37, .ref y38, .ref y39, .ref y40, .ref y41, .ref y42, .ref y43, .ref y44, .ref y45, .ref y46, .int 0, .ref y48, .ref y49, .int y50, .int y51, .int y52, .int y53, .long y54, .int y55, .ref y56, .ref y57, .ref y58, .ref y59])), (y49, .inl (cT 2, 3000, .inl df)), (y48, .inl (cT 2, 6000, .inl of)), (za, .inl (cT 0, 302, .inl (upd (upd af 300 0) 301 0)))] H := hP
  have hD : va_D A [(y, .inr (11, [.ref y0, .int y1, .int y2, .int y3, .ref y4, .ref y5, .ref y6, .ref y7, .ref y8, .ref y9, .int y10, .int y11, .int y12, .int y13, .int y14, .long y15, .int y16, .int y17, .ref y18, .ref y19, .ref y20, .ref y21, .ref y22, .ref y23, .ref y24, .ref y25, .ref y26, .ref y27, .ref y28, .ref y29, .ref y30, .ref y31, .ref y32, .ref y33, .ref y34, .ref y35, .ref y36, .ref y37, .ref y38, .ref y39, .ref y40, .ref y41, .ref y42, .ref y43, .ref y44, .ref y45, .ref y46, .int 0, .ref y48, .ref y49, .int y50, .int y51, .int y52, .int y53, .long y54, .int y55, .ref y56, .ref y57, .ref y58, .ref y59])), (y49, .inl (cT 2, 3000, .inl df)), (y48, .inl (cT 2, 6000, .inl of)), (za, .inl (cT 0, 302, .inl (upd (upd af 300 0) 301 0)))] := hD
  rw [hpu3]
  refine lv_istore_n hx hb dM_writeDigits_21 rfl hl (by decide) rfl (fun ls hl => ?_)
  have hl : lv_has ls 5 [(3, .int 0), (2, .int 0), (0, .ref y), (1, .ref za)] := hl
  refine lv_iconst (v := 0) hx hb dM_writeDigits_22 (by decide) ?_
  refine lv_istore hx hb dM_writeDigits_23 hl (by decide) rfl (fun ls hl => ?_)
  have hl : lv_has ls 5 [(4, .int 0), (3, .int 0), (2, .int 0), (0, .ref y), (1, .ref za)] := hl
  refine lv_iload hx hb dM_writeDigits_25 (lv_at hl 0 rfl) ?_
  refine lv_iconst (v := 4) hx hb dM_writeDigits_27 (by decide) ?_
  refine lv_icmp_ge (tgt := 59) hx hb dM_writeDigits_28 rfl (fun hj4 => absurd hj4 (by decide)) (fun _ => ?_)
  refine lv_aload_n hx hb dM_writeDigits_31 rfl (lv_at hl 3 rfl) ?_
  refine va_get (D := D) (ci := 11) (v := .ref y49) (C := R_M) (T := T_M) (N := 60) hx hb hT in_M hown hK hP 0 rfl rfl 49 (by decide) (hT _ w1153) (fun _ h9 => h9) rfl dM_writeDigits_32 ?_
  refine lv_iload_n hx hb dM_writeDigits_35 rfl (lv_at hl 2 rfl) ?_
  refine lv_bipush (v := 48) hx hb dM_writeDigits_36 (by decide) ?_
  refine lv_iload_n hx hb dM_writeDigits_38 rfl (lv_at hl 1 rfl) ?_
  refine lv_bipush (v := 10) hx hb dM_writeDigits_39 (by decide) ?_
  refine lv_irem hx hb dM_writeDigits_41 (by decide) ?_
  refine lv_topi (fun y9 e9 => ?_)
  cases (show y9 = 0 from e9.trans (by decide +kernel))
  refine lv_iadd hx hb dM_writeDigits_42 ?_
  refine lv_topi (fun y9 e9 => ?_)
  cases (show y9 = 48 from e9.trans (by decide))
  refine lv_i2b (v := 48) hx hb dM_writeDigits_43 (by decide) ?_
  refine va_bast hx hb hK hP hD hS 1 2 rfl rfl (by unfold vp_in; decide) dM_writeDigits_44 (fun H locs hP hD hS => ?_)
  have hP : va_P D vwCl [(y, .inr (11, [.ref y0, .int y1, .int y2, .int y3, .ref y4, .ref y5, .ref y6, .ref y7, .ref y8, .ref y9, .int y10, .int y11, .int y12, .int y13, .int y14, .long y15, .int y16, .int y17, .ref y18, .ref y19, .ref y20, .ref y21, .ref y22, .ref y23, .ref y24, .ref y25, .ref y26, .ref y27, .ref y28, .ref y29, .ref y30, .ref y31, .ref y32, .ref y33, .ref y34, .ref y35, .ref y36, .ref y37, .ref y38, .ref y39, .ref y40, .ref y41, .ref y42, .ref y43, .ref y44, .ref y45, .ref y46, .int 0, .ref y48, .ref y49, .int y50, .int y51, .int y52, .int y53, .long y54, .int y55, .ref y56, .ref y57, .ref y58, .ref y59])), (y49, .inl (cT 2, 3000, .inl (upd df 0 (vp_nar .byte 48)))), (y48, .inl (cT 2, 6000, .inl of)), (za, .inl (cT 0, 302, .inl (upd (upd af 300 0) 301 0)))] H := hP
  have hD : va_D A [(y, .inr (11, [.ref y0, .int y1, .int y2, .int y3, .ref y4, .ref y5, .ref y6, .ref y7, .ref y8, .ref y9, .int y10, .int y11, .int y12, .int y13, .int y14, .long y15, .int y16, .int y17, .ref y18, .ref y19, .ref y20, .ref y21, .ref y22, .ref y23, .ref y24, .ref y25, .ref y26, .ref y27, .ref y28, .ref y29, .ref y30, .ref y31, .ref y32, .ref y33, .ref y34, .ref y35, .ref y36, .ref y37, .ref y38, .ref y39, .ref y40, .ref y41, .ref y42, .ref y43, .ref y44, .ref y45, .ref y46, .int 0, .ref y48, .ref y49, .int y50, .int y51, .int y52, .int y53, .long y54, .int y55, .ref y56, .ref y57, .ref y58, .ref y59])), (y49, .inl (cT 2, 3000, .inl (upd df 0 (vp_nar .byte 48)))), (y48, .inl (cT 2, 6000, .inl of)), (za, .inl (cT 0, 302, .inl (upd (upd af 300 0) 301 0)))] := hD
  refine lv_iload_n hx hb dM_writeDigits_45 rfl (lv_at hl 1 rfl) ?_
  refine lv_bipush (v := 10) hx hb dM_writeDigits_46 (by decide) ?_
  refine lv_idiv hx hb dM_writeDigits_48 (by decide) ?_
  refine lv_topi (fun y9 e9 => ?_)
  cases (show y9 = 0 from e9.trans (by decide +kernel))
  refine lv_istore_n hx hb dM_writeDigits_49 rfl hl (by decide) rfl (fun ls hl => ?_)
  have hl : lv_has ls 5 [(3, .int 0), (4, .int 0), (2, .int 0), (0, .ref y), (1, .ref za)] := hl
  refine lv_iinc (k := 2) (v := 1) hx hb dM_writeDigits_50 hl rfl (by decide) (by decide) rfl (fun ls hl => ?_)
  have hl : lv_has ls 5 [(2, .int 1), (3, .int 0), (4, .int 0), (0, .ref y), (1, .ref za)] := hl
  refine lv_iinc (k := 2) (v := 1) hx hb dM_writeDigits_53 hl rfl (by decide) (by decide) rfl (fun ls hl => ?_)
  have hl : lv_has ls 5 [(4, .int 1), (2, .int 1), (3, .int 0), (0, .ref y), (1, .ref za)] := hl
  refine lv_goto (tgt := 25) hx hb dM_writeDigits_56 rfl ?_
  refine lv_iload hx hb dM_writeDigits_25 (lv_at hl 0 rfl) ?_
  refine lv_iconst (v := 4) hx hb dM_writeDigits_27 (by decide) ?_
  refine lv_icmp_ge (tgt := 59) hx hb dM_writeDigits_28 rfl (fun hj5 => absurd hj5 (by decide)) (fun _ => ?_)
  refine lv_aload_n hx hb dM_writeDigits_31 rfl (lv_at hl 3 rfl) ?_
  refine va_get (D := D) (ci := 11) (v := .ref y49) (C := R_M) (T := T_M) (N := 60) hx hb hT in_M hown hK hP 0 rfl rfl 49 (by decide) (hT _ w1153) (fun _ h9 => h9) rfl dM_writeDigits_32 ?_
  refine lv_iload_n hx hb dM_writeDigits_35 rfl (lv_at hl 1 rfl) ?_
  refine lv_bipush (v := 48) hx hb dM_writeDigits_36 (by decide) ?_
  refine lv_iload_n hx hb dM_writeDigits_38 rfl (lv_at hl 2 rfl) ?_
  refine lv_bipush (v := 10) hx hb dM_writeDigits_39 (by decide) ?_
  refine lv_irem hx hb dM_writeDigits_41 (by decide) ?_
  refine lv_topi (fun y9 e9 => ?_)
  cases (show y9 = 0 from e9.trans (by decide +kernel))
  refine lv_iadd hx hb dM_writeDigits_42 ?_
  refine lv_topi (fun y9 e9 => ?_)
  cases (show y9 = 48 from e9.trans (by decide))
  refine lv_i2b (v := 48) hx hb dM_writeDigits_43 (by decide) ?_
  refine va_bast hx hb hK hP hD hS 1 2 rfl rfl (by unfold vp_in; decide) dM_writeDigits_44 (fun H locs hP hD hS => ?_)
  have hP : va_P D vwCl [(y, .inr (11, [.ref y0, .int y1, .int y2, .int y3, .ref y4, .ref y5, .ref y6, .ref y7, .ref y8, .ref y9, .int y10, .int y11, .int y12, .int y13, .int y14, .long y15, .int y16, .int y17, .ref y18, .ref y19, .ref y20, .ref y21, .ref y22, .ref y23, .ref y24, .ref y25, .ref y26, .ref y27, .ref y28, .ref y29, .ref y30, .ref y31, .ref y32, .ref y33, .ref y34, .ref y35, .ref y36, .ref y37, .ref y38, .ref y39, .ref y40, .ref y41, .ref y42, .ref y43, .ref y44, .ref y45, .ref y46, .int 0, .ref y48, .ref y49, .int y50, .int y51, .int y52, .int y53, .long y54, .int y55, .ref y56, .ref y57, .ref y58, .ref y59])), (y49, .inl (cT 2, 3000, .inl (upd (upd df 0 (vp_nar .byte 48)) 1 (vp_nar .byte 48)))), (y48, .inl (cT 2, 6000, .inl of)), (za, .inl (cT 0, 302, .inl (upd (upd af 300 0) 301 0)))] H := hP
  have hD : va_D A [(y, .inr (11, [.ref y0, .int y1, .int y2, .int y3, .ref y4, .ref y5, .ref y6, .ref y7, .ref y8, .ref y9, .int y10, .int y11, .int y12, .int y13, .int y14, .long y15, .int y16, .int y17, .ref y18, .ref y19, .ref y20, .ref y21, .ref y22, .ref y23, .ref y24, .ref y25, .ref y26, .ref y27, .ref y28, .ref y29, .ref y30, .ref y31, .ref y32, .ref y33, .ref y34, .ref y35, .ref y36, .ref y37, .ref y38, .ref y39, .ref y40, .ref y41, .ref y42, .ref y43, .ref y44, .ref y45, .ref y46, .int 0, .ref y48, .ref y49, .int y50, .int y51, .int y52, .int y53, .long y54, .int y55, .ref y56, .ref y57, .ref y58, .ref y59])), (y49, .inl (cT 2, 3000, .inl (upd (upd df 0 (vp_nar .byte 48)) 1 (vp_nar .byte 48)))), (y48, .inl (cT 2, 6000, .inl of)), (za, .inl (cT 0, 302, .inl (upd (upd af 300 0) 301 0)))] := hD
  refine lv_iload_n hx hb dM_writeDigits_45 rfl (lv_at hl 2 rfl) ?_
  refine lv_bipush (v := 10) hx hb dM_writeDigits_46 (by decide) ?_
  refine lv_idiv hx hb dM_writeDigits_48 (by decide) ?_
  refine lv_topi (fun y9 e9 => ?_)
  cases (show y9 = 0 from e9.trans (by decide +kernel))
  refine lv_istore_n hx hb dM_writeDigits_49 rfl hl (by decide) rfl (fun ls hl => ?_)
  have hl : lv_has ls 5 [(3, .int 0), (4, .int 1), (2, .int 1), (0, .ref y), (1, .ref za)] := hl
  refine lv_iinc (k := 2) (v := 2) hx hb dM_writeDigits_50 hl rfl (by decide) (by decide) rfl (fun ls hl => ?_)
  have hl : lv_has ls 5 [(2, .int 2), (3, .int 0), (4, .int 1), (0, .ref y), (1, .ref za)] := hl
  refine lv_iinc (k := 2) (v := 2) hx hb dM_writeDigits_53 hl rfl (by decide) (by decide) rfl (fun ls hl => ?_)
  have hl : lv_has ls 5 [(4, .int 2), (2, .int 2), (3, .int 0), (0, .ref y), (1, .ref za)] := hl
  refine lv_goto (tgt := 25) hx hb dM_writeDigits_56 rfl ?_
  refine lv_iload hx hb dM_writeDigits_25 (lv_at hl 0 rfl) ?_
  refine lv_iconst (v := 4) hx hb dM_writeDigits_27 (by decide) ?_
  refine lv_icmp_ge (tgt := 59) hx hb dM_writeDigits_28 rfl (fun hj6 => absurd hj6 (by decide)) (fun _ => ?_)
  refine lv_aload_n hx hb dM_writeDigits_31 rfl (lv_at hl 3 rfl) ?_
  refine va_get (D := D) (ci := 11) (v := .ref y49) (C := R_M) (T := T_M) (N := 60) hx hb hT in_M hown hK hP 0 rfl rfl 49 (by decide) (hT _ w1153) (fun _ h9 => h9) rfl dM_writeDigits_32 ?_
  refine lv_iload_n hx hb dM_writeDigits_35 rfl (lv_at hl 1 rfl) ?_
  refine lv_bipush (v := 48) hx hb dM_writeDigits_36 (by decide) ?_
  refine lv_iload_n hx hb dM_writeDigits_38 rfl (lv_at hl 2 rfl) ?_
  refine lv_bipush (v := 10) hx hb dM_writeDigits_39 (by decide) ?_
  refine lv_irem hx hb dM_writeDigits_41 (by decide) ?_
  refine lv_topi (fun y9 e9 => ?_)
  cases (show y9 = 0 from e9.trans (by decide +kernel))
  refine lv_iadd hx hb dM_writeDigits_42 ?_
  refine lv_topi (fun y9 e9 => ?_)
  cases (show y9 = 48 from e9.trans (by decide))
  refine lv_i2b (v := 48) hx hb dM_writeDigits_43 (by decide) ?_
  refine va_bast hx hb hK hP hD hS 1 2 rfl rfl (by unfold vp_in; decide) dM_writeDigits_44 (fun H locs hP hD hS => ?_)
  have hP : va_P D vwCl [(y, .inr (11, [.ref y0, .int y1, .int y2, .int y3, .ref y4, .ref y5, .ref y6, .ref y7, .ref y8, .ref y9, .int y10, .int y11, .int y12, .int y13, .int y14, .long y15, .int y16, .int y17, .ref y18, .ref y19, .ref y20, .ref y21, .ref y22, .ref y23, .ref y24, .ref y25, .ref y26, .ref y27, .ref y28, .ref y29, .ref y30, .ref y31, .ref y32, .ref y33, .ref y34, .ref y35, .ref y36, .ref y37, .ref y38, .ref y39, .ref y40, .ref y41, .ref y42, .ref y43, .ref y44, .ref y45, .ref y46, .int 0, .ref y48, .ref y49, .int y50, .int y51, .int y52, .int y53, .long y54, .int y55, .ref y56, .ref y57, .ref y58, .ref y59])), (y49, .inl (cT 2, 3000, .inl (upd (upd (upd df 0 (vp_nar .byte 48)) 1 (vp_nar .byte 48)) 2 (vp_nar .byte 48)))), (y48, .inl (cT 2, 6000, .inl of)), (za, .inl (cT 0, 302, .inl (upd (upd af 300 0) 301 0)))] H := hP
  have hD : va_D A [(y, .inr (11, [.ref y0, .int y1, .int y2, .int y3, .ref y4, .ref y5, .ref y6, .ref y7, .ref y8, .ref y9, .int y10, .int y11, .int y12, .int y13, .int y14, .long y15, .int y16, .int y17, .ref y18, .ref y19, .ref y20, .ref y21, .ref y22, .ref y23, .ref y24, .ref y25, .ref y26, .ref y27, .ref y28, .ref y29, .ref y30, .ref y31, .ref y32, .ref y33, .ref y34, .ref y35, .ref y36, .ref y37, .ref y38, .ref y39, .ref y40, .ref y41, .ref y42, .ref y43, .ref y44, .ref y45, .ref y46, .int 0, .ref y48, .ref y49, .int y50, .int y51, .int y52, .int y53, .long y54, .int y55, .ref y56, .ref y57, .ref y58, .ref y59])), (y49, .inl (cT 2, 3000, .inl (upd (upd (upd df 0 (vp_nar .byte 48)) 1 (vp_nar .byte 48)) 2 (vp_nar .byte 48)))), (y48, .inl (cT 2, 6000, .inl of)), (za, .inl (cT 0, 302, .inl (upd (upd af 300 0) 301 0)))] := hD
  refine lv_iload_n hx hb dM_writeDigits_45 rfl (lv_at hl 2 rfl) ?_
  refine lv_bipush (v := 10) hx hb dM_writeDigits_46 (by decide) ?_
  refine lv_idiv hx hb dM_writeDigits_48 (by decide) ?_
  refine lv_topi (fun y9 e9 => ?_)
  cases (show y9 = 0 from e9.trans (by decide +kernel))
  refine lv_istore_n hx hb dM_writeDigits_49 rfl hl (by decide) rfl (fun ls hl => ?_)
  have hl : lv_has ls 5 [(3, .int 0), (4, .int 2), (2, .int 2), (0, .ref y), (1, .ref za)] := hl
  refine lv_iinc (k := 2) (v := 3) hx hb dM_writeDigits_50 hl rfl (by decide) (by decide) rfl (fun ls hl => ?_)
  have hl : lv_has ls 5 [(2, .int 3), (3, .int 0), (4, .int 2), (0, .ref y), (1, .ref za)] := hl
  refine lv_iinc (k := 2) (v := 3) hx hb dM_writeDigits_53 hl rfl (by decide) (by decide) rfl (fun ls hl => ?_)
  have hl : lv_has ls 5 [(4, .int 3), (2, .int 3), (3, .int 0), (0, .ref y), (1, .ref za)] := hl
  refine lv_goto (tgt := 25) hx hb dM_writeDigits_56 rfl ?_
  refine lv_iload hx hb dM_writeDigits_25 (lv_at hl 0 rfl) ?_
  refine lv_iconst (v := 4) hx hb dM_writeDigits_27 (by decide) ?_
  refine lv_icmp_ge (tgt := 59) hx hb dM_writeDigits_28 rfl (fun hj7 => absurd hj7 (by decide)) (fun _ => ?_)
  refine lv_aload_n hx hb dM_writeDigits_31 rfl (lv_at hl 3 rfl) ?_
  refine va_get (D := D) (ci := 11) (v := .ref y49) (C := R_M) (T := T_M) (N := 60) hx hb hT in_M hown hK hP 0 rfl rfl 49 (by decide) (hT _ w1153) (fun _ h9 => h9) rfl dM_writeDigits_32 ?_
  refine lv_iload_n hx hb dM_writeDigits_35 rfl (lv_at hl 1 rfl) ?_
  refine lv_bipush (v := 48) hx hb dM_writeDigits_36 (by decide) ?_
  refine lv_iload_n hx hb dM_writeDigits_38 rfl (lv_at hl 2 rfl) ?_
  refine lv_bipush (v := 10) hx hb dM_writeDigits_39 (by decide) ?_
  refine lv_irem hx hb dM_writeDigits_41 (by decide) ?_
  refine lv_topi (fun y9 e9 => ?_)
  cases (show y9 = 0 from e9.trans (by decide +kernel))
  refine lv_iadd hx hb dM_writeDigits_42 ?_
  refine lv_topi (fun y9 e9 => ?_)
  cases (show y9 = 48 from e9.trans (by decide))
  refine lv_i2b (v := 48) hx hb dM_writeDigits_43 (by decide) ?_
  refine va_bast hx hb hK hP hD hS 1 2 rfl rfl (by unfold vp_in; decide) dM_writeDigits_44 (fun H locs hP hD hS => ?_)
  have hP : va_P D vwCl [(y, .inr (11, [.ref y0, .int y1, .int y2, .int y3, .ref y4, .ref y5, .ref y6, .ref y7, .ref y8, .ref y9, .int y10, .int y11, .int y12, .int y13, .int y14, .long y15, .int y16, .int y17, .ref y18, .ref y19, .ref y20, .ref y21, .ref y22, .ref y23, .ref y24, .ref y25, .ref y26, .ref y27, .ref y28, .ref y29, .ref y30, .ref y31, .ref y32, .ref y33, .ref y34, .ref y35, .ref y36, .ref y37, .ref y38, .ref y39, .ref y40, .ref y41, .ref y42, .ref y43, .ref y44, .ref y45, .ref y46, .int 0, .ref y48, .ref y49, .int y50, .int y51, .int y52, .int y53, .long y54, .int y55, .ref y56, .ref y57, .ref y58, .ref y59])), (y49, .inl (cT 2, 3000, .inl (upd (upd (upd (upd df 0 (vp_nar .byte 48)) 1 (vp_nar .byte 48)) 2 (vp_nar .byte 48)) 3 (vp_nar .byte 48)))), (y48, .inl (cT 2, 6000, .inl of)), (za, .inl (cT 0, 302, .inl (upd (upd af 300 0) 301 0)))] H := hP
  have hD : va_D A [(y, .inr (11, [.ref y0, .int y1, .int y2, .int y3, .ref y4, .ref y5, .ref y6, .ref y7, .ref y8, .ref y9, .int y10, .int y11, .int y12, .int y13, .int y14, .long y15, .int y16, .int y17, .ref y18, .ref y19, .ref y20, .ref y21, .ref y22, .ref y23, .ref y24, .ref y25, .ref y26, .ref y27, .ref y28, .ref y29, .ref y30, .ref y31, .ref y32, .ref y33, .ref y34, .ref y35, .ref y36, .ref y37, .ref y38, .ref y39, .ref y40, .ref y41, .ref y42, .ref y43, .ref y44, .ref y45, .ref y46, .int 0, .ref y48, .ref y49, .int y50, .int y51, .int y52, .int y53, .long y54, .int y55, .ref y56, .ref y57, .ref y58, .ref y59])), (y49, .inl (cT 2, 3000, .inl (upd (upd (upd (upd df 0 (vp_nar .byte 48)) 1 (vp_nar .byte 48)) 2 (vp_nar .byte 48)) 3 (vp_nar .byte 48)))), (y48, .inl (cT 2, 6000, .inl of)), (za, .inl (cT 0, 302, .inl (upd (upd af 300 0) 301 0)))] := hD
  refine lv_iload_n hx hb dM_writeDigits_45 rfl (lv_at hl 2 rfl) ?_
  refine lv_bipush (v := 10) hx hb dM_writeDigits_46 (by decide) ?_
  refine lv_idiv hx hb dM_writeDigits_48 (by decide) ?_
  refine lv_topi (fun y9 e9 => ?_)
  cases (show y9 = 0 from e9.trans (by decide +kernel))
  refine lv_istore_n hx hb dM_writeDigits_49 rfl hl (by decide) rfl (fun ls hl => ?_)
  have hl : lv_has ls 5 [(3, .int 0), (4, .int 3), (2, .int 3), (0, .ref y), (1, .ref za)] := hl
  refine lv_iinc (k := 2) (v := 4) hx hb dM_writeDigits_50 hl rfl (by decide) (by decide) rfl (fun ls hl => ?_)
  have hl : lv_has ls 5 [(2, .int 4), (3, .int 0), (4, .int 3), (0, .ref y), (1, .ref za)] := hl
  refine lv_iinc (k := 2) (v := 4) hx hb dM_writeDigits_53 hl rfl (by decide) (by decide) rfl (fun ls hl => ?_)
  have hl : lv_has ls 5 [(4, .int 4), (2, .int 4), (3, .int 0), (0, .ref y), (1, .ref za)] := hl
  refine lv_goto (tgt := 25) hx hb dM_writeDigits_56 rfl ?_
  refine lv_iload hx hb dM_writeDigits_25 (lv_at hl 0 rfl) ?_
  refine lv_iconst (v := 4) hx hb dM_writeDigits_27 (by decide) ?_
  refine lv_icmp_ge (tgt := 59) hx hb dM_writeDigits_28 rfl (fun _ => ?_) (fun hj8 => absurd (by decide) hj8)
  refine lv_goto (tgt := 2) hx hb dM_writeDigits_59 rfl ?_
  refine lv_aload_n hx hb dM_writeDigits_2 rfl (lv_at hl 4 rfl) ?_
  refine lv_sipush (v := 300) hx hb dM_writeDigits_3 (by decide) ?_
  refine va_iald hx hb hK hP 3 0 rfl rfl (by unfold vp_in; decide) dM_writeDigits_6 ?_
  refine lv_topi (fun y9 e9 => ?_)
  cases (show y9 = 0 from e9.trans rfl)
  refine lv_if_gt (tgt := 14) hx hb dM_writeDigits_7 rfl (fun hj9 => absurd hj9 (by decide)) (fun _ => ?_)
  refine lv_iload_n hx hb dM_writeDigits_10 rfl (lv_at hl 1 rfl) ?_
  refine lv_if_ne (tgt := 62) hx hb dM_writeDigits_11 rfl (fun _ => ?_) (fun hj10 => absurd hj10 (by decide))
  refine lv_iload_n hx hb dM_writeDigits_62 rfl (lv_at hl 1 rfl) ?_
  refine lv_iconst (v := 1) hx hb dM_writeDigits_63 (by decide) ?_
  refine lv_icmp_le (tgt := 86) hx hb dM_writeDigits_64 rfl (fun hj11 => absurd hj11 (by decide)) (fun _ => ?_)
  refine lv_aload_n hx hb dM_writeDigits_67 rfl (lv_at hl 3 rfl) ?_
  refine va_get (D := D) (ci := 11) (v := .ref y49) (C := R_M) (T := T_M) (N := 60) hx hb hT in_M hown hK hP 0 rfl rfl 49 (by decide) (hT _ w1153) (fun _ h9 => h9) rfl dM_writeDigits_68 ?_
  refine lv_iload_n hx hb dM_writeDigits_71 rfl (lv_at hl 1 rfl) ?_
  refine lv_iconst (v := 1) hx hb dM_writeDigits_72 (by decide) ?_
  refine lv_isub hx hb dM_writeDigits_73 ?_
  refine lv_topi (fun y9 e9 => ?_)
  cases (show y9 = 3 from e9.trans (by decide))
  refine va_bald hx hb hK hP 1 2 rfl rfl (by unfold vp_in; decide) dM_writeDigits_74 ?_
  refine lv_topi (fun y9 e9 => ?_)
  cases (show y9 = 48 from e9.trans rfl)
  refine lv_bipush (v := 48) hx hb dM_writeDigits_75 (by decide) ?_
  refine lv_icmp_ne (tgt := 86) hx hb dM_writeDigits_77 rfl (fun hj12 => absurd (by decide) hj12) (fun _ => ?_)
  refine lv_iinc (k := 1) (v := 3) hx hb dM_writeDigits_80 hl rfl (by decide) (by decide) rfl (fun ls hl => ?_)
  have hl : lv_has ls 5 [(2, .int 3), (4, .int 4), (3, .int 0), (0, .ref y), (1, .ref za)] := hl
  refine lv_goto (tgt := 62) hx hb dM_writeDigits_83 rfl ?_
  refine lv_iload_n hx hb dM_writeDigits_62 rfl (lv_at hl 0 rfl) ?_
  refine lv_iconst (v := 1) hx hb dM_writeDigits_63 (by decide) ?_
  refine lv_icmp_le (tgt := 86) hx hb dM_writeDigits_64 rfl (fun hj13 => absurd hj13 (by decide)) (fun _ => ?_)
  refine lv_aload_n hx hb dM_writeDigits_67 rfl (lv_at hl 3 rfl) ?_
  refine va_get (D := D) (ci := 11) (v := .ref y49) (C := R_M) (T := T_M) (N := 60) hx hb hT in_M hown hK hP 0 rfl rfl 49 (by decide) (hT _ w1153) (fun _ h9 => h9) rfl dM_writeDigits_68 ?_
  refine lv_iload_n hx hb dM_writeDigits_71 rfl (lv_at hl 0 rfl) ?_
  refine lv_iconst (v := 1) hx hb dM_writeDigits_72 (by decide) ?_
  refine lv_isub hx hb dM_writeDigits_73 ?_
  refine lv_topi (fun y9 e9 => ?_)
  cases (show y9 = 2 from e9.trans (by decide))
  refine va_bald hx hb hK hP 1 2 rfl rfl (by unfold vp_in; decide) dM_writeDigits_74 ?_
  refine lv_topi (fun y9 e9 => ?_)
  cases (show y9 = 48 from e9.trans rfl)
  refine lv_bipush (v := 48) hx hb dM_writeDigits_75 (by decide) ?_
  refine lv_icmp_ne (tgt := 86) hx hb dM_writeDigits_77 rfl (fun hj14 => absurd (by decide) hj14) (fun _ => ?_)
  refine lv_iinc (k := 0) (v := 2) hx hb dM_writeDigits_80 hl rfl (by decide) (by decide) rfl (fun ls hl => ?_)
  have hl : lv_has ls 5 [(2, .int 2), (4, .int 4), (3, .int 0), (0, .ref y), (1, .ref za)] := hl
  refine lv_goto (tgt := 62) hx hb dM_writeDigits_83 rfl ?_
  refine lv_iload_n hx hb dM_writeDigits_62 rfl (lv_at hl 0 rfl) ?_
  refine lv_iconst (v := 1) hx hb dM_writeDigits_63 (by decide) ?_
  refine lv_icmp_le (tgt := 86) hx hb dM_writeDigits_64 rfl (fun hj15 => absurd hj15 (by decide)) (fun _ => ?_)
  refine lv_aload_n hx hb dM_writeDigits_67 rfl (lv_at hl 3 rfl) ?_
  refine va_get (D := D) (ci := 11) (v := .ref y49) (C := R_M) (T := T_M) (N := 60) hx hb hT in_M hown hK hP 0 rfl rfl 49 (by decide) (hT _ w1153) (fun _ h9 => h9) rfl dM_writeDigits_68 ?_
  refine lv_iload_n hx hb dM_writeDigits_71 rfl (lv_at hl 0 rfl) ?_
  refine lv_iconst (v := 1) hx hb dM_writeDigits_72 (by decide) ?_
  refine lv_isub hx hb dM_writeDigits_73 ?_
  refine lv_topi (fun y9 e9 => ?_)
  cases (show y9 = 1 from e9.trans (by decide))
  refine va_bald hx hb hK hP 1 2 rfl rfl (by unfold vp_in; decide) dM_writeDigits_74 ?_
  refine lv_topi (fun y9 e9 => ?_)
  cases (show y9 = 48 from e9.trans rfl)
  refine lv_bipush (v := 48) hx hb dM_writeDigits_75 (by decide) ?_
  refine lv_icmp_ne (tgt := 86) hx hb dM_writeDigits_77 rfl (fun hj16 => absurd (by decide) hj16) (fun _ => ?_)
  refine lv_iinc (k := 0) (v := 1) hx hb dM_writeDigits_80 hl rfl (by decide) (by decide) rfl (fun ls hl => ?_)
  have hl : lv_has ls 5 [(2, .int 1), (4, .int 4), (3, .int 0), (0, .ref y), (1, .ref za)] := hl
  refine lv_goto (tgt := 62) hx hb dM_writeDigits_83 rfl ?_
  refine lv_iload_n hx hb dM_writeDigits_62 rfl (lv_at hl 0 rfl) ?_
  refine lv_iconst (v := 1) hx hb dM_writeDigits_63 (by decide) ?_
  refine lv_icmp_le (tgt := 86) hx hb dM_writeDigits_64 rfl (fun _ => ?_) (fun hj17 => absurd (by decide) hj17)
  refine lv_iload_n hx hb dM_writeDigits_86 rfl (lv_at hl 0 rfl) ?_
  refine lv_iconst (v := 1) hx hb dM_writeDigits_87 (by decide) ?_
  refine lv_isub hx hb dM_writeDigits_88 ?_
  refine lv_topi (fun y9 e9 => ?_)
  cases (show y9 = 0 from e9.trans (by decide))
  refine lv_istore_n hx hb dM_writeDigits_89 rfl hl (by decide) rfl (fun ls hl => ?_)
  have hl : lv_has ls 5 [(3, .int 0), (2, .int 1), (4, .int 4), (0, .ref y), (1, .ref za)] := hl
  refine lv_iload_n hx hb dM_writeDigits_90 rfl (lv_at hl 0 rfl) ?_
  refine lv_if_lt (tgt := 125) hx hb dM_writeDigits_91 rfl (fun hj18 => absurd hj18 (by decide)) (fun _ => ?_)
  refine lv_aload_n hx hb dM_writeDigits_94 rfl (lv_at hl 3 rfl) ?_
  refine va_get (D := D) (ci := 11) (v := .ref y48) (C := R_M) (T := T_M) (N := 60) hx hb hT in_M hown hK hP 0 rfl rfl 48 (by decide) (hT _ w1152) (fun _ h9 => h9) rfl dM_writeDigits_95 ?_
  refine lv_aload_n hx hb dM_writeDigits_98 rfl (lv_at hl 3 rfl) ?_
  refine va_get (D := D) (ci := 11) (v := .int 0) (C := R_M) (T := T_M) (N := 60) hx hb hT in_M hown hK hP 0 rfl rfl 47 (by decide) (hT _ w1151) (fun _ h9 => h9) rfl dM_writeDigits_99 ?_
  refine lv_aload_n hx hb dM_writeDigits_102 rfl (lv_at hl 3 rfl) ?_
  refine va_get (D := D) (ci := 11) (v := .ref y49) (C := R_M) (T := T_M) (N := 60) hx hb hT in_M hown hK hP 0 rfl rfl 49 (by decide) (hT _ w1153) (fun _ h9 => h9) rfl dM_writeDigits_103 ?_
  refine lv_iload_n hx hb dM_writeDigits_106 rfl (lv_at hl 0 rfl) ?_
  refine va_bald hx hb hK hP 1 2 rfl rfl (by unfold vp_in; decide) dM_writeDigits_107 ?_
  refine lv_topi (fun y9 e9 => ?_)
  cases (show y9 = 48 from e9.trans rfl)
  refine va_bast hx hb hK hP hD hS 2 2 rfl rfl (by unfold vp_in; decide) dM_writeDigits_108 (fun H locs hP hD hS => ?_)
  have hP : va_P D vwCl [(y, .inr (11, [.ref y0, .int y1, .int y2, .int y3, .ref y4, .ref y5, .ref y6, .ref y7, .ref y8, .ref y9, .int y10, .int y11, .int y12, .int y13, .int y14, .long y15, .int y16, .int y17, .ref y18, .ref y19, .ref y20, .ref y21, .ref y22, .ref y23, .ref y24, .ref y25, .ref y26, .ref y27, .ref y28, .ref y29, .ref y30, .ref y31, .ref y32, .ref y33, .ref y34, .ref y35, .ref y36, .ref y37, .ref y38, .ref y39, .ref y40, .ref y41, .ref y42, .ref y43, .ref y44, .ref y45, .ref y46, .int 0, .ref y48, .ref y49, .int y50, .int y51, .int y52, .int y53, .long y54, .int y55, .ref y56, .ref y57, .ref y58, .ref y59])), (y49, .inl (cT 2, 3000, .inl (upd (upd (upd (upd df 0 (vp_nar .byte 48)) 1 (vp_nar .byte 48)) 2 (vp_nar .byte 48)) 3 (vp_nar .byte 48)))), (y48, .inl (cT 2, 6000, .inl (upd of 0 (vp_nar .byte 48)))), (za, .inl (cT 0, 302, .inl (upd (upd af 300 0) 301 0)))] H := hP
  have hD : va_D A [(y, .inr (11, [.ref y0, .int y1, .int y2, .int y3, .ref y4, .ref y5, .ref y6, .ref y7, .ref y8, .ref y9, .int y10, .int y11, .int y12, .int y13, .int y14, .long y15, .int y16, .int y17, .ref y18, .ref y19, .ref y20, .ref y21, .ref y22, .ref y23, .ref y24, .ref y25, .ref y26, .ref y27, .ref y28, .ref y29, .ref y30, .ref y31, .ref y32, .ref y33, .ref y34, .ref y35, .ref y36, .ref y37, .ref y38, .ref y39, .ref y40, .ref y41, .ref y42, .ref y43, .ref y44, .ref y45, .ref y46, .int 0, .ref y48, .ref y49, .int y50, .int y51, .int y52, .int y53, .long y54, .int y55, .ref y56, .ref y57, .ref y58, .ref y59])), (y49, .inl (cT 2, 3000, .inl (upd (upd (upd (upd df 0 (vp_nar .byte 48)) 1 (vp_nar .byte 48)) 2 (vp_nar .byte 48)) 3 (vp_nar .byte 48)))), (y48, .inl (cT 2, 6000, .inl (upd of 0 (vp_nar .byte 48)))), (za, .inl (cT 0, 302, .inl (upd (upd af 300 0) 301 0)))] := hD
  refine lv_aload_n hx hb dM_writeDigits_109 rfl (lv_at hl 3 rfl) ?_
  refine lv_dup hx hb dM_writeDigits_110 rfl ?_
  refine va_get (D := D) (ci := 11) (v := .int 0) (C := R_M) (T := T_M) (N := 60) hx hb hT in_M hown hK hP 0 rfl rfl 47 (by decide) (hT _ w1151) (fun _ h9 => h9) rfl dM_writeDigits_111 ?_
  refine lv_iconst (v := 1) hx hb dM_writeDigits_114 (by decide) ?_
  refine lv_iadd hx hb dM_writeDigits_115 ?_
  refine lv_topi (fun y9 e9 => ?_)
  cases (show y9 = 1 from e9.trans (by decide))
  refine va_put (D := D) (ci := 11) (v := .int 1) (ty := .int) (C := R_M) (T := T_M) (N := 60) hx hb hT in_M ty_M ty_M_ok m_M hown hK hP hD hS 0 rfl rfl 47 (by decide) (hT _ w1151) (fun _ h9 => h9) rfl (by decide +kernel) rfl rfl (Nat.le_of_ble_eq_true rfl) dM_writeDigits_116 (fun H locs hP hD hS => ?_)
  have hP : va_P D vwCl [(y, .inr (11, [.ref y0, .int y1, .int y2, .int y3, .ref y4, .ref y5, .ref y6, .ref y7, .ref y8, .ref y9, .int y10, .int y11, .int y12, .int y13, .int y14, .long y15, .int y16, .int y17, .ref y18, .ref y19, .ref y20, .ref y21, .ref y22, .ref y23, .ref y24, .ref y25, .ref y26, .ref y27, .ref y28, .ref y29, .ref y30, .ref y31, .ref y32, .ref y33, .ref y34, .ref y35, .ref y36, .ref y37, .ref y38, .ref y39, .ref y40, .ref y41, .ref y42, .ref y43, .ref y44, .ref y45, .ref y46, .int 1, .ref y48, .ref y49, .int y50, .int y51, .int y52, .int y53, .long y54, .int y55, .ref y56, .ref y57, .ref y58, .ref y59])), (y49, .inl (cT 2, 3000, .inl (upd (upd (upd (upd df 0 (vp_nar .byte 48)) 1 (vp_nar .byte 48)) 2 (vp_nar .byte 48)) 3 (vp_nar .byte 48)))), (y48, .inl (cT 2, 6000, .inl (upd of 0 (vp_nar .byte 48)))), (za, .inl (cT 0, 302, .inl (upd (upd af 300 0) 301 0)))] H := hP
  have hD : va_D A [(y, .inr (11, [.ref y0, .int y1, .int y2, .int y3, .ref y4, .ref y5, .ref y6, .ref y7, .ref y8, .ref y9, .int y10, .int y11, .int y12, .int y13, .int y14, .long y15, .int y16, .int y17, .ref y18, .ref y19, .ref y20, .ref y21, .ref y22, .ref y23, .ref y24, .ref y25, .ref y26, .ref y27, .ref y28, .ref y29, .ref y30, .ref y31, .ref y32, .ref y33, .ref y34, .ref y35, .ref y36, .ref y37, .ref y38, .ref y39, .ref y40, .ref y41, .ref y42, .ref y43, .ref y44, .ref y45, .ref y46, .int 1, .ref y48, .ref y49, .int y50, .int y51, .int y52, .int y53, .long y54, .int y55, .ref y56, .ref y57, .ref y58, .ref y59])), (y49, .inl (cT 2, 3000, .inl (upd (upd (upd (upd df 0 (vp_nar .byte 48)) 1 (vp_nar .byte 48)) 2 (vp_nar .byte 48)) 3 (vp_nar .byte 48)))), (y48, .inl (cT 2, 6000, .inl (upd of 0 (vp_nar .byte 48)))), (za, .inl (cT 0, 302, .inl (upd (upd af 300 0) 301 0)))] := hD
  refine lv_iinc (k := 0) (v := (-1)) hx hb dM_writeDigits_119 hl rfl (by decide) (by decide) rfl (fun ls hl => ?_)
  have hl : lv_has ls 5 [(3, .int (-1)), (2, .int 1), (4, .int 4), (0, .ref y), (1, .ref za)] := hl
  refine lv_goto (tgt := 90) hx hb dM_writeDigits_122 rfl ?_
  refine lv_iload_n hx hb dM_writeDigits_90 rfl (lv_at hl 0 rfl) ?_
  refine lv_if_lt (tgt := 125) hx hb dM_writeDigits_91 rfl (fun _ => ?_) (fun hj19 => absurd (by decide) hj19)
  have hP9 := hP.sub (ws' := [(y, .inr (11, [.ref y0, .int y1, .int y2, .int y3, .ref y4, .ref y5, .ref y6, .ref y7, .ref y8, .ref y9, .int y10, .int y11, .int y12, .int y13, .int y14, .long y15, .int y16, .int y17, .ref y18, .ref y19, .ref y20, .ref y21, .ref y22, .ref y23, .ref y24, .ref y25, .ref y26, .ref y27, .ref y28, .ref y29, .ref y30, .ref y31, .ref y32, .ref y33, .ref y34, .ref y35, .ref y36, .ref y37, .ref y38, .ref y39, .ref y40, .ref y41, .ref y42, .ref y43, .ref y44, .ref y45, .ref y46, .int 1, .ref y48, .ref y49, .int y50, .int y51, .int y52, .int y53, .long y54, .int y55, .ref y56, .ref y57, .ref y58, .ref y59])), (y49, .inl (cT 2, 3000, .inl (upd (upd (upd (upd df 0 (vp_nar .byte 48)) 1 (vp_nar .byte 48)) 2 (vp_nar .byte 48)) 3 (vp_nar .byte 48)))), (y48, .inl (cT 2, 6000, .inl (upd of 0 (vp_nar .byte 48)))), (za, .inl (cT 0, 302, .inl (upd (upd af 300 0) 301 0)))]) [0, 1, 2, 3] rfl
  have hD9 := hD.sub (ws' := [(y, .inr (11, [.ref y0, .int y1, .int y2, .int y3, .ref y4, .ref y5, .ref y6, .ref y7, .ref y8, .ref y9, .int y10, .int y11, .int y12, .int y13, .int y14, .long y15, .int y16, .int y17, .ref y18, .ref y19, .ref y20, .ref y21, .ref y22, .ref y23, .ref y24, .ref y25, .ref y26, .ref y27, .ref y28, .ref y29, .ref y30, .ref y31, .ref y32, .ref y33, .ref y34, .ref y35, .ref y36, .ref y37, .ref y38, .ref y39, .ref y40, .ref y41, .ref y42, .ref y43, .ref y44, .ref y45, .ref y46, .int 1, .ref y48, .ref y49, .int y50, .int y51, .int y52, .int y53, .long y54, .int y55, .ref y56, .ref y57, .ref y58, .ref y59])), (y49, .inl (cT 2, 3000, .inl (upd (upd (upd (upd df 0 (vp_nar .byte 48)) 1 (vp_nar .byte 48)) 2 (vp_nar .byte 48)) 3 (vp_nar .byte 48)))), (y48, .inl (cT 2, 6000, .inl (upd of 0 (vp_nar .byte 48)))), (za, .inl (cT 0, 302, .inl (upd (upd af 300 0) 301 0)))]) [0, 1, 2, 3] (by decide) rfl
  refine W.widen (k := 0) (n := 0) (Nat.le_of_ble_eq_true rfl) (Nat.le_of_ble_eq_true rfl) ?_
  exact W.vret hx hb hr (fun t ht hW => ⟨⟨(fun _ => 0), rfl, trivial, by rw [ht]; exact hP9, hD9⟩, hS.F ht⟩) hS.2.2 dM_writeDigits_125
set_option maxHeartbeats 4000000 in
set_option maxRecDepth 100000 in
theorem y_write0 (l : Launch) (D : va_G) (cT : Nat → ClassId) (y : Nat) (y0 : Nat) (y1 : Int32) (y2 : Int32) (y3 : Int32) (y4 : Nat) (y5 : Nat) (y6 : Nat) (y7 : Nat) (y8 : Nat) (y9 : Nat) (y10 : Int32) (y11 : Int32) (y12 : Int32) (y13 : Int32) (y14 : Int32) (y15 : Int64) (y16 : Int32) (y17 : Int32) (y18 : Nat) (y19 : Nat) (y20 : Nat) (y21 : Nat) (y22 : Nat) (y23 : Nat) (y24 : Nat) (y25 : Nat) (y26 : Nat) (y27 : Nat) (y28 : Nat) (y29 : Nat) (y30 : Nat) (y31 : Nat) (y32 : Nat) (y33 : Nat) (y34 : Nat) (y35 : Nat) (y36 : Nat) (y37 : Nat) (y38 : Nat) (y39 : Nat) (y40 : Nat) (y41 : Nat) (y42 : Nat) (y43 : Nat) (y44 : Nat) (y45 : Nat) (y46 : Nat) (y47 : Int32) (y48 : Nat) (y49 : Nat) (y50 : Int32) (y51 : Int32) (y52 : Int32) (y53 : Int32) (y54 : Int64) (y55 : Int32) (y56 : Nat) (y57 : Nat) (y58 : Nat) (y59 : Nat) (za : Nat) (af : Nat → Int32) (zl : Nat) (lf : Nat → Int32) (df : Nat → Int32) (of : Nat → Int32) (hf : Nat → Int32) (h0 : af 300 = 0) (h1 : af 301 = 0) (hz : ∀ k : Nat, k < 19 → lf k = 0) (sz : Nat) : Met l yM_write WM_write ({ frames := 3, cells := 0, slots := 0, locals := 72 } : Room) (RW D vwCl [.ref y, .ref za, .ref zl] [(y, .inr (11, [.ref y0, .int y1, .int y2, .int y3, .ref y4, .ref y5, .ref y6, .ref y7, .ref y8, .ref y9, .int y10, .int y11, .int y12, .int y13, .int y14, .long y15, .int y16, .int y17, .ref y18, .ref y19, .ref y20, .ref y21, .ref y22, .ref y23, .ref y24, .ref y25, .ref y26, .ref y27, .ref y28, .ref y29, .ref y30, .ref y31, .ref y32, .ref y33, .ref y34, .ref y35, .ref y36, .ref y37, .ref y38, .ref y39, .ref y40, .ref y41, .ref y42, .ref y43, .ref y44, .ref y45, .ref y46, .int y47, .ref y48, .ref y49, .int y50, .int y51, .int y52, .int y53, .long y54, .int y55, .ref y56, .ref y57, .ref y58, .ref y59])), (za, .inl (cT 0, 302, .inl af)), (zl, .inl (cT 0, 19, .inl lf)), (y49, .inl (cT 2, 3000, .inl df)), (y48, .inl (cT 2, 6000, .inl of)), (y31, .inl (cT 0, 302, .inl hf))] (TY cT) sz) (va_Qi (fun (r : Int32) (_ : Nat → Nat) => r = 1) (BW D vwCl (va_A [(y, .inr (11, [.ref y0, .int y1, .int y2, .int y3, .ref y4, .ref y5, .ref y6, .ref y7, .ref y8, .ref y9, .int y10, .int y11, .int y12, .int y13, .int y14, .long y15, .int y16, .int y17, .ref y18, .ref y19, .ref y20, .ref y21, .ref y22, .ref y23, .ref y24, .ref y25, .ref y26, .ref y27, .ref y28, .ref y29, .ref y30, .ref y31, .ref y32, .ref y33, .ref y34, .ref y35, .ref y36, .ref y37, .ref y38, .ref y39, .ref y40, .ref y41, .ref y42, .ref y43, .ref y44, .ref y45, .ref y46, .int y47, .ref y48, .ref y49, .int y50, .int y51, .int y52, .int y53, .long y54, .int y55, .ref y56, .ref y57, .ref y58, .ref y59])), (za, .inl (cT 0, 302, .inl af)), (zl, .inl (cT 0, 19, .inl lf)), (y49, .inl (cT 2, 3000, .inl df)), (y48, .inl (cT 2, 6000, .inl of)), (y31, .inl (cT 0, 302, .inl hf))] sz) (fun u => [(zl, .inl (cT 0, 19, .inl lf)), (y, .inr (11, [.ref y0, .int y1, .int y2, .int y3, .ref y4, .ref y5, .ref y6, .ref y7, .ref y8, .ref y9, .int y10, .int y11, .int y12, .int y13, .int y14, .long y15, .int y16, .int y17, .ref y18, .ref y19, .ref y20, .ref y21, .ref y22, .ref y23, .ref y24, .ref y25, .ref y26, .ref y27, .ref y28, .ref y29, .ref y30, .ref y31, .ref y32, .ref y33, .ref y34, .ref y35, .ref y36, .ref y37, .ref y38, .ref y39, .ref y40, .ref y41, .ref y42, .ref y43, .ref y44, .ref y45, .ref y46, .int 1, .ref y48, .ref y49, .int y50, .int y51, .int y52, .int y53, .long y54, .int y55, .ref y56, .ref y57, .ref y58, .ref y59])), (y49, .inl (cT 2, 3000, .inl (upd (upd (upd (upd df 0 (vp_nar .byte 48)) 1 (vp_nar .byte 48)) 2 (vp_nar .byte 48)) 3 (vp_nar .byte 48)))), (y48, .inl (cT 2, 6000, .inl (upd of 0 (vp_nar .byte 48)))), (za, .inl (cT 0, 302, .inl (upd (upd af 300 0) 301 0))), (y31, .inl (cT 0, 302, .inl (upd (upd (upd hf 0 1) 300 1) 301 1)))])) (va_A [(y, .inr (11, [.ref y0, .int y1, .int y2, .int y3, .ref y4, .ref y5, .ref y6, .ref y7, .ref y8, .ref y9, .int y10, .int y11, .int y12, .int y13, .int y14, .long y15, .int y16, .int y17, .ref y18, .ref y19, .ref y20, .ref y21, .ref y22, .ref y23, .ref y24, .ref y25, .ref y26, .ref y27, .ref y28, .ref y29, .ref y30, .ref y31, .ref y32, .ref y33, .ref y34, .ref y35, .ref y36, .ref y37, .ref y38, .ref y39, .ref y40, .ref y41, .ref y42, .ref y43, .ref y44, .ref y45, .ref y46, .int y47, .ref y48, .ref y49, .int y50, .int y51, .int y52, .int y53, .long y54, .int y55, .ref y56, .ref y57, .ref y58, .ref y59])), (za, .inl (cT 0, 302, .inl af)), (zl, .inl (cT 0, 19, .inl lf)), (y49, .inl (cT 2, 3000, .inl df)), (y48, .inl (cT 2, 6000, .inl of)), (y31, .inl (cT 0, 302, .inl hf))] sz)) 0 0 (va_A [(y, .inr (11, [.ref y0, .int y1, .int y2, .int y3, .ref y4, .ref y5, .ref y6, .ref y7, .ref y8, .ref y9, .int y10, .int y11, .int y12, .int y13, .int y14, .long y15, .int y16, .int y17, .ref y18, .ref y19, .ref y20, .ref y21, .ref y22, .ref y23, .ref y24, .ref y25, .ref y26, .ref y27, .ref y28, .ref y29, .ref y30, .ref y31, .ref y32, .ref y33, .ref y34, .ref y35, .ref y36, .ref y37, .ref y38, .ref y39, .ref y40, .ref y41, .ref y42, .ref y43, .ref y44, .ref y45, .ref y46, .int y47, .ref y48, .ref y49, .int y50, .int y51, .int y52, .int y53, .long y54, .int y55, .ref y56, .ref y57, .ref y58, .ref y59])), (za, .inl (cT 0, 302, .inl af)), (zl, .inl (cT 0, 19, .inl lf)), (y49, .inl (cT 2, 3000, .inl df)), (y48, .inl (cT 2, 6000, .inl of)), (y31, .inl (cT 0, 302, .inl hf))] sz) := by
  refine Met.ofW (cc := cM_write) (maxL := 6) (ret := (some .int)) (by decide) rfl ?_
  intro p e s m args below meth c s₁ B hml hv
  obtain ⟨rfl, hsz, hZ, hP, hK, hD0⟩ := hv
  have hx := B.exec
  have hb := B.bytes
  have hr := B.returns
  have hts := atoms_spec (ws := WM_write) B.pre
  have hT : ∀ w ∈ TB, w.before _ s = true := fun w h => hts w (List.mem_cons_of_mem _ h)
  have hown : s.vm.findClass R_M = some m.cls := findClass_of_methodNamed B.named
  have hlocks := B.notSynchronized
  subst hsz
  have hD := hD0.self (sz := s.heap.size)
  generalize hAe : va_A [(y, .inr (11, [.ref y0, .int y1, .int y2, .int y3, .ref y4, .ref y5, .ref y6, .ref y7, .ref y8, .ref y9, .int y10, .int y11, .int y12, .int y13, .int y14, .long y15, .int y16, .int y17, .ref y18, .ref y19, .ref y20, .ref y21, .ref y22, .ref y23, .ref y24, .ref y25, .ref y26, .ref y27, .ref y28, .ref y29, .ref y30, .ref y31, .ref y32, .ref y33, .ref y34, .ref y35, .ref y36, .ref y37, .ref y38, .ref y39, .ref y40, .ref y41, .ref y42, .ref y43, .ref y44, .ref y45, .ref y46, .int y47, .ref y48, .ref y49, .int y50, .int y51, .int y52, .int y53, .long y54, .int y55, .ref y56, .ref y57, .ref y58, .ref y59])), (za, .inl (cT 0, 302, .inl af)), (zl, .inl (cT 0, 19, .inl lf)), (y49, .inl (cT 2, 3000, .inl df)), (y48, .inl (cT 2, 6000, .inl of)), (y31, .inl (cT 0, 302, .inl hf))] s.heap.size = A at hD hZ ⊢
  have hA : ∀ q : Nat, s.heap.size ≤ q → A q := fun q h => by rw [← hAe]; exact Or.inr h
  have hS : va_S A s.heap s.heap [] := va_S.rf
  have hl := lv_entry ([.ref y, .ref za, .ref zl]) (n := 6) (Nat.le_of_ble_eq_true rfl)
  rw [lg_entry_eq]
  generalize (lg_sl ([.ref y, .ref za, .ref zl]) ++ List.replicate (6 - (lg_sl ([.ref y, .ref za, .ref zl])).length) Slot.unset).toArray = ls at hl ⊢
  have hl : lv_has ls 6 [(0, .ref y), (1, .ref za), (2, .ref zl)] := hl
  refine lv_aload_n hx hb dM_write_0 rfl (lv_at hl 0 rfl) ?_
  refine lv_iconst (v := 0) hx hb dM_write_1 (by decide) ?_
  refine va_put (D := D) (ci := 11) (v := .int 0) (ty := .int) (C := R_M) (T := T_M) (N := 60) hx hb hT in_M ty_M ty_M_ok m_M hown hK hP hD hS 0 rfl rfl 47 (by decide) (hT _ w1151) (fun _ h9 => h9) rfl (by decide +kernel) rfl rfl (Nat.le_of_ble_eq_true rfl) dM_write_2 (fun H locs hP hD hS => ?_)
  have hP : va_P D vwCl [(y, .inr (11, [.ref y0, .int y1, .int y2, .int y3, .ref y4, .ref y5, .ref y6, .ref y7, .ref y8, .ref y9, .int y10, .int y11, .int y12, .int y13, .int y14, .long y15, .int y16, .int y17, .ref y18, .ref y19, .ref y20, .ref y21, .ref y22, .ref y23, .ref y24, .ref y25, .ref y26, .ref y27, .ref y28, .ref y29, .ref y30, .ref y31, .ref y32, .ref y33, .ref y34, .ref y35, .ref y36, .ref y37, .ref y38, .ref y39, .ref y40, .ref y41, .ref y42, .ref y43, .ref y44, .ref y45, .ref y46, .int 0, .ref y48, .ref y49, .int y50, .int y51, .int y52, .int y53, .long y54, .int y55, .ref y56, .ref y57, .ref y58, .ref y59])), (za, .inl (cT 0, 302, .inl af)), (zl, .inl (cT 0, 19, .inl lf)), (y49, .inl (cT 2, 3000, .inl df)), (y48, .inl (cT 2, 6000, .inl of)), (y31, .inl (cT 0, 302, .inl hf))] H := hP
  have hD : va_D A [(y, .inr (11, [.ref y0, .int y1, .int y2, .int y3, .ref y4, .ref y5, .ref y6, .ref y7, .ref y8, .ref y9, .int y10, .int y11, .int y12, .int y13, .int y14, .long y15, .int y16, .int y17, .ref y18, .ref y19, .ref y20, .ref y21, .ref y22, .ref y23, .ref y24, .ref y25, .ref y26, .ref y27, .ref y28, .ref y29, .ref y30, .ref y31, .ref y32, .ref y33, .ref y34, .ref y35, .ref y36, .ref y37, .ref y38, .ref y39, .ref y40, .ref y41, .ref y42, .ref y43, .ref y44, .ref y45, .ref y46, .int 0, .ref y48, .ref y49, .int y50, .int y51, .int y52, .int y53, .long y54, .int y55, .ref y56, .ref y57, .ref y58, .ref y59])), (za, .inl (cT 0, 302, .inl af)), (zl, .inl (cT 0, 19, .inl lf)), (y49, .inl (cT 2, 3000, .inl df)), (y48, .inl (cT 2, 6000, .inl of)), (y31, .inl (cT 0, 302, .inl hf))] := hD
  refine lv_aload_n hx hb dM_write_5 rfl (lv_at hl 1 rfl) ?_
  refine lv_sipush (v := 301) hx hb dM_write_6 (by decide) ?_
  refine va_iald hx hb hK hP 1 0 rfl rfl (by unfold vp_in; decide) dM_write_9 ?_
  refine lv_topi (fun y9 e9 => ?_)
  cases (show y9 = 0 from e9.trans h1)
  refine lv_if_ge (tgt := 26) hx hb dM_write_10 rfl (fun _ => ?_) (fun hj1 => absurd (by decide) hj1)
  refine lv_aload_n hx hb dM_write_26 rfl (lv_at hl 0 rfl) ?_
  refine lv_aload_n hx hb dM_write_27 rfl (lv_at hl 1 rfl) ?_
  refine rw_v (wc := [(y, .inr (11, [.ref y0, .int y1, .int y2, .int y3, .ref y4, .ref y5, .ref y6, .ref y7, .ref y8, .ref y9, .int y10, .int y11, .int y12, .int y13, .int y14, .long y15, .int y16, .int y17, .ref y18, .ref y19, .ref y20, .ref y21, .ref y22, .ref y23, .ref y24, .ref y25, .ref y26, .ref y27, .ref y28, .ref y29, .ref y30, .ref y31, .ref y32, .ref y33, .ref y34, .ref y35, .ref y36, .ref y37, .ref y38, .ref y39, .ref y40, .ref y41, .ref y42, .ref y43, .ref y44, .ref y45, .ref y46, .int 0, .ref y48, .ref y49, .int y50, .int y51, .int y52, .int y53, .long y54, .int y55, .ref y56, .ref y57, .ref y58, .ref y59])), (za, .inl (cT 0, 302, .inl af)), (y49, .inl (cT 2, 3000, .inl df)), (y48, .inl (cT 2, 6000, .inl of))]) (wr := [(zl, .inl (cT 0, 19, .inl lf)), (y31, .inl (cT 0, 302, .inl hf))]) hP hD hS hA [0, 1, 3, 4] [2, 5] rfl rfl (by decide) (by decide) (va_runV (As := [.ref za]) (rest := []) ⟨hx, hb, hml, hown, hT⟩ (y_writeDigits0 l D cT y y0 y1 y2 y3 y4 y5 y6 y7 y8 y9 y10 y11 y12 y13 y14 y15 y16 y17 y18 y19 y20 y21 y22 y23 y24 y25 y26 y27 y28 y29 y30 y31 y32 y33 y34 y35 y36 y37 y38 y39 y40 y41 y42 y43 y44 y45 y46 y48 y49 y50 y51 y52 y53 y54 y55 y56 y57 y58 y59 za af df of h0 _) ⟨callB_of 1 hT (tb_gd w1563) rfl rfl rfl (hT _ w13) (hT _ w1560) hM_writeDigits ⟨Nat.le_of_ble_eq_true rfl, Nat.le_of_ble_eq_true rfl⟩, (hT _ w1562), (hT _ wp63)⟩ (RW.preV (ci := 11) (q0 := 0) hZ hS (va_free (wc := [(y, .inr (11, [.ref y0, .int y1, .int y2, .int y3, .ref y4, .ref y5, .ref y6, .ref y7, .ref y8, .ref y9, .int y10, .int y11, .int y12, .int y13, .int y14, .long y15, .int y16, .int y17, .ref y18, .ref y19, .ref y20, .ref y21, .ref y22, .ref y23, .ref y24, .ref y25, .ref y26, .ref y27, .ref y28, .ref y29, .ref y30, .ref y31, .ref y32, .ref y33, .ref y34, .ref y35, .ref y36, .ref y37, .ref y38, .ref y39, .ref y40, .ref y41, .ref y42, .ref y43, .ref y44, .ref y45, .ref y46, .int 0, .ref y48, .ref y49, .int y50, .int y51, .int y52, .int y53, .long y54, .int y55, .ref y56, .ref y57, .ref y58, .ref y59])), (za, .inl (cT 0, 302, .inl af)), (y49, .inl (cT 2, 3000, .inl df)), (y48, .inl (cT 2, 6000, .inl of))]) hD hS hA [0, 1, 3, 4] rfl) (hP.sub (ws' := [(y, .inr (11, [.ref y0, .int y1, .int y2, .int y3, .ref y4, .ref y5, .ref y6, .ref y7, .ref y8, .ref y9, .int y10, .int y11, .int y12, .int y13, .int y14, .long y15, .int y16, .int y17, .ref y18, .ref y19, .ref y20, .ref y21, .ref y22, .ref y23, .ref y24, .ref y25, .ref y26, .ref y27, .ref y28, .ref y29, .ref y30, .ref y31, .ref y32, .ref y33, .ref y34, .ref y35, .ref y36, .ref y37, .ref y38, .ref y39, .ref y40, .ref y41, .ref y42, .ref y43, .ref y44, .ref y45, .ref y46, .int 0, .ref y48, .ref y49, .int y50, .int y51, .int y52, .int y53, .long y54, .int y55, .ref y56, .ref y57, .ref y58, .ref y59])), (za, .inl (cT 0, 302, .inl af)), (y49, .inl (cT 2, 3000, .inl df)), (y48, .inl (cT 2, 6000, .inl of))]) [0, 1, 3, 4] rfl) hK (hD.sub (ws' := [(y, .inr (11, [.ref y0, .int y1, .int y2, .int y3, .ref y4, .ref y5, .ref y6, .ref y7, .ref y8, .ref y9, .int y10, .int y11, .int y12, .int y13, .int y14, .long y15, .int y16, .int y17, .ref y18, .ref y19, .ref y20, .ref y21, .ref y22, .ref y23, .ref y24, .ref y25, .ref y26, .ref y27, .ref y28, .ref y29, .ref y30, .ref y31, .ref y32, .ref y33, .ref y34, .ref y35, .ref y36, .ref y37, .ref y38, .ref y39, .ref y40, .ref y41, .ref y42, .ref y43, .ref y44, .ref y45, .ref y46, .int 0, .ref y48, .ref y49, .int y50, .int y51, .int y52, .int y53, .long y54, .int y55, .ref y56, .ref y57, .ref y58, .ref y59])), (za, .inl (cT 0, 302, .inl af)), (y49, .inl (cT 2, 3000, .inl df)), (y48, .inl (cT 2, 6000, .inl of))]) [0, 1, 3, 4] (by decide) rfl) rfl rfl) rfl rfl hl.1 rfl (lv_room (Nat.le_of_ble_eq_true rfl)) dM_write_28 ⟨Nat.le_of_ble_eq_true rfl, Nat.le_of_ble_eq_true rfl⟩) (fun u2 H locs hpu2 hP hD hS => ?_)
  have hP : va_P D vwCl [(zl, .inl (cT 0, 19, .inl lf)), (y31, .inl (cT 0, 302, .inl hf)), (y, .inr (11, [.ref y0, .int y1, .int y2, .int y3, .ref y4, .ref y5, .ref y6, .ref y7, .ref y8, .ref y9, .int y10, .int y11, .int y12, .int y13, .int y14, .long y15, .int y16, .int y17, .ref y18, .ref y19, .ref y20, .ref y21, .ref y22, .ref y23, .ref y24, .ref y25, .ref y26, .ref y27, .ref y28, .ref y29, .ref y30, .ref y31, .ref y32, .ref y33, .ref y34, .ref y35, .ref y36, .ref y37, .ref y38, .ref y39, .ref y40, .ref y41, .ref y42, .ref y43, .ref y44, .ref y45, .ref y46, .int 1, .ref y48, .ref y49, .int y50, .int y51, .int y52, .int y53, .long y54, .int y55, .ref y56, .ref y57, .ref y58, .ref y59])), (y49, .inl (cT 2, 3000, .inl (upd (upd (upd (upd df 0 (vp_nar .byte 48)) 1 (vp_nar .byte 48)) 2 (vp_nar .byte 48)) 3 (vp_nar .byte 48)))), (y48, .inl (cT 2, 6000, .inl (upd of 0 (vp_nar .byte 48)))), (za, .inl (cT 0, 302, .inl (upd (upd af 300 0) 301 0)))] H := hP
  have hD : va_D A [(zl, .inl (cT 0, 19, .inl lf)), (y31, .inl (cT 0, 302, .inl hf)), (y, .inr (11, [.ref y0, .int y1, .int y2, .int y3, .ref y4, .ref y5, .ref y6, .ref y7, .ref y8, .ref y9, .int y10, .int y11, .int y12, .int y13, .int y14, .long y15, .int y16, .int y17, .ref y18, .ref y19, .ref y20, .ref y21, .ref y22, .ref y23, .ref y24, .ref y25, .ref y26, .ref y27, .ref y28, .ref y29, .ref y30, .ref y31, .ref y32, .ref y33, .ref y34, .ref y35, .ref y36, .ref y37, .ref y38, .ref y39, .ref y40, .ref y41, .ref y42, .ref y43, .ref y44, .ref y45, .ref y46, .int 1, .ref y48, .ref y49, .int y50, .int y51, .int y52, .int y53, .long y54, .int y55, .ref y56, .ref y57, .ref y58, .ref y59])), (y49, .inl (cT 2, 3000, .inl (upd (upd (upd (upd df 0 (vp_nar .byte 48)) 1 (vp_nar .byte 48)) 2 (vp_nar .byte 48)) 3 (vp_nar .byte 48)))), (y48, .inl (cT 2, 6000, .inl (upd of 0 (vp_nar .byte 48)))), (za, .inl (cT 0, 302, .inl (upd (upd af 300 0) 301 0)))] := hD
  refine lv_iconst (v := 1) hx hb dM_write_31 (by decide) ?_
  refine lv_istore_n hx hb dM_write_32 rfl hl (by decide) rfl (fun ls hl => ?_)
  have hl : lv_has ls 6 [(3, .int 1), (0, .ref y), (1, .ref za), (2, .ref zl)] := hl
  refine lv_aload_n hx hb dM_write_33 rfl (lv_at hl 1 rfl) ?_
  refine va_get (D := D) (ci := 11) (v := .ref y31) (C := R_M) (T := T_M) (N := 60) hx hb hT in_M hown hK hP 2 rfl rfl 31 (by decide) (hT _ w1135) (fun _ h9 => h9) rfl dM_write_34 ?_
  refine lv_lconst (v := 1) hx hb dM_write_37 (by decide) ?_
  refine rw_v (wc := [(y31, .inl (cT 0, 302, .inl hf))]) (wr := [(zl, .inl (cT 0, 19, .inl lf)), (y, .inr (11, [.ref y0, .int y1, .int y2, .int y3, .ref y4, .ref y5, .ref y6, .ref y7, .ref y8, .ref y9, .int y10, .int y11, .int y12, .int y13, .int y14, .long y15, .int y16, .int y17, .ref y18, .ref y19, .ref y20, .ref y21, .ref y22, .ref y23, .ref y24, .ref y25, .ref y26, .ref y27, .ref y28, .ref y29, .ref y30, .ref y31, .ref y32, .ref y33, .ref y34, .ref y35, .ref y36, .ref y37, .ref y38, .ref y39, .ref y40, .ref y41, .ref y42, .ref y43, .ref y44, .ref y45, .ref y46, .int 1, .ref y48, .ref y49, .int y50, .int y51, .int y52, .int y53, .long y54, .int y55, .ref y56, .ref y57, .ref y58, .ref y59])), (y49, .inl (cT 2, 3000, .inl (upd (upd (upd (upd df 0 (vp_nar .byte 48)) 1 (vp_nar .byte 48)) 2 (vp_nar .byte 48)) 3 (vp_nar .byte 48)))), (y48, .inl (cT 2, 6000, .inl (upd of 0 (vp_nar .byte 48)))), (za, .inl (cT 0, 302, .inl (upd (upd af 300 0) 301 0)))]) hP hD hS hA [1] [0, 2, 3, 4, 5] rfl rfl (by decide) (by decide) (va_runS (As := [.ref y31, .long 1]) (rest := []) ⟨hx, hb, hml, hown, hT⟩ (y_setInt1 l D cT y31 hf _) ⟨callB_of 2 hT (tb_gd w1387) rfl rfl rfl (hT _ w13) (hT _ w1385) hM_setInt ⟨Nat.le_of_ble_eq_true rfl, Nat.le_of_ble_eq_true rfl⟩, (hT _ w1386)⟩ (RW.preS hZ hS (va_free (wc := [(y31, .inl (cT 0, 302, .inl hf))]) hD hS hA [1] rfl) (hP.sub (ws' := [(y31, .inl (cT 0, 302, .inl hf))]) [1] rfl) hK (hD.sub (ws' := [(y31, .inl (cT 0, 302, .inl hf))]) [1] (by decide) rfl)) rfl rfl hl.1 rfl (lv_room (Nat.le_of_ble_eq_true rfl)) dM_write_38 ⟨Nat.le_of_ble_eq_true rfl, Nat.le_of_ble_eq_true rfl⟩) (fun u3 H locs hpu3 hP hD hS => ?_)
  have hP : va_P D vwCl [(zl, .inl (cT 0, 19, .inl lf)), (y, .inr (11, [.ref y0, .int y1, .int y2, .int y3, .ref y4, .ref y5, .ref y6, .ref y7, .ref y8, .ref y9, .int y10, .int y11, .int y12, .int y13, .int y14, .long y15, .int y16, .int y17, .ref y18, .ref y19, .ref y20, .ref y21, .ref y22, .ref y23, .ref y24, .ref y25, .ref y26, .ref y27, .ref y28, .ref y29, .ref y30, .ref y31, .ref y32, .ref y33, .ref y34, .ref y35, .ref y36, .ref y37, .ref y38, .ref y39, .ref y40, .ref y41, .ref y42, .ref y43, .ref y44, .ref y45, .ref y46, .int 1, .ref y48, .ref y49, .int y50, .int y51, .int y52, .int y53, .long y54, .int y55, .ref y56, .ref y57, .ref y58, .ref y59])), (y49, .inl (cT 2, 3000, .inl (upd (upd (upd (upd df 0 (vp_nar .byte 48)) 1 (vp_nar .byte 48)) 2 (vp_nar .byte 48)) 3 (vp_nar .byte 48)))), (y48, .inl (cT 2, 6000, .inl (upd of 0 (vp_nar .byte 48)))), (za, .inl (cT 0, 302, .inl (upd (upd af 300 0) 301 0))), (y31, .inl (cT 0, 302, .inl (upd (upd (upd hf 0 1) 300 1) 301 1)))] H := hP
  have hD : va_D A [(zl, .inl (cT 0, 19, .inl lf)), (y, .inr (11, [.ref y0, .int y1, .int y2, .int y3, .ref y4, .ref y5, .ref y6, .ref y7, .ref y8, .ref y9, .int y10, .int y11, .int y12, .int y13, .int y14, .long y15, .int y16, .int y17, .ref y18, .ref y19, .ref y20, .ref y21, .ref y22, .ref y23, .ref y24, .ref y25, .ref y26, .ref y27, .ref y28, .ref y29, .ref y30, .ref y31, .ref y32, .ref y33, .ref y34, .ref y35, .ref y36, .ref y37, .ref y38, .ref y39, .ref y40, .ref y41, .ref y42, .ref y43, .ref y44, .ref y45, .ref y46, .int 1, .ref y48, .ref y49, .int y50, .int y51, .int y52, .int y53, .long y54, .int y55, .ref y56, .ref y57, .ref y58, .ref y59])), (y49, .inl (cT 2, 3000, .inl (upd (upd (upd (upd df 0 (vp_nar .byte 48)) 1 (vp_nar .byte 48)) 2 (vp_nar .byte 48)) 3 (vp_nar .byte 48)))), (y48, .inl (cT 2, 6000, .inl (upd of 0 (vp_nar .byte 48)))), (za, .inl (cT 0, 302, .inl (upd (upd af 300 0) 301 0))), (y31, .inl (cT 0, 302, .inl (upd (upd (upd hf 0 1) 300 1) 301 1)))] := hD
  refine lv_iconst (v := 0) hx hb dM_write_41 (by decide) ?_
  refine lv_istore hx hb dM_write_42 hl (by decide) rfl (fun ls hl => ?_)
  have hl : lv_has ls 6 [(4, .int 0), (3, .int 1), (0, .ref y), (1, .ref za), (2, .ref zl)] := hl
  refine lv_iload hx hb dM_write_44 (lv_at hl 0 rfl) ?_
  refine lv_bipush (v := 19) hx hb dM_write_46 (by decide) ?_
  refine lv_icmp_ge (tgt := 106) hx hb dM_write_48 rfl (fun hj4 => absurd hj4 (by decide)) (fun _ => ?_)
  refine lv_iload_n hx hb dM_write_51 rfl (lv_at hl 1 rfl) ?_
  refine lv_if_eq (tgt := 66) hx hb dM_write_52 rfl (fun hj5 => absurd hj5 (by decide)) (fun _ => ?_)
  refine lv_aload_n hx hb dM_write_55 rfl (lv_at hl 4 rfl) ?_
  refine lv_iload hx hb dM_write_56 (lv_at hl 0 rfl) ?_
  refine va_iald hx hb hK hP 0 0 rfl rfl (by unfold vp_in; decide) dM_write_58 ?_
  refine lv_topi (fun y9 e9 => ?_)
  cases (show y9 = 0 from e9.trans (hz 0 (by decide)))
  refine lv_if_ne (tgt := 66) hx hb dM_write_59 rfl (fun hj6 => absurd (by decide) hj6) (fun _ => ?_)
  refine lv_iconst (v := 1) hx hb dM_write_62 (by decide) ?_
  refine lv_goto (tgt := 67) hx hb dM_write_63 rfl ?_
  refine lv_istore_n hx hb dM_write_67 rfl hl (by decide) rfl (fun ls hl => ?_)
  have hl : lv_has ls 6 [(3, .int 1), (4, .int 0), (0, .ref y), (1, .ref za), (2, .ref zl)] := hl
  refine lv_iconst (v := 0) hx hb dM_write_68 (by decide) ?_
  refine lv_istore hx hb dM_write_69 hl (by decide) rfl (fun ls hl => ?_)
  have hl : lv_has ls 6 [(5, .int 0), (3, .int 1), (4, .int 0), (0, .ref y), (1, .ref za), (2, .ref zl)] := hl
  refine lv_iload hx hb dM_write_71 (lv_at hl 0 rfl) ?_
  refine lv_aload_n hx hb dM_write_73 rfl (lv_at hl 5 rfl) ?_
  refine lv_iload hx hb dM_write_74 (lv_at hl 2 rfl) ?_
  refine va_iald hx hb hK hP 0 0 rfl rfl (by unfold vp_in; decide) dM_write_76 ?_
  refine lv_topi (fun y9 e9 => ?_)
  cases (show y9 = 0 from e9.trans (hz 0 (by decide)))
  refine lv_icmp_ge (tgt := 100) hx hb dM_write_77 rfl (fun _ => ?_) (fun hj7 => absurd (by decide) hj7)
  refine lv_iinc (k := 2) (v := 1) hx hb dM_write_100 hl rfl (by decide) (by decide) rfl (fun ls hl => ?_)
  have hl : lv_has ls 6 [(4, .int 1), (5, .int 0), (3, .int 1), (0, .ref y), (1, .ref za), (2, .ref zl)] := hl
  refine lv_goto (tgt := 44) hx hb dM_write_103 rfl ?_
  refine lv_iload hx hb dM_write_44 (lv_at hl 0 rfl) ?_
  refine lv_bipush (v := 19) hx hb dM_write_46 (by decide) ?_
  refine lv_icmp_ge (tgt := 106) hx hb dM_write_48 rfl (fun hj8 => absurd hj8 (by decide)) (fun _ => ?_)
  refine lv_iload_n hx hb dM_write_51 rfl (lv_at hl 2 rfl) ?_
  refine lv_if_eq (tgt := 66) hx hb dM_write_52 rfl (fun hj9 => absurd hj9 (by decide)) (fun _ => ?_)
  refine lv_aload_n hx hb dM_write_55 rfl (lv_at hl 5 rfl) ?_
  refine lv_iload hx hb dM_write_56 (lv_at hl 0 rfl) ?_
  refine va_iald hx hb hK hP 0 0 rfl rfl (by unfold vp_in; decide) dM_write_58 ?_
  refine lv_topi (fun y9 e9 => ?_)
  cases (show y9 = 0 from e9.trans (hz 1 (by decide)))
  refine lv_if_ne (tgt := 66) hx hb dM_write_59 rfl (fun hj10 => absurd (by decide) hj10) (fun _ => ?_)
  refine lv_iconst (v := 1) hx hb dM_write_62 (by decide) ?_
  refine lv_goto (tgt := 67) hx hb dM_write_63 rfl ?_
  refine lv_istore_n hx hb dM_write_67 rfl hl (by decide) rfl (fun ls hl => ?_)
  have hl : lv_has ls 6 [(3, .int 1), (4, .int 1), (5, .int 0), (0, .ref y), (1, .ref za), (2, .ref zl)] := hl
  refine lv_iconst (v := 0) hx hb dM_write_68 (by decide) ?_
  refine lv_istore hx hb dM_write_69 hl (by decide) rfl (fun ls hl => ?_)
  have hl : lv_has ls 6 [(5, .int 0), (3, .int 1), (4, .int 1), (0, .ref y), (1, .ref za), (2, .ref zl)] := hl
  refine lv_iload hx hb dM_write_71 (lv_at hl 0 rfl) ?_
  refine lv_aload_n hx hb dM_write_73 rfl (lv_at hl 5 rfl) ?_
  refine lv_iload hx hb dM_write_74 (lv_at hl 2 rfl) ?_
  refine va_iald hx hb hK hP 0 0 rfl rfl (by unfold vp_in; decide) dM_write_76 ?_
  refine lv_topi (fun y9 e9 => ?_)
  cases (show y9 = 0 from e9.trans (hz 1 (by decide)))
  refine lv_icmp_ge (tgt := 100) hx hb dM_write_77 rfl (fun _ => ?_) (fun hj11 => absurd (by decide) hj11)
  refine lv_iinc (k := 2) (v := 2) hx hb dM_write_100 hl rfl (by decide) (by decide) rfl (fun ls hl => ?_)
  have hl : lv_has ls 6 [(4, .int 2), (5, .int 0), (3, .int 1), (0, .ref y), (1, .ref za), (2, .ref zl)] := hl
  refine lv_goto (tgt := 44) hx hb dM_write_103 rfl ?_
  refine lv_iload hx hb dM_write_44 (lv_at hl 0 rfl) ?_
  refine lv_bipush (v := 19) hx hb dM_write_46 (by decide) ?_
  refine lv_icmp_ge (tgt := 106) hx hb dM_write_48 rfl (fun hj12 => absurd hj12 (by decide)) (fun _ => ?_)
  refine lv_iload_n hx hb dM_write_51 rfl (lv_at hl 2 rfl) ?_
  refine lv_if_eq (tgt := 66) hx hb dM_write_52 rfl (fun hj13 => absurd hj13 (by decide)) (fun _ => ?_)
  refine lv_aload_n hx hb dM_write_55 rfl (lv_at hl 5 rfl) ?_
  refine lv_iload hx hb dM_write_56 (lv_at hl 0 rfl) ?_
  refine va_iald hx hb hK hP 0 0 rfl rfl (by unfold vp_in; decide) dM_write_58 ?_
  refine lv_topi (fun y9 e9 => ?_)
  cases (show y9 = 0 from e9.trans (hz 2 (by decide)))
  refine lv_if_ne (tgt := 66) hx hb dM_write_59 rfl (fun hj14 => absurd (by decide) hj14) (fun _ => ?_)
  refine lv_iconst (v := 1) hx hb dM_write_62 (by decide) ?_
  refine lv_goto (tgt := 67) hx hb dM_write_63 rfl ?_
  refine lv_istore_n hx hb dM_write_67 rfl hl (by decide) rfl (fun ls hl => ?_)
  have hl : lv_has ls 6 [(3, .int 1), (4, .int 2), (5, .int 0), (0, .ref y), (1, .ref za), (2, .ref zl)] := hl
  refine lv_iconst (v := 0) hx hb dM_write_68 (by decide) ?_
  refine lv_istore hx hb dM_write_69 hl (by decide) rfl (fun ls hl => ?_)
  have hl : lv_has ls 6 [(5, .int 0), (3, .int 1), (4, .int 2), (0, .ref y), (1, .ref za), (2, .ref zl)] := hl
  refine lv_iload hx hb dM_write_71 (lv_at hl 0 rfl) ?_
  refine lv_aload_n hx hb dM_write_73 rfl (lv_at hl 5 rfl) ?_
  refine lv_iload hx hb dM_write_74 (lv_at hl 2 rfl) ?_
  refine va_iald hx hb hK hP 0 0 rfl rfl (by unfold vp_in; decide) dM_write_76 ?_
  refine lv_topi (fun y9 e9 => ?_)
  cases (show y9 = 0 from e9.trans (hz 2 (by decide)))
  refine lv_icmp_ge (tgt := 100) hx hb dM_write_77 rfl (fun _ => ?_) (fun hj15 => absurd (by decide) hj15)
  refine lv_iinc (k := 2) (v := 3) hx hb dM_write_100 hl rfl (by decide) (by decide) rfl (fun ls hl => ?_)
  have hl : lv_has ls 6 [(4, .int 3), (5, .int 0), (3, .int 1), (0, .ref y), (1, .ref za), (2, .ref zl)] := hl
  refine lv_goto (tgt := 44) hx hb dM_write_103 rfl ?_
  refine lv_iload hx hb dM_write_44 (lv_at hl 0 rfl) ?_
  refine lv_bipush (v := 19) hx hb dM_write_46 (by decide) ?_
  refine lv_icmp_ge (tgt := 106) hx hb dM_write_48 rfl (fun hj16 => absurd hj16 (by decide)) (fun _ => ?_)
  refine lv_iload_n hx hb dM_write_51 rfl (lv_at hl 2 rfl) ?_
  refine lv_if_eq (tgt := 66) hx hb dM_write_52 rfl (fun hj17 => absurd hj17 (by decide)) (fun _ => ?_)
  refine lv_aload_n hx hb dM_write_55 rfl (lv_at hl 5 rfl) ?_
  refine lv_iload hx hb dM_write_56 (lv_at hl 0 rfl) ?_
  refine va_iald hx hb hK hP 0 0 rfl rfl (by unfold vp_in; decide) dM_write_58 ?_
  refine lv_topi (fun y9 e9 => ?_)
  cases (show y9 = 0 from e9.trans (hz 3 (by decide)))
  refine lv_if_ne (tgt := 66) hx hb dM_write_59 rfl (fun hj18 => absurd (by decide) hj18) (fun _ => ?_)
  refine lv_iconst (v := 1) hx hb dM_write_62 (by decide) ?_
  refine lv_goto (tgt := 67) hx hb dM_write_63 rfl ?_
  refine lv_istore_n hx hb dM_write_67 rfl hl (by decide) rfl (fun ls hl => ?_)
  have hl : lv_has ls 6 [(3, .int 1), (4, .int 3), (5, .int 0), (0, .ref y), (1, .ref za), (2, .ref zl)] := hl
  refine lv_iconst (v := 0) hx hb dM_write_68 (by decide) ?_
  refine lv_istore hx hb dM_write_69 hl (by decide) rfl (fun ls hl => ?_)
  have hl : lv_has ls 6 [(5, .int 0), (3, .int 1), (4, .int 3), (0, .ref y), (1, .ref za), (2, .ref zl)] := hl
  refine lv_iload hx hb dM_write_71 (lv_at hl 0 rfl) ?_
  refine lv_aload_n hx hb dM_write_73 rfl (lv_at hl 5 rfl) ?_
  refine lv_iload hx hb dM_write_74 (lv_at hl 2 rfl) ?_
  refine va_iald hx hb hK hP 0 0 rfl rfl (by unfold vp_in; decide) dM_write_76 ?_
  refine lv_topi (fun y9 e9 => ?_)
  cases (show y9 = 0 from e9.trans (hz 3 (by decide)))
  refine lv_icmp_ge (tgt := 100) hx hb dM_write_77 rfl (fun _ => ?_) (fun hj19 => absurd (by decide) hj19)
  refine lv_iinc (k := 2) (v := 4) hx hb dM_write_100 hl rfl (by decide) (by decide) rfl (fun ls hl => ?_)
  have hl : lv_has ls 6 [(4, .int 4), (5, .int 0), (3, .int 1), (0, .ref y), (1, .ref za), (2, .ref zl)] := hl
  refine lv_goto (tgt := 44) hx hb dM_write_103 rfl ?_
  refine lv_iload hx hb dM_write_44 (lv_at hl 0 rfl) ?_
  refine lv_bipush (v := 19) hx hb dM_write_46 (by decide) ?_
  refine lv_icmp_ge (tgt := 106) hx hb dM_write_48 rfl (fun hj20 => absurd hj20 (by decide)) (fun _ => ?_)
  refine lv_iload_n hx hb dM_write_51 rfl (lv_at hl 2 rfl) ?_
  refine lv_if_eq (tgt := 66) hx hb dM_write_52 rfl (fun hj21 => absurd hj21 (by decide)) (fun _ => ?_)
  refine lv_aload_n hx hb dM_write_55 rfl (lv_at hl 5 rfl) ?_
  refine lv_iload hx hb dM_write_56 (lv_at hl 0 rfl) ?_
  refine va_iald hx hb hK hP 0 0 rfl rfl (by unfold vp_in; decide) dM_write_58 ?_
  refine lv_topi (fun y9 e9 => ?_)
  cases (show y9 = 0 from e9.trans (hz 4 (by decide)))
  refine lv_if_ne (tgt := 66) hx hb dM_write_59 rfl (fun hj22 => absurd (by decide) hj22) (fun _ => ?_)
  refine lv_iconst (v := 1) hx hb dM_write_62 (by decide) ?_
  refine lv_goto (tgt := 67) hx hb dM_write_63 rfl ?_
  refine lv_istore_n hx hb dM_write_67 rfl hl (by decide) rfl (fun ls hl => ?_)
  have hl : lv_has ls 6 [(3, .int 1), (4, .int 4), (5, .int 0), (0, .ref y), (1, .ref za), (2, .ref zl)] := hl
  refine lv_iconst (v := 0) hx hb dM_write_68 (by decide) ?_
  refine lv_istore hx hb dM_write_69 hl (by decide) rfl (fun ls hl => ?_)
  have hl : lv_has ls 6 [(5, .int 0), (3, .int 1), (4, .int 4), (0, .ref y), (1, .ref za), (2, .ref zl)] := hl
  refine lv_iload hx hb dM_write_71 (lv_at hl 0 rfl) ?_
  refine lv_aload_n hx hb dM_write_73 rfl (lv_at hl 5 rfl) ?_
  refine lv_iload hx hb dM_write_74 (lv_at hl 2 rfl) ?_
  refine va_iald hx hb hK hP 0 0 rfl rfl (by unfold vp_in; decide) dM_write_76 ?_
  refine lv_topi (fun y9 e9 => ?_)
  cases (show y9 = 0 from e9.trans (hz 4 (by decide)))
  refine lv_icmp_ge (tgt := 100) hx hb dM_write_77 rfl (fun _ => ?_) (fun hj23 => absurd (by decide) hj23)
  refine lv_iinc (k := 2) (v := 5) hx hb dM_write_100 hl rfl (by decide) (by decide) rfl (fun ls hl => ?_)
  have hl : lv_has ls 6 [(4, .int 5), (5, .int 0), (3, .int 1), (0, .ref y), (1, .ref za), (2, .ref zl)] := hl
  refine lv_goto (tgt := 44) hx hb dM_write_103 rfl ?_
  refine lv_iload hx hb dM_write_44 (lv_at hl 0 rfl) ?_
  refine lv_bipush (v := 19) hx hb dM_write_46 (by decide) ?_
  refine lv_icmp_ge (tgt := 106) hx hb dM_write_48 rfl (fun hj24 => absurd hj24 (by decide)) (fun _ => ?_)
  refine lv_iload_n hx hb dM_write_51 rfl (lv_at hl 2 rfl) ?_
  refine lv_if_eq (tgt := 66) hx hb dM_write_52 rfl (fun hj25 => absurd hj25 (by decide)) (fun _ => ?_)
  refine lv_aload_n hx hb dM_write_55 rfl (lv_at hl 5 rfl) ?_
  refine lv_iload hx hb dM_write_56 (lv_at hl 0 rfl) ?_
  refine va_iald hx hb hK hP 0 0 rfl rfl (by unfold vp_in; decide) dM_write_58 ?_
  refine lv_topi (fun y9 e9 => ?_)
  cases (show y9 = 0 from e9.trans (hz 5 (by decide)))
  refine lv_if_ne (tgt := 66) hx hb dM_write_59 rfl (fun hj26 => absurd (by decide) hj26) (fun _ => ?_)
  refine lv_iconst (v := 1) hx hb dM_write_62 (by decide) ?_
  refine lv_goto (tgt := 67) hx hb dM_write_63 rfl ?_
  refine lv_istore_n hx hb dM_write_67 rfl hl (by decide) rfl (fun ls hl => ?_)
  have hl : lv_has ls 6 [(3, .int 1), (4, .int 5), (5, .int 0), (0, .ref y), (1, .ref za), (2, .ref zl)] := hl
  refine lv_iconst (v := 0) hx hb dM_write_68 (by decide) ?_
  refine lv_istore hx hb dM_write_69 hl (by decide) rfl (fun ls hl => ?_)
  have hl : lv_has ls 6 [(5, .int 0), (3, .int 1), (4, .int 5), (0, .ref y), (1, .ref za), (2, .ref zl)] := hl
  refine lv_iload hx hb dM_write_71 (lv_at hl 0 rfl) ?_
  refine lv_aload_n hx hb dM_write_73 rfl (lv_at hl 5 rfl) ?_
  refine lv_iload hx hb dM_write_74 (lv_at hl 2 rfl) ?_
  refine va_iald hx hb hK hP 0 0 rfl rfl (by unfold vp_in; decide) dM_write_76 ?_
  refine lv_topi (fun y9 e9 => ?_)
  cases (show y9 = 0 from e9.trans (hz 5 (by decide)))
  refine lv_icmp_ge (tgt := 100) hx hb dM_write_77 rfl (fun _ => ?_) (fun hj27 => absurd (by decide) hj27)
  refine lv_iinc (k := 2) (v := 6) hx hb dM_write_100 hl rfl (by decide) (by decide) rfl (fun ls hl => ?_)
  have hl : lv_has ls 6 [(4, .int 6), (5, .int 0), (3, .int 1), (0, .ref y), (1, .ref za), (2, .ref zl)] := hl
  refine lv_goto (tgt := 44) hx hb dM_write_103 rfl ?_
  refine lv_iload hx hb dM_write_44 (lv_at hl 0 rfl) ?_
  refine lv_bipush (v := 19) hx hb dM_write_46 (by decide) ?_
  refine lv_icmp_ge (tgt := 106) hx hb dM_write_48 rfl (fun hj28 => absurd hj28 (by decide)) (fun _ => ?_)
  refine lv_iload_n hx hb dM_write_51 rfl (lv_at hl 2 rfl) ?_
  refine lv_if_eq (tgt := 66) hx hb dM_write_52 rfl (fun hj29 => absurd hj29 (by decide)) (fun _ => ?_)
  refine lv_aload_n hx hb dM_write_55 rfl (lv_at hl 5 rfl) ?_
  refine lv_iload hx hb dM_write_56 (lv_at hl 0 rfl) ?_
  refine va_iald hx hb hK hP 0 0 rfl rfl (by unfold vp_in; decide) dM_write_58 ?_
  refine lv_topi (fun y9 e9 => ?_)
  cases (show y9 = 0 from e9.trans (hz 6 (by decide)))
  refine lv_if_ne (tgt := 66) hx hb dM_write_59 rfl (fun hj30 => absurd (by decide) hj30) (fun _ => ?_)
  refine lv_iconst (v := 1) hx hb dM_write_62 (by decide) ?_
  refine lv_goto (tgt := 67) hx hb dM_write_63 rfl ?_
  refine lv_istore_n hx hb dM_write_67 rfl hl (by decide) rfl (fun ls hl => ?_)
  have hl : lv_has ls 6 [(3, .int 1), (4, .int 6), (5, .int 0), (0, .ref y), (1, .ref za), (2, .ref zl)] := hl
  refine lv_iconst (v := 0) hx hb dM_write_68 (by decide) ?_
  refine lv_istore hx hb dM_write_69 hl (by decide) rfl (fun ls hl => ?_)
  have hl : lv_has ls 6 [(5, .int 0), (3, .int 1), (4, .int 6), (0, .ref y), (1, .ref za), (2, .ref zl)] := hl
  refine lv_iload hx hb dM_write_71 (lv_at hl 0 rfl) ?_
  refine lv_aload_n hx hb dM_write_73 rfl (lv_at hl 5 rfl) ?_
  refine lv_iload hx hb dM_write_74 (lv_at hl 2 rfl) ?_
  refine va_iald hx hb hK hP 0 0 rfl rfl (by unfold vp_in; decide) dM_write_76 ?_
  refine lv_topi (fun y9 e9 => ?_)
  cases (show y9 = 0 from e9.trans (hz 6 (by decide)))
  refine lv_icmp_ge (tgt := 100) hx hb dM_write_77 rfl (fun _ => ?_) (fun hj31 => absurd (by decide) hj31)
  refine lv_iinc (k := 2) (v := 7) hx hb dM_write_100 hl rfl (by decide) (by decide) rfl (fun ls hl => ?_)
  have hl : lv_has ls 6 [(4, .int 7), (5, .int 0), (3, .int 1), (0, .ref y), (1, .ref za), (2, .ref zl)] := hl
  refine lv_goto (tgt := 44) hx hb dM_write_103 rfl ?_
  refine lv_iload hx hb dM_write_44 (lv_at hl 0 rfl) ?_
  refine lv_bipush (v := 19) hx hb dM_write_46 (by decide) ?_
  refine lv_icmp_ge (tgt := 106) hx hb dM_write_48 rfl (fun hj32 => absurd hj32 (by decide)) (fun _ => ?_)
  refine lv_iload_n hx hb dM_write_51 rfl (lv_at hl 2 rfl) ?_
  refine lv_if_eq (tgt := 66) hx hb dM_write_52 rfl (fun hj33 => absurd hj33 (by decide)) (fun _ => ?_)
  refine lv_aload_n hx hb dM_write_55 rfl (lv_at hl 5 rfl) ?_
  refine lv_iload hx hb dM_write_56 (lv_at hl 0 rfl) ?_
  refine va_iald hx hb hK hP 0 0 rfl rfl (by unfold vp_in; decide) dM_write_58 ?_
  refine lv_topi (fun y9 e9 => ?_)
  cases (show y9 = 0 from e9.trans (hz 7 (by decide)))
  refine lv_if_ne (tgt := 66) hx hb dM_write_59 rfl (fun hj34 => absurd (by decide) hj34) (fun _ => ?_)
  refine lv_iconst (v := 1) hx hb dM_write_62 (by decide) ?_
  refine lv_goto (tgt := 67) hx hb dM_write_63 rfl ?_
  refine lv_istore_n hx hb dM_write_67 rfl hl (by decide) rfl (fun ls hl => ?_)
  have hl : lv_has ls 6 [(3, .int 1), (4, .int 7), (5, .int 0), (0, .ref y), (1, .ref za), (2, .ref zl)] := hl
  refine lv_iconst (v := 0) hx hb dM_write_68 (by decide) ?_
  refine lv_istore hx hb dM_write_69 hl (by decide) rfl (fun ls hl => ?_)
  have hl : lv_has ls 6 [(5, .int 0), (3, .int 1), (4, .int 7), (0, .ref y), (1, .ref za), (2, .ref zl)] := hl
  refine lv_iload hx hb dM_write_71 (lv_at hl 0 rfl) ?_
  refine lv_aload_n hx hb dM_write_73 rfl (lv_at hl 5 rfl) ?_
  refine lv_iload hx hb dM_write_74 (lv_at hl 2 rfl) ?_
  refine va_iald hx hb hK hP 0 0 rfl rfl (by unfold vp_in; decide) dM_write_76 ?_
  refine lv_topi (fun y9 e9 => ?_)
  cases (show y9 = 0 from e9.trans (hz 7 (by decide)))
  refine lv_icmp_ge (tgt := 100) hx hb dM_write_77 rfl (fun _ => ?_) (fun hj35 => absurd (by decide) hj35)
  refine lv_iinc (k := 2) (v := 8) hx hb dM_write_100 hl rfl (by decide) (by decide) rfl (fun ls hl => ?_)
  have hl : lv_has ls 6 [(4, .int 8), (5, .int 0), (3, .int 1), (0, .ref y), (1, .ref za), (2, .ref zl)] := hl
  refine lv_goto (tgt := 44) hx hb dM_write_103 rfl ?_
  refine lv_iload hx hb dM_write_44 (lv_at hl 0 rfl) ?_
  refine lv_bipush (v := 19) hx hb dM_write_46 (by decide) ?_
  refine lv_icmp_ge (tgt := 106) hx hb dM_write_48 rfl (fun hj36 => absurd hj36 (by decide)) (fun _ => ?_)
  refine lv_iload_n hx hb dM_write_51 rfl (lv_at hl 2 rfl) ?_
  refine lv_if_eq (tgt := 66) hx hb dM_write_52 rfl (fun hj37 => absurd hj37 (by decide)) (fun _ => ?_)
  refine lv_aload_n hx hb dM_write_55 rfl (lv_at hl 5 rfl) ?_
  refine lv_iload hx hb dM_write_56 (lv_at hl 0 rfl) ?_
  refine va_iald hx hb hK hP 0 0 rfl rfl (by unfold vp_in; decide) dM_write_58 ?_
  refine lv_topi (fun y9 e9 => ?_)
  cases (show y9 = 0 from e9.trans (hz 8 (by decide)))
  refine lv_if_ne (tgt := 66) hx hb dM_write_59 rfl (fun hj38 => absurd (by decide) hj38) (fun _ => ?_)
  refine lv_iconst (v := 1) hx hb dM_write_62 (by decide) ?_
  refine lv_goto (tgt := 67) hx hb dM_write_63 rfl ?_
  refine lv_istore_n hx hb dM_write_67 rfl hl (by decide) rfl (fun ls hl => ?_)
  have hl : lv_has ls 6 [(3, .int 1), (4, .int 8), (5, .int 0), (0, .ref y), (1, .ref za), (2, .ref zl)] := hl
  refine lv_iconst (v := 0) hx hb dM_write_68 (by decide) ?_
  refine lv_istore hx hb dM_write_69 hl (by decide) rfl (fun ls hl => ?_)
  have hl : lv_has ls 6 [(5, .int 0), (3, .int 1), (4, .int 8), (0, .ref y), (1, .ref za), (2, .ref zl)] := hl
  refine lv_iload hx hb dM_write_71 (lv_at hl 0 rfl) ?_
  refine lv_aload_n hx hb dM_write_73 rfl (lv_at hl 5 rfl) ?_
  refine lv_iload hx hb dM_write_74 (lv_at hl 2 rfl) ?_
  refine va_iald hx hb hK hP 0 0 rfl rfl (by unfold vp_in; decide) dM_write_76 ?_
  refine lv_topi (fun y9 e9 => ?_)
  cases (show y9 = 0 from e9.trans (hz 8 (by decide)))
  refine lv_icmp_ge (tgt := 100) hx hb dM_write_77 rfl (fun _ => ?_) (fun hj39 => absurd (by decide) hj39)
  refine lv_iinc (k := 2) (v := 9) hx hb dM_write_100 hl rfl (by decide) (by decide) rfl (fun ls hl => ?_)
  have hl : lv_has ls 6 [(4, .int 9), (5, .int 0), (3, .int 1), (0, .ref y), (1, .ref za), (2, .ref zl)] := hl
  refine lv_goto (tgt := 44) hx hb dM_write_103 rfl ?_
  refine lv_iload hx hb dM_write_44 (lv_at hl 0 rfl) ?_
  refine lv_bipush (v := 19) hx hb dM_write_46 (by decide) ?_
  refine lv_icmp_ge (tgt := 106) hx hb dM_write_48 rfl (fun hj40 => absurd hj40 (by decide)) (fun _ => ?_)
  refine lv_iload_n hx hb dM_write_51 rfl (lv_at hl 2 rfl) ?_
  refine lv_if_eq (tgt := 66) hx hb dM_write_52 rfl (fun hj41 => absurd hj41 (by decide)) (fun _ => ?_)
  refine lv_aload_n hx hb dM_write_55 rfl (lv_at hl 5 rfl) ?_
  refine lv_iload hx hb dM_write_56 (lv_at hl 0 rfl) ?_
  refine va_iald hx hb hK hP 0 0 rfl rfl (by unfold vp_in; decide) dM_write_58 ?_
  refine lv_topi (fun y9 e9 => ?_)
  cases (show y9 = 0 from e9.trans (hz 9 (by decide)))
  refine lv_if_ne (tgt := 66) hx hb dM_write_59 rfl (fun hj42 => absurd (by decide) hj42) (fun _ => ?_)
  refine lv_iconst (v := 1) hx hb dM_write_62 (by decide) ?_
  refine lv_goto (tgt := 67) hx hb dM_write_63 rfl ?_
  refine lv_istore_n hx hb dM_write_67 rfl hl (by decide) rfl (fun ls hl => ?_)
  have hl : lv_has ls 6 [(3, .int 1), (4, .int 9), (5, .int 0), (0, .ref y), (1, .ref za), (2, .ref zl)] := hl
  refine lv_iconst (v := 0) hx hb dM_write_68 (by decide) ?_
  refine lv_istore hx hb dM_write_69 hl (by decide) rfl (fun ls hl => ?_)
  have hl : lv_has ls 6 [(5, .int 0), (3, .int 1), (4, .int 9), (0, .ref y), (1, .ref za), (2, .ref zl)] := hl
  refine lv_iload hx hb dM_write_71 (lv_at hl 0 rfl) ?_
  refine lv_aload_n hx hb dM_write_73 rfl (lv_at hl 5 rfl) ?_
  refine lv_iload hx hb dM_write_74 (lv_at hl 2 rfl) ?_
  refine va_iald hx hb hK hP 0 0 rfl rfl (by unfold vp_in; decide) dM_write_76 ?_
  refine lv_topi (fun y9 e9 => ?_)
  cases (show y9 = 0 from e9.trans (hz 9 (by decide)))
  refine lv_icmp_ge (tgt := 100) hx hb dM_write_77 rfl (fun _ => ?_) (fun hj43 => absurd (by decide) hj43)
  refine lv_iinc (k := 2) (v := 10) hx hb dM_write_100 hl rfl (by decide) (by decide) rfl (fun ls hl => ?_)
  have hl : lv_has ls 6 [(4, .int 10), (5, .int 0), (3, .int 1), (0, .ref y), (1, .ref za), (2, .ref zl)] := hl
  refine lv_goto (tgt := 44) hx hb dM_write_103 rfl ?_
  refine lv_iload hx hb dM_write_44 (lv_at hl 0 rfl) ?_
  refine lv_bipush (v := 19) hx hb dM_write_46 (by decide) ?_
  refine lv_icmp_ge (tgt := 106) hx hb dM_write_48 rfl (fun hj44 => absurd hj44 (by decide)) (fun _ => ?_)
  refine lv_iload_n hx hb dM_write_51 rfl (lv_at hl 2 rfl) ?_
  refine lv_if_eq (tgt := 66) hx hb dM_write_52 rfl (fun hj45 => absurd hj45 (by decide)) (fun _ => ?_)
  refine lv_aload_n hx hb dM_write_55 rfl (lv_at hl 5 rfl) ?_
  refine lv_iload hx hb dM_write_56 (lv_at hl 0 rfl) ?_
  refine va_iald hx hb hK hP 0 0 rfl rfl (by unfold vp_in; decide) dM_write_58 ?_
  refine lv_topi (fun y9 e9 => ?_)
  cases (show y9 = 0 from e9.trans (hz 10 (by decide)))
  refine lv_if_ne (tgt := 66) hx hb dM_write_59 rfl (fun hj46 => absurd (by decide) hj46) (fun _ => ?_)
  refine lv_iconst (v := 1) hx hb dM_write_62 (by decide) ?_
  refine lv_goto (tgt := 67) hx hb dM_write_63 rfl ?_
  refine lv_istore_n hx hb dM_write_67 rfl hl (by decide) rfl (fun ls hl => ?_)
  have hl : lv_has ls 6 [(3, .int 1), (4, .int 10), (5, .int 0), (0, .ref y), (1, .ref za), (2, .ref zl)] := hl
  refine lv_iconst (v := 0) hx hb dM_write_68 (by decide) ?_
  refine lv_istore hx hb dM_write_69 hl (by decide) rfl (fun ls hl => ?_)
  have hl : lv_has ls 6 [(5, .int 0), (3, .int 1), (4, .int 10), (0, .ref y), (1, .ref za), (2, .ref zl)] := hl
  refine lv_iload hx hb dM_write_71 (lv_at hl 0 rfl) ?_
  refine lv_aload_n hx hb dM_write_73 rfl (lv_at hl 5 rfl) ?_
  refine lv_iload hx hb dM_write_74 (lv_at hl 2 rfl) ?_
  refine va_iald hx hb hK hP 0 0 rfl rfl (by unfold vp_in; decide) dM_write_76 ?_
  refine lv_topi (fun y9 e9 => ?_)
  cases (show y9 = 0 from e9.trans (hz 10 (by decide)))
  refine lv_icmp_ge (tgt := 100) hx hb dM_write_77 rfl (fun _ => ?_) (fun hj47 => absurd (by decide) hj47)
  refine lv_iinc (k := 2) (v := 11) hx hb dM_write_100 hl rfl (by decide) (by decide) rfl (fun ls hl => ?_)
  have hl : lv_has ls 6 [(4, .int 11), (5, .int 0), (3, .int 1), (0, .ref y), (1, .ref za), (2, .ref zl)] := hl
  refine lv_goto (tgt := 44) hx hb dM_write_103 rfl ?_
  refine lv_iload hx hb dM_write_44 (lv_at hl 0 rfl) ?_
  refine lv_bipush (v := 19) hx hb dM_write_46 (by decide) ?_
  refine lv_icmp_ge (tgt := 106) hx hb dM_write_48 rfl (fun hj48 => absurd hj48 (by decide)) (fun _ => ?_)
  refine lv_iload_n hx hb dM_write_51 rfl (lv_at hl 2 rfl) ?_
  refine lv_if_eq (tgt := 66) hx hb dM_write_52 rfl (fun hj49 => absurd hj49 (by decide)) (fun _ => ?_)
  refine lv_aload_n hx hb dM_write_55 rfl (lv_at hl 5 rfl) ?_
  refine lv_iload hx hb dM_write_56 (lv_at hl 0 rfl) ?_
  refine va_iald hx hb hK hP 0 0 rfl rfl (by unfold vp_in; decide) dM_write_58 ?_
  refine lv_topi (fun y9 e9 => ?_)
  cases (show y9 = 0 from e9.trans (hz 11 (by decide)))
  refine lv_if_ne (tgt := 66) hx hb dM_write_59 rfl (fun hj50 => absurd (by decide) hj50) (fun _ => ?_)
  refine lv_iconst (v := 1) hx hb dM_write_62 (by decide) ?_
  refine lv_goto (tgt := 67) hx hb dM_write_63 rfl ?_
  refine lv_istore_n hx hb dM_write_67 rfl hl (by decide) rfl (fun ls hl => ?_)
  have hl : lv_has ls 6 [(3, .int 1), (4, .int 11), (5, .int 0), (0, .ref y), (1, .ref za), (2, .ref zl)] := hl
  refine lv_iconst (v := 0) hx hb dM_write_68 (by decide) ?_
  refine lv_istore hx hb dM_write_69 hl (by decide) rfl (fun ls hl => ?_)
  have hl : lv_has ls 6 [(5, .int 0), (3, .int 1), (4, .int 11), (0, .ref y), (1, .ref za), (2, .ref zl)] := hl
  refine lv_iload hx hb dM_write_71 (lv_at hl 0 rfl) ?_
  refine lv_aload_n hx hb dM_write_73 rfl (lv_at hl 5 rfl) ?_
  refine lv_iload hx hb dM_write_74 (lv_at hl 2 rfl) ?_
  refine va_iald hx hb hK hP 0 0 rfl rfl (by unfold vp_in; decide) dM_write_76 ?_
  refine lv_topi (fun y9 e9 => ?_)
  cases (show y9 = 0 from e9.trans (hz 11 (by decide)))
  refine lv_icmp_ge (tgt := 100) hx hb dM_write_77 rfl (fun _ => ?_) (fun hj51 => absurd (by decide) hj51)
  refine lv_iinc (k := 2) (v := 12) hx hb dM_write_100 hl rfl (by decide) (by decide) rfl (fun ls hl => ?_)
  have hl : lv_has ls 6 [(4, .int 12), (5, .int 0), (3, .int 1), (0, .ref y), (1, .ref za), (2, .ref zl)] := hl
  refine lv_goto (tgt := 44) hx hb dM_write_103 rfl ?_
  refine lv_iload hx hb dM_write_44 (lv_at hl 0 rfl) ?_
  refine lv_bipush (v := 19) hx hb dM_write_46 (by decide) ?_
  refine lv_icmp_ge (tgt := 106) hx hb dM_write_48 rfl (fun hj52 => absurd hj52 (by decide)) (fun _ => ?_)
  refine lv_iload_n hx hb dM_write_51 rfl (lv_at hl 2 rfl) ?_
  refine lv_if_eq (tgt := 66) hx hb dM_write_52 rfl (fun hj53 => absurd hj53 (by decide)) (fun _ => ?_)
  refine lv_aload_n hx hb dM_write_55 rfl (lv_at hl 5 rfl) ?_
  refine lv_iload hx hb dM_write_56 (lv_at hl 0 rfl) ?_
  refine va_iald hx hb hK hP 0 0 rfl rfl (by unfold vp_in; decide) dM_write_58 ?_
  refine lv_topi (fun y9 e9 => ?_)
  cases (show y9 = 0 from e9.trans (hz 12 (by decide)))
  refine lv_if_ne (tgt := 66) hx hb dM_write_59 rfl (fun hj54 => absurd (by decide) hj54) (fun _ => ?_)
  refine lv_iconst (v := 1) hx hb dM_write_62 (by decide) ?_
  refine lv_goto (tgt := 67) hx hb dM_write_63 rfl ?_
  refine lv_istore_n hx hb dM_write_67 rfl hl (by decide) rfl (fun ls hl => ?_)
  have hl : lv_has ls 6 [(3, .int 1), (4, .int 12), (5, .int 0), (0, .ref y), (1, .ref za), (2, .ref zl)] := hl
  refine lv_iconst (v := 0) hx hb dM_write_68 (by decide) ?_
  refine lv_istore hx hb dM_write_69 hl (by decide) rfl (fun ls hl => ?_)
  have hl : lv_has ls 6 [(5, .int 0), (3, .int 1), (4, .int 12), (0, .ref y), (1, .ref za), (2, .ref zl)] := hl
  refine lv_iload hx hb dM_write_71 (lv_at hl 0 rfl) ?_
  refine lv_aload_n hx hb dM_write_73 rfl (lv_at hl 5 rfl) ?_
  refine lv_iload hx hb dM_write_74 (lv_at hl 2 rfl) ?_
  refine va_iald hx hb hK hP 0 0 rfl rfl (by unfold vp_in; decide) dM_write_76 ?_
  refine lv_topi (fun y9 e9 => ?_)
  cases (show y9 = 0 from e9.trans (hz 12 (by decide)))
  refine lv_icmp_ge (tgt := 100) hx hb dM_write_77 rfl (fun _ => ?_) (fun hj55 => absurd (by decide) hj55)
  refine lv_iinc (k := 2) (v := 13) hx hb dM_write_100 hl rfl (by decide) (by decide) rfl (fun ls hl => ?_)
  have hl : lv_has ls 6 [(4, .int 13), (5, .int 0), (3, .int 1), (0, .ref y), (1, .ref za), (2, .ref zl)] := hl
  refine lv_goto (tgt := 44) hx hb dM_write_103 rfl ?_
  refine lv_iload hx hb dM_write_44 (lv_at hl 0 rfl) ?_
  refine lv_bipush (v := 19) hx hb dM_write_46 (by decide) ?_
  refine lv_icmp_ge (tgt := 106) hx hb dM_write_48 rfl (fun hj56 => absurd hj56 (by decide)) (fun _ => ?_)
  refine lv_iload_n hx hb dM_write_51 rfl (lv_at hl 2 rfl) ?_
  refine lv_if_eq (tgt := 66) hx hb dM_write_52 rfl (fun hj57 => absurd hj57 (by decide)) (fun _ => ?_)
  refine lv_aload_n hx hb dM_write_55 rfl (lv_at hl 5 rfl) ?_
  refine lv_iload hx hb dM_write_56 (lv_at hl 0 rfl) ?_
  refine va_iald hx hb hK hP 0 0 rfl rfl (by unfold vp_in; decide) dM_write_58 ?_
  refine lv_topi (fun y9 e9 => ?_)
  cases (show y9 = 0 from e9.trans (hz 13 (by decide)))
  refine lv_if_ne (tgt := 66) hx hb dM_write_59 rfl (fun hj58 => absurd (by decide) hj58) (fun _ => ?_)
  refine lv_iconst (v := 1) hx hb dM_write_62 (by decide) ?_
  refine lv_goto (tgt := 67) hx hb dM_write_63 rfl ?_
  refine lv_istore_n hx hb dM_write_67 rfl hl (by decide) rfl (fun ls hl => ?_)
  have hl : lv_has ls 6 [(3, .int 1), (4, .int 13), (5, .int 0), (0, .ref y), (1, .ref za), (2, .ref zl)] := hl
  refine lv_iconst (v := 0) hx hb dM_write_68 (by decide) ?_
  refine lv_istore hx hb dM_write_69 hl (by decide) rfl (fun ls hl => ?_)
  have hl : lv_has ls 6 [(5, .int 0), (3, .int 1), (4, .int 13), (0, .ref y), (1, .ref za), (2, .ref zl)] := hl
  refine lv_iload hx hb dM_write_71 (lv_at hl 0 rfl) ?_
  refine lv_aload_n hx hb dM_write_73 rfl (lv_at hl 5 rfl) ?_
  refine lv_iload hx hb dM_write_74 (lv_at hl 2 rfl) ?_
  refine va_iald hx hb hK hP 0 0 rfl rfl (by unfold vp_in; decide) dM_write_76 ?_
  refine lv_topi (fun y9 e9 => ?_)
  cases (show y9 = 0 from e9.trans (hz 13 (by decide)))
  refine lv_icmp_ge (tgt := 100) hx hb dM_write_77 rfl (fun _ => ?_) (fun hj59 => absurd (by decide) hj59)
  refine lv_iinc (k := 2) (v := 14) hx hb dM_write_100 hl rfl (by decide) (by decide) rfl (fun ls hl => ?_)
  have hl : lv_has ls 6 [(4, .int 14), (5, .int 0), (3, .int 1), (0, .ref y), (1, .ref za), (2, .ref zl)] := hl
  refine lv_goto (tgt := 44) hx hb dM_write_103 rfl ?_
  refine lv_iload hx hb dM_write_44 (lv_at hl 0 rfl) ?_
  refine lv_bipush (v := 19) hx hb dM_write_46 (by decide) ?_
  refine lv_icmp_ge (tgt := 106) hx hb dM_write_48 rfl (fun hj60 => absurd hj60 (by decide)) (fun _ => ?_)
  refine lv_iload_n hx hb dM_write_51 rfl (lv_at hl 2 rfl) ?_
  refine lv_if_eq (tgt := 66) hx hb dM_write_52 rfl (fun hj61 => absurd hj61 (by decide)) (fun _ => ?_)
  refine lv_aload_n hx hb dM_write_55 rfl (lv_at hl 5 rfl) ?_
  refine lv_iload hx hb dM_write_56 (lv_at hl 0 rfl) ?_
  refine va_iald hx hb hK hP 0 0 rfl rfl (by unfold vp_in; decide) dM_write_58 ?_
  refine lv_topi (fun y9 e9 => ?_)
  cases (show y9 = 0 from e9.trans (hz 14 (by decide)))
  refine lv_if_ne (tgt := 66) hx hb dM_write_59 rfl (fun hj62 => absurd (by decide) hj62) (fun _ => ?_)
  refine lv_iconst (v := 1) hx hb dM_write_62 (by decide) ?_
  refine lv_goto (tgt := 67) hx hb dM_write_63 rfl ?_
  refine lv_istore_n hx hb dM_write_67 rfl hl (by decide) rfl (fun ls hl => ?_)
  have hl : lv_has ls 6 [(3, .int 1), (4, .int 14), (5, .int 0), (0, .ref y), (1, .ref za), (2, .ref zl)] := hl
  refine lv_iconst (v := 0) hx hb dM_write_68 (by decide) ?_
  refine lv_istore hx hb dM_write_69 hl (by decide) rfl (fun ls hl => ?_)
  have hl : lv_has ls 6 [(5, .int 0), (3, .int 1), (4, .int 14), (0, .ref y), (1, .ref za), (2, .ref zl)] := hl
  refine lv_iload hx hb dM_write_71 (lv_at hl 0 rfl) ?_
  refine lv_aload_n hx hb dM_write_73 rfl (lv_at hl 5 rfl) ?_
  refine lv_iload hx hb dM_write_74 (lv_at hl 2 rfl) ?_
  refine va_iald hx hb hK hP 0 0 rfl rfl (by unfold vp_in; decide) dM_write_76 ?_
  refine lv_topi (fun y9 e9 => ?_)
  cases (show y9 = 0 from e9.trans (hz 14 (by decide)))
  refine lv_icmp_ge (tgt := 100) hx hb dM_write_77 rfl (fun _ => ?_) (fun hj63 => absurd (by decide) hj63)
  refine lv_iinc (k := 2) (v := 15) hx hb dM_write_100 hl rfl (by decide) (by decide) rfl (fun ls hl => ?_)
  have hl : lv_has ls 6 [(4, .int 15), (5, .int 0), (3, .int 1), (0, .ref y), (1, .ref za), (2, .ref zl)] := hl
  refine lv_goto (tgt := 44) hx hb dM_write_103 rfl ?_
  refine lv_iload hx hb dM_write_44 (lv_at hl 0 rfl) ?_
  refine lv_bipush (v := 19) hx hb dM_write_46 (by decide) ?_
  refine lv_icmp_ge (tgt := 106) hx hb dM_write_48 rfl (fun hj64 => absurd hj64 (by decide)) (fun _ => ?_)
  refine lv_iload_n hx hb dM_write_51 rfl (lv_at hl 2 rfl) ?_
  refine lv_if_eq (tgt := 66) hx hb dM_write_52 rfl (fun hj65 => absurd hj65 (by decide)) (fun _ => ?_)
  refine lv_aload_n hx hb dM_write_55 rfl (lv_at hl 5 rfl) ?_
  refine lv_iload hx hb dM_write_56 (lv_at hl 0 rfl) ?_
  refine va_iald hx hb hK hP 0 0 rfl rfl (by unfold vp_in; decide) dM_write_58 ?_
  refine lv_topi (fun y9 e9 => ?_)
  cases (show y9 = 0 from e9.trans (hz 15 (by decide)))
  refine lv_if_ne (tgt := 66) hx hb dM_write_59 rfl (fun hj66 => absurd (by decide) hj66) (fun _ => ?_)
  refine lv_iconst (v := 1) hx hb dM_write_62 (by decide) ?_
  refine lv_goto (tgt := 67) hx hb dM_write_63 rfl ?_
  refine lv_istore_n hx hb dM_write_67 rfl hl (by decide) rfl (fun ls hl => ?_)
  have hl : lv_has ls 6 [(3, .int 1), (4, .int 15), (5, .int 0), (0, .ref y), (1, .ref za), (2, .ref zl)] := hl
  refine lv_iconst (v := 0) hx hb dM_write_68 (by decide) ?_
  refine lv_istore hx hb dM_write_69 hl (by decide) rfl (fun ls hl => ?_)
  have hl : lv_has ls 6 [(5, .int 0), (3, .int 1), (4, .int 15), (0, .ref y), (1, .ref za), (2, .ref zl)] := hl
  refine lv_iload hx hb dM_write_71 (lv_at hl 0 rfl) ?_
  refine lv_aload_n hx hb dM_write_73 rfl (lv_at hl 5 rfl) ?_
  refine lv_iload hx hb dM_write_74 (lv_at hl 2 rfl) ?_
  refine va_iald hx hb hK hP 0 0 rfl rfl (by unfold vp_in; decide) dM_write_76 ?_
  refine lv_topi (fun y9 e9 => ?_)
  cases (show y9 = 0 from e9.trans (hz 15 (by decide)))
  refine lv_icmp_ge (tgt := 100) hx hb dM_write_77 rfl (fun _ => ?_) (fun hj67 => absurd (by decide) hj67)
  refine lv_iinc (k := 2) (v := 16) hx hb dM_write_100 hl rfl (by decide) (by decide) rfl (fun ls hl => ?_)
  have hl : lv_has ls 6 [(4, .int 16), (5, .int 0), (3, .int 1), (0, .ref y), (1, .ref za), (2, .ref zl)] := hl
  refine lv_goto (tgt := 44) hx hb dM_write_103 rfl ?_
  refine lv_iload hx hb dM_write_44 (lv_at hl 0 rfl) ?_
  refine lv_bipush (v := 19) hx hb dM_write_46 (by decide) ?_
  refine lv_icmp_ge (tgt := 106) hx hb dM_write_48 rfl (fun hj68 => absurd hj68 (by decide)) (fun _ => ?_)
  refine lv_iload_n hx hb dM_write_51 rfl (lv_at hl 2 rfl) ?_
  refine lv_if_eq (tgt := 66) hx hb dM_write_52 rfl (fun hj69 => absurd hj69 (by decide)) (fun _ => ?_)
  refine lv_aload_n hx hb dM_write_55 rfl (lv_at hl 5 rfl) ?_
  refine lv_iload hx hb dM_write_56 (lv_at hl 0 rfl) ?_
  refine va_iald hx hb hK hP 0 0 rfl rfl (by unfold vp_in; decide) dM_write_58 ?_
  refine lv_topi (fun y9 e9 => ?_)
  cases (show y9 = 0 from e9.trans (hz 16 (by decide)))
  refine lv_if_ne (tgt := 66) hx hb dM_write_59 rfl (fun hj70 => absurd (by decide) hj70) (fun _ => ?_)
  refine lv_iconst (v := 1) hx hb dM_write_62 (by decide) ?_
  refine lv_goto (tgt := 67) hx hb dM_write_63 rfl ?_
  refine lv_istore_n hx hb dM_write_67 rfl hl (by decide) rfl (fun ls hl => ?_)
  have hl : lv_has ls 6 [(3, .int 1), (4, .int 16), (5, .int 0), (0, .ref y), (1, .ref za), (2, .ref zl)] := hl
  refine lv_iconst (v := 0) hx hb dM_write_68 (by decide) ?_
  refine lv_istore hx hb dM_write_69 hl (by decide) rfl (fun ls hl => ?_)
  have hl : lv_has ls 6 [(5, .int 0), (3, .int 1), (4, .int 16), (0, .ref y), (1, .ref za), (2, .ref zl)] := hl
  refine lv_iload hx hb dM_write_71 (lv_at hl 0 rfl) ?_
  refine lv_aload_n hx hb dM_write_73 rfl (lv_at hl 5 rfl) ?_
  refine lv_iload hx hb dM_write_74 (lv_at hl 2 rfl) ?_
  refine va_iald hx hb hK hP 0 0 rfl rfl (by unfold vp_in; decide) dM_write_76 ?_
  refine lv_topi (fun y9 e9 => ?_)
  cases (show y9 = 0 from e9.trans (hz 16 (by decide)))
  refine lv_icmp_ge (tgt := 100) hx hb dM_write_77 rfl (fun _ => ?_) (fun hj71 => absurd (by decide) hj71)
  refine lv_iinc (k := 2) (v := 17) hx hb dM_write_100 hl rfl (by decide) (by decide) rfl (fun ls hl => ?_)
  have hl : lv_has ls 6 [(4, .int 17), (5, .int 0), (3, .int 1), (0, .ref y), (1, .ref za), (2, .ref zl)] := hl
  refine lv_goto (tgt := 44) hx hb dM_write_103 rfl ?_
  refine lv_iload hx hb dM_write_44 (lv_at hl 0 rfl) ?_
  refine lv_bipush (v := 19) hx hb dM_write_46 (by decide) ?_
  refine lv_icmp_ge (tgt := 106) hx hb dM_write_48 rfl (fun hj72 => absurd hj72 (by decide)) (fun _ => ?_)
  refine lv_iload_n hx hb dM_write_51 rfl (lv_at hl 2 rfl) ?_
  refine lv_if_eq (tgt := 66) hx hb dM_write_52 rfl (fun hj73 => absurd hj73 (by decide)) (fun _ => ?_)
  refine lv_aload_n hx hb dM_write_55 rfl (lv_at hl 5 rfl) ?_
  refine lv_iload hx hb dM_write_56 (lv_at hl 0 rfl) ?_
  refine va_iald hx hb hK hP 0 0 rfl rfl (by unfold vp_in; decide) dM_write_58 ?_
  refine lv_topi (fun y9 e9 => ?_)
  cases (show y9 = 0 from e9.trans (hz 17 (by decide)))
  refine lv_if_ne (tgt := 66) hx hb dM_write_59 rfl (fun hj74 => absurd (by decide) hj74) (fun _ => ?_)
  refine lv_iconst (v := 1) hx hb dM_write_62 (by decide) ?_
  refine lv_goto (tgt := 67) hx hb dM_write_63 rfl ?_
  refine lv_istore_n hx hb dM_write_67 rfl hl (by decide) rfl (fun ls hl => ?_)
  have hl : lv_has ls 6 [(3, .int 1), (4, .int 17), (5, .int 0), (0, .ref y), (1, .ref za), (2, .ref zl)] := hl
  refine lv_iconst (v := 0) hx hb dM_write_68 (by decide) ?_
  refine lv_istore hx hb dM_write_69 hl (by decide) rfl (fun ls hl => ?_)
  have hl : lv_has ls 6 [(5, .int 0), (3, .int 1), (4, .int 17), (0, .ref y), (1, .ref za), (2, .ref zl)] := hl
  refine lv_iload hx hb dM_write_71 (lv_at hl 0 rfl) ?_
  refine lv_aload_n hx hb dM_write_73 rfl (lv_at hl 5 rfl) ?_
  refine lv_iload hx hb dM_write_74 (lv_at hl 2 rfl) ?_
  refine va_iald hx hb hK hP 0 0 rfl rfl (by unfold vp_in; decide) dM_write_76 ?_
  refine lv_topi (fun y9 e9 => ?_)
  cases (show y9 = 0 from e9.trans (hz 17 (by decide)))
  refine lv_icmp_ge (tgt := 100) hx hb dM_write_77 rfl (fun _ => ?_) (fun hj75 => absurd (by decide) hj75)
  refine lv_iinc (k := 2) (v := 18) hx hb dM_write_100 hl rfl (by decide) (by decide) rfl (fun ls hl => ?_)
  have hl : lv_has ls 6 [(4, .int 18), (5, .int 0), (3, .int 1), (0, .ref y), (1, .ref za), (2, .ref zl)] := hl
  refine lv_goto (tgt := 44) hx hb dM_write_103 rfl ?_
  refine lv_iload hx hb dM_write_44 (lv_at hl 0 rfl) ?_
  refine lv_bipush (v := 19) hx hb dM_write_46 (by decide) ?_
  refine lv_icmp_ge (tgt := 106) hx hb dM_write_48 rfl (fun hj76 => absurd hj76 (by decide)) (fun _ => ?_)
  refine lv_iload_n hx hb dM_write_51 rfl (lv_at hl 2 rfl) ?_
  refine lv_if_eq (tgt := 66) hx hb dM_write_52 rfl (fun hj77 => absurd hj77 (by decide)) (fun _ => ?_)
  refine lv_aload_n hx hb dM_write_55 rfl (lv_at hl 5 rfl) ?_
  refine lv_iload hx hb dM_write_56 (lv_at hl 0 rfl) ?_
  refine va_iald hx hb hK hP 0 0 rfl rfl (by unfold vp_in; decide) dM_write_58 ?_
  refine lv_topi (fun y9 e9 => ?_)
  cases (show y9 = 0 from e9.trans (hz 18 (by decide)))
  refine lv_if_ne (tgt := 66) hx hb dM_write_59 rfl (fun hj78 => absurd (by decide) hj78) (fun _ => ?_)
  refine lv_iconst (v := 1) hx hb dM_write_62 (by decide) ?_
  refine lv_goto (tgt := 67) hx hb dM_write_63 rfl ?_
  refine lv_istore_n hx hb dM_write_67 rfl hl (by decide) rfl (fun ls hl => ?_)
  have hl : lv_has ls 6 [(3, .int 1), (4, .int 18), (5, .int 0), (0, .ref y), (1, .ref za), (2, .ref zl)] := hl
  refine lv_iconst (v := 0) hx hb dM_write_68 (by decide) ?_
  refine lv_istore hx hb dM_write_69 hl (by decide) rfl (fun ls hl => ?_)
  have hl : lv_has ls 6 [(5, .int 0), (3, .int 1), (4, .int 18), (0, .ref y), (1, .ref za), (2, .ref zl)] := hl
  refine lv_iload hx hb dM_write_71 (lv_at hl 0 rfl) ?_
  refine lv_aload_n hx hb dM_write_73 rfl (lv_at hl 5 rfl) ?_
  refine lv_iload hx hb dM_write_74 (lv_at hl 2 rfl) ?_
  refine va_iald hx hb hK hP 0 0 rfl rfl (by unfold vp_in; decide) dM_write_76 ?_
  refine lv_topi (fun y9 e9 => ?_)
  cases (show y9 = 0 from e9.trans (hz 18 (by decide)))
  refine lv_icmp_ge (tgt := 100) hx hb dM_write_77 rfl (fun _ => ?_) (fun hj79 => absurd (by decide) hj79)
  refine lv_iinc (k := 2) (v := 19) hx hb dM_write_100 hl rfl (by decide) (by decide) rfl (fun ls hl => ?_)
  have hl : lv_has ls 6 [(4, .int 19), (5, .int 0), (3, .int 1), (0, .ref y), (1, .ref za), (2, .ref zl)] := hl
  refine lv_goto (tgt := 44) hx hb dM_write_103 rfl ?_
  refine lv_iload hx hb dM_write_44 (lv_at hl 0 rfl) ?_
  refine lv_bipush (v := 19) hx hb dM_write_46 (by decide) ?_
  refine lv_icmp_ge (tgt := 106) hx hb dM_write_48 rfl (fun _ => ?_) (fun hj80 => absurd (by decide) hj80)
  refine lv_iload_n hx hb dM_write_106 rfl (lv_at hl 2 rfl) ?_
  refine lv_if_ne (tgt := 139) hx hb dM_write_107 rfl (fun _ => ?_) (fun hj81 => absurd hj81 (by decide))
  refine lv_aload_n hx hb dM_write_139 rfl (lv_at hl 3 rfl) ?_
  refine va_get (D := D) (ci := 11) (v := .int 1) (C := R_M) (T := T_M) (N := 60) hx hb hT in_M hown hK hP 1 rfl rfl 47 (by decide) (hT _ w1151) (fun _ h9 => h9) rfl dM_write_140 ?_
  have hP9 := hP.sub (ws' := [(zl, .inl (cT 0, 19, .inl lf)), (y, .inr (11, [.ref y0, .int y1, .int y2, .int y3, .ref y4, .ref y5, .ref y6, .ref y7, .ref y8, .ref y9, .int y10, .int y11, .int y12, .int y13, .int y14, .long y15, .int y16, .int y17, .ref y18, .ref y19, .ref y20, .ref y21, .ref y22, .ref y23, .ref y24, .ref y25, .ref y26, .ref y27, .ref y28, .ref y29, .ref y30, .ref y31, .ref y32, .ref y33, .ref y34, .ref y35, .ref y36, .ref y37, .ref y38, .ref y39, .ref y40, .ref y41, .ref y42, .ref y43, .ref y44, .ref y45, .ref y46, .int 1, .ref y48, .ref y49, .int y50, .int y51, .int y52, .int y53, .long y54, .int y55, .ref y56, .ref y57, .ref y58, .ref y59])), (y49, .inl (cT 2, 3000, .inl (upd (upd (upd (upd df 0 (vp_nar .byte 48)) 1 (vp_nar .byte 48)) 2 (vp_nar .byte 48)) 3 (vp_nar .byte 48)))), (y48, .inl (cT 2, 6000, .inl (upd of 0 (vp_nar .byte 48)))), (za, .inl (cT 0, 302, .inl (upd (upd af 300 0) 301 0))), (y31, .inl (cT 0, 302, .inl (upd (upd (upd hf 0 1) 300 1) 301 1)))]) [0, 1, 2, 3, 4, 5] rfl
  have hD9 := hD.sub (ws' := [(zl, .inl (cT 0, 19, .inl lf)), (y, .inr (11, [.ref y0, .int y1, .int y2, .int y3, .ref y4, .ref y5, .ref y6, .ref y7, .ref y8, .ref y9, .int y10, .int y11, .int y12, .int y13, .int y14, .long y15, .int y16, .int y17, .ref y18, .ref y19, .ref y20, .ref y21, .ref y22, .ref y23, .ref y24, .ref y25, .ref y26, .ref y27, .ref y28, .ref y29, .ref y30, .ref y31, .ref y32, .ref y33, .ref y34, .ref y35, .ref y36, .ref y37, .ref y38, .ref y39, .ref y40, .ref y41, .ref y42, .ref y43, .ref y44, .ref y45, .ref y46, .int 1, .ref y48, .ref y49, .int y50, .int y51, .int y52, .int y53, .long y54, .int y55, .ref y56, .ref y57, .ref y58, .ref y59])), (y49, .inl (cT 2, 3000, .inl (upd (upd (upd (upd df 0 (vp_nar .byte 48)) 1 (vp_nar .byte 48)) 2 (vp_nar .byte 48)) 3 (vp_nar .byte 48)))), (y48, .inl (cT 2, 6000, .inl (upd of 0 (vp_nar .byte 48)))), (za, .inl (cT 0, 302, .inl (upd (upd af 300 0) 301 0))), (y31, .inl (cT 0, 302, .inl (upd (upd (upd hf 0 1) 300 1) 301 1)))]) [0, 1, 2, 3, 4, 5] (by decide) rfl
  refine W.widen (k := 0) (n := 0) (Nat.le_of_ble_eq_true rfl) (Nat.le_of_ble_eq_true rfl) ?_
  exact W.iret (v := 1) hx hb hr (fun t ht hW => ⟨⟨1, (fun _ => 0), rfl, rfl, by rw [ht]; exact hP9, hD9⟩, hS.F ht⟩) hS.2.2 dM_write_143
set_option maxHeartbeats 4000000 in
set_option maxRecDepth 100000 in
theorem y_walk0 (l : Launch) (D : va_G) (cT : Nat → ClassId) (y : Nat) (y0 : Nat) (y1 : Int32) (y2 : Int32) (y3 : Int32) (y4 : Nat) (y5 : Nat) (y6 : Nat) (y7 : Nat) (y8 : Nat) (y9 : Nat) (y10 : Int32) (y11 : Int32) (y12 : Int32) (y13 : Int32) (y14 : Int32) (y15 : Int64) (y16 : Int32) (y17 : Int32) (y18 : Nat) (y19 : Nat) (y20 : Nat) (y21 : Nat) (y22 : Nat) (y23 : Nat) (y24 : Nat) (y25 : Nat) (y26 : Nat) (y27 : Nat) (y28 : Nat) (y29 : Nat) (y30 : Nat) (y31 : Nat) (y32 : Nat) (y33 : Nat) (y34 : Nat) (y35 : Nat) (y36 : Nat) (y37 : Nat) (y38 : Nat) (y39 : Nat) (y40 : Nat) (y41 : Nat) (y42 : Nat) (y43 : Nat) (y44 : Nat) (y45 : Nat) (y46 : Nat) (y47 : Int32) (y48 : Nat) (y49 : Nat) (y50 : Int32) (y51 : Int32) (y52 : Int32) (y53 : Int32) (y54 : Int64) (y55 : Int32) (y56 : Nat) (y57 : Nat) (y58 : Nat) (y59 : Nat) (af : Nat → Int32) (lf : Nat → Int32) (a1 : Int32) (a2 : Int32) (sz : Nat) : Met l yM_walk WM_walk ({ frames := 1, cells := 0, slots := 0, locals := 25 } : Room) (RW D vwCl [.ref y, .int a1, .int 0, .int a2, .int 0] [(y, .inr (11, [.ref y0, .int y1, .int y2, .int y3, .ref y4, .ref y5, .ref y6, .ref y7, .ref y8, .ref y9, .int y10, .int y11, .int y12, .int y13, .int y14, .long y15, .int y16, .int y17, .ref y18, .ref y19, .ref y20, .ref y21, .ref y22, .ref y23, .ref y24, .ref y25, .ref y26, .ref y27, .ref y28, .ref y29, .ref y30, .ref y31, .ref y32, .ref y33, .ref y34, .ref y35, .ref y36, .ref y37, .ref y38, .ref y39, .ref y40, .ref y41, .ref y42, .ref y43, .ref y44, .ref y45, .ref y46, .int y47, .ref y48, .ref y49, .int y50, .int y51, .int y52, .int y53, .long y54, .int y55, .ref y56, .ref y57, .ref y58, .ref y59])), (y29, .inl (cT 0, 302, .inl af)), (y40, .inl (cT 0, 19, .inl lf))] (TY cT) sz) (va_Qv (fun _ : Nat → Nat => True) (BW D vwCl (va_A [(y, .inr (11, [.ref y0, .int y1, .int y2, .int y3, .ref y4, .ref y5, .ref y6, .ref y7, .ref y8, .ref y9, .int y10, .int y11, .int y12, .int y13, .int y14, .long y15, .int y16, .int y17, .ref y18, .ref y19, .ref y20, .ref y21, .ref y22, .ref y23, .ref y24, .ref y25, .ref y26, .ref y27, .ref y28, .ref y29, .ref y30, .ref y31, .ref y32, .ref y33, .ref y34, .ref y35, .ref y36, .ref y37, .ref y38, .ref y39, .ref y40, .ref y41, .ref y42, .ref y43, .ref y44, .ref y45, .ref y46, .int y47, .ref y48, .ref y49, .int y50, .int y51, .int y52, .int y53, .long y54, .int y55, .ref y56, .ref y57, .ref y58, .ref y59])), (y29, .inl (cT 0, 302, .inl af)), (y40, .inl (cT 0, 19, .inl lf))] sz) (fun u => [(y, .inr (11, [.ref y0, .int y1, .int y2, .int y3, .ref y4, .ref y5, .ref y6, .ref y7, .ref y8, .ref y9, .int y10, .int y11, .int y12, .int y13, .int y14, .long y15, .int y16, .int y17, .ref y18, .ref y19, .ref y20, .ref y21, .ref y22, .ref y23, .ref y24, .ref y25, .ref y26, .ref y27, .ref y28, .ref y29, .ref y30, .ref y31, .ref y32, .ref y33, .ref y34, .ref y35, .ref y36, .ref y37, .ref y38, .ref y39, .ref y40, .ref y41, .ref y42, .ref y43, .ref y44, .ref y45, .ref y46, .int y47, .ref y48, .ref y49, .int y50, .int y51, .int y52, .int y53, .long y54, .int y55, .ref y56, .ref y57, .ref y58, .ref y59])), (y29, .inl (cT 0, 302, .inl (upd (upd af 300 0) 301 0))), (y40, .inl (cT 0, 19, .inl (upd (upd (upd (upd (upd (upd (upd (upd (upd (upd (upd (upd (upd (upd (upd (upd (upd (upd (upd lf 0 0) 1 0) 2 0) 3 0) 4 0) 5 0) 6 0) 7 0) 8 0) 9 0) 10 0) 11 0) 12 0) 13 0) 14 0) 15 0) 16 0) 17 0) 18 0)))])) (va_A [(y, .inr (11, [.ref y0, .int y1, .int y2, .int y3, .ref y4, .ref y5, .ref y6, .ref y7, .ref y8, .ref y9, .int y10, .int y11, .int y12, .int y13, .int y14, .long y15, .int y16, .int y17, .ref y18, .ref y19, .ref y20, .ref y21, .ref y22, .ref y23, .ref y24, .ref y25, .ref y26, .ref y27, .ref y28, .ref y29, .ref y30, .ref y31, .ref y32, .ref y33, .ref y34, .ref y35, .ref y36, .ref y37, .ref y38, .ref y39, .ref y40, .ref y41, .ref y42, .ref y43, .ref y44, .ref y45, .ref y46, .int y47, .ref y48, .ref y49, .int y50, .int y51, .int y52, .int y53, .long y54, .int y55, .ref y56, .ref y57, .ref y58, .ref y59])), (y29, .inl (cT 0, 302, .inl af)), (y40, .inl (cT 0, 19, .inl lf))] sz)) 0 0 (va_A [(y, .inr (11, [.ref y0, .int y1, .int y2, .int y3, .ref y4, .ref y5, .ref y6, .ref y7, .ref y8, .ref y9, .int y10, .int y11, .int y12, .int y13, .int y14, .long y15, .int y16, .int y17, .ref y18, .ref y19, .ref y20, .ref y21, .ref y22, .ref y23, .ref y24, .ref y25, .ref y26, .ref y27, .ref y28, .ref y29, .ref y30, .ref y31, .ref y32, .ref y33, .ref y34, .ref y35, .ref y36, .ref y37, .ref y38, .ref y39, .ref y40, .ref y41, .ref y42, .ref y43, .ref y44, .ref y45, .ref y46, .int y47, .ref y48, .ref y49, .int y50, .int y51, .int y52, .int y53, .long y54, .int y55, .ref y56, .ref y57, .ref y58, .ref y59])), (y29, .inl (cT 0, 302, .inl af)), (y40, .inl (cT 0, 19, .inl lf))] sz) := by
  refine Met.ofW (cc := cM_walk) (maxL := 6) (ret := none) (by decide) rfl ?_
  intro p e s m args below meth c s₁ B hml hv
  obtain ⟨rfl, hsz, hZ, hP, hK, hD0⟩ := hv
  have hx := B.exec
  have hb := B.bytes
  have hr := B.returns
  have hts := atoms_spec (ws := WM_walk) B.pre
  have hT : ∀ w ∈ TB, w.before _ s = true := fun w h => hts w (List.mem_cons_of_mem _ h)
  have hown : s.vm.findClass R_M = some m.cls := findClass_of_methodNamed B.named
  have hlocks := B.notSynchronized
  subst hsz
  have hD := hD0.self (sz := s.heap.size)
  generalize hAe : va_A [(y, .inr (11, [.ref y0, .int y1, .int y2, .int y3, .ref y4, .ref y5, .ref y6, .ref y7, .ref y8, .ref y9, .int y10, .int y11, .int y12, .int y13, .int y14, .long y15, .int y16, .int y17, .ref y18, .ref y19, .ref y20, .ref y21, .ref y22, .ref y23, .ref y24, .ref y25, .ref y26, .ref y27, .ref y28, .ref y29, .ref y30, .ref y31, .ref y32, .ref y33, .ref y34, .ref y35, .ref y36, .ref y37, .ref y38, .ref y39, .ref y40, .ref y41, .ref y42, .ref y43, .ref y44, .ref y45, .ref y46, .int y47, .ref y48, .ref y49, .int y50, .int y51, .int y52, .int y53, .long y54, .int y55, .ref y56, .ref y57, .ref y58, .ref y59])), (y29, .inl (cT 0, 302, .inl af)), (y40, .inl (cT 0, 19, .inl lf))] s.heap.size = A at hD hZ ⊢
  have hA : ∀ q : Nat, s.heap.size ≤ q → A q := fun q h => by rw [← hAe]; exact Or.inr h
  have hS : va_S A s.heap s.heap [] := va_S.rf
  have hl := lv_entry ([.ref y, .int a1, .int 0, .int a2, .int 0]) (n := 6) (Nat.le_of_ble_eq_true rfl)
  rw [lg_entry_eq]
  generalize (lg_sl ([.ref y, .int a1, .int 0, .int a2, .int 0]) ++ List.replicate (6 - (lg_sl ([.ref y, .int a1, .int 0, .int a2, .int 0])).length) Slot.unset).toArray = ls at hl ⊢
  have hl : lv_has ls 6 [(0, .ref y), (1, .int a1), (2, .int 0), (3, .int a2), (4, .int 0)] := hl
  refine lv_aload_n hx hb dM_walk_0 rfl (lv_at hl 0 rfl) ?_
  refine va_get (D := D) (ci := 11) (v := .ref y29) (C := R_M) (T := T_M) (N := 60) hx hb hT in_M hown hK hP 0 rfl rfl 29 (by decide) (hT _ w1133) (fun _ h9 => h9) rfl dM_walk_1 ?_
  refine lv_iload hx hb dM_walk_4 (lv_at hl 4 rfl) ?_
  refine lv_i2l (v := 0) hx hb dM_walk_6 (by decide) ?_
  refine rw_v (wc := [(y29, .inl (cT 0, 302, .inl af))]) (wr := [(y, .inr (11, [.ref y0, .int y1, .int y2, .int y3, .ref y4, .ref y5, .ref y6, .ref y7, .ref y8, .ref y9, .int y10, .int y11, .int y12, .int y13, .int y14, .long y15, .int y16, .int y17, .ref y18, .ref y19, .ref y20, .ref y21, .ref y22, .ref y23, .ref y24, .ref y25, .ref y26, .ref y27, .ref y28, .ref y29, .ref y30, .ref y31, .ref y32, .ref y33, .ref y34, .ref y35, .ref y36, .ref y37, .ref y38, .ref y39, .ref y40, .ref y41, .ref y42, .ref y43, .ref y44, .ref y45, .ref y46, .int y47, .ref y48, .ref y49, .int y50, .int y51, .int y52, .int y53, .long y54, .int y55, .ref y56, .ref y57, .ref y58, .ref y59])), (y40, .inl (cT 0, 19, .inl lf))]) hP hD hS hA [1] [0, 2] rfl rfl (by decide) (by decide) (va_runS (As := [.ref y29, .long 0]) (rest := []) ⟨hx, hb, hml, hown, hT⟩ (y_setInt0 l D cT y29 af _) ⟨callB_of 2 hT (tb_gd w1387) rfl rfl rfl (hT _ w13) (hT _ w1385) hM_setInt ⟨Nat.le_of_ble_eq_true rfl, Nat.le_of_ble_eq_true rfl⟩, (hT _ w1386)⟩ (RW.preS hZ hS (va_free (wc := [(y29, .inl (cT 0, 302, .inl af))]) hD hS hA [1] rfl) (hP.sub (ws' := [(y29, .inl (cT 0, 302, .inl af))]) [1] rfl) hK (hD.sub (ws' := [(y29, .inl (cT 0, 302, .inl af))]) [1] (by decide) rfl)) rfl rfl hl.1 rfl (lv_room (Nat.le_of_ble_eq_true rfl)) dM_walk_7 ⟨Nat.le_of_ble_eq_true rfl, Nat.le_of_ble_eq_true rfl⟩) (fun u1 H locs hpu1 hP hD hS => ?_)
  have hP : va_P D vwCl [(y, .inr (11, [.ref y0, .int y1, .int y2, .int y3, .ref y4, .ref y5, .ref y6, .ref y7, .ref y8, .ref y9, .int y10, .int y11, .int y12, .int y13, .int y14, .long y15, .int y16, .int y17, .ref y18, .ref y19, .ref y20, .ref y21, .ref y22, .ref y23, .ref y24, .ref y25, .ref y26, .ref y27, .ref y28, .ref y29, .ref y30, .ref y31, .ref y32, .ref y33, .ref y34, .ref y35, .ref y36, .ref y37, .ref y38, .ref y39, .ref y40, .ref y41, .ref y42, .ref y43, .ref y44, .ref y45, .ref y46, .int y47, .ref y48, .ref y49, .int y50, .int y51, .int y52, .int y53, .long y54, .int y55, .ref y56, .ref y57, .ref y58, .ref y59])), (y40, .inl (cT 0, 19, .inl lf)), (y29, .inl (cT 0, 302, .inl (upd (upd af 300 0) 301 0)))] H := hP
  have hD : va_D A [(y, .inr (11, [.ref y0, .int y1, .int y2, .int y3, .ref y4, .ref y5, .ref y6, .ref y7, .ref y8, .ref y9, .int y10, .int y11, .int y12, .int y13, .int y14, .long y15, .int y16, .int y17, .ref y18, .ref y19, .ref y20, .ref y21, .ref y22, .ref y23, .ref y24, .ref y25, .ref y26, .ref y27, .ref y28, .ref y29, .ref y30, .ref y31, .ref y32, .ref y33, .ref y34, .ref y35, .ref y36, .ref y37, .ref y38, .ref y39, .ref y40, .ref y41, .ref y42, .ref y43, .ref y44, .ref y45, .ref y46, .int y47, .ref y48, .ref y49, .int y50, .int y51, .int y52, .int y53, .long y54, .int y55, .ref y56, .ref y57, .ref y58, .ref y59])), (y40, .inl (cT 0, 19, .inl lf)), (y29, .inl (cT 0, 302, .inl (upd (upd af 300 0) 301 0)))] := hD
  refine lv_aload_n hx hb dM_walk_10 rfl (lv_at hl 0 rfl) ?_
  refine va_get (D := D) (ci := 11) (v := .ref y40) (C := R_M) (T := T_M) (N := 60) hx hb hT in_M hown hK hP 0 rfl rfl 40 (by decide) (hT _ w1144) (fun _ h9 => h9) rfl dM_walk_11 ?_
  refine rw_v (wc := [(y40, .inl (cT 0, 19, .inl lf))]) (wr := [(y, .inr (11, [.ref y0, .int y1, .int y2, .int y3, .ref y4, .ref y5, .ref y6, .ref y7, .ref y8, .ref y9, .int y10, .int y11, .int y12, .int y13, .int y14, .long y15, .int y16, .int y17, .ref y18, .ref y19, .ref y20, .ref y21, .ref y22, .ref y23, .ref y24, .ref y25, .ref y26, .ref y27, .ref y28, .ref y29, .ref y30, .ref y31, .ref y32, .ref y33, .ref y34, .ref y35, .ref y36, .ref y37, .ref y38, .ref y39, .ref y40, .ref y41, .ref y42, .ref y43, .ref y44, .ref y45, .ref y46, .int y47, .ref y48, .ref y49, .int y50, .int y51, .int y52, .int y53, .long y54, .int y55, .ref y56, .ref y57, .ref y58, .ref y59])), (y29, .inl (cT 0, 302, .inl (upd (upd af 300 0) 301 0)))]) hP hD hS hA [1] [0, 2] rfl rfl (by decide) (by decide) (va_runS (As := [.ref y40]) (rest := []) ⟨hx, hb, hml, hown, hT⟩ (y_zero l D cT y40 lf _) ⟨callB_of 1 hT (tb_gd w1380) rfl rfl rfl (hT _ w13) (hT _ w1378) hM_zero ⟨Nat.le_of_ble_eq_true rfl, Nat.le_of_ble_eq_true rfl⟩, (hT _ w1379)⟩ (RW.preS hZ hS (va_free (wc := [(y40, .inl (cT 0, 19, .inl lf))]) hD hS hA [1] rfl) (hP.sub (ws' := [(y40, .inl (cT 0, 19, .inl lf))]) [1] rfl) hK (hD.sub (ws' := [(y40, .inl (cT 0, 19, .inl lf))]) [1] (by decide) rfl)) rfl rfl hl.1 rfl (lv_room (Nat.le_of_ble_eq_true rfl)) dM_walk_14 ⟨Nat.le_of_ble_eq_true rfl, Nat.le_of_ble_eq_true rfl⟩) (fun u2 H locs hpu2 hP hD hS => ?_)
  have hP : va_P D vwCl [(y, .inr (11, [.ref y0, .int y1, .int y2, .int y3, .ref y4, .ref y5, .ref y6, .ref y7, .ref y8, .ref y9, .int y10, .int y11, .int y12, .int y13, .int y14, .long y15, .int y16, .int y17, .ref y18, .ref y19, .ref y20, .ref y21, .ref y22, .ref y23, .ref y24, .ref y25, .ref y26, .ref y27, .ref y28, .ref y29, .ref y30, .ref y31, .ref y32, .ref y33, .ref y34, .ref y35, .ref y36, .ref y37, .ref y38, .ref y39, .ref y40, .ref y41, .ref y42, .ref y43, .ref y44, .ref y45, .ref y46, .int y47, .ref y48, .ref y49, .int y50, .int y51, .int y52, .int y53, .long y54, .int y55, .ref y56, .ref y57, .ref y58, .ref y59])), (y29, .inl (cT 0, 302, .inl (upd (upd af 300 0) 301 0))), (y40, .inl (cT 0, 19, .inl (upd (upd (upd (upd (upd (upd (upd (upd (upd (upd (upd (upd (upd (upd (upd (upd (upd (upd (upd lf 0 0) 1 0) 2 0) 3 0) 4 0) 5 0) 6 0) 7 0) 8 0) 9 0) 10 0) 11 0) 12 0) 13 0) 14 0) 15 0) 16 0) 17 0) 18 0)))] H := hP
  have hD : va_D A [(y, .inr (11, [.ref y0, .int y1, .int y2, .int y3, .ref y4, .ref y5, .ref y6, .ref y7, .ref y8, .ref y9, .int y10, .int y11, .int y12, .int y13, .int y14, .long y15, .int y16, .int y17, .ref y18, .ref y19, .ref y20, .ref y21, .ref y22, .ref y23, .ref y24, .ref y25, .ref y26, .ref y27, .ref y28, .ref y29, .ref y30, .ref y31, .ref y32, .ref y33, .ref y34, .ref y35, .ref y36, .ref y37, .ref y38, .ref y39, .ref y40, .ref y41, .ref y42, .ref y43, .ref y44, .ref y45, .ref y46, .int y47, .ref y48, .ref y49, .int y50, .int y51, .int y52, .int y53, .long y54, .int y55, .ref y56, .ref y57, .ref y58, .ref y59])), (y29, .inl (cT 0, 302, .inl (upd (upd af 300 0) 301 0))), (y40, .inl (cT 0, 19, .inl (upd (upd (upd (upd (upd (upd (upd (upd (upd (upd (upd (upd (upd (upd (upd (upd (upd (upd (upd lf 0 0) 1 0) 2 0) 3 0) 4 0) 5 0) 6 0) 7 0) 8 0) 9 0) 10 0) 11 0) 12 0) 13 0) 14 0) 15 0) 16 0) 17 0) 18 0)))] := hD
  refine lv_iconst (v := 0) hx hb dM_walk_17 (by decide) ?_
  refine lv_istore hx hb dM_walk_18 hl (by decide) rfl (fun ls hl => ?_)
  have hl : lv_has ls 6 [(5, .int 0), (0, .ref y), (1, .int a1), (2, .int 0), (3, .int a2), (4, .int 0)] := hl
  refine lv_iload hx hb dM_walk_20 (lv_at hl 0 rfl) ?_
  refine lv_iload_n hx hb dM_walk_22 rfl (lv_at hl 3 rfl) ?_
  refine lv_icmp_ge (tgt := 64) hx hb dM_walk_23 rfl (fun _ => ?_) (fun hj3 => absurd (by decide) hj3)
  have hP9 := hP.sub (ws' := [(y, .inr (11, [.ref y0, .int y1, .int y2, .int y3, .ref y4, .ref y5, .ref y6, .ref y7, .ref y8, .ref y9, .int y10, .int y11, .int y12, .int y13, .int y14, .long y15, .int y16, .int y17, .ref y18, .ref y19, .ref y20, .ref y21, .ref y22, .ref y23, .ref y24, .ref y25, .ref y26, .ref y27, .ref y28, .ref y29, .ref y30, .ref y31, .ref y32, .ref y33, .ref y34, .ref y35, .ref y36, .ref y37, .ref y38, .ref y39, .ref y40, .ref y41, .ref y42, .ref y43, .ref y44, .ref y45, .ref y46, .int y47, .ref y48, .ref y49, .int y50, .int y51, .int y52, .int y53, .long y54, .int y55, .ref y56, .ref y57, .ref y58, .ref y59])), (y29, .inl (cT 0, 302, .inl (upd (upd af 300 0) 301 0))), (y40, .inl (cT 0, 19, .inl (upd (upd (upd (upd (upd (upd (upd (upd (upd (upd (upd (upd (upd (upd (upd (upd (upd (upd (upd lf 0 0) 1 0) 2 0) 3 0) 4 0) 5 0) 6 0) 7 0) 8 0) 9 0) 10 0) 11 0) 12 0) 13 0) 14 0) 15 0) 16 0) 17 0) 18 0)))]) [0, 1, 2] rfl
  have hD9 := hD.sub (ws' := [(y, .inr (11, [.ref y0, .int y1, .int y2, .int y3, .ref y4, .ref y5, .ref y6, .ref y7, .ref y8, .ref y9, .int y10, .int y11, .int y12, .int y13, .int y14, .long y15, .int y16, .int y17, .ref y18, .ref y19, .ref y20, .ref y21, .ref y22, .ref y23, .ref y24, .ref y25, .ref y26, .ref y27, .ref y28, .ref y29, .ref y30, .ref y31, .ref y32, .ref y33, .ref y34, .ref y35, .ref y36, .ref y37, .ref y38, .ref y39, .ref y40, .ref y41, .ref y42, .ref y43, .ref y44, .ref y45, .ref y46, .int y47, .ref y48, .ref y49, .int y50, .int y51, .int y52, .int y53, .long y54, .int y55, .ref y56, .ref y57, .ref y58, .ref y59])), (y29, .inl (cT 0, 302, .inl (upd (upd af 300 0) 301 0))), (y40, .inl (cT 0, 19, .inl (upd (upd (upd (upd (upd (upd (upd (upd (upd (upd (upd (upd (upd (upd (upd (upd (upd (upd (upd lf 0 0) 1 0) 2 0) 3 0) 4 0) 5 0) 6 0) 7 0) 8 0) 9 0) 10 0) 11 0) 12 0) 13 0) 14 0) 15 0) 16 0) 17 0) 18 0)))]) [0, 1, 2] (by decide) rfl
  refine W.widen (k := 0) (n := 0) (Nat.le_of_ble_eq_true rfl) (Nat.le_of_ble_eq_true rfl) ?_
  exact W.vret hx hb hr (fun t ht hW => ⟨⟨(fun _ => 0), rfl, trivial, by rw [ht]; exact hP9, hD9⟩, hS.F ht⟩) hS.2.2 dM_walk_64
set_option maxHeartbeats 4000000 in
set_option maxRecDepth 100000 in
theorem y_findResiduals0 (l : Launch) (D : va_G) (cT : Nat → ClassId) (y : Nat) (y0 : Nat) (y1 : Int32) (y2 : Int32) (y4 : Nat) (y5 : Nat) (y6 : Nat) (y7 : Nat) (y8 : Nat) (y9 : Nat) (y10 : Int32) (y11 : Int32) (y12 : Int32) (y13 : Int32) (y14 : Int32) (y15 : Int64) (y16 : Int32) (y17 : Int32) (y18 : Nat) (y19 : Nat) (y20 : Nat) (y21 : Nat) (y22 : Nat) (y23 : Nat) (y24 : Nat) (y25 : Nat) (y26 : Nat) (y27 : Nat) (y28 : Nat) (y29 : Nat) (y30 : Nat) (y31 : Nat) (y32 : Nat) (y33 : Nat) (y34 : Nat) (y35 : Nat) (y36 : Nat) (y37 : Nat) (y38 : Nat) (y39 : Nat) (y40 : Nat) (y41 : Nat) (y42 : Nat) (y43 : Nat) (y44 : Nat) (y45 : Nat) (y46 : Nat) (y47 : Int32) (y48 : Nat) (y49 : Nat) (y50 : Int32) (y51 : Int32) (y52 : Int32) (y53 : Int32) (y54 : Int64) (y55 : Int32) (y56 : Nat) (y57 : Nat) (y58 : Nat) (y59 : Nat) (cf : Nat → Int32) (sz : Nat) : Met l yM_findResiduals WM_findResiduals ({ frames := 1, cells := 0, slots := 0, locals := 21 } : Room) (RW D vwCl [.ref y] [(y, .inr (11, [.ref y0, .int y1, .int y2, .int 0, .ref y4, .ref y5, .ref y6, .ref y7, .ref y8, .ref y9, .int y10, .int y11, .int y12, .int y13, .int y14, .long y15, .int y16, .int y17, .ref y18, .ref y19, .ref y20, .ref y21, .ref y22, .ref y23, .ref y24, .ref y25, .ref y26, .ref y27, .ref y28, .ref y29, .ref y30, .ref y31, .ref y32, .ref y33, .ref y34, .ref y35, .ref y36, .ref y37, .ref y38, .ref y39, .ref y40, .ref y41, .ref y42, .ref y43, .ref y44, .ref y45, .ref y46, .int y47, .ref y48, .ref y49, .int y50, .int y51, .int y52, .int y53, .long y54, .int y55, .ref y56, .ref y57, .ref y58, .ref y59])), (y44, .inl (cT 0, 19, .inl cf))] (TY cT) sz) (va_Qv (fun _ : Nat → Nat => True) (BW D vwCl (va_A [(y, .inr (11, [.ref y0, .int y1, .int y2, .int 0, .ref y4, .ref y5, .ref y6, .ref y7, .ref y8, .ref y9, .int y10, .int y11, .int y12, .int y13, .int y14, .long y15, .int y16, .int y17, .ref y18, .ref y19, .ref y20, .ref y21, .ref y22, .ref y23, .ref y24, .ref y25, .ref y26, .ref y27, .ref y28, .ref y29, .ref y30, .ref y31, .ref y32, .ref y33, .ref y34, .ref y35, .ref y36, .ref y37, .ref y38, .ref y39, .ref y40, .ref y41, .ref y42, .ref y43, .ref y44, .ref y45, .ref y46, .int y47, .ref y48, .ref y49, .int y50, .int y51, .int y52, .int y53, .long y54, .int y55, .ref y56, .ref y57, .ref y58, .ref y59])), (y44, .inl (cT 0, 19, .inl cf))] sz) (fun u => [(y, .inr (11, [.ref y0, .int y1, .int y2, .int 0, .ref y4, .ref y5, .ref y6, .ref y7, .ref y8, .ref y9, .int y10, .int y11, .int y12, .int y13, .int y14, .long y15, .int y16, .int y17, .ref y18, .ref y19, .ref y20, .ref y21, .ref y22, .ref y23, .ref y24, .ref y25, .ref y26, .ref y27, .ref y28, .ref y29, .ref y30, .ref y31, .ref y32, .ref y33, .ref y34, .ref y35, .ref y36, .ref y37, .ref y38, .ref y39, .ref y40, .ref y41, .ref y42, .ref y43, .ref y44, .ref y45, .ref y46, .int y47, .ref y48, .ref y49, .int y50, .int y51, .int y52, .int y53, .long y54, .int y55, .ref y56, .ref y57, .ref y58, .ref y59])), (y44, .inl (cT 0, 19, .inl (upd (upd (upd (upd (upd (upd (upd (upd (upd (upd (upd (upd (upd (upd (upd (upd (upd (upd (upd cf 0 0) 1 0) 2 0) 3 0) 4 0) 5 0) 6 0) 7 0) 8 0) 9 0) 10 0) 11 0) 12 0) 13 0) 14 0) 15 0) 16 0) 17 0) 18 0)))])) (va_A [(y, .inr (11, [.ref y0, .int y1, .int y2, .int 0, .ref y4, .ref y5, .ref y6, .ref y7, .ref y8, .ref y9, .int y10, .int y11, .int y12, .int y13, .int y14, .long y15, .int y16, .int y17, .ref y18, .ref y19, .ref y20, .ref y21, .ref y22, .ref y23, .ref y24, .ref y25, .ref y26, .ref y27, .ref y28, .ref y29, .ref y30, .ref y31, .ref y32, .ref y33, .ref y34, .ref y35, .ref y36, .ref y37, .ref y38, .ref y39, .ref y40, .ref y41, .ref y42, .ref y43, .ref y44, .ref y45, .ref y46, .int y47, .ref y48, .ref y49, .int y50, .int y51, .int y52, .int y53, .long y54, .int y55, .ref y56, .ref y57, .ref y58, .ref y59])), (y44, .inl (cT 0, 19, .inl cf))] sz)) 0 0 (va_A [(y, .inr (11, [.ref y0, .int y1, .int y2, .int 0, .ref y4, .ref y5, .ref y6, .ref y7, .ref y8, .ref y9, .int y10, .int y11, .int y12, .int y13, .int y14, .long y15, .int y16, .int y17, .ref y18, .ref y19, .ref y20, .ref y21, .ref y22, .ref y23, .ref y24, .ref y25, .ref y26, .ref y27, .ref y28, .ref y29, .ref y30, .ref y31, .ref y32, .ref y33, .ref y34, .ref y35, .ref y36, .ref y37, .ref y38, .ref y39, .ref y40, .ref y41, .ref y42, .ref y43, .ref y44, .ref y45, .ref y46, .int y47, .ref y48, .ref y49, .int y50, .int y51, .int y52, .int y53, .long y54, .int y55, .ref y56, .ref y57, .ref y58, .ref y59])), (y44, .inl (cT 0, 19, .inl cf))] sz) := by
  refine Met.ofW (cc := cM_findResiduals) (maxL := 3) (ret := none) (by decide) rfl ?_
  intro p e s m args below meth c s₁ B hml hv
  obtain ⟨rfl, hsz, hZ, hP, hK, hD0⟩ := hv
  have hx := B.exec
  have hb := B.bytes
  have hr := B.returns
  have hts := atoms_spec (ws := WM_findResiduals) B.pre
  have hT : ∀ w ∈ TB, w.before _ s = true := fun w h => hts w (List.mem_cons_of_mem _ h)
  have hown : s.vm.findClass R_M = some m.cls := findClass_of_methodNamed B.named
  have hlocks := B.notSynchronized
  subst hsz
  have hD := hD0.self (sz := s.heap.size)
  generalize hAe : va_A [(y, .inr (11, [.ref y0, .int y1, .int y2, .int 0, .ref y4, .ref y5, .ref y6, .ref y7, .ref y8, .ref y9, .int y10, .int y11, .int y12, .int y13, .int y14, .long y15, .int y16, .int y17, .ref y18, .ref y19, .ref y20, .ref y21, .ref y22, .ref y23, .ref y24, .ref y25, .ref y26, .ref y27, .ref y28, .ref y29, .ref y30, .ref y31, .ref y32, .ref y33, .ref y34, .ref y35, .ref y36, .ref y37, .ref y38, .ref y39, .ref y40, .ref y41, .ref y42, .ref y43, .ref y44, .ref y45, .ref y46, .int y47, .ref y48, .ref y49, .int y50, .int y51, .int y52, .int y53, .long y54, .int y55, .ref y56, .ref y57, .ref y58, .ref y59])), (y44, .inl (cT 0, 19, .inl cf))] s.heap.size = A at hD hZ ⊢
  have hA : ∀ q : Nat, s.heap.size ≤ q → A q := fun q h => by rw [← hAe]; exact Or.inr h
  have hS : va_S A s.heap s.heap [] := va_S.rf
  have hl := lv_entry ([.ref y]) (n := 3) (Nat.le_of_ble_eq_true rfl)
  rw [lg_entry_eq]
  generalize (lg_sl ([.ref y]) ++ List.replicate (3 - (lg_sl ([.ref y])).length) Slot.unset).toArray = ls at hl ⊢
  have hl : lv_has ls 3 [(0, .ref y)] := hl
  refine lv_aload_n hx hb dM_findResiduals_0 rfl (lv_at hl 0 rfl) ?_
  refine va_get (D := D) (ci := 11) (v := .ref y44) (C := R_M) (T := T_M) (N := 60) hx hb hT in_M hown hK hP 0 rfl rfl 44 (by decide) (hT _ w1148) (fun _ h9 => h9) rfl dM_findResiduals_1 ?_
  refine rw_v (wc := [(y44, .inl (cT 0, 19, .inl cf))]) (wr := [(y, .inr (11, [.ref y0, .int y1, .int y2, .int 0, .ref y4, .ref y5, .ref y6, .ref y7, .ref y8, .ref y9, .int y10, .int y11, .int y12, .int y13, .int y14, .long y15, .int y16, .int y17, .ref y18, .ref y19, .ref y20, .ref y21, .ref y22, .ref y23, .ref y24, .ref y25, .ref y26, .ref y27, .ref y28, .ref y29, .ref y30, .ref y31, .ref y32, .ref y33, .ref y34, .ref y35, .ref y36, .ref y37, .ref y38, .ref y39, .ref y40, .ref y41, .ref y42, .ref y43, .ref y44, .ref y45, .ref y46, .int y47, .ref y48, .ref y49, .int y50, .int y51, .int y52, .int y53, .long y54, .int y55, .ref y56, .ref y57, .ref y58, .ref y59]))]) hP hD hS hA [1] [0] rfl rfl (by decide) (by decide) (va_runS (As := [.ref y44]) (rest := []) ⟨hx, hb, hml, hown, hT⟩ (y_zero l D cT y44 cf _) ⟨callB_of 1 hT (tb_gd w1380) rfl rfl rfl (hT _ w13) (hT _ w1378) hM_zero ⟨Nat.le_of_ble_eq_true rfl, Nat.le_of_ble_eq_true rfl⟩, (hT _ w1379)⟩ (RW.preS hZ hS (va_free (wc := [(y44, .inl (cT 0, 19, .inl cf))]) hD hS hA [1] rfl) (hP.sub (ws' := [(y44, .inl (cT 0, 19, .inl cf))]) [1] rfl) hK (hD.sub (ws' := [(y44, .inl (cT 0, 19, .inl cf))]) [1] (by decide) rfl)) rfl rfl hl.1 rfl (lv_room (Nat.le_of_ble_eq_true rfl)) dM_findResiduals_4 ⟨Nat.le_of_ble_eq_true rfl, Nat.le_of_ble_eq_true rfl⟩) (fun u1 H locs hpu1 hP hD hS => ?_)
  have hP : va_P D vwCl [(y, .inr (11, [.ref y0, .int y1, .int y2, .int 0, .ref y4, .ref y5, .ref y6, .ref y7, .ref y8, .ref y9, .int y10, .int y11, .int y12, .int y13, .int y14, .long y15, .int y16, .int y17, .ref y18, .ref y19, .ref y20, .ref y21, .ref y22, .ref y23, .ref y24, .ref y25, .ref y26, .ref y27, .ref y28, .ref y29, .ref y30, .ref y31, .ref y32, .ref y33, .ref y34, .ref y35, .ref y36, .ref y37, .ref y38, .ref y39, .ref y40, .ref y41, .ref y42, .ref y43, .ref y44, .ref y45, .ref y46, .int y47, .ref y48, .ref y49, .int y50, .int y51, .int y52, .int y53, .long y54, .int y55, .ref y56, .ref y57, .ref y58, .ref y59])), (y44, .inl (cT 0, 19, .inl (upd (upd (upd (upd (upd (upd (upd (upd (upd (upd (upd (upd (upd (upd (upd (upd (upd (upd (upd cf 0 0) 1 0) 2 0) 3 0) 4 0) 5 0) 6 0) 7 0) 8 0) 9 0) 10 0) 11 0) 12 0) 13 0) 14 0) 15 0) 16 0) 17 0) 18 0)))] H := hP
  have hD : va_D A [(y, .inr (11, [.ref y0, .int y1, .int y2, .int 0, .ref y4, .ref y5, .ref y6, .ref y7, .ref y8, .ref y9, .int y10, .int y11, .int y12, .int y13, .int y14, .long y15, .int y16, .int y17, .ref y18, .ref y19, .ref y20, .ref y21, .ref y22, .ref y23, .ref y24, .ref y25, .ref y26, .ref y27, .ref y28, .ref y29, .ref y30, .ref y31, .ref y32, .ref y33, .ref y34, .ref y35, .ref y36, .ref y37, .ref y38, .ref y39, .ref y40, .ref y41, .ref y42, .ref y43, .ref y44, .ref y45, .ref y46, .int y47, .ref y48, .ref y49, .int y50, .int y51, .int y52, .int y53, .long y54, .int y55, .ref y56, .ref y57, .ref y58, .ref y59])), (y44, .inl (cT 0, 19, .inl (upd (upd (upd (upd (upd (upd (upd (upd (upd (upd (upd (upd (upd (upd (upd (upd (upd (upd (upd cf 0 0) 1 0) 2 0) 3 0) 4 0) 5 0) 6 0) 7 0) 8 0) 9 0) 10 0) 11 0) 12 0) 13 0) 14 0) 15 0) 16 0) 17 0) 18 0)))] := hD
  refine lv_iconst (v := 0) hx hb dM_findResiduals_7 (by decide) ?_
  refine lv_istore_n hx hb dM_findResiduals_8 rfl hl (by decide) rfl (fun ls hl => ?_)
  have hl : lv_has ls 3 [(1, .int 0), (0, .ref y)] := hl
  refine lv_iload_n hx hb dM_findResiduals_9 rfl (lv_at hl 0 rfl) ?_
  refine lv_aload_n hx hb dM_findResiduals_10 rfl (lv_at hl 1 rfl) ?_
  refine va_get (D := D) (ci := 11) (v := .int 0) (C := R_M) (T := T_M) (N := 60) hx hb hT in_M hown hK hP 0 rfl rfl 3 (by decide) (hT _ w1107) (fun _ h9 => h9) rfl dM_findResiduals_11 ?_
  refine lv_icmp_ge (tgt := 120) hx hb dM_findResiduals_14 rfl (fun _ => ?_) (fun hj2 => absurd (by decide) hj2)
  refine lv_iconst (v := 0) hx hb dM_findResiduals_120 (by decide) ?_
  refine lv_istore_n hx hb dM_findResiduals_121 rfl hl (by decide) rfl (fun ls hl => ?_)
  have hl : lv_has ls 3 [(1, .int 0), (0, .ref y)] := hl
  refine lv_iload_n hx hb dM_findResiduals_122 rfl (lv_at hl 0 rfl) ?_
  refine lv_aload_n hx hb dM_findResiduals_123 rfl (lv_at hl 1 rfl) ?_
  refine va_get (D := D) (ci := 11) (v := .int 0) (C := R_M) (T := T_M) (N := 60) hx hb hT in_M hown hK hP 0 rfl rfl 3 (by decide) (hT _ w1107) (fun _ h9 => h9) rfl dM_findResiduals_124 ?_
  refine lv_icmp_ge (tgt := 199) hx hb dM_findResiduals_127 rfl (fun _ => ?_) (fun hj3 => absurd (by decide) hj3)
  have hP9 := hP.sub (ws' := [(y, .inr (11, [.ref y0, .int y1, .int y2, .int 0, .ref y4, .ref y5, .ref y6, .ref y7, .ref y8, .ref y9, .int y10, .int y11, .int y12, .int y13, .int y14, .long y15, .int y16, .int y17, .ref y18, .ref y19, .ref y20, .ref y21, .ref y22, .ref y23, .ref y24, .ref y25, .ref y26, .ref y27, .ref y28, .ref y29, .ref y30, .ref y31, .ref y32, .ref y33, .ref y34, .ref y35, .ref y36, .ref y37, .ref y38, .ref y39, .ref y40, .ref y41, .ref y42, .ref y43, .ref y44, .ref y45, .ref y46, .int y47, .ref y48, .ref y49, .int y50, .int y51, .int y52, .int y53, .long y54, .int y55, .ref y56, .ref y57, .ref y58, .ref y59])), (y44, .inl (cT 0, 19, .inl (upd (upd (upd (upd (upd (upd (upd (upd (upd (upd (upd (upd (upd (upd (upd (upd (upd (upd (upd cf 0 0) 1 0) 2 0) 3 0) 4 0) 5 0) 6 0) 7 0) 8 0) 9 0) 10 0) 11 0) 12 0) 13 0) 14 0) 15 0) 16 0) 17 0) 18 0)))]) [0, 1] rfl
  have hD9 := hD.sub (ws' := [(y, .inr (11, [.ref y0, .int y1, .int y2, .int 0, .ref y4, .ref y5, .ref y6, .ref y7, .ref y8, .ref y9, .int y10, .int y11, .int y12, .int y13, .int y14, .long y15, .int y16, .int y17, .ref y18, .ref y19, .ref y20, .ref y21, .ref y22, .ref y23, .ref y24, .ref y25, .ref y26, .ref y27, .ref y28, .ref y29, .ref y30, .ref y31, .ref y32, .ref y33, .ref y34, .ref y35, .ref y36, .ref y37, .ref y38, .ref y39, .ref y40, .ref y41, .ref y42, .ref y43, .ref y44, .ref y45, .ref y46, .int y47, .ref y48, .ref y49, .int y50, .int y51, .int y52, .int y53, .long y54, .int y55, .ref y56, .ref y57, .ref y58, .ref y59])), (y44, .inl (cT 0, 19, .inl (upd (upd (upd (upd (upd (upd (upd (upd (upd (upd (upd (upd (upd (upd (upd (upd (upd (upd (upd cf 0 0) 1 0) 2 0) 3 0) 4 0) 5 0) 6 0) 7 0) 8 0) 9 0) 10 0) 11 0) 12 0) 13 0) 14 0) 15 0) 16 0) 17 0) 18 0)))]) [0, 1] (by decide) rfl
  refine W.widen (k := 0) (n := 0) (Nat.le_of_ble_eq_true rfl) (Nat.le_of_ble_eq_true rfl) ?_
  exact W.vret hx hb hr (fun t ht hW => ⟨⟨(fun _ => 0), rfl, trivial, by rw [ht]; exact hP9, hD9⟩, hS.F ht⟩) hS.2.2 dM_findResiduals_199
set_option maxHeartbeats 4000000 in
set_option maxRecDepth 100000 in
theorem y_commonBits0 (l : Launch) (D : va_G) (cT : Nat → ClassId) (y : Nat) (y0 : Nat) (y1 : Int32) (y2 : Int32) (y4 : Nat) (y5 : Nat) (y6 : Nat) (y7 : Nat) (y8 : Nat) (y9 : Nat) (y10 : Int32) (y11 : Int32) (y12 : Int32) (y13 : Int32) (y14 : Int32) (y15 : Int64) (y16 : Int32) (y17 : Int32) (y18 : Nat) (y19 : Nat) (y20 : Nat) (y21 : Nat) (y22 : Nat) (y23 : Nat) (y24 : Nat) (y25 : Nat) (y26 : Nat) (y27 : Nat) (y28 : Nat) (y29 : Nat) (y30 : Nat) (y31 : Nat) (y32 : Nat) (y33 : Nat) (y34 : Nat) (y35 : Nat) (y36 : Nat) (y37 : Nat) (y38 : Nat) (y39 : Nat) (y40 : Nat) (y41 : Nat) (y42 : Nat) (y43 : Nat) (y44 : Nat) (y45 : Nat) (y46 : Nat) (y47 : Int32) (y48 : Nat) (y49 : Nat) (y50 : Int32) (y51 : Int32) (y52 : Int32) (y53 : Int32) (y54 : Int64) (y55 : Int32) (y56 : Nat) (y57 : Nat) (y58 : Nat) (y59 : Nat) (af : Nat → Int32) (lf : Nat → Int32) (cf : Nat → Int32) (sz : Nat) : Met l yM_commonBits WM_commonBits ({ frames := 2, cells := 0, slots := 0, locals := 43 } : Room) (RW D vwCl [.ref y] [(y, .inr (11, [.ref y0, .int y1, .int y2, .int 0, .ref y4, .ref y5, .ref y6, .ref y7, .ref y8, .ref y9, .int y10, .int y11, .int y12, .int y13, .int y14, .long y15, .int y16, .int y17, .ref y18, .ref y19, .ref y20, .ref y21, .ref y22, .ref y23, .ref y24, .ref y25, .ref y26, .ref y27, .ref y28, .ref y29, .ref y30, .ref y31, .ref y32, .ref y33, .ref y34, .ref y35, .ref y36, .ref y37, .ref y38, .ref y39, .ref y40, .ref y41, .ref y42, .ref y43, .ref y44, .ref y45, .ref y46, .int y47, .ref y48, .ref y49, .int y50, .int y51, .int y52, .int y53, .long y54, .int y55, .ref y56, .ref y57, .ref y58, .ref y59])), (y29, .inl (cT 0, 302, .inl af)), (y40, .inl (cT 0, 19, .inl lf)), (y44, .inl (cT 0, 19, .inl cf))] (TY cT) sz) (va_Qi (fun (r : Int32) (_ : Nat → Nat) => r = 1) (BW D vwCl (va_A [(y, .inr (11, [.ref y0, .int y1, .int y2, .int 0, .ref y4, .ref y5, .ref y6, .ref y7, .ref y8, .ref y9, .int y10, .int y11, .int y12, .int y13, .int y14, .long y15, .int y16, .int y17, .ref y18, .ref y19, .ref y20, .ref y21, .ref y22, .ref y23, .ref y24, .ref y25, .ref y26, .ref y27, .ref y28, .ref y29, .ref y30, .ref y31, .ref y32, .ref y33, .ref y34, .ref y35, .ref y36, .ref y37, .ref y38, .ref y39, .ref y40, .ref y41, .ref y42, .ref y43, .ref y44, .ref y45, .ref y46, .int y47, .ref y48, .ref y49, .int y50, .int y51, .int y52, .int y53, .long y54, .int y55, .ref y56, .ref y57, .ref y58, .ref y59])), (y29, .inl (cT 0, 302, .inl af)), (y40, .inl (cT 0, 19, .inl lf)), (y44, .inl (cT 0, 19, .inl cf))] sz) (fun u => [(y, .inr (11, [.ref y0, .int y1, .int y2, .int 0, .ref y4, .ref y5, .ref y6, .ref y7, .ref y8, .ref y9, .int y10, .int y11, .int y12, .int y13, .int y14, .long y15, .int y16, .int y17, .ref y18, .ref y19, .ref y20, .ref y21, .ref y22, .ref y23, .ref y24, .ref y25, .ref y26, .ref y27, .ref y28, .ref y29, .ref y30, .ref y31, .ref y32, .ref y33, .ref y34, .ref y35, .ref y36, .ref y37, .ref y38, .ref y39, .ref y40, .ref y41, .ref y42, .ref y43, .ref y44, .ref y45, .ref y46, .int y47, .ref y48, .ref y49, .int y50, .int y51, .int y52, .int y53, .long y54, .int y55, .ref y56, .ref y57, .ref y58, .ref y59])), (y44, .inl (cT 0, 19, .inl (upd (upd (upd (upd (upd (upd (upd (upd (upd (upd (upd (upd (upd (upd (upd (upd (upd (upd (upd cf 0 0) 1 0) 2 0) 3 0) 4 0) 5 0) 6 0) 7 0) 8 0) 9 0) 10 0) 11 0) 12 0) 13 0) 14 0) 15 0) 16 0) 17 0) 18 0))), (y29, .inl (cT 0, 302, .inl (upd (upd (upd af 0 1) 300 1) 301 1))), (y40, .inl (cT 0, 19, .inl (upd (upd (upd (upd (upd (upd (upd (upd (upd (upd (upd (upd (upd (upd (upd (upd (upd (upd (upd lf 0 0) 1 0) 2 0) 3 0) 4 0) 5 0) 6 0) 7 0) 8 0) 9 0) 10 0) 11 0) 12 0) 13 0) 14 0) 15 0) 16 0) 17 0) 18 0)))])) (va_A [(y, .inr (11, [.ref y0, .int y1, .int y2, .int 0, .ref y4, .ref y5, .ref y6, .ref y7, .ref y8, .ref y9, .int y10, .int y11, .int y12, .int y13, .int y14, .long y15, .int y16, .int y17, .ref y18, .ref y19, .ref y20, .ref y21, .ref y22, .ref y23, .ref y24, .ref y25, .ref y26, .ref y27, .ref y28, .ref y29, .ref y30, .ref y31, .ref y32, .ref y33, .ref y34, .ref y35, .ref y36, .ref y37, .ref y38, .ref y39, .ref y40, .ref y41, .ref y42, .ref y43, .ref y44, .ref y45, .ref y46, .int y47, .ref y48, .ref y49, .int y50, .int y51, .int y52, .int y53, .long y54, .int y55, .ref y56, .ref y57, .ref y58, .ref y59])), (y29, .inl (cT 0, 302, .inl af)), (y40, .inl (cT 0, 19, .inl lf)), (y44, .inl (cT 0, 19, .inl cf))] sz)) 0 0 (va_A [(y, .inr (11, [.ref y0, .int y1, .int y2, .int 0, .ref y4, .ref y5, .ref y6, .ref y7, .ref y8, .ref y9, .int y10, .int y11, .int y12, .int y13, .int y14, .long y15, .int y16, .int y17, .ref y18, .ref y19, .ref y20, .ref y21, .ref y22, .ref y23, .ref y24, .ref y25, .ref y26, .ref y27, .ref y28, .ref y29, .ref y30, .ref y31, .ref y32, .ref y33, .ref y34, .ref y35, .ref y36, .ref y37, .ref y38, .ref y39, .ref y40, .ref y41, .ref y42, .ref y43, .ref y44, .ref y45, .ref y46, .int y47, .ref y48, .ref y49, .int y50, .int y51, .int y52, .int y53, .long y54, .int y55, .ref y56, .ref y57, .ref y58, .ref y59])), (y29, .inl (cT 0, 302, .inl af)), (y40, .inl (cT 0, 19, .inl lf)), (y44, .inl (cT 0, 19, .inl cf))] sz) := by
  refine Met.ofW (cc := cM_commonBits) (maxL := 3) (ret := (some .int)) (by decide) rfl ?_
  intro p e s m args below meth c s₁ B hml hv
  obtain ⟨rfl, hsz, hZ, hP, hK, hD0⟩ := hv
  have hx := B.exec
  have hb := B.bytes
  have hr := B.returns
  have hts := atoms_spec (ws := WM_commonBits) B.pre
  have hT : ∀ w ∈ TB, w.before _ s = true := fun w h => hts w (List.mem_cons_of_mem _ h)
  have hown : s.vm.findClass R_M = some m.cls := findClass_of_methodNamed B.named
  have hlocks := B.notSynchronized
  subst hsz
  have hD := hD0.self (sz := s.heap.size)
  generalize hAe : va_A [(y, .inr (11, [.ref y0, .int y1, .int y2, .int 0, .ref y4, .ref y5, .ref y6, .ref y7, .ref y8, .ref y9, .int y10, .int y11, .int y12, .int y13, .int y14, .long y15, .int y16, .int y17, .ref y18, .ref y19, .ref y20, .ref y21, .ref y22, .ref y23, .ref y24, .ref y25, .ref y26, .ref y27, .ref y28, .ref y29, .ref y30, .ref y31, .ref y32, .ref y33, .ref y34, .ref y35, .ref y36, .ref y37, .ref y38, .ref y39, .ref y40, .ref y41, .ref y42, .ref y43, .ref y44, .ref y45, .ref y46, .int y47, .ref y48, .ref y49, .int y50, .int y51, .int y52, .int y53, .long y54, .int y55, .ref y56, .ref y57, .ref y58, .ref y59])), (y29, .inl (cT 0, 302, .inl af)), (y40, .inl (cT 0, 19, .inl lf)), (y44, .inl (cT 0, 19, .inl cf))] s.heap.size = A at hD hZ ⊢
  have hA : ∀ q : Nat, s.heap.size ≤ q → A q := fun q h => by rw [← hAe]; exact Or.inr h
  have hS : va_S A s.heap s.heap [] := va_S.rf
  have hl := lv_entry ([.ref y]) (n := 3) (Nat.le_of_ble_eq_true rfl)
  rw [lg_entry_eq]
  generalize (lg_sl ([.ref y]) ++ List.replicate (3 - (lg_sl ([.ref y])).length) Slot.unset).toArray = ls at hl ⊢
  have hl : lv_has ls 3 [(0, .ref y)] := hl
  refine lv_aload_n hx hb dM_commonBits_0 rfl (lv_at hl 0 rfl) ?_
  refine rw_v (wc := [(y, .inr (11, [.ref y0, .int y1, .int y2, .int 0, .ref y4, .ref y5, .ref y6, .ref y7, .ref y8, .ref y9, .int y10, .int y11, .int y12, .int y13, .int y14, .long y15, .int y16, .int y17, .ref y18, .ref y19, .ref y20, .ref y21, .ref y22, .ref y23, .ref y24, .ref y25, .ref y26, .ref y27, .ref y28, .ref y29, .ref y30, .ref y31, .ref y32, .ref y33, .ref y34, .ref y35, .ref y36, .ref y37, .ref y38, .ref y39, .ref y40, .ref y41, .ref y42, .ref y43, .ref y44, .ref y45, .ref y46, .int y47, .ref y48, .ref y49, .int y50, .int y51, .int y52, .int y53, .long y54, .int y55, .ref y56, .ref y57, .ref y58, .ref y59])), (y44, .inl (cT 0, 19, .inl cf))]) (wr := [(y29, .inl (cT 0, 302, .inl af)), (y40, .inl (cT 0, 19, .inl lf))]) hP hD hS hA [0, 3] [1, 2] rfl rfl (by decide) (by decide) (va_runV (As := []) (rest := []) ⟨hx, hb, hml, hown, hT⟩ (y_findResiduals0 l D cT y y0 y1 y2 y4 y5 y6 y7 y8 y9 y10 y11 y12 y13 y14 y15 y16 y17 y18 y19 y20 y21 y22 y23 y24 y25 y26 y27 y28 y29 y30 y31 y32 y33 y34 y35 y36 y37 y38 y39 y40 y41 y42 y43 y44 y45 y46 y47 y48 y49 y50 y51 y52 y53 y54 y55 y56 y57 y58 y59 cf _) ⟨callB_of 0 hT (tb_gd w1377) rfl rfl rfl (hT _ w13) (hT _ w1374) hM_findResiduals ⟨Nat.le_of_ble_eq_true rfl, Nat.le_of_ble_eq_true rfl⟩, (hT _ w1376), (hT _ wp35)⟩ (RW.preV (ci := 11) (q0 := 0) hZ hS (va_free (wc := [(y, .inr (11, [.ref y0, .int y1, .int y2, .int 0, .ref y4, .ref y5, .ref y6, .ref y7, .ref y8, .ref y9, .int y10, .int y11, .int y12, .int y13, .int y14, .long y15, .int y16, .int y17, .ref y18, .ref y19, .ref y20, .ref y21, .ref y22, .ref y23, .ref y24, .ref y25, .ref y26, .ref y27, .ref y28, .ref y29, .ref y30, .ref y31, .ref y32, .ref y33, .ref y34, .ref y35, .ref y36, .ref y37, .ref y38, .ref y39, .ref y40, .ref y41, .ref y42, .ref y43, .ref y44, .ref y45, .ref y46, .int y47, .ref y48, .ref y49, .int y50, .int y51, .int y52, .int y53, .long y54, .int y55, .ref y56, .ref y57, .ref y58, .ref y59])), (y44, .inl (cT 0, 19, .inl cf))]) hD hS hA [0, 3] rfl) (hP.sub (ws' := [(y, .inr (11, [.ref y0, .int y1, .int y2, .int 0, .ref y4, .ref y5, .ref y6, .ref y7, .ref y8, .ref y9, .int y10, .int y11, .int y12, .int y13, .int y14, .long y15, .int y16, .int y17, .ref y18, .ref y19, .ref y20, .ref y21, .ref y22, .ref y23, .ref y24, .ref y25, .ref y26, .ref y27, .ref y28, .ref y29, .ref y30, .ref y31, .ref y32, .ref y33, .ref y34, .ref y35, .ref y36, .ref y37, .ref y38, .ref y39, .ref y40, .ref y41, .ref y42, .ref y43, .ref y44, .ref y45, .ref y46, .int y47, .ref y48, .ref y49, .int y50, .int y51, .int y52, .int y53, .long y54, .int y55, .ref y56, .ref y57, .ref y58, .ref y59])), (y44, .inl (cT 0, 19, .inl cf))]) [0, 3] rfl) hK (hD.sub (ws' := [(y, .inr (11, [.ref y0, .int y1, .int y2, .int 0, .ref y4, .ref y5, .ref y6, .ref y7, .ref y8, .ref y9, .int y10, .int y11, .int y12, .int y13, .int y14, .long y15, .int y16, .int y17, .ref y18, .ref y19, .ref y20, .ref y21, .ref y22, .ref y23, .ref y24, .ref y25, .ref y26, .ref y27, .ref y28, .ref y29, .ref y30, .ref y31, .ref y32, .ref y33, .ref y34, .ref y35, .ref y36, .ref y37, .ref y38, .ref y39, .ref y40, .ref y41, .ref y42, .ref y43, .ref y44, .ref y45, .ref y46, .int y47, .ref y48, .ref y49, .int y50, .int y51, .int y52, .int y53, .long y54, .int y55, .ref y56, .ref y57, .ref y58, .ref y59])), (y44, .inl (cT 0, 19, .inl cf))]) [0, 3] (by decide) rfl) rfl rfl) rfl rfl hl.1 rfl (lv_room (Nat.le_of_ble_eq_true rfl)) dM_commonBits_1 ⟨Nat.le_of_ble_eq_true rfl, Nat.le_of_ble_eq_true rfl⟩) (fun u1 H locs hpu1 hP hD hS => ?_)
  have hP : va_P D vwCl [(y29, .inl (cT 0, 302, .inl af)), (y40, .inl (cT 0, 19, .inl lf)), (y, .inr (11, [.ref y0, .int y1, .int y2, .int 0, .ref y4, .ref y5, .ref y6, .ref y7, .ref y8, .ref y9, .int y10, .int y11, .int y12, .int y13, .int y14, .long y15, .int y16, .int y17, .ref y18, .ref y19, .ref y20, .ref y21, .ref y22, .ref y23, .ref y24, .ref y25, .ref y26, .ref y27, .ref y28, .ref y29, .ref y30, .ref y31, .ref y32, .ref y33, .ref y34, .ref y35, .ref y36, .ref y37, .ref y38, .ref y39, .ref y40, .ref y41, .ref y42, .ref y43, .ref y44, .ref y45, .ref y46, .int y47, .ref y48, .ref y49, .int y50, .int y51, .int y52, .int y53, .long y54, .int y55, .ref y56, .ref y57, .ref y58, .ref y59])), (y44, .inl (cT 0, 19, .inl (upd (upd (upd (upd (upd (upd (upd (upd (upd (upd (upd (upd (upd (upd (upd (upd (upd (upd (upd cf 0 0) 1 0) 2 0) 3 0) 4 0) 5 0) 6 0) 7 0) 8 0) 9 0) 10 0) 11 0) 12 0) 13 0) 14 0) 15 0) 16 0) 17 0) 18 0)))] H := hP
  have hD : va_D A [(y29, .inl (cT 0, 302, .inl af)), (y40, .inl (cT 0, 19, .inl lf)), (y, .inr (11, [.ref y0, .int y1, .int y2, .int 0, .ref y4, .ref y5, .ref y6, .ref y7, .ref y8, .ref y9, .int y10, .int y11, .int y12, .int y13, .int y14, .long y15, .int y16, .int y17, .ref y18, .ref y19, .ref y20, .ref y21, .ref y22, .ref y23, .ref y24, .ref y25, .ref y26, .ref y27, .ref y28, .ref y29, .ref y30, .ref y31, .ref y32, .ref y33, .ref y34, .ref y35, .ref y36, .ref y37, .ref y38, .ref y39, .ref y40, .ref y41, .ref y42, .ref y43, .ref y44, .ref y45, .ref y46, .int y47, .ref y48, .ref y49, .int y50, .int y51, .int y52, .int y53, .long y54, .int y55, .ref y56, .ref y57, .ref y58, .ref y59])), (y44, .inl (cT 0, 19, .inl (upd (upd (upd (upd (upd (upd (upd (upd (upd (upd (upd (upd (upd (upd (upd (upd (upd (upd (upd cf 0 0) 1 0) 2 0) 3 0) 4 0) 5 0) 6 0) 7 0) 8 0) 9 0) 10 0) 11 0) 12 0) 13 0) 14 0) 15 0) 16 0) 17 0) 18 0)))] := hD
  refine lv_aload_n hx hb dM_commonBits_4 rfl (lv_at hl 0 rfl) ?_
  refine va_get (D := D) (ci := 11) (v := .ref y29) (C := R_M) (T := T_M) (N := 60) hx hb hT in_M hown hK hP 2 rfl rfl 29 (by decide) (hT _ w1133) (fun _ h9 => h9) rfl dM_commonBits_5 ?_
  refine lv_lconst (v := 1) hx hb dM_commonBits_8 (by decide) ?_
  refine rw_v (wc := [(y29, .inl (cT 0, 302, .inl af))]) (wr := [(y40, .inl (cT 0, 19, .inl lf)), (y, .inr (11, [.ref y0, .int y1, .int y2, .int 0, .ref y4, .ref y5, .ref y6, .ref y7, .ref y8, .ref y9, .int y10, .int y11, .int y12, .int y13, .int y14, .long y15, .int y16, .int y17, .ref y18, .ref y19, .ref y20, .ref y21, .ref y22, .ref y23, .ref y24, .ref y25, .ref y26, .ref y27, .ref y28, .ref y29, .ref y30, .ref y31, .ref y32, .ref y33, .ref y34, .ref y35, .ref y36, .ref y37, .ref y38, .ref y39, .ref y40, .ref y41, .ref y42, .ref y43, .ref y44, .ref y45, .ref y46, .int y47, .ref y48, .ref y49, .int y50, .int y51, .int y52, .int y53, .long y54, .int y55, .ref y56, .ref y57, .ref y58, .ref y59])), (y44, .inl (cT 0, 19, .inl (upd (upd (upd (upd (upd (upd (upd (upd (upd (upd (upd (upd (upd (upd (upd (upd (upd (upd (upd cf 0 0) 1 0) 2 0) 3 0) 4 0) 5 0) 6 0) 7 0) 8 0) 9 0) 10 0) 11 0) 12 0) 13 0) 14 0) 15 0) 16 0) 17 0) 18 0)))]) hP hD hS hA [0] [1, 2, 3] rfl rfl (by decide) (by decide) (va_runS (As := [.ref y29, .long 1]) (rest := []) ⟨hx, hb, hml, hown, hT⟩ (y_setInt1 l D cT y29 af _) ⟨callB_of 2 hT (tb_gd w1387) rfl rfl rfl (hT _ w13) (hT _ w1385) hM_setInt ⟨Nat.le_of_ble_eq_true rfl, Nat.le_of_ble_eq_true rfl⟩, (hT _ w1386)⟩ (RW.preS hZ hS (va_free (wc := [(y29, .inl (cT 0, 302, .inl af))]) hD hS hA [0] rfl) (hP.sub (ws' := [(y29, .inl (cT 0, 302, .inl af))]) [0] rfl) hK (hD.sub (ws' := [(y29, .inl (cT 0, 302, .inl af))]) [0] (by decide) rfl)) rfl rfl hl.1 rfl (lv_room (Nat.le_of_ble_eq_true rfl)) dM_commonBits_9 ⟨Nat.le_of_ble_eq_true rfl, Nat.le_of_ble_eq_true rfl⟩) (fun u2 H locs hpu2 hP hD hS => ?_)
  have hP : va_P D vwCl [(y40, .inl (cT 0, 19, .inl lf)), (y, .inr (11, [.ref y0, .int y1, .int y2, .int 0, .ref y4, .ref y5, .ref y6, .ref y7, .ref y8, .ref y9, .int y10, .int y11, .int y12, .int y13, .int y14, .long y15, .int y16, .int y17, .ref y18, .ref y19, .ref y20, .ref y21, .ref y22, .ref y23, .ref y24, .ref y25, .ref y26, .ref y27, .ref y28, .ref y29, .ref y30, .ref y31, .ref y32, .ref y33, .ref y34, .ref y35, .ref y36, .ref y37, .ref y38, .ref y39, .ref y40, .ref y41, .ref y42, .ref y43, .ref y44, .ref y45, .ref y46, .int y47, .ref y48, .ref y49, .int y50, .int y51, .int y52, .int y53, .long y54, .int y55, .ref y56, .ref y57, .ref y58, .ref y59])), (y44, .inl (cT 0, 19, .inl (upd (upd (upd (upd (upd (upd (upd (upd (upd (upd (upd (upd (upd (upd (upd (upd (upd (upd (upd cf 0 0) 1 0) 2 0) 3 0) 4 0) 5 0) 6 0) 7 0) 8 0) 9 0) 10 0) 11 0) 12 0) 13 0) 14 0) 15 0) 16 0) 17 0) 18 0))), (y29, .inl (cT 0, 302, .inl (upd (upd (upd af 0 1) 300 1) 301 1)))] H := hP
  have hD : va_D A [(y40, .inl (cT 0, 19, .inl lf)), (y, .inr (11, [.ref y0, .int y1, .int y2, .int 0, .ref y4, .ref y5, .ref y6, .ref y7, .ref y8, .ref y9, .int y10, .int y11, .int y12, .int y13, .int y14, .long y15, .int y16, .int y17, .ref y18, .ref y19, .ref y20, .ref y21, .ref y22, .ref y23, .ref y24, .ref y25, .ref y26, .ref y27, .ref y28, .ref y29, .ref y30, .ref y31, .ref y32, .ref y33, .ref y34, .ref y35, .ref y36, .ref y37, .ref y38, .ref y39, .ref y40, .ref y41, .ref y42, .ref y43, .ref y44, .ref y45, .ref y46, .int y47, .ref y48, .ref y49, .int y50, .int y51, .int y52, .int y53, .long y54, .int y55, .ref y56, .ref y57, .ref y58, .ref y59])), (y44, .inl (cT 0, 19, .inl (upd (upd (upd (upd (upd (upd (upd (upd (upd (upd (upd (upd (upd (upd (upd (upd (upd (upd (upd cf 0 0) 1 0) 2 0) 3 0) 4 0) 5 0) 6 0) 7 0) 8 0) 9 0) 10 0) 11 0) 12 0) 13 0) 14 0) 15 0) 16 0) 17 0) 18 0))), (y29, .inl (cT 0, 302, .inl (upd (upd (upd af 0 1) 300 1) 301 1)))] := hD
  refine lv_aload_n hx hb dM_commonBits_12 rfl (lv_at hl 0 rfl) ?_
  refine va_get (D := D) (ci := 11) (v := .ref y40) (C := R_M) (T := T_M) (N := 60) hx hb hT in_M hown hK hP 1 rfl rfl 40 (by decide) (hT _ w1144) (fun _ h9 => h9) rfl dM_commonBits_13 ?_
  refine rw_v (wc := [(y40, .inl (cT 0, 19, .inl lf))]) (wr := [(y, .inr (11, [.ref y0, .int y1, .int y2, .int 0, .ref y4, .ref y5, .ref y6, .ref y7, .ref y8, .ref y9, .int y10, .int y11, .int y12, .int y13, .int y14, .long y15, .int y16, .int y17, .ref y18, .ref y19, .ref y20, .ref y21, .ref y22, .ref y23, .ref y24, .ref y25, .ref y26, .ref y27, .ref y28, .ref y29, .ref y30, .ref y31, .ref y32, .ref y33, .ref y34, .ref y35, .ref y36, .ref y37, .ref y38, .ref y39, .ref y40, .ref y41, .ref y42, .ref y43, .ref y44, .ref y45, .ref y46, .int y47, .ref y48, .ref y49, .int y50, .int y51, .int y52, .int y53, .long y54, .int y55, .ref y56, .ref y57, .ref y58, .ref y59])), (y44, .inl (cT 0, 19, .inl (upd (upd (upd (upd (upd (upd (upd (upd (upd (upd (upd (upd (upd (upd (upd (upd (upd (upd (upd cf 0 0) 1 0) 2 0) 3 0) 4 0) 5 0) 6 0) 7 0) 8 0) 9 0) 10 0) 11 0) 12 0) 13 0) 14 0) 15 0) 16 0) 17 0) 18 0))), (y29, .inl (cT 0, 302, .inl (upd (upd (upd af 0 1) 300 1) 301 1)))]) hP hD hS hA [0] [1, 2, 3] rfl rfl (by decide) (by decide) (va_runS (As := [.ref y40]) (rest := []) ⟨hx, hb, hml, hown, hT⟩ (y_zero l D cT y40 lf _) ⟨callB_of 1 hT (tb_gd w1380) rfl rfl rfl (hT _ w13) (hT _ w1378) hM_zero ⟨Nat.le_of_ble_eq_true rfl, Nat.le_of_ble_eq_true rfl⟩, (hT _ w1379)⟩ (RW.preS hZ hS (va_free (wc := [(y40, .inl (cT 0, 19, .inl lf))]) hD hS hA [0] rfl) (hP.sub (ws' := [(y40, .inl (cT 0, 19, .inl lf))]) [0] rfl) hK (hD.sub (ws' := [(y40, .inl (cT 0, 19, .inl lf))]) [0] (by decide) rfl)) rfl rfl hl.1 rfl (lv_room (Nat.le_of_ble_eq_true rfl)) dM_commonBits_16 ⟨Nat.le_of_ble_eq_true rfl, Nat.le_of_ble_eq_true rfl⟩) (fun u3 H locs hpu3 hP hD hS => ?_)
  have hP : va_P D vwCl [(y, .inr (11, [.ref y0, .int y1, .int y2, .int 0, .ref y4, .ref y5, .ref y6, .ref y7, .ref y8, .ref y9, .int y10, .int y11, .int y12, .int y13, .int y14, .long y15, .int y16, .int y17, .ref y18, .ref y19, .ref y20, .ref y21, .ref y22, .ref y23, .ref y24, .ref y25, .ref y26, .ref y27, .ref y28, .ref y29, .ref y30, .ref y31, .ref y32, .ref y33, .ref y34, .ref y35, .ref y36, .ref y37, .ref y38, .ref y39, .ref y40, .ref y41, .ref y42, .ref y43, .ref y44, .ref y45, .ref y46, .int y47, .ref y48, .ref y49, .int y50, .int y51, .int y52, .int y53, .long y54, .int y55, .ref y56, .ref y57, .ref y58, .ref y59])), (y44, .inl (cT 0, 19, .inl (upd (upd (upd (upd (upd (upd (upd (upd (upd (upd (upd (upd (upd (upd (upd (upd (upd (upd (upd cf 0 0) 1 0) 2 0) 3 0) 4 0) 5 0) 6 0) 7 0) 8 0) 9 0) 10 0) 11 0) 12 0) 13 0) 14 0) 15 0) 16 0) 17 0) 18 0))), (y29, .inl (cT 0, 302, .inl (upd (upd (upd af 0 1) 300 1) 301 1))), (y40, .inl (cT 0, 19, .inl (upd (upd (upd (upd (upd (upd (upd (upd (upd (upd (upd (upd (upd (upd (upd (upd (upd (upd (upd lf 0 0) 1 0) 2 0) 3 0) 4 0) 5 0) 6 0) 7 0) 8 0) 9 0) 10 0) 11 0) 12 0) 13 0) 14 0) 15 0) 16 0) 17 0) 18 0)))] H := hP
  have hD : va_D A [(y, .inr (11, [.ref y0, .int y1, .int y2, .int 0, .ref y4, .ref y5, .ref y6, .ref y7, .ref y8, .ref y9, .int y10, .int y11, .int y12, .int y13, .int y14, .long y15, .int y16, .int y17, .ref y18, .ref y19, .ref y20, .ref y21, .ref y22, .ref y23, .ref y24, .ref y25, .ref y26, .ref y27, .ref y28, .ref y29, .ref y30, .ref y31, .ref y32, .ref y33, .ref y34, .ref y35, .ref y36, .ref y37, .ref y38, .ref y39, .ref y40, .ref y41, .ref y42, .ref y43, .ref y44, .ref y45, .ref y46, .int y47, .ref y48, .ref y49, .int y50, .int y51, .int y52, .int y53, .long y54, .int y55, .ref y56, .ref y57, .ref y58, .ref y59])), (y44, .inl (cT 0, 19, .inl (upd (upd (upd (upd (upd (upd (upd (upd (upd (upd (upd (upd (upd (upd (upd (upd (upd (upd (upd cf 0 0) 1 0) 2 0) 3 0) 4 0) 5 0) 6 0) 7 0) 8 0) 9 0) 10 0) 11 0) 12 0) 13 0) 14 0) 15 0) 16 0) 17 0) 18 0))), (y29, .inl (cT 0, 302, .inl (upd (upd (upd af 0 1) 300 1) 301 1))), (y40, .inl (cT 0, 19, .inl (upd (upd (upd (upd (upd (upd (upd (upd (upd (upd (upd (upd (upd (upd (upd (upd (upd (upd (upd lf 0 0) 1 0) 2 0) 3 0) 4 0) 5 0) 6 0) 7 0) 8 0) 9 0) 10 0) 11 0) 12 0) 13 0) 14 0) 15 0) 16 0) 17 0) 18 0)))] := hD
  refine lv_aload_n hx hb dM_commonBits_19 rfl (lv_at hl 0 rfl) ?_
  refine lv_aload_n hx hb dM_commonBits_20 rfl (lv_at hl 0 rfl) ?_
  refine va_get (D := D) (ci := 11) (v := .ref y29) (C := R_M) (T := T_M) (N := 60) hx hb hT in_M hown hK hP 0 rfl rfl 29 (by decide) (hT _ w1133) (fun _ h9 => h9) rfl dM_commonBits_21 ?_
  refine lv_aload_n hx hb dM_commonBits_24 rfl (lv_at hl 0 rfl) ?_
  refine va_get (D := D) (ci := 11) (v := .ref y40) (C := R_M) (T := T_M) (N := 60) hx hb hT in_M hown hK hP 0 rfl rfl 40 (by decide) (hT _ w1144) (fun _ h9 => h9) rfl dM_commonBits_25 ?_
  refine lv_aload_n hx hb dM_commonBits_28 rfl (lv_at hl 0 rfl) ?_
  refine va_get (D := D) (ci := 11) (v := .ref y44) (C := R_M) (T := T_M) (N := 60) hx hb hT in_M hown hK hP 0 rfl rfl 44 (by decide) (hT _ w1148) (fun _ h9 => h9) rfl dM_commonBits_29 ?_
  refine ro_v (va_Run.run (va_runV (As := [.ref y29, .ref y40, .ref y44]) (rest := []) ⟨hx, hb, hml, hown, hT⟩ (y_raise0 l D cT y y0 y1 y2 0 y4 y5 y6 y7 y8 y9 y10 y11 y12 y13 y14 y15 y16 y17 y18 y19 y20 y21 y22 y23 y24 y25 y26 y27 y28 y29 y30 y31 y32 y33 y34 y35 y36 y37 y38 y39 y40 y41 y42 y43 y44 y45 y46 y47 y48 y49 y50 y51 y52 y53 y54 y55 y56 y57 y58 y59 y29 y40 (upd (upd (upd (upd (upd (upd (upd (upd (upd (upd (upd (upd (upd (upd (upd (upd (upd (upd (upd lf 0 0) 1 0) 2 0) 3 0) 4 0) 5 0) 6 0) 7 0) 8 0) 9 0) 10 0) 11 0) 12 0) 13 0) 14 0) 15 0) 16 0) 17 0) 18 0) y44 (upd (upd (upd (upd (upd (upd (upd (upd (upd (upd (upd (upd (upd (upd (upd (upd (upd (upd (upd cf 0 0) 1 0) 2 0) 3 0) 4 0) 5 0) 6 0) 7 0) 8 0) 9 0) 10 0) 11 0) 12 0) 13 0) 14 0) 15 0) 16 0) 17 0) 18 0) (fun k hk => match k, hk with | 0, _ => rfl | 1, _ => rfl | 2, _ => rfl | 3, _ => rfl | 4, _ => rfl | 5, _ => rfl | 6, _ => rfl | 7, _ => rfl | 8, _ => rfl | 9, _ => rfl | 10, _ => rfl | 11, _ => rfl | 12, _ => rfl | 13, _ => rfl | 14, _ => rfl | 15, _ => rfl | 16, _ => rfl | 17, _ => rfl | 18, _ => rfl | _ + 19, hk => absurd hk (by omega)) (fun k hk => match k, hk with | 0, _ => rfl | 1, _ => rfl | 2, _ => rfl | 3, _ => rfl | 4, _ => rfl | 5, _ => rfl | 6, _ => rfl | 7, _ => rfl | 8, _ => rfl | 9, _ => rfl | 10, _ => rfl | 11, _ => rfl | 12, _ => rfl | 13, _ => rfl | 14, _ => rfl | 15, _ => rfl | 16, _ => rfl | 17, _ => rfl | 18, _ => rfl | _ + 19, hk => absurd hk (by omega))) ⟨callB_of 3 hT (tb_gd w1414) rfl rfl rfl (hT _ w13) (hT _ w1411) hM_raise ⟨Nat.le_of_ble_eq_true rfl, Nat.le_of_ble_eq_true rfl⟩, (hT _ w1413), (hT _ wp41)⟩ (RO.preV (ci := 11) (q0 := 0) hZ hS (hP.sub (ws' := [(y, .inr (11, [.ref y0, .int y1, .int y2, .int 0, .ref y4, .ref y5, .ref y6, .ref y7, .ref y8, .ref y9, .int y10, .int y11, .int y12, .int y13, .int y14, .long y15, .int y16, .int y17, .ref y18, .ref y19, .ref y20, .ref y21, .ref y22, .ref y23, .ref y24, .ref y25, .ref y26, .ref y27, .ref y28, .ref y29, .ref y30, .ref y31, .ref y32, .ref y33, .ref y34, .ref y35, .ref y36, .ref y37, .ref y38, .ref y39, .ref y40, .ref y41, .ref y42, .ref y43, .ref y44, .ref y45, .ref y46, .int y47, .ref y48, .ref y49, .int y50, .int y51, .int y52, .int y53, .long y54, .int y55, .ref y56, .ref y57, .ref y58, .ref y59])), (y40, .inl (cT 0, 19, .inl (upd (upd (upd (upd (upd (upd (upd (upd (upd (upd (upd (upd (upd (upd (upd (upd (upd (upd (upd lf 0 0) 1 0) 2 0) 3 0) 4 0) 5 0) 6 0) 7 0) 8 0) 9 0) 10 0) 11 0) 12 0) 13 0) 14 0) 15 0) 16 0) 17 0) 18 0))), (y44, .inl (cT 0, 19, .inl (upd (upd (upd (upd (upd (upd (upd (upd (upd (upd (upd (upd (upd (upd (upd (upd (upd (upd (upd cf 0 0) 1 0) 2 0) 3 0) 4 0) 5 0) 6 0) 7 0) 8 0) 9 0) 10 0) 11 0) 12 0) 13 0) 14 0) 15 0) 16 0) 17 0) 18 0)))]) [0, 3, 1] rfl) hK rfl rfl) rfl rfl hl.1 rfl (lv_room (Nat.le_of_ble_eq_true rfl)) dM_commonBits_32 ⟨Nat.le_of_ble_eq_true rfl, Nat.le_of_ble_eq_true rfl⟩)) ?_
  refine lv_aload_n hx hb dM_commonBits_35 rfl (lv_at hl 0 rfl) ?_
  refine va_get (D := D) (ci := 11) (v := .ref y29) (C := R_M) (T := T_M) (N := 60) hx hb hT in_M hown hK hP 0 rfl rfl 29 (by decide) (hT _ w1133) (fun _ h9 => h9) rfl dM_commonBits_36 ?_
  refine lv_aload_n hx hb dM_commonBits_39 rfl (lv_at hl 0 rfl) ?_
  refine va_get (D := D) (ci := 11) (v := .ref y29) (C := R_M) (T := T_M) (N := 60) hx hb hT in_M hown hK hP 0 rfl rfl 29 (by decide) (hT _ w1133) (fun _ h9 => h9) rfl dM_commonBits_40 ?_
  refine lv_sipush (v := 300) hx hb dM_commonBits_43 (by decide) ?_
  refine va_iald hx hb hK hP 2 0 rfl rfl (by unfold vp_in; decide) dM_commonBits_46 ?_
  refine lv_topi (fun y9 e9 => ?_)
  cases (show y9 = 1 from e9.trans rfl)
  refine lv_iconst (v := 1) hx hb dM_commonBits_47 (by decide) ?_
  refine lv_isub hx hb dM_commonBits_48 ?_
  refine lv_topi (fun y9 e9 => ?_)
  cases (show y9 = 0 from e9.trans (by decide))
  refine va_iald hx hb hK hP 2 0 rfl rfl (by unfold vp_in; decide) dM_commonBits_49 ?_
  refine lv_topi (fun y9 e9 => ?_)
  cases (show y9 = 1 from e9.trans rfl)
  refine lv_istore_n hx hb dM_commonBits_50 rfl hl (by decide) rfl (fun ls hl => ?_)
  have hl : lv_has ls 3 [(1, .int 1), (0, .ref y)] := hl
  refine lv_bipush (v := 28) hx hb dM_commonBits_51 (by decide) ?_
  refine lv_aload_n hx hb dM_commonBits_53 rfl (lv_at hl 1 rfl) ?_
  refine va_get (D := D) (ci := 11) (v := .ref y29) (C := R_M) (T := T_M) (N := 60) hx hb hT in_M hown hK hP 0 rfl rfl 29 (by decide) (hT _ w1133) (fun _ h9 => h9) rfl dM_commonBits_54 ?_
  refine lv_sipush (v := 300) hx hb dM_commonBits_57 (by decide) ?_
  refine va_iald hx hb hK hP 2 0 rfl rfl (by unfold vp_in; decide) dM_commonBits_60 ?_
  refine lv_topi (fun y9 e9 => ?_)
  cases (show y9 = 1 from e9.trans rfl)
  refine lv_iconst (v := 1) hx hb dM_commonBits_61 (by decide) ?_
  refine lv_isub hx hb dM_commonBits_62 ?_
  refine lv_topi (fun y9 e9 => ?_)
  cases (show y9 = 0 from e9.trans (by decide))
  refine lv_imul hx hb dM_commonBits_63 ?_
  refine lv_topi (fun y9 e9 => ?_)
  cases (show y9 = 0 from e9.trans (by decide))
  refine lv_istore_n hx hb dM_commonBits_64 rfl hl (by decide) rfl (fun ls hl => ?_)
  have hl : lv_has ls 3 [(2, .int 0), (1, .int 1), (0, .ref y)] := hl
  refine lv_iload_n hx hb dM_commonBits_65 rfl (lv_at hl 1 rfl) ?_
  refine lv_if_le (tgt := 79) hx hb dM_commonBits_66 rfl (fun hj4 => absurd hj4 (by decide)) (fun _ => ?_)
  refine lv_iload_n hx hb dM_commonBits_69 rfl (lv_at hl 1 rfl) ?_
  refine lv_iconst (v := 1) hx hb dM_commonBits_70 (by decide) ?_
  refine lv_ishr hx hb dM_commonBits_71 ?_
  refine lv_topi (fun y9 e9 => ?_)
  cases (show y9 = 0 from e9.trans (by decide))
  refine lv_istore_n hx hb dM_commonBits_72 rfl hl (by decide) rfl (fun ls hl => ?_)
  have hl : lv_has ls 3 [(1, .int 0), (2, .int 0), (0, .ref y)] := hl
  refine lv_iinc (k := 1) (v := 1) hx hb dM_commonBits_73 hl rfl (by decide) (by decide) rfl (fun ls hl => ?_)
  have hl : lv_has ls 3 [(2, .int 1), (1, .int 0), (0, .ref y)] := hl
  refine lv_goto (tgt := 65) hx hb dM_commonBits_76 rfl ?_
  refine lv_iload_n hx hb dM_commonBits_65 rfl (lv_at hl 1 rfl) ?_
  refine lv_if_le (tgt := 79) hx hb dM_commonBits_66 rfl (fun _ => ?_) (fun hj5 => absurd (by decide) hj5)
  refine lv_iload_n hx hb dM_commonBits_79 rfl (lv_at hl 0 rfl) ?_
  have hP9 := hP.sub (ws' := [(y, .inr (11, [.ref y0, .int y1, .int y2, .int 0, .ref y4, .ref y5, .ref y6, .ref y7, .ref y8, .ref y9, .int y10, .int y11, .int y12, .int y13, .int y14, .long y15, .int y16, .int y17, .ref y18, .ref y19, .ref y20, .ref y21, .ref y22, .ref y23, .ref y24, .ref y25, .ref y26, .ref y27, .ref y28, .ref y29, .ref y30, .ref y31, .ref y32, .ref y33, .ref y34, .ref y35, .ref y36, .ref y37, .ref y38, .ref y39, .ref y40, .ref y41, .ref y42, .ref y43, .ref y44, .ref y45, .ref y46, .int y47, .ref y48, .ref y49, .int y50, .int y51, .int y52, .int y53, .long y54, .int y55, .ref y56, .ref y57, .ref y58, .ref y59])), (y44, .inl (cT 0, 19, .inl (upd (upd (upd (upd (upd (upd (upd (upd (upd (upd (upd (upd (upd (upd (upd (upd (upd (upd (upd cf 0 0) 1 0) 2 0) 3 0) 4 0) 5 0) 6 0) 7 0) 8 0) 9 0) 10 0) 11 0) 12 0) 13 0) 14 0) 15 0) 16 0) 17 0) 18 0))), (y29, .inl (cT 0, 302, .inl (upd (upd (upd af 0 1) 300 1) 301 1))), (y40, .inl (cT 0, 19, .inl (upd (upd (upd (upd (upd (upd (upd (upd (upd (upd (upd (upd (upd (upd (upd (upd (upd (upd (upd lf 0 0) 1 0) 2 0) 3 0) 4 0) 5 0) 6 0) 7 0) 8 0) 9 0) 10 0) 11 0) 12 0) 13 0) 14 0) 15 0) 16 0) 17 0) 18 0)))]) [0, 1, 2, 3] rfl
  have hD9 := hD.sub (ws' := [(y, .inr (11, [.ref y0, .int y1, .int y2, .int 0, .ref y4, .ref y5, .ref y6, .ref y7, .ref y8, .ref y9, .int y10, .int y11, .int y12, .int y13, .int y14, .long y15, .int y16, .int y17, .ref y18, .ref y19, .ref y20, .ref y21, .ref y22, .ref y23, .ref y24, .ref y25, .ref y26, .ref y27, .ref y28, .ref y29, .ref y30, .ref y31, .ref y32, .ref y33, .ref y34, .ref y35, .ref y36, .ref y37, .ref y38, .ref y39, .ref y40, .ref y41, .ref y42, .ref y43, .ref y44, .ref y45, .ref y46, .int y47, .ref y48, .ref y49, .int y50, .int y51, .int y52, .int y53, .long y54, .int y55, .ref y56, .ref y57, .ref y58, .ref y59])), (y44, .inl (cT 0, 19, .inl (upd (upd (upd (upd (upd (upd (upd (upd (upd (upd (upd (upd (upd (upd (upd (upd (upd (upd (upd cf 0 0) 1 0) 2 0) 3 0) 4 0) 5 0) 6 0) 7 0) 8 0) 9 0) 10 0) 11 0) 12 0) 13 0) 14 0) 15 0) 16 0) 17 0) 18 0))), (y29, .inl (cT 0, 302, .inl (upd (upd (upd af 0 1) 300 1) 301 1))), (y40, .inl (cT 0, 19, .inl (upd (upd (upd (upd (upd (upd (upd (upd (upd (upd (upd (upd (upd (upd (upd (upd (upd (upd (upd lf 0 0) 1 0) 2 0) 3 0) 4 0) 5 0) 6 0) 7 0) 8 0) 9 0) 10 0) 11 0) 12 0) 13 0) 14 0) 15 0) 16 0) 17 0) 18 0)))]) [0, 1, 2, 3] (by decide) rfl
  refine W.widen (k := 0) (n := 0) (Nat.le_of_ble_eq_true rfl) (Nat.le_of_ble_eq_true rfl) ?_
  exact W.iret (v := 1) hx hb hr (fun t ht hW => ⟨⟨1, (fun _ => 0), rfl, rfl, by rw [ht]; exact hP9, hD9⟩, hS.F ht⟩) hS.2.2 dM_commonBits_80
set_option maxHeartbeats 4000000 in
set_option maxRecDepth 100000 in
theorem y_count3 (l : Launch) (D : va_G) (cT : Nat → ClassId) (y : Nat) (y0 : Nat) (y1 : Int32) (y2 : Int32) (y4 : Nat) (y5 : Nat) (y6 : Nat) (y7 : Nat) (y8 : Nat) (y9 : Nat) (y10 : Int32) (y11 : Int32) (y12 : Int32) (y13 : Int32) (y14 : Int32) (y15 : Int64) (y16 : Int32) (y17 : Int32) (y18 : Nat) (y19 : Nat) (y20 : Nat) (y21 : Nat) (y22 : Nat) (y23 : Nat) (y24 : Nat) (y25 : Nat) (y26 : Nat) (y27 : Nat) (y28 : Nat) (y29 : Nat) (y30 : Nat) (y31 : Nat) (y32 : Nat) (y33 : Nat) (y34 : Nat) (y35 : Nat) (y36 : Nat) (y37 : Nat) (y38 : Nat) (y39 : Nat) (y40 : Nat) (y41 : Nat) (y42 : Nat) (y43 : Nat) (y44 : Nat) (y45 : Nat) (y46 : Nat) (y47 : Int32) (y48 : Nat) (y49 : Nat) (y50 : Int32) (y51 : Int32) (y52 : Int32) (y53 : Int32) (y54 : Int64) (y55 : Int32) (y56 : Nat) (y57 : Nat) (y58 : Nat) (y59 : Nat) (af : Nat → Int32) (lf : Nat → Int32) (cf : Nat → Int32) (sz : Nat) : Met l yM_countb WM_countb ({ frames := 3, cells := 0, slots := 0, locals := 65 } : Room) (RW D vwCl [.ref y, .int 3] [(y, .inr (11, [.ref y0, .int y1, .int y2, .int 0, .ref y4, .ref y5, .ref y6, .ref y7, .ref y8, .ref y9, .int y10, .int y11, .int y12, .int y13, .int y14, .long y15, .int y16, .int y17, .ref y18, .ref y19, .ref y20, .ref y21, .ref y22, .ref y23, .ref y24, .ref y25, .ref y26, .ref y27, .ref y28, .ref y29, .ref y30, .ref y31, .ref y32, .ref y33, .ref y34, .ref y35, .ref y36, .ref y37, .ref y38, .ref y39, .ref y40, .ref y41, .ref y42, .ref y43, .ref y44, .ref y45, .ref y46, .int y47, .ref y48, .ref y49, .int y50, .int y51, .int y52, .int y53, .long y54, .int y55, .ref y56, .ref y57, .ref y58, .ref y59])), (y29, .inl (cT 0, 302, .inl af)), (y40, .inl (cT 0, 19, .inl lf)), (y44, .inl (cT 0, 19, .inl cf))] (TY cT) sz) (va_Qi (fun (r : Int32) (_ : Nat → Nat) => r = 1) (BW D vwCl (va_A [(y, .inr (11, [.ref y0, .int y1, .int y2, .int 0, .ref y4, .ref y5, .ref y6, .ref y7, .ref y8, .ref y9, .int y10, .int y11, .int y12, .int y13, .int y14, .long y15, .int y16, .int y17, .ref y18, .ref y19, .ref y20, .ref y21, .ref y22, .ref y23, .ref y24, .ref y25, .ref y26, .ref y27, .ref y28, .ref y29, .ref y30, .ref y31, .ref y32, .ref y33, .ref y34, .ref y35, .ref y36, .ref y37, .ref y38, .ref y39, .ref y40, .ref y41, .ref y42, .ref y43, .ref y44, .ref y45, .ref y46, .int y47, .ref y48, .ref y49, .int y50, .int y51, .int y52, .int y53, .long y54, .int y55, .ref y56, .ref y57, .ref y58, .ref y59])), (y29, .inl (cT 0, 302, .inl af)), (y40, .inl (cT 0, 19, .inl lf)), (y44, .inl (cT 0, 19, .inl cf))] sz) (fun u => [(y, .inr (11, [.ref y0, .int 0, .int y2, .int 0, .ref y4, .ref y5, .ref y6, .ref y7, .ref y8, .ref y9, .int y10, .int y11, .int y12, .int y13, .int y14, .long y15, .int y16, .int y17, .ref y18, .ref y19, .ref y20, .ref y21, .ref y22, .ref y23, .ref y24, .ref y25, .ref y26, .ref y27, .ref y28, .ref y29, .ref y30, .ref y31, .ref y32, .ref y33, .ref y34, .ref y35, .ref y36, .ref y37, .ref y38, .ref y39, .ref y40, .ref y41, .ref y42, .ref y43, .ref y44, .ref y45, .ref y46, .int y47, .ref y48, .ref y49, .int y50, .int y51, .int y52, .int y53, .long y54, .int y55, .ref y56, .ref y57, .ref y58, .ref y59])), (y44, .inl (cT 0, 19, .inl (upd (upd (upd (upd (upd (upd (upd (upd (upd (upd (upd (upd (upd (upd (upd (upd (upd (upd (upd cf 0 0) 1 0) 2 0) 3 0) 4 0) 5 0) 6 0) 7 0) 8 0) 9 0) 10 0) 11 0) 12 0) 13 0) 14 0) 15 0) 16 0) 17 0) 18 0))), (y29, .inl (cT 0, 302, .inl (upd (upd (upd af 0 1) 300 1) 301 1))), (y40, .inl (cT 0, 19, .inl (upd (upd (upd (upd (upd (upd (upd (upd (upd (upd (upd (upd (upd (upd (upd (upd (upd (upd (upd lf 0 0) 1 0) 2 0) 3 0) 4 0) 5 0) 6 0) 7 0) 8 0) 9 0) 10 0) 11 0) 12 0) 13 0) 14 0) 15 0) 16 0) 17 0) 18 0)))])) (va_A [(y, .inr (11, [.ref y0, .int y1, .int y2, .int 0, .ref y4, .ref y5, .ref y6, .ref y7, .ref y8, .ref y9, .int y10, .int y11, .int y12, .int y13, .int y14, .long y15, .int y16, .int y17, .ref y18, .ref y19, .ref y20, .ref y21, .ref y22, .ref y23, .ref y24, .ref y25, .ref y26, .ref y27, .ref y28, .ref y29, .ref y30, .ref y31, .ref y32, .ref y33, .ref y34, .ref y35, .ref y36, .ref y37, .ref y38, .ref y39, .ref y40, .ref y41, .ref y42, .ref y43, .ref y44, .ref y45, .ref y46, .int y47, .ref y48, .ref y49, .int y50, .int y51, .int y52, .int y53, .long y54, .int y55, .ref y56, .ref y57, .ref y58, .ref y59])), (y29, .inl (cT 0, 302, .inl af)), (y40, .inl (cT 0, 19, .inl lf)), (y44, .inl (cT 0, 19, .inl cf))] sz)) 0 0 (va_A [(y, .inr (11, [.ref y0, .int y1, .int y2, .int 0, .ref y4, .ref y5, .ref y6, .ref y7, .ref y8, .ref y9, .int y10, .int y11, .int y12, .int y13, .int y14, .long y15, .int y16, .int y17, .ref y18, .ref y19, .ref y20, .ref y21, .ref y22, .ref y23, .ref y24, .ref y25, .ref y26, .ref y27, .ref y28, .ref y29, .ref y30, .ref y31, .ref y32, .ref y33, .ref y34, .ref y35, .ref y36, .ref y37, .ref y38, .ref y39, .ref y40, .ref y41, .ref y42, .ref y43, .ref y44, .ref y45, .ref y46, .int y47, .ref y48, .ref y49, .int y50, .int y51, .int y52, .int y53, .long y54, .int y55, .ref y56, .ref y57, .ref y58, .ref y59])), (y29, .inl (cT 0, 302, .inl af)), (y40, .inl (cT 0, 19, .inl lf)), (y44, .inl (cT 0, 19, .inl cf))] sz) := by
  refine Met.ofW (cc := cM_countb) (maxL := 2) (ret := (some .int)) (by decide) rfl ?_
  intro p e s m args below meth c s₁ B hml hv
  obtain ⟨rfl, hsz, hZ, hP, hK, hD0⟩ := hv
  have hx := B.exec
  have hb := B.bytes
  have hr := B.returns
  have hts := atoms_spec (ws := WM_countb) B.pre
  have hT : ∀ w ∈ TB, w.before _ s = true := fun w h => hts w (List.mem_cons_of_mem _ h)
  have hown : s.vm.findClass R_M = some m.cls := findClass_of_methodNamed B.named
  have hlocks := B.notSynchronized
  subst hsz
  have hD := hD0.self (sz := s.heap.size)
  generalize hAe : va_A [(y, .inr (11, [.ref y0, .int y1, .int y2, .int 0, .ref y4, .ref y5, .ref y6, .ref y7, .ref y8, .ref y9, .int y10, .int y11, .int y12, .int y13, .int y14, .long y15, .int y16, .int y17, .ref y18, .ref y19, .ref y20, .ref y21, .ref y22, .ref y23, .ref y24, .ref y25, .ref y26, .ref y27, .ref y28, .ref y29, .ref y30, .ref y31, .ref y32, .ref y33, .ref y34, .ref y35, .ref y36, .ref y37, .ref y38, .ref y39, .ref y40, .ref y41, .ref y42, .ref y43, .ref y44, .ref y45, .ref y46, .int y47, .ref y48, .ref y49, .int y50, .int y51, .int y52, .int y53, .long y54, .int y55, .ref y56, .ref y57, .ref y58, .ref y59])), (y29, .inl (cT 0, 302, .inl af)), (y40, .inl (cT 0, 19, .inl lf)), (y44, .inl (cT 0, 19, .inl cf))] s.heap.size = A at hD hZ ⊢
  have hA : ∀ q : Nat, s.heap.size ≤ q → A q := fun q h => by rw [← hAe]; exact Or.inr h
  have hS : va_S A s.heap s.heap [] := va_S.rf
  have hl := lv_entry ([.ref y, .int 3]) (n := 2) (Nat.le_of_ble_eq_true rfl)
  rw [lg_entry_eq]
  generalize (lg_sl ([.ref y, .int 3]) ++ List.replicate (2 - (lg_sl ([.ref y, .int 3])).length) Slot.unset).toArray = ls at hl ⊢
  have hl : lv_has ls 2 [(0, .ref y), (1, .int 3)] := hl
  refine lv_aload_n hx hb dM_countb_0 rfl (lv_at hl 0 rfl) ?_
  refine lv_iload_n hx hb dM_countb_1 rfl (lv_at hl 1 rfl) ?_
  refine lv_iconst (v := 0) hx hb dM_countb_2 (by decide) ?_
  refine lv_iconst (v := 4) hx hb dM_countb_3 (by decide) ?_
  refine ro_i (va_Run.run (va_runS (As := [.int 3, .int 0, .int 4]) (rest := [.ref y]) ⟨hx, hb, hml, hown, hT⟩ (y_in l D cT 3 0 4) ⟨callB_of 3 hT (tb_gd w1297) rfl rfl rfl (hT _ w13) (hT _ w1295) hM_in ⟨Nat.le_of_ble_eq_true rfl, Nat.le_of_ble_eq_true rfl⟩, (hT _ w1296)⟩ (RO.preS hZ hS ((show va_P D vwCl [] _ from fun _ _ h => nomatch h)) hK) rfl rfl hl.1 rfl (lv_room (Nat.le_of_ble_eq_true rfl)) dM_countb_4 ⟨Nat.le_of_ble_eq_true rfl, Nat.le_of_ble_eq_true rfl⟩)) ?_
  refine lv_if_eq (tgt := 14) hx hb dM_countb_7 rfl (fun hj1 => absurd hj1 (by rw [bi_t (by decide)]; decide)) (fun _ => ?_)
  refine lv_iconst (v := 0) hx hb dM_countb_10 (by decide) ?_
  refine lv_goto (tgt := 15) hx hb dM_countb_11 rfl ?_
  refine rw_i (wc := [(y, .inr (11, [.ref y0, .int y1, .int y2, .int 0, .ref y4, .ref y5, .ref y6, .ref y7, .ref y8, .ref y9, .int y10, .int y11, .int y12, .int y13, .int y14, .long y15, .int y16, .int y17, .ref y18, .ref y19, .ref y20, .ref y21, .ref y22, .ref y23, .ref y24, .ref y25, .ref y26, .ref y27, .ref y28, .ref y29, .ref y30, .ref y31, .ref y32, .ref y33, .ref y34, .ref y35, .ref y36, .ref y37, .ref y38, .ref y39, .ref y40, .ref y41, .ref y42, .ref y43, .ref y44, .ref y45, .ref y46, .int y47, .ref y48, .ref y49, .int y50, .int y51, .int y52, .int y53, .long y54, .int y55, .ref y56, .ref y57, .ref y58, .ref y59]))]) (wr := [(y29, .inl (cT 0, 302, .inl af)), (y40, .inl (cT 0, 19, .inl lf)), (y44, .inl (cT 0, 19, .inl cf))]) hP hD hS hA [0] [1, 2, 3] rfl rfl (by decide) (by decide) (va_runV (As := [.int 0]) (rest := []) ⟨hx, hb, hml, hown, hT⟩ (y_refused0 l D cT y y0 y1 y2 0 y4 y5 y6 y7 y8 y9 y10 y11 y12 y13 y14 y15 y16 y17 y18 y19 y20 y21 y22 y23 y24 y25 y26 y27 y28 y29 y30 y31 y32 y33 y34 y35 y36 y37 y38 y39 y40 y41 y42 y43 y44 y45 y46 y47 y48 y49 y50 y51 y52 y53 y54 y55 y56 y57 y58 y59 _) ⟨callB_of 1 hT (tb_gd w1301) rfl rfl rfl (hT _ w13) (hT _ w1298) hM_refused ⟨Nat.le_of_ble_eq_true rfl, Nat.le_of_ble_eq_true rfl⟩, (hT _ w1300), (hT _ wp29)⟩ (RW.preV (ci := 11) (q0 := 0) hZ hS (va_free (wc := [(y, .inr (11, [.ref y0, .int y1, .int y2, .int 0, .ref y4, .ref y5, .ref y6, .ref y7, .ref y8, .ref y9, .int y10, .int y11, .int y12, .int y13, .int y14, .long y15, .int y16, .int y17, .ref y18, .ref y19, .ref y20, .ref y21, .ref y22, .ref y23, .ref y24, .ref y25, .ref y26, .ref y27, .ref y28, .ref y29, .ref y30, .ref y31, .ref y32, .ref y33, .ref y34, .ref y35, .ref y36, .ref y37, .ref y38, .ref y39, .ref y40, .ref y41, .ref y42, .ref y43, .ref y44, .ref y45, .ref y46, .int y47, .ref y48, .ref y49, .int y50, .int y51, .int y52, .int y53, .long y54, .int y55, .ref y56, .ref y57, .ref y58, .ref y59]))]) hD hS hA [0] rfl) (hP.sub (ws' := [(y, .inr (11, [.ref y0, .int y1, .int y2, .int 0, .ref y4, .ref y5, .ref y6, .ref y7, .ref y8, .ref y9, .int y10, .int y11, .int y12, .int y13, .int y14, .long y15, .int y16, .int y17, .ref y18, .ref y19, .ref y20, .ref y21, .ref y22, .ref y23, .ref y24, .ref y25, .ref y26, .ref y27, .ref y28, .ref y29, .ref y30, .ref y31, .ref y32, .ref y33, .ref y34, .ref y35, .ref y36, .ref y37, .ref y38, .ref y39, .ref y40, .ref y41, .ref y42, .ref y43, .ref y44, .ref y45, .ref y46, .int y47, .ref y48, .ref y49, .int y50, .int y51, .int y52, .int y53, .long y54, .int y55, .ref y56, .ref y57, .ref y58, .ref y59]))]) [0] rfl) hK (hD.sub (ws' := [(y, .inr (11, [.ref y0, .int y1, .int y2, .int 0, .ref y4, .ref y5, .ref y6, .ref y7, .ref y8, .ref y9, .int y10, .int y11, .int y12, .int y13, .int y14, .long y15, .int y16, .int y17, .ref y18, .ref y19, .ref y20, .ref y21, .ref y22, .ref y23, .ref y24, .ref y25, .ref y26, .ref y27, .ref y28, .ref y29, .ref y30, .ref y31, .ref y32, .ref y33, .ref y34, .ref y35, .ref y36, .ref y37, .ref y38, .ref y39, .ref y40, .ref y41, .ref y42, .ref y43, .ref y44, .ref y45, .ref y46, .int y47, .ref y48, .ref y49, .int y50, .int y51, .int y52, .int y53, .long y54, .int y55, .ref y56, .ref y57, .ref y58, .ref y59]))]) [0] (by decide) rfl) rfl rfl) rfl rfl hl.1 rfl (lv_room (Nat.le_of_ble_eq_true rfl)) dM_countb_15 ⟨Nat.le_of_ble_eq_true rfl, Nat.le_of_ble_eq_true rfl⟩) (fun ru2 u2 H locs hpu2 hP hD hS => ?_)
  have hP : va_P D vwCl [(y29, .inl (cT 0, 302, .inl af)), (y40, .inl (cT 0, 19, .inl lf)), (y44, .inl (cT 0, 19, .inl cf)), (y, .inr (11, [.ref y0, .int 0, .int y2, .int 0, .ref y4, .ref y5, .ref y6, .ref y7, .ref y8, .ref y9, .int y10, .int y11, .int y12, .int y13, .int y14, .long y15, .int y16, .int y17, .ref y18, .ref y19, .ref y20, .ref y21, .ref y22, .ref y23, .ref y24, .ref y25, .ref y26, .ref y27, .ref y28, .ref y29, .ref y30, .ref y31, .ref y32, .ref y33, .ref y34, .ref y35, .ref y36, .ref y37, .ref y38, .ref y39, .ref y40, .ref y41, .ref y42, .ref y43, .ref y44, .ref y45, .ref y46, .int y47, .ref y48, .ref y49, .int y50, .int y51, .int y52, .int y53, .long y54, .int y55, .ref y56, .ref y57, .ref y58, .ref y59]))] H := hP
  have hD : va_D A [(y29, .inl (cT 0, 302, .inl af)), (y40, .inl (cT 0, 19, .inl lf)), (y44, .inl (cT 0, 19, .inl cf)), (y, .inr (11, [.ref y0, .int 0, .int y2, .int 0, .ref y4, .ref y5, .ref y6, .ref y7, .ref y8, .ref y9, .int y10, .int y11, .int y12, .int y13, .int y14, .long y15, .int y16, .int y17, .ref y18, .ref y19, .ref y20, .ref y21, .ref y22, .ref y23, .ref y24, .ref y25, .ref y26, .ref y27, .ref y28, .ref y29, .ref y30, .ref y31, .ref y32, .ref y33, .ref y34, .ref y35, .ref y36, .ref y37, .ref y38, .ref y39, .ref y40, .ref y41, .ref y42, .ref y43, .ref y44, .ref y45, .ref y46, .int y47, .ref y48, .ref y49, .int y50, .int y51, .int y52, .int y53, .long y54, .int y55, .ref y56, .ref y57, .ref y58, .ref y59]))] := hD
  rw [hpu2]
  refine lv_if_eq (tgt := 23) hx hb dM_countb_18 rfl (fun _ => ?_) (fun hj3 => absurd (by decide) hj3)
  refine lv_iload_n hx hb dM_countb_23 rfl (lv_at hl 1 rfl) ?_
  refine lv_tableIn (off := 47) (tgt := 71) hx hb dM_countb_24 (by decide) (by decide) rfl rfl ?_
  refine lv_aload_n hx hb dM_countb_71 rfl (lv_at hl 0 rfl) ?_
  refine rw_i (wc := [(y, .inr (11, [.ref y0, .int 0, .int y2, .int 0, .ref y4, .ref y5, .ref y6, .ref y7, .ref y8, .ref y9, .int y10, .int y11, .int y12, .int y13, .int y14, .long y15, .int y16, .int y17, .ref y18, .ref y19, .ref y20, .ref y21, .ref y22, .ref y23, .ref y24, .ref y25, .ref y26, .ref y27, .ref y28, .ref y29, .ref y30, .ref y31, .ref y32, .ref y33, .ref y34, .ref y35, .ref y36, .ref y37, .ref y38, .ref y39, .ref y40, .ref y41, .ref y42, .ref y43, .ref y44, .ref y45, .ref y46, .int y47, .ref y48, .ref y49, .int y50, .int y51, .int y52, .int y53, .long y54, .int y55, .ref y56, .ref y57, .ref y58, .ref y59])), (y29, .inl (cT 0, 302, .inl af)), (y40, .inl (cT 0, 19, .inl lf)), (y44, .inl (cT 0, 19, .inl cf))]) (wr := []) hP hD hS hA [3, 0, 1, 2] [] rfl rfl (by decide) (by decide) (va_runV (As := []) (rest := []) ⟨hx, hb, hml, hown, hT⟩ (y_commonBits0 l D cT y y0 0 y2 y4 y5 y6 y7 y8 y9 y10 y11 y12 y13 y14 y15 y16 y17 y18 y19 y20 y21 y22 y23 y24 y25 y26 y27 y28 y29 y30 y31 y32 y33 y34 y35 y36 y37 y38 y39 y40 y41 y42 y43 y44 y45 y46 y47 y48 y49 y50 y51 y52 y53 y54 y55 y56 y57 y58 y59 af lf cf _) ⟨callB_of 0 hT (tb_gd w1523) rfl rfl rfl (hT _ w13) (hT _ w1520) hM_commonBits ⟨Nat.le_of_ble_eq_true rfl, Nat.le_of_ble_eq_true rfl⟩, (hT _ w1522), (hT _ wp59)⟩ (RW.preV (ci := 11) (q0 := 0) hZ hS (va_free (wc := [(y, .inr (11, [.ref y0, .int 0, .int y2, .int 0, .ref y4, .ref y5, .ref y6, .ref y7, .ref y8, .ref y9, .int y10, .int y11, .int y12, .int y13, .int y14, .long y15, .int y16, .int y17, .ref y18, .ref y19, .ref y20, .ref y21, .ref y22, .ref y23, .ref y24, .ref y25, .ref y26, .ref y27, .ref y28, .ref y29, .ref y30, .ref y31, .ref y32, .ref y33, .ref y34, .ref y35, .ref y36, .ref y37, .ref y38, .ref y39, .ref y40, .ref y41, .ref y42, .ref y43, .ref y44, .ref y45, .ref y46, .int y47, .ref y48, .ref y49, .int y50, .int y51, .int y52, .int y53, .long y54, .int y55, .ref y56, .ref y57, .ref y58, .ref y59])), (y29, .inl (cT 0, 302, .inl af)), (y40, .inl (cT 0, 19, .inl lf)), (y44, .inl (cT 0, 19, .inl cf))]) hD hS hA [3, 0, 1, 2] rfl) (hP.sub (ws' := [(y, .inr (11, [.ref y0, .int 0, .int y2, .int 0, .ref y4, .ref y5, .ref y6, .ref y7, .ref y8, .ref y9, .int y10, .int y11, .int y12, .int y13, .int y14, .long y15, .int y16, .int y17, .ref y18, .ref y19, .ref y20, .ref y21, .ref y22, .ref y23, .ref y24, .ref y25, .ref y26, .ref y27, .ref y28, .ref y29, .ref y30, .ref y31, .ref y32, .ref y33, .ref y34, .ref y35, .ref y36, .ref y37, .ref y38, .ref y39, .ref y40, .ref y41, .ref y42, .ref y43, .ref y44, .ref y45, .ref y46, .int y47, .ref y48, .ref y49, .int y50, .int y51, .int y52, .int y53, .long y54, .int y55, .ref y56, .ref y57, .ref y58, .ref y59])), (y29, .inl (cT 0, 302, .inl af)), (y40, .inl (cT 0, 19, .inl lf)), (y44, .inl (cT 0, 19, .inl cf))]) [3, 0, 1, 2] rfl) hK (hD.sub (ws' := [(y, .inr (11, [.ref y0, .int 0, .int y2, .int 0, .ref y4, .ref y5, .ref y6, .ref y7, .ref y8, .ref y9, .int y10, .int y11, .int y12, .int y13, .int y14, .long y15, .int y16, .int y17, .ref y18, .ref y19, .ref y20, .ref y21, .ref y22, .ref y23, .ref y24, .ref y25, .ref y26, .ref y27, .ref y28, .ref y29, .ref y30, .ref y31, .ref y32, .ref y33, .ref y34, .ref y35, .ref y36, .ref y37, .ref y38, .ref y39, .ref y40, .ref y41, .ref y42, .ref y43, .ref y44, .ref y45, .ref y46, .int y47, .ref y48, .ref y49, .int y50, .int y51, .int y52, .int y53, .long y54, .int y55, .ref y56, .ref y57, .ref y58, .ref y59])), (y29, .inl (cT 0, 302, .inl af)), (y40, .inl (cT 0, 19, .inl lf)), (y44, .inl (cT 0, 19, .inl cf))]) [3, 0, 1, 2] (by decide) rfl) rfl rfl) rfl rfl hl.1 rfl (lv_room (Nat.le_of_ble_eq_true rfl)) dM_countb_72 ⟨Nat.le_of_ble_eq_true rfl, Nat.le_of_ble_eq_true rfl⟩) (fun ru4 u4 H locs hpu4 hP hD hS => ?_)
  have hP : va_P D vwCl [(y, .inr (11, [.ref y0, .int 0, .int y2, .int 0, .ref y4, .ref y5, .ref y6, .ref y7, .ref y8, .ref y9, .int y10, .int y11, .int y12, .int y13, .int y14, .long y15, .int y16, .int y17, .ref y18, .ref y19, .ref y20, .ref y21, .ref y22, .ref y23, .ref y24, .ref y25, .ref y26, .ref y27, .ref y28, .ref y29, .ref y30, .ref y31, .ref y32, .ref y33, .ref y34, .ref y35, .ref y36, .ref y37, .ref y38, .ref y39, .ref y40, .ref y41, .ref y42, .ref y43, .ref y44, .ref y45, .ref y46, .int y47, .ref y48, .ref y49, .int y50, .int y51, .int y52, .int y53, .long y54, .int y55, .ref y56, .ref y57, .ref y58, .ref y59])), (y44, .inl (cT 0, 19, .inl (upd (upd (upd (upd (upd (upd (upd (upd (upd (upd (upd (upd (upd (upd (upd (upd (upd (upd (upd cf 0 0) 1 0) 2 0) 3 0) 4 0) 5 0) 6 0) 7 0) 8 0) 9 0) 10 0) 11 0) 12 0) 13 0) 14 0) 15 0) 16 0) 17 0) 18 0))), (y29, .inl (cT 0, 302, .inl (upd (upd (upd af 0 1) 300 1) 301 1))), (y40, .inl (cT 0, 19, .inl (upd (upd (upd (upd (upd (upd (upd (upd (upd (upd (upd (upd (upd (upd (upd (upd (upd (upd (upd lf 0 0) 1 0) 2 0) 3 0) 4 0) 5 0) 6 0) 7 0) 8 0) 9 0) 10 0) 11 0) 12 0) 13 0) 14 0) 15 0) 16 0) 17 0) 18 0)))] H := hP
  have hD : va_D A [(y, .inr (11, [.ref y0, .int 0, .int y2, .int 0, .ref y4, .ref y5, .ref y6, .ref y7, .ref y8, .ref y9, .int y10, .int y11, .int y12, .int y13, .int y14, .long y15, .int y16, .int y17, .ref y18, .ref y19, .ref y20, .ref y21, .ref y22, .ref y23, .ref y24, .ref y25, .ref y26, .ref y27, .ref y28, .ref y29, .ref y30, .ref y31, .ref y32, .ref y33, .ref y34, .ref y35, .ref y36, .ref y37, .ref y38, .ref y39, .ref y40, .ref y41, .ref y42, .ref y43, .ref y44, .ref y45, .ref y46, .int y47, .ref y48, .ref y49, .int y50, .int y51, .int y52, .int y53, .long y54, .int y55, .ref y56, .ref y57, .ref y58, .ref y59])), (y44, .inl (cT 0, 19, .inl (upd (upd (upd (upd (upd (upd (upd (upd (upd (upd (upd (upd (upd (upd (upd (upd (upd (upd (upd cf 0 0) 1 0) 2 0) 3 0) 4 0) 5 0) 6 0) 7 0) 8 0) 9 0) 10 0) 11 0) 12 0) 13 0) 14 0) 15 0) 16 0) 17 0) 18 0))), (y29, .inl (cT 0, 302, .inl (upd (upd (upd af 0 1) 300 1) 301 1))), (y40, .inl (cT 0, 19, .inl (upd (upd (upd (upd (upd (upd (upd (upd (upd (upd (upd (upd (upd (upd (upd (upd (upd (upd (upd lf 0 0) 1 0) 2 0) 3 0) 4 0) 5 0) 6 0) 7 0) 8 0) 9 0) 10 0) 11 0) 12 0) 13 0) 14 0) 15 0) 16 0) 17 0) 18 0)))] := hD
  rw [hpu4]
  have hP9 := hP.sub (ws' := [(y, .inr (11, [.ref y0, .int 0, .int y2, .int 0, .ref y4, .ref y5, .ref y6, .ref y7, .ref y8, .ref y9, .int y10, .int y11, .int y12, .int y13, .int y14, .long y15, .int y16, .int y17, .ref y18, .ref y19, .ref y20, .ref y21, .ref y22, .ref y23, .ref y24, .ref y25, .ref y26, .ref y27, .ref y28, .ref y29, .ref y30, .ref y31, .ref y32, .ref y33, .ref y34, .ref y35, .ref y36, .ref y37, .ref y38, .ref y39, .ref y40, .ref y41, .ref y42, .ref y43, .ref y44, .ref y45, .ref y46, .int y47, .ref y48, .ref y49, .int y50, .int y51, .int y52, .int y53, .long y54, .int y55, .ref y56, .ref y57, .ref y58, .ref y59])), (y44, .inl (cT 0, 19, .inl (upd (upd (upd (upd (upd (upd (upd (upd (upd (upd (upd (upd (upd (upd (upd (upd (upd (upd (upd cf 0 0) 1 0) 2 0) 3 0) 4 0) 5 0) 6 0) 7 0) 8 0) 9 0) 10 0) 11 0) 12 0) 13 0) 14 0) 15 0) 16 0) 17 0) 18 0))), (y29, .inl (cT 0, 302, .inl (upd (upd (upd af 0 1) 300 1) 301 1))), (y40, .inl (cT 0, 19, .inl (upd (upd (upd (upd (upd (upd (upd (upd (upd (upd (upd (upd (upd (upd (upd (upd (upd (upd (upd lf 0 0) 1 0) 2 0) 3 0) 4 0) 5 0) 6 0) 7 0) 8 0) 9 0) 10 0) 11 0) 12 0) 13 0) 14 0) 15 0) 16 0) 17 0) 18 0)))]) [0, 1, 2, 3] rfl
  have hD9 := hD.sub (ws' := [(y, .inr (11, [.ref y0, .int 0, .int y2, .int 0, .ref y4, .ref y5, .ref y6, .ref y7, .ref y8, .ref y9, .int y10, .int y11, .int y12, .int y13, .int y14, .long y15, .int y16, .int y17, .ref y18, .ref y19, .ref y20, .ref y21, .ref y22, .ref y23, .ref y24, .ref y25, .ref y26, .ref y27, .ref y28, .ref y29, .ref y30, .ref y31, .ref y32, .ref y33, .ref y34, .ref y35, .ref y36, .ref y37, .ref y38, .ref y39, .ref y40, .ref y41, .ref y42, .ref y43, .ref y44, .ref y45, .ref y46, .int y47, .ref y48, .ref y49, .int y50, .int y51, .int y52, .int y53, .long y54, .int y55, .ref y56, .ref y57, .ref y58, .ref y59])), (y44, .inl (cT 0, 19, .inl (upd (upd (upd (upd (upd (upd (upd (upd (upd (upd (upd (upd (upd (upd (upd (upd (upd (upd (upd cf 0 0) 1 0) 2 0) 3 0) 4 0) 5 0) 6 0) 7 0) 8 0) 9 0) 10 0) 11 0) 12 0) 13 0) 14 0) 15 0) 16 0) 17 0) 18 0))), (y29, .inl (cT 0, 302, .inl (upd (upd (upd af 0 1) 300 1) 301 1))), (y40, .inl (cT 0, 19, .inl (upd (upd (upd (upd (upd (upd (upd (upd (upd (upd (upd (upd (upd (upd (upd (upd (upd (upd (upd lf 0 0) 1 0) 2 0) 3 0) 4 0) 5 0) 6 0) 7 0) 8 0) 9 0) 10 0) 11 0) 12 0) 13 0) 14 0) 15 0) 16 0) 17 0) 18 0)))]) [0, 1, 2, 3] (by decide) rfl
  refine W.widen (k := 0) (n := 0) (Nat.le_of_ble_eq_true rfl) (Nat.le_of_ble_eq_true rfl) ?_
  exact W.iret (v := 1) hx hb hr (fun t ht hW => ⟨⟨1, (fun _ => 0), rfl, rfl, by rw [ht]; exact hP9, hD9⟩, hS.F ht⟩) hS.2.2 dM_countb_75
set_option maxHeartbeats 4000000 in
set_option maxRecDepth 100000 in
theorem y_predict_ok (l : Launch) (D : va_G) (cT : Nat → ClassId) (y : Nat) (y0 : Nat) (y1 : Int32) (y2 : Int32) (y3 : Int32) (y4 : Nat) (y5 : Nat) (y6 : Nat) (y7 : Nat) (y8 : Nat) (y9 : Nat) (y10 : Int32) (y11 : Int32) (y12 : Int32) (y13 : Int32) (y14 : Int32) (y15 : Int64) (y16 : Int32) (y18 : Nat) (y19 : Nat) (y20 : Nat) (y21 : Nat) (y22 : Nat) (y23 : Nat) (y24 : Nat) (y25 : Nat) (y26 : Nat) (y27 : Nat) (y28 : Nat) (y29 : Nat) (y30 : Nat) (y31 : Nat) (y32 : Nat) (y33 : Nat) (y34 : Nat) (y35 : Nat) (y36 : Nat) (y37 : Nat) (y38 : Nat) (y39 : Nat) (y40 : Nat) (y41 : Nat) (y42 : Nat) (y43 : Nat) (y44 : Nat) (y45 : Nat) (y46 : Nat) (y47 : Int32) (y48 : Nat) (y49 : Nat) (y50 : Int32) (y51 : Int32) (y52 : Int32) (y53 : Int32) (y54 : Int64) (y55 : Int32) (y56 : Nat) (y57 : Nat) (y58 : Nat) (y59 : Nat) (af : Nat → Int32) (lf : Nat → Int32) (df : Nat → Int32) (of : Nat → Int32) (hf : Nat → Int32) (sz : Nat) : Met l yM_predict WM_predict ({ frames := 4, cells := 0, slots := 0, locals := 97 } : Room) (RW D vwCl [.ref y, .int 0] [(y, .inr (11, [.ref y0, .int y1, .int y2, .int y3, .ref y4, .ref y5, .ref y6, .ref y7, .ref y8, .ref y9, .int y10, .int y11, .int y12, .int y13, .int y14, .long y15, .int y16, .int 0, .ref y18, .ref y19, .ref y20, .ref y21, .ref y22, .ref y23, .ref y24, .ref y25, .ref y26, .ref y27, .ref y28, .ref y29, .ref y30, .ref y31, .ref y32, .ref y33, .ref y34, .ref y35, .ref y36, .ref y37, .ref y38, .ref y39, .ref y40, .ref y41, .ref y42, .ref y43, .ref y44, .ref y45, .ref y46, .int y47, .ref y48, .ref y49, .int y50, .int y51, .int y52, .int y53, .long y54, .int y55, .ref y56, .ref y57, .ref y58, .ref y59])), (y29, .inl (cT 0, 302, .inl af)), (y40, .inl (cT 0, 19, .inl lf)), (y49, .inl (cT 2, 3000, .inl df)), (y48, .inl (cT 2, 6000, .inl of)), (y31, .inl (cT 0, 302, .inl hf))] (TY cT) sz) (va_Qi (fun (r : Int32) (_ : Nat → Nat) => r = 1) (BW D vwCl (va_A [(y, .inr (11, [.ref y0, .int y1, .int y2, .int y3, .ref y4, .ref y5, .ref y6, .ref y7, .ref y8, .ref y9, .int y10, .int y11, .int y12, .int y13, .int y14, .long y15, .int y16, .int 0, .ref y18, .ref y19, .ref y20, .ref y21, .ref y22, .ref y23, .ref y24, .ref y25, .ref y26, .ref y27, .ref y28, .ref y29, .ref y30, .ref y31, .ref y32, .ref y33, .ref y34, .ref y35, .ref y36, .ref y37, .ref y38, .ref y39, .ref y40, .ref y41, .ref y42, .ref y43, .ref y44, .ref y45, .ref y46, .int y47, .ref y48, .ref y49, .int y50, .int y51, .int y52, .int y53, .long y54, .int y55, .ref y56, .ref y57, .ref y58, .ref y59])), (y29, .inl (cT 0, 302, .inl af)), (y40, .inl (cT 0, 19, .inl lf)), (y49, .inl (cT 2, 3000, .inl df)), (y48, .inl (cT 2, 6000, .inl of)), (y31, .inl (cT 0, 302, .inl hf))] sz) (fun u => [(y40, .inl (cT 0, 19, .inl (upd (upd (upd (upd (upd (upd (upd (upd (upd (upd (upd (upd (upd (upd (upd (upd (upd (upd (upd lf 0 0) 1 0) 2 0) 3 0) 4 0) 5 0) 6 0) 7 0) 8 0) 9 0) 10 0) 11 0) 12 0) 13 0) 14 0) 15 0) 16 0) 17 0) 18 0))), (y, .inr (11, [.ref y0, .int 0, .int y2, .int y3, .ref y4, .ref y5, .ref y6, .ref y7, .ref y8, .ref y9, .int y10, .int y11, .int y12, .int y13, .int y14, .long y15, .int y16, .int 0, .ref y18, .ref y19, .ref y20, .ref y21, .ref y22, .ref y23, .ref y24, .ref y25, .ref y26, .ref y27, .ref y28, .ref y29, .ref y30, .ref y31, .ref y32, .ref y33, .ref y34, .ref y35, .ref y36, .ref y37, .ref y38, .ref y39, .ref y40, .ref y41, .ref y42, .ref y43, .ref y44, .ref y45, .ref y46, .int 1, .ref y48, .ref y49, .int y50, .int y51, .int y52, .int y53, .long y54, .int y55, .ref y56, .ref y57, .ref y58, .ref y59])), (y49, .inl (cT 2, 3000, .inl (upd (upd (upd (upd df 0 (vp_nar .byte 48)) 1 (vp_nar .byte 48)) 2 (vp_nar .byte 48)) 3 (vp_nar .byte 48)))), (y48, .inl (cT 2, 6000, .inl (upd of 0 (vp_nar .byte 48)))), (y29, .inl (cT 0, 302, .inl (upd (upd (upd (upd af 300 0) 301 0) 300 0) 301 0))), (y31, .inl (cT 0, 302, .inl (upd (upd (upd hf 0 1) 300 1) 301 1)))])) (va_A [(y, .inr (11, [.ref y0, .int y1, .int y2, .int y3, .ref y4, .ref y5, .ref y6, .ref y7, .ref y8, .ref y9, .int y10, .int y11, .int y12, .int y13, .int y14, .long y15, .int y16, .int 0, .ref y18, .ref y19, .ref y20, .ref y21, .ref y22, .ref y23, .ref y24, .ref y25, .ref y26, .ref y27, .ref y28, .ref y29, .ref y30, .ref y31, .ref y32, .ref y33, .ref y34, .ref y35, .ref y36, .ref y37, .ref y38, .ref y39, .ref y40, .ref y41, .ref y42, .ref y43, .ref y44, .ref y45, .ref y46, .int y47, .ref y48, .ref y49, .int y50, .int y51, .int y52, .int y53, .long y54, .int y55, .ref y56, .ref y57, .ref y58, .ref y59])), (y29, .inl (cT 0, 302, .inl af)), (y40, .inl (cT 0, 19, .inl lf)), (y49, .inl (cT 2, 3000, .inl df)), (y48, .inl (cT 2, 6000, .inl of)), (y31, .inl (cT 0, 302, .inl hf))] sz)) 0 0 (va_A [(y, .inr (11, [.ref y0, .int y1, .int y2, .int y3, .ref y4, .ref y5, .ref y6, .ref y7, .ref y8, .ref y9, .int y10, .int y11, .int y12, .int y13, .int y14, .long y15, .int y16, .int 0, .ref y18, .ref y19, .ref y20, .ref y21, .ref y22, .ref y23, .ref y24, .ref y25, .ref y26, .ref y27, .ref y28, .ref y29, .ref y30, .ref y31, .ref y32, .ref y33, .ref y34, .ref y35, .ref y36, .ref y37, .ref y38, .ref y39, .ref y40, .ref y41, .ref y42, .ref y43, .ref y44, .ref y45, .ref y46, .int y47, .ref y48, .ref y49, .int y50, .int y51, .int y52, .int y53, .long y54, .int y55, .ref y56, .ref y57, .ref y58, .ref y59])), (y29, .inl (cT 0, 302, .inl af)), (y40, .inl (cT 0, 19, .inl lf)), (y49, .inl (cT 2, 3000, .inl df)), (y48, .inl (cT 2, 6000, .inl of)), (y31, .inl (cT 0, 302, .inl hf))] sz) := by
  refine Met.ofW (cc := cM_predict) (maxL := 2) (ret := (some .int)) (by decide) rfl ?_
  intro p e s m args below meth c s₁ B hml hv
  obtain ⟨rfl, hsz, hZ, hP, hK, hD0⟩ := hv
  have hx := B.exec
  have hb := B.bytes
  have hr := B.returns
  have hts := atoms_spec (ws := WM_predict) B.pre
  have hT : ∀ w ∈ TB, w.before _ s = true := fun w h => hts w (List.mem_cons_of_mem _ h)
  have hown : s.vm.findClass R_M = some m.cls := findClass_of_methodNamed B.named
  have hlocks := B.notSynchronized
  subst hsz
  have hD := hD0.self (sz := s.heap.size)
  generalize hAe : va_A [(y, .inr (11, [.ref y0, .int y1, .int y2, .int y3, .ref y4, .ref y5, .ref y6, .ref y7, .ref y8, .ref y9, .int y10, .int y11, .int y12, .int y13, .int y14, .long y15, .int y16, .int 0, .ref y18, .ref y19, .ref y20, .ref y21, .ref y22, .ref y23, .ref y24, .ref y25, .ref y26, .ref y27, .ref y28, .ref y29, .ref y30, .ref y31, .ref y32, .ref y33, .ref y34, .ref y35, .ref y36, .ref y37, .ref y38, .ref y39, .ref y40, .ref y41, .ref y42, .ref y43, .ref y44, .ref y45, .ref y46, .int y47, .ref y48, .ref y49, .int y50, .int y51, .int y52, .int y53, .long y54, .int y55, .ref y56, .ref y57, .ref y58, .ref y59])), (y29, .inl (cT 0, 302, .inl af)), (y40, .inl (cT 0, 19, .inl lf)), (y49, .inl (cT 2, 3000, .inl df)), (y48, .inl (cT 2, 6000, .inl of)), (y31, .inl (cT 0, 302, .inl hf))] s.heap.size = A at hD hZ ⊢
  have hA : ∀ q : Nat, s.heap.size ≤ q → A q := fun q h => by rw [← hAe]; exact Or.inr h
  have hS : va_S A s.heap s.heap [] := va_S.rf
  have hl := lv_entry ([.ref y, .int 0]) (n := 2) (Nat.le_of_ble_eq_true rfl)
  rw [lg_entry_eq]
  generalize (lg_sl ([.ref y, .int 0]) ++ List.replicate (2 - (lg_sl ([.ref y, .int 0])).length) Slot.unset).toArray = ls at hl ⊢
  have hl : lv_has ls 2 [(0, .ref y), (1, .int 0)] := hl
  refine lv_aload_n hx hb dM_predict_0 rfl (lv_at hl 0 rfl) ?_
  refine lv_iload_n hx hb dM_predict_1 rfl (lv_at hl 1 rfl) ?_
  refine lv_iconst (v := 0) hx hb dM_predict_2 (by decide) ?_
  refine lv_aload_n hx hb dM_predict_3 rfl (lv_at hl 0 rfl) ?_
  refine va_get (D := D) (ci := 11) (v := .int 0) (C := R_M) (T := T_M) (N := 60) hx hb hT in_M hown hK hP 0 rfl rfl 17 (by decide) (hT _ w1121) (fun _ h9 => h9) rfl dM_predict_4 ?_
  refine ro_i (va_Run.run (va_runS (As := [.int 0, .int 0, .int 0]) (rest := [.ref y]) ⟨hx, hb, hml, hown, hT⟩ (y_in l D cT 0 0 0) ⟨callB_of 3 hT (tb_gd w1297) rfl rfl rfl (hT _ w13) (hT _ w1295) hM_in ⟨Nat.le_of_ble_eq_true rfl, Nat.le_of_ble_eq_true rfl⟩, (hT _ w1296)⟩ (RO.preS hZ hS ((show va_P D vwCl [] _ from fun _ _ h => nomatch h)) hK) rfl rfl hl.1 rfl (lv_room (Nat.le_of_ble_eq_true rfl)) dM_predict_7 ⟨Nat.le_of_ble_eq_true rfl, Nat.le_of_ble_eq_true rfl⟩)) ?_
  refine lv_if_eq (tgt := 17) hx hb dM_predict_10 rfl (fun hj1 => absurd hj1 (by rw [bi_t (by decide)]; decide)) (fun _ => ?_)
  refine lv_iconst (v := 0) hx hb dM_predict_13 (by decide) ?_
  refine lv_goto (tgt := 18) hx hb dM_predict_14 rfl ?_
  refine rw_i (wc := [(y, .inr (11, [.ref y0, .int y1, .int y2, .int y3, .ref y4, .ref y5, .ref y6, .ref y7, .ref y8, .ref y9, .int y10, .int y11, .int y12, .int y13, .int y14, .long y15, .int y16, .int 0, .ref y18, .ref y19, .ref y20, .ref y21, .ref y22, .ref y23, .ref y24, .ref y25, .ref y26, .ref y27, .ref y28, .ref y29, .ref y30, .ref y31, .ref y32, .ref y33, .ref y34, .ref y35, .ref y36, .ref y37, .ref y38, .ref y39, .ref y40, .ref y41, .ref y42, .ref y43, .ref y44, .ref y45, .ref y46, .int y47, .ref y48, .ref y49, .int y50, .int y51, .int y52, .int y53, .long y54, .int y55, .ref y56, .ref y57, .ref y58, .ref y59]))]) (wr := [(y29, .inl (cT 0, 302, .inl af)), (y40, .inl (cT 0, 19, .inl lf)), (y49, .inl (cT 2, 3000, .inl df)), (y48, .inl (cT 2, 6000, .inl of)), (y31, .inl (cT 0, 302, .inl hf))]) hP hD hS hA [0] [1, 2, 3, 4, 5] rfl rfl (by decide) (by decide) (va_runV (As := [.int 0]) (rest := []) ⟨hx, hb, hml, hown, hT⟩ (y_refused0 l D cT y y0 y1 y2 y3 y4 y5 y6 y7 y8 y9 y10 y11 y12 y13 y14 y15 y16 0 y18 y19 y20 y21 y22 y23 y24 y25 y26 y27 y28 y29 y30 y31 y32 y33 y34 y35 y36 y37 y38 y39 y40 y41 y42 y43 y44 y45 y46 y47 y48 y49 y50 y51 y52 y53 y54 y55 y56 y57 y58 y59 _) ⟨callB_of 1 hT (tb_gd w1301) rfl rfl rfl (hT _ w13) (hT _ w1298) hM_refused ⟨Nat.le_of_ble_eq_true rfl, Nat.le_of_ble_eq_true rfl⟩, (hT _ w1300), (hT _ wp29)⟩ (RW.preV (ci := 11) (q0 := 0) hZ hS (va_free (wc := [(y, .inr (11, [.ref y0, .int y1, .int y2, .int y3, .ref y4, .ref y5, .ref y6, .ref y7, .ref y8, .ref y9, .int y10, .int y11, .int y12, .int y13, .int y14, .long y15, .int y16, .int 0, .ref y18, .ref y19, .ref y20, .ref y21, .ref y22, .ref y23, .ref y24, .ref y25, .ref y26, .ref y27, .ref y28, .ref y29, .ref y30, .ref y31, .ref y32, .ref y33, .ref y34, .ref y35, .ref y36, .ref y37, .ref y38, .ref y39, .ref y40, .ref y41, .ref y42, .ref y43, .ref y44, .ref y45, .ref y46, .int y47, .ref y48, .ref y49, .int y50, .int y51, .int y52, .int y53, .long y54, .int y55, .ref y56, .ref y57, .ref y58, .ref y59]))]) hD hS hA [0] rfl) (hP.sub (ws' := [(y, .inr (11, [.ref y0, .int y1, .int y2, .int y3, .ref y4, .ref y5, .ref y6, .ref y7, .ref y8, .ref y9, .int y10, .int y11, .int y12, .int y13, .int y14, .long y15, .int y16, .int 0, .ref y18, .ref y19, .ref y20, .ref y21, .ref y22, .ref y23, .ref y24, .ref y25, .ref y26, .ref y27, .ref y28, .ref y29, .ref y30, .ref y31, .ref y32, .ref y33, .ref y34, .ref y35, .ref y36, .ref y37, .ref y38, .ref y39, .ref y40, .ref y41, .ref y42, .ref y43, .ref y44, .ref y45, .ref y46, .int y47, .ref y48, .ref y49, .int y50, .int y51, .int y52, .int y53, .long y54, .int y55, .ref y56, .ref y57, .ref y58, .ref y59]))]) [0] rfl) hK (hD.sub (ws' := [(y, .inr (11, [.ref y0, .int y1, .int y2, .int y3, .ref y4, .ref y5, .ref y6, .ref y7, .ref y8, .ref y9, .int y10, .int y11, .int y12, .int y13, .int y14, .long y15, .int y16, .int 0, .ref y18, .ref y19, .ref y20, .ref y21, .ref y22, .ref y23, .ref y24, .ref y25, .ref y26, .ref y27, .ref y28, .ref y29, .ref y30, .ref y31, .ref y32, .ref y33, .ref y34, .ref y35, .ref y36, .ref y37, .ref y38, .ref y39, .ref y40, .ref y41, .ref y42, .ref y43, .ref y44, .ref y45, .ref y46, .int y47, .ref y48, .ref y49, .int y50, .int y51, .int y52, .int y53, .long y54, .int y55, .ref y56, .ref y57, .ref y58, .ref y59]))]) [0] (by decide) rfl) rfl rfl) rfl rfl hl.1 rfl (lv_room (Nat.le_of_ble_eq_true rfl)) dM_predict_18 ⟨Nat.le_of_ble_eq_true rfl, Nat.le_of_ble_eq_true rfl⟩) (fun ru2 u2 H locs hpu2 hP hD hS => ?_)
  have hP : va_P D vwCl [(y29, .inl (cT 0, 302, .inl af)), (y40, .inl (cT 0, 19, .inl lf)), (y49, .inl (cT 2, 3000, .inl df)), (y48, .inl (cT 2, 6000, .inl of)), (y31, .inl (cT 0, 302, .inl hf)), (y, .inr (11, [.ref y0, .int 0, .int y2, .int y3, .ref y4, .ref y5, .ref y6, .ref y7, .ref y8, .ref y9, .int y10, .int y11, .int y12, .int y13, .int y14, .long y15, .int y16, .int 0, .ref y18, .ref y19, .ref y20, .ref y21, .ref y22, .ref y23, .ref y24, .ref y25, .ref y26, .ref y27, .ref y28, .ref y29, .ref y30, .ref y31, .ref y32, .ref y33, .ref y34, .ref y35, .ref y36, .ref y37, .ref y38, .ref y39, .ref y40, .ref y41, .ref y42, .ref y43, .ref y44, .ref y45, .ref y46, .int y47, .ref y48, .ref y49, .int y50, .int y51, .int y52, .int y53, .long y54, .int y55, .ref y56, .ref y57, .ref y58, .ref y59]))] H := hP
  have hD : va_D A [(y29, .inl (cT 0, 302, .inl af)), (y40, .inl (cT 0, 19, .inl lf)), (y49, .inl (cT 2, 3000, .inl df)), (y48, .inl (cT 2, 6000, .inl of)), (y31, .inl (cT 0, 302, .inl hf)), (y, .inr (11, [.ref y0, .int 0, .int y2, .int y3, .ref y4, .ref y5, .ref y6, .ref y7, .ref y8, .ref y9, .int y10, .int y11, .int y12, .int y13, .int y14, .long y15, .int y16, .int 0, .ref y18, .ref y19, .ref y20, .ref y21, .ref y22, .ref y23, .ref y24, .ref y25, .ref y26, .ref y27, .ref y28, .ref y29, .ref y30, .ref y31, .ref y32, .ref y33, .ref y34, .ref y35, .ref y36, .ref y37, .ref y38, .ref y39, .ref y40, .ref y41, .ref y42, .ref y43, .ref y44, .ref y45, .ref y46, .int y47, .ref y48, .ref y49, .int y50, .int y51, .int y52, .int y53, .long y54, .int y55, .ref y56, .ref y57, .ref y58, .ref y59]))] := hD
  rw [hpu2]
  refine lv_if_eq (tgt := 26) hx hb dM_predict_21 rfl (fun _ => ?_) (fun hj3 => absurd (by decide) hj3)
  refine lv_aload_n hx hb dM_predict_26 rfl (lv_at hl 0 rfl) ?_
  refine lv_iconst (v := (-1)) hx hb dM_predict_27 (by decide) ?_
  refine lv_iload_n hx hb dM_predict_28 rfl (lv_at hl 1 rfl) ?_
  refine lv_iconst (v := 1) hx hb dM_predict_29 (by decide) ?_
  refine lv_iconst (v := 0) hx hb dM_predict_30 (by decide) ?_
  refine rw_v (wc := [(y, .inr (11, [.ref y0, .int 0, .int y2, .int y3, .ref y4, .ref y5, .ref y6, .ref y7, .ref y8, .ref y9, .int y10, .int y11, .int y12, .int y13, .int y14, .long y15, .int y16, .int 0, .ref y18, .ref y19, .ref y20, .ref y21, .ref y22, .ref y23, .ref y24, .ref y25, .ref y26, .ref y27, .ref y28, .ref y29, .ref y30, .ref y31, .ref y32, .ref y33, .ref y34, .ref y35, .ref y36, .ref y37, .ref y38, .ref y39, .ref y40, .ref y41, .ref y42, .ref y43, .ref y44, .ref y45, .ref y46, .int y47, .ref y48, .ref y49, .int y50, .int y51, .int y52, .int y53, .long y54, .int y55, .ref y56, .ref y57, .ref y58, .ref y59])), (y29, .inl (cT 0, 302, .inl af)), (y40, .inl (cT 0, 19, .inl lf))]) (wr := [(y49, .inl (cT 2, 3000, .inl df)), (y48, .inl (cT 2, 6000, .inl of)), (y31, .inl (cT 0, 302, .inl hf))]) hP hD hS hA [5, 0, 1] [2, 3, 4] rfl rfl (by decide) (by decide) (va_runV (As := [.int (-1), .int 0, .int 1, .int 0]) (rest := []) ⟨hx, hb, hml, hown, hT⟩ (y_walk0 l D cT y y0 0 y2 y3 y4 y5 y6 y7 y8 y9 y10 y11 y12 y13 y14 y15 y16 0 y18 y19 y20 y21 y22 y23 y24 y25 y26 y27 y28 y29 y30 y31 y32 y33 y34 y35 y36 y37 y38 y39 y40 y41 y42 y43 y44 y45 y46 y47 y48 y49 y50 y51 y52 y53 y54 y55 y56 y57 y58 y59 af lf (-1) 1 _) ⟨callB_of 4 hT (tb_gd w1384) rfl rfl rfl (hT _ w13) (hT _ w1381) hM_walk ⟨Nat.le_of_ble_eq_true rfl, Nat.le_of_ble_eq_true rfl⟩, (hT _ w1383), (hT _ wp36)⟩ (RW.preV (ci := 11) (q0 := 0) hZ hS (va_free (wc := [(y, .inr (11, [.ref y0, .int 0, .int y2, .int y3, .ref y4, .ref y5, .ref y6, .ref y7, .ref y8, .ref y9, .int y10, .int y11, .int y12, .int y13, .int y14, .long y15, .int y16, .int 0, .ref y18, .ref y19, .ref y20, .ref y21, .ref y22, .ref y23, .ref y24, .ref y25, .ref y26, .ref y27, .ref y28, .ref y29, .ref y30, .ref y31, .ref y32, .ref y33, .ref y34, .ref y35, .ref y36, .ref y37, .ref y38, .ref y39, .ref y40, .ref y41, .ref y42, .ref y43, .ref y44, .ref y45, .ref y46, .int y47, .ref y48, .ref y49, .int y50, .int y51, .int y52, .int y53, .long y54, .int y55, .ref y56, .ref y57, .ref y58, .ref y59])), (y29, .inl (cT 0, 302, .inl af)), (y40, .inl (cT 0, 19, .inl lf))]) hD hS hA [5, 0, 1] rfl) (hP.sub (ws' := [(y, .inr (11, [.ref y0, .int 0, .int y2, .int y3, .ref y4, .ref y5, .ref y6, .ref y7, .ref y8, .ref y9, .int y10, .int y11, .int y12, .int y13, .int y14, .long y15, .int y16, .int 0, .ref y18, .ref y19, .ref y20, .ref y21, .ref y22, .ref y23, .ref y24, .ref y25, .ref y26, .ref y27, .ref y28, .ref y29, .ref y30, .ref y31, .ref y32, .ref y33, .ref y34, .ref y35, .ref y36, .ref y37, .ref y38, .ref y39, .ref y40, .ref y41, .ref y42, .ref y43, .ref y44, .ref y45, .ref y46, .int y47, .ref y48, .ref y49, .int y50, .int y51, .int y52, .int y53, .long y54, .int y55, .ref y56, .ref y57, .ref y58, .ref y59])), (y29, .inl (cT 0, 302, .inl af)), (y40, .inl (cT 0, 19, .inl lf))]) [5, 0, 1] rfl) hK (hD.sub (ws' := [(y, .inr (11, [.ref y0, .int 0, .int y2, .int y3, .ref y4, .ref y5, .ref y6, .ref y7, .ref y8, .ref y9, .int y10, .int y11, .int y12, .int y13, .int y14, .long y15, .int y16, .int 0, .ref y18, .ref y19, .ref y20, .ref y21, .ref y22, .ref y23, .ref y24, .ref y25, .ref y26, .ref y27, .ref y28, .ref y29, .ref y30, .ref y31, .ref y32, .ref y33, .ref y34, .ref y35, .ref y36, .ref y37, .ref y38, .ref y39, .ref y40, .ref y41, .ref y42, .ref y43, .ref y44, .ref y45, .ref y46, .int y47, .ref y48, .ref y49, .int y50, .int y51, .int y52, .int y53, .long y54, .int y55, .ref y56, .ref y57, .ref y58, .ref y59])), (y29, .inl (cT 0, 302, .inl af)), (y40, .inl (cT 0, 19, .inl lf))]) [5, 0, 1] (by decide) rfl) rfl rfl) rfl rfl hl.1 rfl (lv_room (Nat.le_of_ble_eq_true rfl)) dM_predict_31 ⟨Nat.le_of_ble_eq_true rfl, Nat.le_of_ble_eq_true rfl⟩) (fun u4 H locs hpu4 hP hD hS => ?_)
  have hP : va_P D vwCl [(y49, .inl (cT 2, 3000, .inl df)), (y48, .inl (cT 2, 6000, .inl of)), (y31, .inl (cT 0, 302, .inl hf)), (y, .inr (11, [.ref y0, .int 0, .int y2, .int y3, .ref y4, .ref y5, .ref y6, .ref y7, .ref y8, .ref y9, .int y10, .int y11, .int y12, .int y13, .int y14, .long y15, .int y16, .int 0, .ref y18, .ref y19, .ref y20, .ref y21, .ref y22, .ref y23, .ref y24, .ref y25, .ref y26, .ref y27, .ref y28, .ref y29, .ref y30, .ref y31, .ref y32, .ref y33, .ref y34, .ref y35, .ref y36, .ref y37, .ref y38, .ref y39, .ref y40, .ref y41, .ref y42, .ref y43, .ref y44, .ref y45, .ref y46, .int y47, .ref y48, .ref y49, .int y50, .int y51, .int y52, .int y53, .long y54, .int y55, .ref y56, .ref y57, .ref y58, .ref y59])), (y29, .inl (cT 0, 302, .inl (upd (upd af 300 0) 301 0))), (y40, .inl (cT 0, 19, .inl (upd (upd (upd (upd (upd (upd (upd (upd (upd (upd (upd (upd (upd (upd (upd (upd (upd (upd (upd lf 0 0) 1 0) 2 0) 3 0) 4 0) 5 0) 6 0) 7 0) 8 0) 9 0) 10 0) 11 0) 12 0) 13 0) 14 0) 15 0) 16 0) 17 0) 18 0)))] H := hP
  have hD : va_D A [(y49, .inl (cT 2, 3000, .inl df)), (y48, .inl (cT 2, 6000, .inl of)), (y31, .inl (cT 0, 302, .inl hf)), (y, .inr (11, [.ref y0, .int 0, .int y2, .int y3, .ref y4, .ref y5, .ref y6, .ref y7, .ref y8, .ref y9, .int y10, .int y11, .int y12, .int y13, .int y14, .long y15, .int y16, .int 0, .ref y18, .ref y19, .ref y20, .ref y21, .ref y22, .ref y23, .ref y24, .ref y25, .ref y26, .ref y27, .ref y28, .ref y29, .ref y30, .ref y31, .ref y32, .ref y33, .ref y34, .ref y35, .ref y36, .ref y37, .ref y38, .ref y39, .ref y40, .ref y41, .ref y42, .ref y43, .ref y44, .ref y45, .ref y46, .int y47, .ref y48, .ref y49, .int y50, .int y51, .int y52, .int y53, .long y54, .int y55, .ref y56, .ref y57, .ref y58, .ref y59])), (y29, .inl (cT 0, 302, .inl (upd (upd af 300 0) 301 0))), (y40, .inl (cT 0, 19, .inl (upd (upd (upd (upd (upd (upd (upd (upd (upd (upd (upd (upd (upd (upd (upd (upd (upd (upd (upd lf 0 0) 1 0) 2 0) 3 0) 4 0) 5 0) 6 0) 7 0) 8 0) 9 0) 10 0) 11 0) 12 0) 13 0) 14 0) 15 0) 16 0) 17 0) 18 0)))] := hD
  refine lv_aload_n hx hb dM_predict_34 rfl (lv_at hl 0 rfl) ?_
  refine lv_aload_n hx hb dM_predict_35 rfl (lv_at hl 0 rfl) ?_
  refine va_get (D := D) (ci := 11) (v := .ref y29) (C := R_M) (T := T_M) (N := 60) hx hb hT in_M hown hK hP 3 rfl rfl 29 (by decide) (hT _ w1133) (fun _ h9 => h9) rfl dM_predict_36 ?_
  refine lv_aload_n hx hb dM_predict_39 rfl (lv_at hl 0 rfl) ?_
  refine va_get (D := D) (ci := 11) (v := .ref y40) (C := R_M) (T := T_M) (N := 60) hx hb hT in_M hown hK hP 3 rfl rfl 40 (by decide) (hT _ w1144) (fun _ h9 => h9) rfl dM_predict_40 ?_
  refine rw_i (wc := [(y, .inr (11, [.ref y0, .int 0, .int y2, .int y3, .ref y4, .ref y5, .ref y6, .ref y7, .ref y8, .ref y9, .int y10, .int y11, .int y12, .int y13, .int y14, .long y15, .int y16, .int 0, .ref y18, .ref y19, .ref y20, .ref y21, .ref y22, .ref y23, .ref y24, .ref y25, .ref y26, .ref y27, .ref y28, .ref y29, .ref y30, .ref y31, .ref y32, .ref y33, .ref y34, .ref y35, .ref y36, .ref y37, .ref y38, .ref y39, .ref y40, .ref y41, .ref y42, .ref y43, .ref y44, .ref y45, .ref y46, .int y47, .ref y48, .ref y49, .int y50, .int y51, .int y52, .int y53, .long y54, .int y55, .ref y56, .ref y57, .ref y58, .ref y59])), (y29, .inl (cT 0, 302, .inl (upd (upd af 300 0) 301 0))), (y40, .inl (cT 0, 19, .inl (upd (upd (upd (upd (upd (upd (upd (upd (upd (upd (upd (upd (upd (upd (upd (upd (upd (upd (upd lf 0 0) 1 0) 2 0) 3 0) 4 0) 5 0) 6 0) 7 0) 8 0) 9 0) 10 0) 11 0) 12 0) 13 0) 14 0) 15 0) 16 0) 17 0) 18 0))), (y49, .inl (cT 2, 3000, .inl df)), (y48, .inl (cT 2, 6000, .inl of)), (y31, .inl (cT 0, 302, .inl hf))]) (wr := []) hP hD hS hA [3, 4, 5, 0, 1, 2] [] rfl rfl (by decide) (by decide) (va_runV (As := [.ref y29, .ref y40]) (rest := []) ⟨hx, hb, hml, hown, hT⟩ (y_write0 l D cT y y0 0 y2 y3 y4 y5 y6 y7 y8 y9 y10 y11 y12 y13 y14 y15 y16 0 y18 y19 y20 y21 y22 y23 y24 y25 y26 y27 y28 y29 y30 y31 y32 y33 y34 y35 y36 y37 y38 y39 y40 y41 y42 y43 y44 y45 y46 y47 y48 y49 y50 y51 y52 y53 y54 y55 y56 y57 y58 y59 y29 (upd (upd af 300 0) 301 0) y40 (upd (upd (upd (upd (upd (upd (upd (upd (upd (upd (upd (upd (upd (upd (upd (upd (upd (upd (upd lf 0 0) 1 0) 2 0) 3 0) 4 0) 5 0) 6 0) 7 0) 8 0) 9 0) 10 0) 11 0) 12 0) 13 0) 14 0) 15 0) 16 0) 17 0) 18 0) df of hf rfl rfl (fun k hk => match k, hk with | 0, _ => rfl | 1, _ => rfl | 2, _ => rfl | 3, _ => rfl | 4, _ => rfl | 5, _ => rfl | 6, _ => rfl | 7, _ => rfl | 8, _ => rfl | 9, _ => rfl | 10, _ => rfl | 11, _ => rfl | 12, _ => rfl | 13, _ => rfl | 14, _ => rfl | 15, _ => rfl | 16, _ => rfl | 17, _ => rfl | 18, _ => rfl | _ + 19, hk => absurd hk (by omega)) _) ⟨callB_of 2 hT (tb_gd w1559) rfl rfl rfl (hT _ w13) (hT _ w1556) hM_write ⟨Nat.le_of_ble_eq_true rfl, Nat.le_of_ble_eq_true rfl⟩, (hT _ w1558), (hT _ wp62)⟩ (RW.preV (ci := 11) (q0 := 0) hZ hS (va_free (wc := [(y, .inr (11, [.ref y0, .int 0, .int y2, .int y3, .ref y4, .ref y5, .ref y6, .ref y7, .ref y8, .ref y9, .int y10, .int y11, .int y12, .int y13, .int y14, .long y15, .int y16, .int 0, .ref y18, .ref y19, .ref y20, .ref y21, .ref y22, .ref y23, .ref y24, .ref y25, .ref y26, .ref y27, .ref y28, .ref y29, .ref y30, .ref y31, .ref y32, .ref y33, .ref y34, .ref y35, .ref y36, .ref y37, .ref y38, .ref y39, .ref y40, .ref y41, .ref y42, .ref y43, .ref y44, .ref y45, .ref y46, .int y47, .ref y48, .ref y49, .int y50, .int y51, .int y52, .int y53, .long y54, .int y55, .ref y56, .ref y57, .ref y58, .ref y59])), (y29, .inl (cT 0, 302, .inl (upd (upd af 300 0) 301 0))), (y40, .inl (cT 0, 19, .inl (upd (upd (upd (upd (upd (upd (upd (upd (upd (upd (upd (upd (upd (upd (upd (upd (upd (upd (upd lf 0 0) 1 0) 2 0) 3 0) 4 0) 5 0) 6 0) 7 0) 8 0) 9 0) 10 0) 11 0) 12 0) 13 0) 14 0) 15 0) 16 0) 17 0) 18 0))), (y49, .inl (cT 2, 3000, .inl df)), (y48, .inl (cT 2, 6000, .inl of)), (y31, .inl (cT 0, 302, .inl hf))]) hD hS hA [3, 4, 5, 0, 1, 2] rfl) (hP.sub (ws' := [(y, .inr (11, [.ref y0, .int 0, .int y2, .int y3, .ref y4, .ref y5, .ref y6, .ref y7, .ref y8, .ref y9, .int y10, .int y11, .int y12, .int y13, .int y14, .long y15, .int y16, .int 0, .ref y18, .ref y19, .ref y20, .ref y21, .ref y22, .ref y23, .ref y24, .ref y25, .ref y26, .ref y27, .ref y28, .ref y29, .ref y30, .ref y31, .ref y32, .ref y33, .ref y34, .ref y35, .ref y36, .ref y37, .ref y38, .ref y39, .ref y40, .ref y41, .ref y42, .ref y43, .ref y44, .ref y45, .ref y46, .int y47, .ref y48, .ref y49, .int y50, .int y51, .int y52, .int y53, .long y54, .int y55, .ref y56, .ref y57, .ref y58, .ref y59])), (y29, .inl (cT 0, 302, .inl (upd (upd af 300 0) 301 0))), (y40, .inl (cT 0, 19, .inl (upd (upd (upd (upd (upd (upd (upd (upd (upd (upd (upd (upd (upd (upd (upd (upd (upd (upd (upd lf 0 0) 1 0) 2 0) 3 0) 4 0) 5 0) 6 0) 7 0) 8 0) 9 0) 10 0) 11 0) 12 0) 13 0) 14 0) 15 0) 16 0) 17 0) 18 0))), (y49, .inl (cT 2, 3000, .inl df)), (y48, .inl (cT 2, 6000, .inl of)), (y31, .inl (cT 0, 302, .inl hf))]) [3, 4, 5, 0, 1, 2] rfl) hK (hD.sub (ws' := [(y, .inr (11, [.ref y0, .int 0, .int y2, .int y3, .ref y4, .ref y5, .ref y6, .ref y7, .ref y8, .ref y9, .int y10, .int y11, .int y12, .int y13, .int y14, .long y15, .int y16, .int 0, .ref y18, .ref y19, .ref y20, .ref y21, .ref y22, .ref y23, .ref y24, .ref y25, .ref y26, .ref y27, .ref y28, .ref y29, .ref y30, .ref y31, .ref y32, .ref y33, .ref y34, .ref y35, .ref y36, .ref y37, .ref y38, .ref y39, .ref y40, .ref y41, .ref y42, .ref y43, .ref y44, .ref y45, .ref y46, .int y47, .ref y48, .ref y49, .int y50, .int y51, .int y52, .int y53, .long y54, .int y55, .ref y56, .ref y57, .ref y58, .ref y59])), (y29, .inl (cT 0, 302, .inl (upd (upd af 300 0) 301 0))), (y40, .inl (cT 0, 19, .inl (upd (upd (upd (upd (upd (upd (upd (upd (upd (upd (upd (upd (upd (upd (upd (upd (upd (upd (upd lf 0 0) 1 0) 2 0) 3 0) 4 0) 5 0) 6 0) 7 0) 8 0) 9 0) 10 0) 11 0) 12 0) 13 0) 14 0) 15 0) 16 0) 17 0) 18 0))), (y49, .inl (cT 2, 3000, .inl df)), (y48, .inl (cT 2, 6000, .inl of)), (y31, .inl (cT 0, 302, .inl hf))]) [3, 4, 5, 0, 1, 2] (by decide) rfl) rfl rfl) rfl rfl hl.1 rfl (lv_room (Nat.le_of_ble_eq_true rfl)) dM_predict_43 ⟨Nat.le_of_ble_eq_true rfl, Nat.le_of_ble_eq_true rfl⟩) (fun ru5 u5 H locs hpu5 hP hD hS => ?_)
  have hP : va_P D vwCl [(y40, .inl (cT 0, 19, .inl (upd (upd (upd (upd (upd (upd (upd (upd (upd (upd (upd (upd (upd (upd (upd (upd (upd (upd (upd lf 0 0) 1 0) 2 0) 3 0) 4 0) 5 0) 6 0) 7 0) 8 0) 9 0) 10 0) 11 0) 12 0) 13 0) 14 0) 15 0) 16 0) 17 0) 18 0))), (y, .inr (11, [.ref y0, .int 0, .int y2, .int y3, .ref y4, .ref y5, .ref y6, .ref y7, .ref y8, .ref y9, .int y10, .int y11, .int y12, .int y13, .int y14, .long y15, .int y16, .int 0, .ref y18, .ref y19, .ref y20, .ref y21, .ref y22, .ref y23, .ref y24, .ref y25, .ref y26, .ref y27, .ref y28, .ref y29, .ref y30, .ref y31, .ref y32, .ref y33, .ref y34, .ref y35, .ref y36, .ref y37, .ref y38, .ref y39, .ref y40, .ref y41, .ref y42, .ref y43, .ref y44, .ref y45, .ref y46, .int 1, .ref y48, .ref y49, .int y50, .int y51, .int y52, .int y53, .long y54, .int y55, .ref y56, .ref y57, .ref y58, .ref y59])), (y49, .inl (cT 2, 3000, .inl (upd (upd (upd (upd df 0 (vp_nar .byte 48)) 1 (vp_nar .byte 48)) 2 (vp_nar .byte 48)) 3 (vp_nar .byte 48)))), (y48, .inl (cT 2, 6000, .inl (upd of 0 (vp_nar .byte 48)))), (y29, .inl (cT 0, 302, .inl (upd (upd (upd (upd af 300 0) 301 0) 300 0) 301 0))), (y31, .inl (cT 0, 302, .inl (upd (upd (upd hf 0 1) 300 1) 301 1)))] H := hP
  have hD : va_D A [(y40, .inl (cT 0, 19, .inl (upd (upd (upd (upd (upd (upd (upd (upd (upd (upd (upd (upd (upd (upd (upd (upd (upd (upd (upd lf 0 0) 1 0) 2 0) 3 0) 4 0) 5 0) 6 0) 7 0) 8 0) 9 0) 10 0) 11 0) 12 0) 13 0) 14 0) 15 0) 16 0) 17 0) 18 0))), (y, .inr (11, [.ref y0, .int 0, .int y2, .int y3, .ref y4, .ref y5, .ref y6, .ref y7, .ref y8, .ref y9, .int y10, .int y11, .int y12, .int y13, .int y14, .long y15, .int y16, .int 0, .ref y18, .ref y19, .ref y20, .ref y21, .ref y22, .ref y23, .ref y24, .ref y25, .ref y26, .ref y27, .ref y28, .ref y29, .ref y30, .ref y31, .ref y32, .ref y33, .ref y34, .ref y35, .ref y36, .ref y37, .ref y38, .ref y39, .ref y40, .ref y41, .ref y42, .ref y43, .ref y44, .ref y45, .ref y46, .int 1, .ref y48, .ref y49, .int y50, .int y51, .int y52, .int y53, .long y54, .int y55, .ref y56, .ref y57, .ref y58, .ref y59])), (y49, .inl (cT 2, 3000, .inl (upd (upd (upd (upd df 0 (vp_nar .byte 48)) 1 (vp_nar .byte 48)) 2 (vp_nar .byte 48)) 3 (vp_nar .byte 48)))), (y48, .inl (cT 2, 6000, .inl (upd of 0 (vp_nar .byte 48)))), (y29, .inl (cT 0, 302, .inl (upd (upd (upd (upd af 300 0) 301 0) 300 0) 301 0))), (y31, .inl (cT 0, 302, .inl (upd (upd (upd hf 0 1) 300 1) 301 1)))] := hD
  rw [hpu5]
  have hP9 := hP.sub (ws' := [(y40, .inl (cT 0, 19, .inl (upd (upd (upd (upd (upd (upd (upd (upd (upd (upd (upd (upd (upd (upd (upd (upd (upd (upd (upd lf 0 0) 1 0) 2 0) 3 0) 4 0) 5 0) 6 0) 7 0) 8 0) 9 0) 10 0) 11 0) 12 0) 13 0) 14 0) 15 0) 16 0) 17 0) 18 0))), (y, .inr (11, [.ref y0, .int 0, .int y2, .int y3, .ref y4, .ref y5, .ref y6, .ref y7, .ref y8, .ref y9, .int y10, .int y11, .int y12, .int y13, .int y14, .long y15, .int y16, .int 0, .ref y18, .ref y19, .ref y20, .ref y21, .ref y22, .ref y23, .ref y24, .ref y25, .ref y26, .ref y27, .ref y28, .ref y29, .ref y30, .ref y31, .ref y32, .ref y33, .ref y34, .ref y35, .ref y36, .ref y37, .ref y38, .ref y39, .ref y40, .ref y41, .ref y42, .ref y43, .ref y44, .ref y45, .ref y46, .int 1, .ref y48, .ref y49, .int y50, .int y51, .int y52, .int y53, .long y54, .int y55, .ref y56, .ref y57, .ref y58, .ref y59])), (y49, .inl (cT 2, 3000, .inl (upd (upd (upd (upd df 0 (vp_nar .byte 48)) 1 (vp_nar .byte 48)) 2 (vp_nar .byte 48)) 3 (vp_nar .byte 48)))), (y48, .inl (cT 2, 6000, .inl (upd of 0 (vp_nar .byte 48)))), (y29, .inl (cT 0, 302, .inl (upd (upd (upd (upd af 300 0) 301 0) 300 0) 301 0))), (y31, .inl (cT 0, 302, .inl (upd (upd (upd hf 0 1) 300 1) 301 1)))]) [0, 1, 2, 3, 4, 5] rfl
  have hD9 := hD.sub (ws' := [(y40, .inl (cT 0, 19, .inl (upd (upd (upd (upd (upd (upd (upd (upd (upd (upd (upd (upd (upd (upd (upd (upd (upd (upd (upd lf 0 0) 1 0) 2 0) 3 0) 4 0) 5 0) 6 0) 7 0) 8 0) 9 0) 10 0) 11 0) 12 0) 13 0) 14 0) 15 0) 16 0) 17 0) 18 0))), (y, .inr (11, [.ref y0, .int 0, .int y2, .int y3, .ref y4, .ref y5, .ref y6, .ref y7, .ref y8, .ref y9, .int y10, .int y11, .int y12, .int y13, .int y14, .long y15, .int y16, .int 0, .ref y18, .ref y19, .ref y20, .ref y21, .ref y22, .ref y23, .ref y24, .ref y25, .ref y26, .ref y27, .ref y28, .ref y29, .ref y30, .ref y31, .ref y32, .ref y33, .ref y34, .ref y35, .ref y36, .ref y37, .ref y38, .ref y39, .ref y40, .ref y41, .ref y42, .ref y43, .ref y44, .ref y45, .ref y46, .int 1, .ref y48, .ref y49, .int y50, .int y51, .int y52, .int y53, .long y54, .int y55, .ref y56, .ref y57, .ref y58, .ref y59])), (y49, .inl (cT 2, 3000, .inl (upd (upd (upd (upd df 0 (vp_nar .byte 48)) 1 (vp_nar .byte 48)) 2 (vp_nar .byte 48)) 3 (vp_nar .byte 48)))), (y48, .inl (cT 2, 6000, .inl (upd of 0 (vp_nar .byte 48)))), (y29, .inl (cT 0, 302, .inl (upd (upd (upd (upd af 300 0) 301 0) 300 0) 301 0))), (y31, .inl (cT 0, 302, .inl (upd (upd (upd hf 0 1) 300 1) 301 1)))]) [0, 1, 2, 3, 4, 5] (by decide) rfl
  refine W.widen (k := 0) (n := 0) (Nat.le_of_ble_eq_true rfl) (Nat.le_of_ble_eq_true rfl) ?_
  exact W.iret (v := 1) hx hb hr (fun t ht hW => ⟨⟨1, (fun _ => 0), rfl, rfl, by rw [ht]; exact hP9, hD9⟩, hS.F ht⟩) hS.2.2 dM_predict_46
set_option maxHeartbeats 4000000 in
set_option maxRecDepth 100000 in
theorem y_sumSquares0 (l : Launch) (D : va_G) (cT : Nat → ClassId) (y : Nat) (y0 : Nat) (y1 : Int32) (y2 : Int32) (y4 : Nat) (y5 : Nat) (y6 : Nat) (y7 : Nat) (y8 : Nat) (y9 : Nat) (y10 : Int32) (y11 : Int32) (y12 : Int32) (y13 : Int32) (y14 : Int32) (y15 : Int64) (y16 : Int32) (y17 : Int32) (y18 : Nat) (y19 : Nat) (y20 : Nat) (y21 : Nat) (y22 : Nat) (y23 : Nat) (y24 : Nat) (y25 : Nat) (y26 : Nat) (y27 : Nat) (y28 : Nat) (y29 : Nat) (y30 : Nat) (y31 : Nat) (y32 : Nat) (y33 : Nat) (y34 : Nat) (y35 : Nat) (y36 : Nat) (y37 : Nat) (y38 : Nat) (y39 : Nat) (y40 : Nat) (y41 : Nat) (y42 : Nat) (y43 : Nat) (y44 : Nat) (y45 : Nat) (y46 : Nat) (y47 : Int32) (y48 : Nat) (y49 : Nat) (y50 : Int32) (y51 : Int32) (y52 : Int32) (y53 : Int32) (y54 : Int64) (y55 : Int32) (y56 : Nat) (y57 : Nat) (y58 : Nat) (y59 : Nat) (af : Nat → Int32) (lf : Nat → Int32) (a1 : Int64) (a2 : Int32) (sz : Nat) : Met l yM_sumSquares WM_sumSquares ({ frames := 1, cells := 0, slots := 0, locals := 25 } : Room) (RW D vwCl [.ref y, .long a1, .int a2] [(y, .inr (11, [.ref y0, .int y1, .int y2, .int 0, .ref y4, .ref y5, .ref y6, .ref y7, .ref y8, .ref y9, .int y10, .int y11, .int y12, .int y13, .int y14, .long y15, .int y16, .int y17, .ref y18, .ref y19, .ref y20, .ref y21, .ref y22, .ref y23, .ref y24, .ref y25, .ref y26, .ref y27, .ref y28, .ref y29, .ref y30, .ref y31, .ref y32, .ref y33, .ref y34, .ref y35, .ref y36, .ref y37, .ref y38, .ref y39, .ref y40, .ref y41, .ref y42, .ref y43, .ref y44, .ref y45, .ref y46, .int y47, .ref y48, .ref y49, .int y50, .int y51, .int y52, .int y53, .long y54, .int y55, .ref y56, .ref y57, .ref y58, .ref y59])), (y37, .inl (cT 0, 302, .inl af)), (y42, .inl (cT 0, 19, .inl lf))] (TY cT) sz) (va_Qv (fun _ : Nat → Nat => True) (BW D vwCl (va_A [(y, .inr (11, [.ref y0, .int y1, .int y2, .int 0, .ref y4, .ref y5, .ref y6, .ref y7, .ref y8, .ref y9, .int y10, .int y11, .int y12, .int y13, .int y14, .long y15, .int y16, .int y17, .ref y18, .ref y19, .ref y20, .ref y21, .ref y22, .ref y23, .ref y24, .ref y25, .ref y26, .ref y27, .ref y28, .ref y29, .ref y30, .ref y31, .ref y32, .ref y33, .ref y34, .ref y35, .ref y36, .ref y37, .ref y38, .ref y39, .ref y40, .ref y41, .ref y42, .ref y43, .ref y44, .ref y45, .ref y46, .int y47, .ref y48, .ref y49, .int y50, .int y51, .int y52, .int y53, .long y54, .int y55, .ref y56, .ref y57, .ref y58, .ref y59])), (y37, .inl (cT 0, 302, .inl af)), (y42, .inl (cT 0, 19, .inl lf))] sz) (fun u => [(y, .inr (11, [.ref y0, .int y1, .int y2, .int 0, .ref y4, .ref y5, .ref y6, .ref y7, .ref y8, .ref y9, .int y10, .int y11, .int y12, .int y13, .int y14, .long y15, .int y16, .int y17, .ref y18, .ref y19, .ref y20, .ref y21, .ref y22, .ref y23, .ref y24, .ref y25, .ref y26, .ref y27, .ref y28, .ref y29, .ref y30, .ref y31, .ref y32, .ref y33, .ref y34, .ref y35, .ref y36, .ref y37, .ref y38, .ref y39, .ref y40, .ref y41, .ref y42, .ref y43, .ref y44, .ref y45, .ref y46, .int y47, .ref y48, .ref y49, .int y50, .int y51, .int y52, .int y53, .long y54, .int y55, .ref y56, .ref y57, .ref y58, .ref y59])), (y37, .inl (cT 0, 302, .inl (upd (upd af 300 0) 301 0))), (y42, .inl (cT 0, 19, .inl (upd (upd (upd (upd (upd (upd (upd (upd (upd (upd (upd (upd (upd (upd (upd (upd (upd (upd (upd lf 0 0) 1 0) 2 0) 3 0) 4 0) 5 0) 6 0) 7 0) 8 0) 9 0) 10 0) 11 0) 12 0) 13 0) 14 0) 15 0) 16 0) 17 0) 18 0)))])) (va_A [(y, .inr (11, [.ref y0, .int y1, .int y2, .int 0, .ref y4, .ref y5, .ref y6, .ref y7, .ref y8, .ref y9, .int y10, .int y11, .int y12, .int y13, .int y14, .long y15, .int y16, .int y17, .ref y18, .ref y19, .ref y20, .ref y21, .ref y22, .ref y23, .ref y24, .ref y25, .ref y26, .ref y27, .ref y28, .ref y29, .ref y30, .ref y31, .ref y32, .ref y33, .ref y34, .ref y35, .ref y36, .ref y37, .ref y38, .ref y39, .ref y40, .ref y41, .ref y42, .ref y43, .ref y44, .ref y45, .ref y46, .int y47, .ref y48, .ref y49, .int y50, .int y51, .int y52, .int y53, .long y54, .int y55, .ref y56, .ref y57, .ref y58, .ref y59])), (y37, .inl (cT 0, 302, .inl af)), (y42, .inl (cT 0, 19, .inl lf))] sz)) 0 0 (va_A [(y, .inr (11, [.ref y0, .int y1, .int y2, .int 0, .ref y4, .ref y5, .ref y6, .ref y7, .ref y8, .ref y9, .int y10, .int y11, .int y12, .int y13, .int y14, .long y15, .int y16, .int y17, .ref y18, .ref y19, .ref y20, .ref y21, .ref y22, .ref y23, .ref y24, .ref y25, .ref y26, .ref y27, .ref y28, .ref y29, .ref y30, .ref y31, .ref y32, .ref y33, .ref y34, .ref y35, .ref y36, .ref y37, .ref y38, .ref y39, .ref y40, .ref y41, .ref y42, .ref y43, .ref y44, .ref y45, .ref y46, .int y47, .ref y48, .ref y49, .int y50, .int y51, .int y52, .int y53, .long y54, .int y55, .ref y56, .ref y57, .ref y58, .ref y59])), (y37, .inl (cT 0, 302, .inl af)), (y42, .inl (cT 0, 19, .inl lf))] sz) := by
  refine Met.ofW (cc := cM_sumSquares) (maxL := 6) (ret := none) (by decide) rfl ?_
  intro p e s m args below meth c s₁ B hml hv
  obtain ⟨rfl, hsz, hZ, hP, hK, hD0⟩ := hv
  have hx := B.exec
  have hb := B.bytes
  have hr := B.returns
  have hts := atoms_spec (ws := WM_sumSquares) B.pre
  have hT : ∀ w ∈ TB, w.before _ s = true := fun w h => hts w (List.mem_cons_of_mem _ h)
  have hown : s.vm.findClass R_M = some m.cls := findClass_of_methodNamed B.named
  have hlocks := B.notSynchronized
  subst hsz
  have hD := hD0.self (sz := s.heap.size)
  generalize hAe : va_A [(y, .inr (11, [.ref y0, .int y1, .int y2, .int 0, .ref y4, .ref y5, .ref y6, .ref y7, .ref y8, .ref y9, .int y10, .int y11, .int y12, .int y13, .int y14, .long y15, .int y16, .int y17, .ref y18, .ref y19, .ref y20, .ref y21, .ref y22, .ref y23, .ref y24, .ref y25, .ref y26, .ref y27, .ref y28, .ref y29, .ref y30, .ref y31, .ref y32, .ref y33, .ref y34, .ref y35, .ref y36, .ref y37, .ref y38, .ref y39, .ref y40, .ref y41, .ref y42, .ref y43, .ref y44, .ref y45, .ref y46, .int y47, .ref y48, .ref y49, .int y50, .int y51, .int y52, .int y53, .long y54, .int y55, .ref y56, .ref y57, .ref y58, .ref y59])), (y37, .inl (cT 0, 302, .inl af)), (y42, .inl (cT 0, 19, .inl lf))] s.heap.size = A at hD hZ ⊢
  have hA : ∀ q : Nat, s.heap.size ≤ q → A q := fun q h => by rw [← hAe]; exact Or.inr h
  have hS : va_S A s.heap s.heap [] := va_S.rf
  have hl := lv_entry ([.ref y, .long a1, .int a2]) (n := 6) (Nat.le_of_ble_eq_true rfl)
  rw [lg_entry_eq]
  generalize (lg_sl ([.ref y, .long a1, .int a2]) ++ List.replicate (6 - (lg_sl ([.ref y, .long a1, .int a2])).length) Slot.unset).toArray = ls at hl ⊢
  have hl : lv_has ls 6 [(0, .ref y), (1, .long a1), (3, .int a2)] := hl
  refine lv_aload_n hx hb dM_sumSquares_0 rfl (lv_at hl 0 rfl) ?_
  refine va_get (D := D) (ci := 11) (v := .ref y37) (C := R_M) (T := T_M) (N := 60) hx hb hT in_M hown hK hP 0 rfl rfl 37 (by decide) (hT _ w1141) (fun _ h9 => h9) rfl dM_sumSquares_1 ?_
  refine lv_lconst (v := 0) hx hb dM_sumSquares_4 (by decide) ?_
  refine rw_v (wc := [(y37, .inl (cT 0, 302, .inl af))]) (wr := [(y, .inr (11, [.ref y0, .int y1, .int y2, .int 0, .ref y4, .ref y5, .ref y6, .ref y7, .ref y8, .ref y9, .int y10, .int y11, .int y12, .int y13, .int y14, .long y15, .int y16, .int y17, .ref y18, .ref y19, .ref y20, .ref y21, .ref y22, .ref y23, .ref y24, .ref y25, .ref y26, .ref y27, .ref y28, .ref y29, .ref y30, .ref y31, .ref y32, .ref y33, .ref y34, .ref y35, .ref y36, .ref y37, .ref y38, .ref y39, .ref y40, .ref y41, .ref y42, .ref y43, .ref y44, .ref y45, .ref y46, .int y47, .ref y48, .ref y49, .int y50, .int y51, .int y52, .int y53, .long y54, .int y55, .ref y56, .ref y57, .ref y58, .ref y59])), (y42, .inl (cT 0, 19, .inl lf))]) hP hD hS hA [1] [0, 2] rfl rfl (by decide) (by decide) (va_runS (As := [.ref y37, .long 0]) (rest := []) ⟨hx, hb, hml, hown, hT⟩ (y_setInt0 l D cT y37 af _) ⟨callB_of 2 hT (tb_gd w1387) rfl rfl rfl (hT _ w13) (hT _ w1385) hM_setInt ⟨Nat.le_of_ble_eq_true rfl, Nat.le_of_ble_eq_true rfl⟩, (hT _ w1386)⟩ (RW.preS hZ hS (va_free (wc := [(y37, .inl (cT 0, 302, .inl af))]) hD hS hA [1] rfl) (hP.sub (ws' := [(y37, .inl (cT 0, 302, .inl af))]) [1] rfl) hK (hD.sub (ws' := [(y37, .inl (cT 0, 302, .inl af))]) [1] (by decide) rfl)) rfl rfl hl.1 rfl (lv_room (Nat.le_of_ble_eq_true rfl)) dM_sumSquares_5 ⟨Nat.le_of_ble_eq_true rfl, Nat.le_of_ble_eq_true rfl⟩) (fun u1 H locs hpu1 hP hD hS => ?_)
  have hP : va_P D vwCl [(y, .inr (11, [.ref y0, .int y1, .int y2, .int 0, .ref y4, .ref y5, .ref y6, .ref y7, .ref y8, .ref y9, .int y10, .int y11, .int y12, .int y13, .int y14, .long y15, .int y16, .int y17, .ref y18, .ref y19, .ref y20, .ref y21, .ref y22, .ref y23, .ref y24, .ref y25, .ref y26, .ref y27, .ref y28, .ref y29, .ref y30, .ref y31, .ref y32, .ref y33, .ref y34, .ref y35, .ref y36, .ref y37, .ref y38, .ref y39, .ref y40, .ref y41, .ref y42, .ref y43, .ref y44, .ref y45, .ref y46, .int y47, .ref y48, .ref y49, .int y50, .int y51, .int y52, .int y53, .long y54, .int y55, .ref y56, .ref y57, .ref y58, .ref y59])), (y42, .inl (cT 0, 19, .inl lf)), (y37, .inl (cT 0, 302, .inl (upd (upd af 300 0) 301 0)))] H := hP
  have hD : va_D A [(y, .inr (11, [.ref y0, .int y1, .int y2, .int 0, .ref y4, .ref y5, .ref y6, .ref y7, .ref y8, .ref y9, .int y10, .int y11, .int y12, .int y13, .int y14, .long y15, .int y16, .int y17, .ref y18, .ref y19, .ref y20, .ref y21, .ref y22, .ref y23, .ref y24, .ref y25, .ref y26, .ref y27, .ref y28, .ref y29, .ref y30, .ref y31, .ref y32, .ref y33, .ref y34, .ref y35, .ref y36, .ref y37, .ref y38, .ref y39, .ref y40, .ref y41, .ref y42, .ref y43, .ref y44, .ref y45, .ref y46, .int y47, .ref y48, .ref y49, .int y50, .int y51, .int y52, .int y53, .long y54, .int y55, .ref y56, .ref y57, .ref y58, .ref y59])), (y42, .inl (cT 0, 19, .inl lf)), (y37, .inl (cT 0, 302, .inl (upd (upd af 300 0) 301 0)))] := hD
  refine lv_aload_n hx hb dM_sumSquares_8 rfl (lv_at hl 0 rfl) ?_
  refine va_get (D := D) (ci := 11) (v := .ref y42) (C := R_M) (T := T_M) (N := 60) hx hb hT in_M hown hK hP 0 rfl rfl 42 (by decide) (hT _ w1146) (fun _ h9 => h9) rfl dM_sumSquares_9 ?_
  refine rw_v (wc := [(y42, .inl (cT 0, 19, .inl lf))]) (wr := [(y, .inr (11, [.ref y0, .int y1, .int y2, .int 0, .ref y4, .ref y5, .ref y6, .ref y7, .ref y8, .ref y9, .int y10, .int y11, .int y12, .int y13, .int y14, .long y15, .int y16, .int y17, .ref y18, .ref y19, .ref y20, .ref y21, .ref y22, .ref y23, .ref y24, .ref y25, .ref y26, .ref y27, .ref y28, .ref y29, .ref y30, .ref y31, .ref y32, .ref y33, .ref y34, .ref y35, .ref y36, .ref y37, .ref y38, .ref y39, .ref y40, .ref y41, .ref y42, .ref y43, .ref y44, .ref y45, .ref y46, .int y47, .ref y48, .ref y49, .int y50, .int y51, .int y52, .int y53, .long y54, .int y55, .ref y56, .ref y57, .ref y58, .ref y59])), (y37, .inl (cT 0, 302, .inl (upd (upd af 300 0) 301 0)))]) hP hD hS hA [1] [0, 2] rfl rfl (by decide) (by decide) (va_runS (As := [.ref y42]) (rest := []) ⟨hx, hb, hml, hown, hT⟩ (y_zero l D cT y42 lf _) ⟨callB_of 1 hT (tb_gd w1380) rfl rfl rfl (hT _ w13) (hT _ w1378) hM_zero ⟨Nat.le_of_ble_eq_true rfl, Nat.le_of_ble_eq_true rfl⟩, (hT _ w1379)⟩ (RW.preS hZ hS (va_free (wc := [(y42, .inl (cT 0, 19, .inl lf))]) hD hS hA [1] rfl) (hP.sub (ws' := [(y42, .inl (cT 0, 19, .inl lf))]) [1] rfl) hK (hD.sub (ws' := [(y42, .inl (cT 0, 19, .inl lf))]) [1] (by decide) rfl)) rfl rfl hl.1 rfl (lv_room (Nat.le_of_ble_eq_true rfl)) dM_sumSquares_12 ⟨Nat.le_of_ble_eq_true rfl, Nat.le_of_ble_eq_true rfl⟩) (fun u2 H locs hpu2 hP hD hS => ?_)
  have hP : va_P D vwCl [(y, .inr (11, [.ref y0, .int y1, .int y2, .int 0, .ref y4, .ref y5, .ref y6, .ref y7, .ref y8, .ref y9, .int y10, .int y11, .int y12, .int y13, .int y14, .long y15, .int y16, .int y17, .ref y18, .ref y19, .ref y20, .ref y21, .ref y22, .ref y23, .ref y24, .ref y25, .ref y26, .ref y27, .ref y28, .ref y29, .ref y30, .ref y31, .ref y32, .ref y33, .ref y34, .ref y35, .ref y36, .ref y37, .ref y38, .ref y39, .ref y40, .ref y41, .ref y42, .ref y43, .ref y44, .ref y45, .ref y46, .int y47, .ref y48, .ref y49, .int y50, .int y51, .int y52, .int y53, .long y54, .int y55, .ref y56, .ref y57, .ref y58, .ref y59])), (y37, .inl (cT 0, 302, .inl (upd (upd af 300 0) 301 0))), (y42, .inl (cT 0, 19, .inl (upd (upd (upd (upd (upd (upd (upd (upd (upd (upd (upd (upd (upd (upd (upd (upd (upd (upd (upd lf 0 0) 1 0) 2 0) 3 0) 4 0) 5 0) 6 0) 7 0) 8 0) 9 0) 10 0) 11 0) 12 0) 13 0) 14 0) 15 0) 16 0) 17 0) 18 0)))] H := hP
  have hD : va_D A [(y, .inr (11, [.ref y0, .int y1, .int y2, .int 0, .ref y4, .ref y5, .ref y6, .ref y7, .ref y8, .ref y9, .int y10, .int y11, .int y12, .int y13, .int y14, .long y15, .int y16, .int y17, .ref y18, .ref y19, .ref y20, .ref y21, .ref y22, .ref y23, .ref y24, .ref y25, .ref y26, .ref y27, .ref y28, .ref y29, .ref y30, .ref y31, .ref y32, .ref y33, .ref y34, .ref y35, .ref y36, .ref y37, .ref y38, .ref y39, .ref y40, .ref y41, .ref y42, .ref y43, .ref y44, .ref y45, .ref y46, .int y47, .ref y48, .ref y49, .int y50, .int y51, .int y52, .int y53, .long y54, .int y55, .ref y56, .ref y57, .ref y58, .ref y59])), (y37, .inl (cT 0, 302, .inl (upd (upd af 300 0) 301 0))), (y42, .inl (cT 0, 19, .inl (upd (upd (upd (upd (upd (upd (upd (upd (upd (upd (upd (upd (upd (upd (upd (upd (upd (upd (upd lf 0 0) 1 0) 2 0) 3 0) 4 0) 5 0) 6 0) 7 0) 8 0) 9 0) 10 0) 11 0) 12 0) 13 0) 14 0) 15 0) 16 0) 17 0) 18 0)))] := hD
  refine lv_iconst (v := 0) hx hb dM_sumSquares_15 (by decide) ?_
  refine lv_istore hx hb dM_sumSquares_16 hl (by decide) rfl (fun ls hl => ?_)
  have hl : lv_has ls 6 [(4, .int 0), (0, .ref y), (1, .long a1), (3, .int a2)] := hl
  refine lv_iload hx hb dM_sumSquares_18 (lv_at hl 0 rfl) ?_
  refine lv_aload_n hx hb dM_sumSquares_20 rfl (lv_at hl 1 rfl) ?_
  refine va_get (D := D) (ci := 11) (v := .int 0) (C := R_M) (T := T_M) (N := 60) hx hb hT in_M hown hK hP 0 rfl rfl 3 (by decide) (hT _ w1107) (fun _ h9 => h9) rfl dM_sumSquares_21 ?_
  refine lv_icmp_ge (tgt := 135) hx hb dM_sumSquares_24 rfl (fun _ => ?_) (fun hj3 => absurd (by decide) hj3)
  have hP9 := hP.sub (ws' := [(y, .inr (11, [.ref y0, .int y1, .int y2, .int 0, .ref y4, .ref y5, .ref y6, .ref y7, .ref y8, .ref y9, .int y10, .int y11, .int y12, .int y13, .int y14, .long y15, .int y16, .int y17, .ref y18, .ref y19, .ref y20, .ref y21, .ref y22, .ref y23, .ref y24, .ref y25, .ref y26, .ref y27, .ref y28, .ref y29, .ref y30, .ref y31, .ref y32, .ref y33, .ref y34, .ref y35, .ref y36, .ref y37, .ref y38, .ref y39, .ref y40, .ref y41, .ref y42, .ref y43, .ref y44, .ref y45, .ref y46, .int y47, .ref y48, .ref y49, .int y50, .int y51, .int y52, .int y53, .long y54, .int y55, .ref y56, .ref y57, .ref y58, .ref y59])), (y37, .inl (cT 0, 302, .inl (upd (upd af 300 0) 301 0))), (y42, .inl (cT 0, 19, .inl (upd (upd (upd (upd (upd (upd (upd (upd (upd (upd (upd (upd (upd (upd (upd (upd (upd (upd (upd lf 0 0) 1 0) 2 0) 3 0) 4 0) 5 0) 6 0) 7 0) 8 0) 9 0) 10 0) 11 0) 12 0) 13 0) 14 0) 15 0) 16 0) 17 0) 18 0)))]) [0, 1, 2] rfl
  have hD9 := hD.sub (ws' := [(y, .inr (11, [.ref y0, .int y1, .int y2, .int 0, .ref y4, .ref y5, .ref y6, .ref y7, .ref y8, .ref y9, .int y10, .int y11, .int y12, .int y13, .int y14, .long y15, .int y16, .int y17, .ref y18, .ref y19, .ref y20, .ref y21, .ref y22, .ref y23, .ref y24, .ref y25, .ref y26, .ref y27, .ref y28, .ref y29, .ref y30, .ref y31, .ref y32, .ref y33, .ref y34, .ref y35, .ref y36, .ref y37, .ref y38, .ref y39, .ref y40, .ref y41, .ref y42, .ref y43, .ref y44, .ref y45, .ref y46, .int y47, .ref y48, .ref y49, .int y50, .int y51, .int y52, .int y53, .long y54, .int y55, .ref y56, .ref y57, .ref y58, .ref y59])), (y37, .inl (cT 0, 302, .inl (upd (upd af 300 0) 301 0))), (y42, .inl (cT 0, 19, .inl (upd (upd (upd (upd (upd (upd (upd (upd (upd (upd (upd (upd (upd (upd (upd (upd (upd (upd (upd lf 0 0) 1 0) 2 0) 3 0) 4 0) 5 0) 6 0) 7 0) 8 0) 9 0) 10 0) 11 0) 12 0) 13 0) 14 0) 15 0) 16 0) 17 0) 18 0)))]) [0, 1, 2] (by decide) rfl
  refine W.widen (k := 0) (n := 0) (Nat.le_of_ble_eq_true rfl) (Nat.le_of_ble_eq_true rfl) ?_
  exact W.vret hx hb hr (fun t ht hW => ⟨⟨(fun _ => 0), rfl, trivial, by rw [ht]; exact hP9, hD9⟩, hS.F ht⟩) hS.2.2 dM_sumSquares_135
set_option maxHeartbeats 4000000 in
set_option maxRecDepth 100000 in
theorem y_error_ok (l : Launch) (D : va_G) (cT : Nat → ClassId) (y : Nat) (y0 : Nat) (y1 : Int32) (y2 : Int32) (y4 : Nat) (y5 : Nat) (y6 : Nat) (y7 : Nat) (y8 : Nat) (y9 : Nat) (y10 : Int32) (y11 : Int32) (y12 : Int32) (y13 : Int32) (y14 : Int32) (y15 : Int64) (y16 : Int32) (y18 : Nat) (y19 : Nat) (y20 : Nat) (y21 : Nat) (y22 : Nat) (y23 : Nat) (y24 : Nat) (y25 : Nat) (y26 : Nat) (y27 : Nat) (y28 : Nat) (y29 : Nat) (y30 : Nat) (y31 : Nat) (y32 : Nat) (y33 : Nat) (y34 : Nat) (y35 : Nat) (y36 : Nat) (y37 : Nat) (y38 : Nat) (y39 : Nat) (y40 : Nat) (y41 : Nat) (y42 : Nat) (y43 : Nat) (y44 : Nat) (y45 : Nat) (y46 : Nat) (y47 : Int32) (y48 : Nat) (y49 : Nat) (y50 : Int32) (y51 : Int32) (y52 : Int32) (y53 : Int32) (y54 : Int64) (y55 : Int32) (y56 : Nat) (y57 : Nat) (y58 : Nat) (y59 : Nat) (af : Nat → Int32) (lf : Nat → Int32) (df : Nat → Int32) (of : Nat → Int32) (hf : Nat → Int32) (a1 : Int64) (sz : Nat) : Met l yM_error WM_error ({ frames := 4, cells := 0, slots := 0, locals := 97 } : Room) (RW D vwCl [.ref y, .long a1, .int 0] [(y, .inr (11, [.ref y0, .int y1, .int y2, .int 0, .ref y4, .ref y5, .ref y6, .ref y7, .ref y8, .ref y9, .int y10, .int y11, .int y12, .int y13, .int y14, .long y15, .int y16, .int 0, .ref y18, .ref y19, .ref y20, .ref y21, .ref y22, .ref y23, .ref y24, .ref y25, .ref y26, .ref y27, .ref y28, .ref y29, .ref y30, .ref y31, .ref y32, .ref y33, .ref y34, .ref y35, .ref y36, .ref y37, .ref y38, .ref y39, .ref y40, .ref y41, .ref y42, .ref y43, .ref y44, .ref y45, .ref y46, .int y47, .ref y48, .ref y49, .int y50, .int y51, .int y52, .int y53, .long y54, .int y55, .ref y56, .ref y57, .ref y58, .ref y59])), (y37, .inl (cT 0, 302, .inl af)), (y42, .inl (cT 0, 19, .inl lf)), (y49, .inl (cT 2, 3000, .inl df)), (y48, .inl (cT 2, 6000, .inl of)), (y31, .inl (cT 0, 302, .inl hf))] (TY cT) sz) (va_Qi (fun (r : Int32) (_ : Nat → Nat) => r = 1) (BW D vwCl (va_A [(y, .inr (11, [.ref y0, .int y1, .int y2, .int 0, .ref y4, .ref y5, .ref y6, .ref y7, .ref y8, .ref y9, .int y10, .int y11, .int y12, .int y13, .int y14, .long y15, .int y16, .int 0, .ref y18, .ref y19, .ref y20, .ref y21, .ref y22, .ref y23, .ref y24, .ref y25, .ref y26, .ref y27, .ref y28, .ref y29, .ref y30, .ref y31, .ref y32, .ref y33, .ref y34, .ref y35, .ref y36, .ref y37, .ref y38, .ref y39, .ref y40, .ref y41, .ref y42, .ref y43, .ref y44, .ref y45, .ref y46, .int y47, .ref y48, .ref y49, .int y50, .int y51, .int y52, .int y53, .long y54, .int y55, .ref y56, .ref y57, .ref y58, .ref y59])), (y37, .inl (cT 0, 302, .inl af)), (y42, .inl (cT 0, 19, .inl lf)), (y49, .inl (cT 2, 3000, .inl df)), (y48, .inl (cT 2, 6000, .inl of)), (y31, .inl (cT 0, 302, .inl hf))] sz) (fun u => [(y42, .inl (cT 0, 19, .inl (upd (upd (upd (upd (upd (upd (upd (upd (upd (upd (upd (upd (upd (upd (upd (upd (upd (upd (upd lf 0 0) 1 0) 2 0) 3 0) 4 0) 5 0) 6 0) 7 0) 8 0) 9 0) 10 0) 11 0) 12 0) 13 0) 14 0) 15 0) 16 0) 17 0) 18 0))), (y, .inr (11, [.ref y0, .int 0, .int y2, .int 0, .ref y4, .ref y5, .ref y6, .ref y7, .ref y8, .ref y9, .int y10, .int y11, .int y12, .int y13, .int y14, .long y15, .int y16, .int 0, .ref y18, .ref y19, .ref y20, .ref y21, .ref y22, .ref y23, .ref y24, .ref y25, .ref y26, .ref y27, .ref y28, .ref y29, .ref y30, .ref y31, .ref y32, .ref y33, .ref y34, .ref y35, .ref y36, .ref y37, .ref y38, .ref y39, .ref y40, .ref y41, .ref y42, .ref y43, .ref y44, .ref y45, .ref y46, .int 1, .ref y48, .ref y49, .int y50, .int y51, .int y52, .int y53, .long y54, .int y55, .ref y56, .ref y57, .ref y58, .ref y59])), (y49, .inl (cT 2, 3000, .inl (upd (upd (upd (upd df 0 (vp_nar .byte 48)) 1 (vp_nar .byte 48)) 2 (vp_nar .byte 48)) 3 (vp_nar .byte 48)))), (y48, .inl (cT 2, 6000, .inl (upd of 0 (vp_nar .byte 48)))), (y37, .inl (cT 0, 302, .inl (upd (upd (upd (upd af 300 0) 301 0) 300 0) 301 0))), (y31, .inl (cT 0, 302, .inl (upd (upd (upd hf 0 1) 300 1) 301 1)))])) (va_A [(y, .inr (11, [.ref y0, .int y1, .int y2, .int 0, .ref y4, .ref y5, .ref y6, .ref y7, .ref y8, .ref y9, .int y10, .int y11, .int y12, .int y13, .int y14, .long y15, .int y16, .int 0, .ref y18, .ref y19, .ref y20, .ref y21, .ref y22, .ref y23, .ref y24, .ref y25, .ref y26, .ref y27, .ref y28, .ref y29, .ref y30, .ref y31, .ref y32, .ref y33, .ref y34, .ref y35, .ref y36, .ref y37, .ref y38, .ref y39, .ref y40, .ref y41, .ref y42, .ref y43, .ref y44, .ref y45, .ref y46, .int y47, .ref y48, .ref y49, .int y50, .int y51, .int y52, .int y53, .long y54, .int y55, .ref y56, .ref y57, .ref y58, .ref y59])), (y37, .inl (cT 0, 302, .inl af)), (y42, .inl (cT 0, 19, .inl lf)), (y49, .inl (cT 2, 3000, .inl df)), (y48, .inl (cT 2, 6000, .inl of)), (y31, .inl (cT 0, 302, .inl hf))] sz)) 0 0 (va_A [(y, .inr (11, [.ref y0, .int y1, .int y2, .int 0, .ref y4, .ref y5, .ref y6, .ref y7, .ref y8, .ref y9, .int y10, .int y11, .int y12, .int y13, .int y14, .long y15, .int y16, .int 0, .ref y18, .ref y19, .ref y20, .ref y21, .ref y22, .ref y23, .ref y24, .ref y25, .ref y26, .ref y27, .ref y28, .ref y29, .ref y30, .ref y31, .ref y32, .ref y33, .ref y34, .ref y35, .ref y36, .ref y37, .ref y38, .ref y39, .ref y40, .ref y41, .ref y42, .ref y43, .ref y44, .ref y45, .ref y46, .int y47, .ref y48, .ref y49, .int y50, .int y51, .int y52, .int y53, .long y54, .int y55, .ref y56, .ref y57, .ref y58, .ref y59])), (y37, .inl (cT 0, 302, .inl af)), (y42, .inl (cT 0, 19, .inl lf)), (y49, .inl (cT 2, 3000, .inl df)), (y48, .inl (cT 2, 6000, .inl of)), (y31, .inl (cT 0, 302, .inl hf))] sz) := by
  refine Met.ofW (cc := cM_error) (maxL := 4) (ret := (some .int)) (by decide) rfl ?_
  intro p e s m args below meth c s₁ B hml hv
  obtain ⟨rfl, hsz, hZ, hP, hK, hD0⟩ := hv
  have hx := B.exec
  have hb := B.bytes
  have hr := B.returns
  have hts := atoms_spec (ws := WM_error) B.pre
  have hT : ∀ w ∈ TB, w.before _ s = true := fun w h => hts w (List.mem_cons_of_mem _ h)
  have hown : s.vm.findClass R_M = some m.cls := findClass_of_methodNamed B.named
  have hlocks := B.notSynchronized
  subst hsz
  have hD := hD0.self (sz := s.heap.size)
  generalize hAe : va_A [(y, .inr (11, [.ref y0, .int y1, .int y2, .int 0, .ref y4, .ref y5, .ref y6, .ref y7, .ref y8, .ref y9, .int y10, .int y11, .int y12, .int y13, .int y14, .long y15, .int y16, .int 0, .ref y18, .ref y19, .ref y20, .ref y21, .ref y22, .ref y23, .ref y24, .ref y25, .ref y26, .ref y27, .ref y28, .ref y29, .ref y30, .ref y31, .ref y32, .ref y33, .ref y34, .ref y35, .ref y36, .ref y37, .ref y38, .ref y39, .ref y40, .ref y41, .ref y42, .ref y43, .ref y44, .ref y45, .ref y46, .int y47, .ref y48, .ref y49, .int y50, .int y51, .int y52, .int y53, .long y54, .int y55, .ref y56, .ref y57, .ref y58, .ref y59])), (y37, .inl (cT 0, 302, .inl af)), (y42, .inl (cT 0, 19, .inl lf)), (y49, .inl (cT 2, 3000, .inl df)), (y48, .inl (cT 2, 6000, .inl of)), (y31, .inl (cT 0, 302, .inl hf))] s.heap.size = A at hD hZ ⊢
  have hA : ∀ q : Nat, s.heap.size ≤ q → A q := fun q h => by rw [← hAe]; exact Or.inr h
  have hS : va_S A s.heap s.heap [] := va_S.rf
  have hl := lv_entry ([.ref y, .long a1, .int 0]) (n := 4) (Nat.le_of_ble_eq_true rfl)
  rw [lg_entry_eq]
  generalize (lg_sl ([.ref y, .long a1, .int 0]) ++ List.replicate (4 - (lg_sl ([.ref y, .long a1, .int 0])).length) Slot.unset).toArray = ls at hl ⊢
  have hl : lv_has ls 4 [(0, .ref y), (1, .long a1), (3, .int 0)] := hl
  refine lv_aload_n hx hb dM_error_0 rfl (lv_at hl 0 rfl) ?_
  refine lv_iload_n hx hb dM_error_1 rfl (lv_at hl 2 rfl) ?_
  refine lv_iconst (v := 0) hx hb dM_error_2 (by decide) ?_
  refine lv_aload_n hx hb dM_error_3 rfl (lv_at hl 0 rfl) ?_
  refine va_get (D := D) (ci := 11) (v := .int 0) (C := R_M) (T := T_M) (N := 60) hx hb hT in_M hown hK hP 0 rfl rfl 17 (by decide) (hT _ w1121) (fun _ h9 => h9) rfl dM_error_4 ?_
  refine ro_i (va_Run.run (va_runS (As := [.int 0, .int 0, .int 0]) (rest := [.ref y]) ⟨hx, hb, hml, hown, hT⟩ (y_in l D cT 0 0 0) ⟨callB_of 3 hT (tb_gd w1297) rfl rfl rfl (hT _ w13) (hT _ w1295) hM_in ⟨Nat.le_of_ble_eq_true rfl, Nat.le_of_ble_eq_true rfl⟩, (hT _ w1296)⟩ (RO.preS hZ hS ((show va_P D vwCl [] _ from fun _ _ h => nomatch h)) hK) rfl rfl hl.1 rfl (lv_room (Nat.le_of_ble_eq_true rfl)) dM_error_7 ⟨Nat.le_of_ble_eq_true rfl, Nat.le_of_ble_eq_true rfl⟩)) ?_
  refine lv_if_eq (tgt := 17) hx hb dM_error_10 rfl (fun hj1 => absurd hj1 (by rw [bi_t (by decide)]; decide)) (fun _ => ?_)
  refine lv_iconst (v := 0) hx hb dM_error_13 (by decide) ?_
  refine lv_goto (tgt := 18) hx hb dM_error_14 rfl ?_
  refine rw_i (wc := [(y, .inr (11, [.ref y0, .int y1, .int y2, .int 0, .ref y4, .ref y5, .ref y6, .ref y7, .ref y8, .ref y9, .int y10, .int y11, .int y12, .int y13, .int y14, .long y15, .int y16, .int 0, .ref y18, .ref y19, .ref y20, .ref y21, .ref y22, .ref y23, .ref y24, .ref y25, .ref y26, .ref y27, .ref y28, .ref y29, .ref y30, .ref y31, .ref y32, .ref y33, .ref y34, .ref y35, .ref y36, .ref y37, .ref y38, .ref y39, .ref y40, .ref y41, .ref y42, .ref y43, .ref y44, .ref y45, .ref y46, .int y47, .ref y48, .ref y49, .int y50, .int y51, .int y52, .int y53, .long y54, .int y55, .ref y56, .ref y57, .ref y58, .ref y59]))]) (wr := [(y37, .inl (cT 0, 302, .inl af)), (y42, .inl (cT 0, 19, .inl lf)), (y49, .inl (cT 2, 3000, .inl df)), (y48, .inl (cT 2, 6000, .inl of)), (y31, .inl (cT 0, 302, .inl hf))]) hP hD hS hA [0] [1, 2, 3, 4, 5] rfl rfl (by decide) (by decide) (va_runV (As := [.int 0]) (rest := []) ⟨hx, hb, hml, hown, hT⟩ (y_refused0 l D cT y y0 y1 y2 0 y4 y5 y6 y7 y8 y9 y10 y11 y12 y13 y14 y15 y16 0 y18 y19 y20 y21 y22 y23 y24 y25 y26 y27 y28 y29 y30 y31 y32 y33 y34 y35 y36 y37 y38 y39 y40 y41 y42 y43 y44 y45 y46 y47 y48 y49 y50 y51 y52 y53 y54 y55 y56 y57 y58 y59 _) ⟨callB_of 1 hT (tb_gd w1301) rfl rfl rfl (hT _ w13) (hT _ w1298) hM_refused ⟨Nat.le_of_ble_eq_true rfl, Nat.le_of_ble_eq_true rfl⟩, (hT _ w1300), (hT _ wp29)⟩ (RW.preV (ci := 11) (q0 := 0) hZ hS (va_free (wc := [(y, .inr (11, [.ref y0, .int y1, .int y2, .int 0, .ref y4, .ref y5, .ref y6, .ref y7, .ref y8, .ref y9, .int y10, .int y11, .int y12, .int y13, .int y14, .long y15, .int y16, .int 0, .ref y18, .ref y19, .ref y20, .ref y21, .ref y22, .ref y23, .ref y24, .ref y25, .ref y26, .ref y27, .ref y28, .ref y29, .ref y30, .ref y31, .ref y32, .ref y33, .ref y34, .ref y35, .ref y36, .ref y37, .ref y38, .ref y39, .ref y40, .ref y41, .ref y42, .ref y43, .ref y44, .ref y45, .ref y46, .int y47, .ref y48, .ref y49, .int y50, .int y51, .int y52, .int y53, .long y54, .int y55, .ref y56, .ref y57, .ref y58, .ref y59]))]) hD hS hA [0] rfl) (hP.sub (ws' := [(y, .inr (11, [.ref y0, .int y1, .int y2, .int 0, .ref y4, .ref y5, .ref y6, .ref y7, .ref y8, .ref y9, .int y10, .int y11, .int y12, .int y13, .int y14, .long y15, .int y16, .int 0, .ref y18, .ref y19, .ref y20, .ref y21, .ref y22, .ref y23, .ref y24, .ref y25, .ref y26, .ref y27, .ref y28, .ref y29, .ref y30, .ref y31, .ref y32, .ref y33, .ref y34, .ref y35, .ref y36, .ref y37, .ref y38, .ref y39, .ref y40, .ref y41, .ref y42, .ref y43, .ref y44, .ref y45, .ref y46, .int y47, .ref y48, .ref y49, .int y50, .int y51, .int y52, .int y53, .long y54, .int y55, .ref y56, .ref y57, .ref y58, .ref y59]))]) [0] rfl) hK (hD.sub (ws' := [(y, .inr (11, [.ref y0, .int y1, .int y2, .int 0, .ref y4, .ref y5, .ref y6, .ref y7, .ref y8, .ref y9, .int y10, .int y11, .int y12, .int y13, .int y14, .long y15, .int y16, .int 0, .ref y18, .ref y19, .ref y20, .ref y21, .ref y22, .ref y23, .ref y24, .ref y25, .ref y26, .ref y27, .ref y28, .ref y29, .ref y30, .ref y31, .ref y32, .ref y33, .ref y34, .ref y35, .ref y36, .ref y37, .ref y38, .ref y39, .ref y40, .ref y41, .ref y42, .ref y43, .ref y44, .ref y45, .ref y46, .int y47, .ref y48, .ref y49, .int y50, .int y51, .int y52, .int y53, .long y54, .int y55, .ref y56, .ref y57, .ref y58, .ref y59]))]) [0] (by decide) rfl) rfl rfl) rfl rfl hl.1 rfl (lv_room (Nat.le_of_ble_eq_true rfl)) dM_error_18 ⟨Nat.le_of_ble_eq_true rfl, Nat.le_of_ble_eq_true rfl⟩) (fun ru2 u2 H locs hpu2 hP hD hS => ?_)
  have hP : va_P D vwCl [(y37, .inl (cT 0, 302, .inl af)), (y42, .inl (cT 0, 19, .inl lf)), (y49, .inl (cT 2, 3000, .inl df)), (y48, .inl (cT 2, 6000, .inl of)), (y31, .inl (cT 0, 302, .inl hf)), (y, .inr (11, [.ref y0, .int 0, .int y2, .int 0, .ref y4, .ref y5, .ref y6, .ref y7, .ref y8, .ref y9, .int y10, .int y11, .int y12, .int y13, .int y14, .long y15, .int y16, .int 0, .ref y18, .ref y19, .ref y20, .ref y21, .ref y22, .ref y23, .ref y24, .ref y25, .ref y26, .ref y27, .ref y28, .ref y29, .ref y30, .ref y31, .ref y32, .ref y33, .ref y34, .ref y35, .ref y36, .ref y37, .ref y38, .ref y39, .ref y40, .ref y41, .ref y42, .ref y43, .ref y44, .ref y45, .ref y46, .int y47, .ref y48, .ref y49, .int y50, .int y51, .int y52, .int y53, .long y54, .int y55, .ref y56, .ref y57, .ref y58, .ref y59]))] H := hP
  have hD : va_D A [(y37, .inl (cT 0, 302, .inl af)), (y42, .inl (cT 0, 19, .inl lf)), (y49, .inl (cT 2, 3000, .inl df)), (y48, .inl (cT 2, 6000, .inl of)), (y31, .inl (cT 0, 302, .inl hf)), (y, .inr (11, [.ref y0, .int 0, .int y2, .int 0, .ref y4, .ref y5, .ref y6, .ref y7, .ref y8, .ref y9, .int y10, .int y11, .int y12, .int y13, .int y14, .long y15, .int y16, .int 0, .ref y18, .ref y19, .ref y20, .ref y21, .ref y22, .ref y23, .ref y24, .ref y25, .ref y26, .ref y27, .ref y28, .ref y29, .ref y30, .ref y31, .ref y32, .ref y33, .ref y34, .ref y35, .ref y36, .ref y37, .ref y38, .ref y39, .ref y40, .ref y41, .ref y42, .ref y43, .ref y44, .ref y45, .ref y46, .int y47, .ref y48, .ref y49, .int y50, .int y51, .int y52, .int y53, .long y54, .int y55, .ref y56, .ref y57, .ref y58, .ref y59]))] := hD
  rw [hpu2]
  refine lv_if_eq (tgt := 26) hx hb dM_error_21 rfl (fun _ => ?_) (fun hj3 => absurd (by decide) hj3)
  refine lv_aload_n hx hb dM_error_26 rfl (lv_at hl 0 rfl) ?_
  refine lv_lload_n hx hb dM_error_27 rfl (lv_at hl 1 rfl) ?_
  refine lv_iload_n hx hb dM_error_28 rfl (lv_at hl 2 rfl) ?_
  refine rw_v (wc := [(y, .inr (11, [.ref y0, .int 0, .int y2, .int 0, .ref y4, .ref y5, .ref y6, .ref y7, .ref y8, .ref y9, .int y10, .int y11, .int y12, .int y13, .int y14, .long y15, .int y16, .int 0, .ref y18, .ref y19, .ref y20, .ref y21, .ref y22, .ref y23, .ref y24, .ref y25, .ref y26, .ref y27, .ref y28, .ref y29, .ref y30, .ref y31, .ref y32, .ref y33, .ref y34, .ref y35, .ref y36, .ref y37, .ref y38, .ref y39, .ref y40, .ref y41, .ref y42, .ref y43, .ref y44, .ref y45, .ref y46, .int y47, .ref y48, .ref y49, .int y50, .int y51, .int y52, .int y53, .long y54, .int y55, .ref y56, .ref y57, .ref y58, .ref y59])), (y37, .inl (cT 0, 302, .inl af)), (y42, .inl (cT 0, 19, .inl lf))]) (wr := [(y49, .inl (cT 2, 3000, .inl df)), (y48, .inl (cT 2, 6000, .inl of)), (y31, .inl (cT 0, 302, .inl hf))]) hP hD hS hA [5, 0, 1] [2, 3, 4] rfl rfl (by decide) (by decide) (va_runV (As := [.long a1, .int 0]) (rest := []) ⟨hx, hb, hml, hown, hT⟩ (y_sumSquares0 l D cT y y0 0 y2 y4 y5 y6 y7 y8 y9 y10 y11 y12 y13 y14 y15 y16 0 y18 y19 y20 y21 y22 y23 y24 y25 y26 y27 y28 y29 y30 y31 y32 y33 y34 y35 y36 y37 y38 y39 y40 y41 y42 y43 y44 y45 y46 y47 y48 y49 y50 y51 y52 y53 y54 y55 y56 y57 y58 y59 af lf a1 0 _) ⟨callB_of 2 hT (tb_gd w1583) rfl rfl rfl (hT _ w13) (hT _ w1580) hM_sumSquares ⟨Nat.le_of_ble_eq_true rfl, Nat.le_of_ble_eq_true rfl⟩, (hT _ w1582), (hT _ wp64)⟩ (RW.preV (ci := 11) (q0 := 0) hZ hS (va_free (wc := [(y, .inr (11, [.ref y0, .int 0, .int y2, .int 0, .ref y4, .ref y5, .ref y6, .ref y7, .ref y8, .ref y9, .int y10, .int y11, .int y12, .int y13, .int y14, .long y15, .int y16, .int 0, .ref y18, .ref y19, .ref y20, .ref y21, .ref y22, .ref y23, .ref y24, .ref y25, .ref y26, .ref y27, .ref y28, .ref y29, .ref y30, .ref y31, .ref y32, .ref y33, .ref y34, .ref y35, .ref y36, .ref y37, .ref y38, .ref y39, .ref y40, .ref y41, .ref y42, .ref y43, .ref y44, .ref y45, .ref y46, .int y47, .ref y48, .ref y49, .int y50, .int y51, .int y52, .int y53, .long y54, .int y55, .ref y56, .ref y57, .ref y58, .ref y59])), (y37, .inl (cT 0, 302, .inl af)), (y42, .inl (cT 0, 19, .inl lf))]) hD hS hA [5, 0, 1] rfl) (hP.sub (ws' := [(y, .inr (11, [.ref y0, .int 0, .int y2, .int 0, .ref y4, .ref y5, .ref y6, .ref y7, .ref y8, .ref y9, .int y10, .int y11, .int y12, .int y13, .int y14, .long y15, .int y16, .int 0, .ref y18, .ref y19, .ref y20, .ref y21, .ref y22, .ref y23, .ref y24, .ref y25, .ref y26, .ref y27, .ref y28, .ref y29, .ref y30, .ref y31, .ref y32, .ref y33, .ref y34, .ref y35, .ref y36, .ref y37, .ref y38, .ref y39, .ref y40, .ref y41, .ref y42, .ref y43, .ref y44, .ref y45, .ref y46, .int y47, .ref y48, .ref y49, .int y50, .int y51, .int y52, .int y53, .long y54, .int y55, .ref y56, .ref y57, .ref y58, .ref y59])), (y37, .inl (cT 0, 302, .inl af)), (y42, .inl (cT 0, 19, .inl lf))]) [5, 0, 1] rfl) hK (hD.sub (ws' := [(y, .inr (11, [.ref y0, .int 0, .int y2, .int 0, .ref y4, .ref y5, .ref y6, .ref y7, .ref y8, .ref y9, .int y10, .int y11, .int y12, .int y13, .int y14, .long y15, .int y16, .int 0, .ref y18, .ref y19, .ref y20, .ref y21, .ref y22, .ref y23, .ref y24, .ref y25, .ref y26, .ref y27, .ref y28, .ref y29, .ref y30, .ref y31, .ref y32, .ref y33, .ref y34, .ref y35, .ref y36, .ref y37, .ref y38, .ref y39, .ref y40, .ref y41, .ref y42, .ref y43, .ref y44, .ref y45, .ref y46, .int y47, .ref y48, .ref y49, .int y50, .int y51, .int y52, .int y53, .long y54, .int y55, .ref y56, .ref y57, .ref y58, .ref y59])), (y37, .inl (cT 0, 302, .inl af)), (y42, .inl (cT 0, 19, .inl lf))]) [5, 0, 1] (by decide) rfl) rfl rfl) rfl rfl hl.1 rfl (lv_room (Nat.le_of_ble_eq_true rfl)) dM_error_29 ⟨Nat.le_of_ble_eq_true rfl, Nat.le_of_ble_eq_true rfl⟩) (fun u4 H locs hpu4 hP hD hS => ?_)
  have hP : va_P D vwCl [(y49, .inl (cT 2, 3000, .inl df)), (y48, .inl (cT 2, 6000, .inl of)), (y31, .inl (cT 0, 302, .inl hf)), (y, .inr (11, [.ref y0, .int 0, .int y2, .int 0, .ref y4, .ref y5, .ref y6, .ref y7, .ref y8, .ref y9, .int y10, .int y11, .int y12, .int y13, .int y14, .long y15, .int y16, .int 0, .ref y18, .ref y19, .ref y20, .ref y21, .ref y22, .ref y23, .ref y24, .ref y25, .ref y26, .ref y27, .ref y28, .ref y29, .ref y30, .ref y31, .ref y32, .ref y33, .ref y34, .ref y35, .ref y36, .ref y37, .ref y38, .ref y39, .ref y40, .ref y41, .ref y42, .ref y43, .ref y44, .ref y45, .ref y46, .int y47, .ref y48, .ref y49, .int y50, .int y51, .int y52, .int y53, .long y54, .int y55, .ref y56, .ref y57, .ref y58, .ref y59])), (y37, .inl (cT 0, 302, .inl (upd (upd af 300 0) 301 0))), (y42, .inl (cT 0, 19, .inl (upd (upd (upd (upd (upd (upd (upd (upd (upd (upd (upd (upd (upd (upd (upd (upd (upd (upd (upd lf 0 0) 1 0) 2 0) 3 0) 4 0) 5 0) 6 0) 7 0) 8 0) 9 0) 10 0) 11 0) 12 0) 13 0) 14 0) 15 0) 16 0) 17 0) 18 0)))] H := hP
  have hD : va_D A [(y49, .inl (cT 2, 3000, .inl df)), (y48, .inl (cT 2, 6000, .inl of)), (y31, .inl (cT 0, 302, .inl hf)), (y, .inr (11, [.ref y0, .int 0, .int y2, .int 0, .ref y4, .ref y5, .ref y6, .ref y7, .ref y8, .ref y9, .int y10, .int y11, .int y12, .int y13, .int y14, .long y15, .int y16, .int 0, .ref y18, .ref y19, .ref y20, .ref y21, .ref y22, .ref y23, .ref y24, .ref y25, .ref y26, .ref y27, .ref y28, .ref y29, .ref y30, .ref y31, .ref y32, .ref y33, .ref y34, .ref y35, .ref y36, .ref y37, .ref y38, .ref y39, .ref y40, .ref y41, .ref y42, .ref y43, .ref y44, .ref y45, .ref y46, .int y47, .ref y48, .ref y49, .int y50, .int y51, .int y52, .int y53, .long y54, .int y55, .ref y56, .ref y57, .ref y58, .ref y59])), (y37, .inl (cT 0, 302, .inl (upd (upd af 300 0) 301 0))), (y42, .inl (cT 0, 19, .inl (upd (upd (upd (upd (upd (upd (upd (upd (upd (upd (upd (upd (upd (upd (upd (upd (upd (upd (upd lf 0 0) 1 0) 2 0) 3 0) 4 0) 5 0) 6 0) 7 0) 8 0) 9 0) 10 0) 11 0) 12 0) 13 0) 14 0) 15 0) 16 0) 17 0) 18 0)))] := hD
  refine lv_aload_n hx hb dM_error_32 rfl (lv_at hl 0 rfl) ?_
  refine lv_aload_n hx hb dM_error_33 rfl (lv_at hl 0 rfl) ?_
  refine va_get (D := D) (ci := 11) (v := .ref y37) (C := R_M) (T := T_M) (N := 60) hx hb hT in_M hown hK hP 3 rfl rfl 37 (by decide) (hT _ w1141) (fun _ h9 => h9) rfl dM_error_34 ?_
  refine lv_aload_n hx hb dM_error_37 rfl (lv_at hl 0 rfl) ?_
  refine va_get (D := D) (ci := 11) (v := .ref y42) (C := R_M) (T := T_M) (N := 60) hx hb hT in_M hown hK hP 3 rfl rfl 42 (by decide) (hT _ w1146) (fun _ h9 => h9) rfl dM_error_38 ?_
  refine rw_i (wc := [(y, .inr (11, [.ref y0, .int 0, .int y2, .int 0, .ref y4, .ref y5, .ref y6, .ref y7, .ref y8, .ref y9, .int y10, .int y11, .int y12, .int y13, .int y14, .long y15, .int y16, .int 0, .ref y18, .ref y19, .ref y20, .ref y21, .ref y22, .ref y23, .ref y24, .ref y25, .ref y26, .ref y27, .ref y28, .ref y29, .ref y30, .ref y31, .ref y32, .ref y33, .ref y34, .ref y35, .ref y36, .ref y37, .ref y38, .ref y39, .ref y40, .ref y41, .ref y42, .ref y43, .ref y44, .ref y45, .ref y46, .int y47, .ref y48, .ref y49, .int y50, .int y51, .int y52, .int y53, .long y54, .int y55, .ref y56, .ref y57, .ref y58, .ref y59])), (y37, .inl (cT 0, 302, .inl (upd (upd af 300 0) 301 0))), (y42, .inl (cT 0, 19, .inl (upd (upd (upd (upd (upd (upd (upd (upd (upd (upd (upd (upd (upd (upd (upd (upd (upd (upd (upd lf 0 0) 1 0) 2 0) 3 0) 4 0) 5 0) 6 0) 7 0) 8 0) 9 0) 10 0) 11 0) 12 0) 13 0) 14 0) 15 0) 16 0) 17 0) 18 0))), (y49, .inl (cT 2, 3000, .inl df)), (y48, .inl (cT 2, 6000, .inl of)), (y31, .inl (cT 0, 302, .inl hf))]) (wr := []) hP hD hS hA [3, 4, 5, 0, 1, 2] [] rfl rfl (by decide) (by decide) (va_runV (As := [.ref y37, .ref y42]) (rest := []) ⟨hx, hb, hml, hown, hT⟩ (y_write0 l D cT y y0 0 y2 0 y4 y5 y6 y7 y8 y9 y10 y11 y12 y13 y14 y15 y16 0 y18 y19 y20 y21 y22 y23 y24 y25 y26 y27 y28 y29 y30 y31 y32 y33 y34 y35 y36 y37 y38 y39 y40 y41 y42 y43 y44 y45 y46 y47 y48 y49 y50 y51 y52 y53 y54 y55 y56 y57 y58 y59 y37 (upd (upd af 300 0) 301 0) y42 (upd (upd (upd (upd (upd (upd (upd (upd (upd (upd (upd (upd (upd (upd (upd (upd (upd (upd (upd lf 0 0) 1 0) 2 0) 3 0) 4 0) 5 0) 6 0) 7 0) 8 0) 9 0) 10 0) 11 0) 12 0) 13 0) 14 0) 15 0) 16 0) 17 0) 18 0) df of hf rfl rfl (fun k hk => match k, hk with | 0, _ => rfl | 1, _ => rfl | 2, _ => rfl | 3, _ => rfl | 4, _ => rfl | 5, _ => rfl | 6, _ => rfl | 7, _ => rfl | 8, _ => rfl | 9, _ => rfl | 10, _ => rfl | 11, _ => rfl | 12, _ => rfl | 13, _ => rfl | 14, _ => rfl | 15, _ => rfl | 16, _ => rfl | 17, _ => rfl | 18, _ => rfl | _ + 19, hk => absurd hk (by omega)) _) ⟨callB_of 2 hT (tb_gd w1559) rfl rfl rfl (hT _ w13) (hT _ w1556) hM_write ⟨Nat.le_of_ble_eq_true rfl, Nat.le_of_ble_eq_true rfl⟩, (hT _ w1558), (hT _ wp62)⟩ (RW.preV (ci := 11) (q0 := 0) hZ hS (va_free (wc := [(y, .inr (11, [.ref y0, .int 0, .int y2, .int 0, .ref y4, .ref y5, .ref y6, .ref y7, .ref y8, .ref y9, .int y10, .int y11, .int y12, .int y13, .int y14, .long y15, .int y16, .int 0, .ref y18, .ref y19, .ref y20, .ref y21, .ref y22, .ref y23, .ref y24, .ref y25, .ref y26, .ref y27, .ref y28, .ref y29, .ref y30, .ref y31, .ref y32, .ref y33, .ref y34, .ref y35, .ref y36, .ref y37, .ref y38, .ref y39, .ref y40, .ref y41, .ref y42, .ref y43, .ref y44, .ref y45, .ref y46, .int y47, .ref y48, .ref y49, .int y50, .int y51, .int y52, .int y53, .long y54, .int y55, .ref y56, .ref y57, .ref y58, .ref y59])), (y37, .inl (cT 0, 302, .inl (upd (upd af 300 0) 301 0))), (y42, .inl (cT 0, 19, .inl (upd (upd (upd (upd (upd (upd (upd (upd (upd (upd (upd (upd (upd (upd (upd (upd (upd (upd (upd lf 0 0) 1 0) 2 0) 3 0) 4 0) 5 0) 6 0) 7 0) 8 0) 9 0) 10 0) 11 0) 12 0) 13 0) 14 0) 15 0) 16 0) 17 0) 18 0))), (y49, .inl (cT 2, 3000, .inl df)), (y48, .inl (cT 2, 6000, .inl of)), (y31, .inl (cT 0, 302, .inl hf))]) hD hS hA [3, 4, 5, 0, 1, 2] rfl) (hP.sub (ws' := [(y, .inr (11, [.ref y0, .int 0, .int y2, .int 0, .ref y4, .ref y5, .ref y6, .ref y7, .ref y8, .ref y9, .int y10, .int y11, .int y12, .int y13, .int y14, .long y15, .int y16, .int 0, .ref y18, .ref y19, .ref y20, .ref y21, .ref y22, .ref y23, .ref y24, .ref y25, .ref y26, .ref y27, .ref y28, .ref y29, .ref y30, .ref y31, .ref y32, .ref y33, .ref y34, .ref y35, .ref y36, .ref y37, .ref y38, .ref y39, .ref y40, .ref y41, .ref y42, .ref y43, .ref y44, .ref y45, .ref y46, .int y47, .ref y48, .ref y49, .int y50, .int y51, .int y52, .int y53, .long y54, .int y55, .ref y56, .ref y57, .ref y58, .ref y59])), (y37, .inl (cT 0, 302, .inl (upd (upd af 300 0) 301 0))), (y42, .inl (cT 0, 19, .inl (upd (upd (upd (upd (upd (upd (upd (upd (upd (upd (upd (upd (upd (upd (upd (upd (upd (upd (upd lf 0 0) 1 0) 2 0) 3 0) 4 0) 5 0) 6 0) 7 0) 8 0) 9 0) 10 0) 11 0) 12 0) 13 0) 14 0) 15 0) 16 0) 17 0) 18 0))), (y49, .inl (cT 2, 3000, .inl df)), (y48, .inl (cT 2, 6000, .inl of)), (y31, .inl (cT 0, 302, .inl hf))]) [3, 4, 5, 0, 1, 2] rfl) hK (hD.sub (ws' := [(y, .inr (11, [.ref y0, .int 0, .int y2, .int 0, .ref y4, .ref y5, .ref y6, .ref y7, .ref y8, .ref y9, .int y10, .int y11, .int y12, .int y13, .int y14, .long y15, .int y16, .int 0, .ref y18, .ref y19, .ref y20, .ref y21, .ref y22, .ref y23, .ref y24, .ref y25, .ref y26, .ref y27, .ref y28, .ref y29, .ref y30, .ref y31, .ref y32, .ref y33, .ref y34, .ref y35, .ref y36, .ref y37, .ref y38, .ref y39, .ref y40, .ref y41, .ref y42, .ref y43, .ref y44, .ref y45, .ref y46, .int y47, .ref y48, .ref y49, .int y50, .int y51, .int y52, .int y53, .long y54, .int y55, .ref y56, .ref y57, .ref y58, .ref y59])), (y37, .inl (cT 0, 302, .inl (upd (upd af 300 0) 301 0))), (y42, .inl (cT 0, 19, .inl (upd (upd (upd (upd (upd (upd (upd (upd (upd (upd (upd (upd (upd (upd (upd (upd (upd (upd (upd lf 0 0) 1 0) 2 0) 3 0) 4 0) 5 0) 6 0) 7 0) 8 0) 9 0) 10 0) 11 0) 12 0) 13 0) 14 0) 15 0) 16 0) 17 0) 18 0))), (y49, .inl (cT 2, 3000, .inl df)), (y48, .inl (cT 2, 6000, .inl of)), (y31, .inl (cT 0, 302, .inl hf))]) [3, 4, 5, 0, 1, 2] (by decide) rfl) rfl rfl) rfl rfl hl.1 rfl (lv_room (Nat.le_of_ble_eq_true rfl)) dM_error_41 ⟨Nat.le_of_ble_eq_true rfl, Nat.le_of_ble_eq_true rfl⟩) (fun ru5 u5 H locs hpu5 hP hD hS => ?_)
  have hP : va_P D vwCl [(y42, .inl (cT 0, 19, .inl (upd (upd (upd (upd (upd (upd (upd (upd (upd (upd (upd (upd (upd (upd (upd (upd (upd (upd (upd lf 0 0) 1 0) 2 0) 3 0) 4 0) 5 0) 6 0) 7 0) 8 0) 9 0) 10 0) 11 0) 12 0) 13 0) 14 0) 15 0) 16 0) 17 0) 18 0))), (y, .inr (11, [.ref y0, .int 0, .int y2, .int 0, .ref y4, .ref y5, .ref y6, .ref y7, .ref y8, .ref y9, .int y10, .int y11, .int y12, .int y13, .int y14, .long y15, .int y16, .int 0, .ref y18, .ref y19, .ref y20, .ref y21, .ref y22, .ref y23, .ref y24, .ref y25, .ref y26, .ref y27, .ref y28, .ref y29, .ref y30, .ref y31, .ref y32, .ref y33, .ref y34, .ref y35, .ref y36, .ref y37, .ref y38, .ref y39, .ref y40, .ref y41, .ref y42, .ref y43, .ref y44, .ref y45, .ref y46, .int 1, .ref y48, .ref y49, .int y50, .int y51, .int y52, .int y53, .long y54, .int y55, .ref y56, .ref y57, .ref y58, .ref y59])), (y49, .inl (cT 2, 3000, .inl (upd (upd (upd (upd df 0 (vp_nar .byte 48)) 1 (vp_nar .byte 48)) 2 (vp_nar .byte 48)) 3 (vp_nar .byte 48)))), (y48, .inl (cT 2, 6000, .inl (upd of 0 (vp_nar .byte 48)))), (y37, .inl (cT 0, 302, .inl (upd (upd (upd (upd af 300 0) 301 0) 300 0) 301 0))), (y31, .inl (cT 0, 302, .inl (upd (upd (upd hf 0 1) 300 1) 301 1)))] H := hP
  have hD : va_D A [(y42, .inl (cT 0, 19, .inl (upd (upd (upd (upd (upd (upd (upd (upd (upd (upd (upd (upd (upd (upd (upd (upd (upd (upd (upd lf 0 0) 1 0) 2 0) 3 0) 4 0) 5 0) 6 0) 7 0) 8 0) 9 0) 10 0) 11 0) 12 0) 13 0) 14 0) 15 0) 16 0) 17 0) 18 0))), (y, .inr (11, [.ref y0, .int 0, .int y2, .int 0, .ref y4, .ref y5, .ref y6, .ref y7, .ref y8, .ref y9, .int y10, .int y11, .int y12, .int y13, .int y14, .long y15, .int y16, .int 0, .ref y18, .ref y19, .ref y20, .ref y21, .ref y22, .ref y23, .ref y24, .ref y25, .ref y26, .ref y27, .ref y28, .ref y29, .ref y30, .ref y31, .ref y32, .ref y33, .ref y34, .ref y35, .ref y36, .ref y37, .ref y38, .ref y39, .ref y40, .ref y41, .ref y42, .ref y43, .ref y44, .ref y45, .ref y46, .int 1, .ref y48, .ref y49, .int y50, .int y51, .int y52, .int y53, .long y54, .int y55, .ref y56, .ref y57, .ref y58, .ref y59])), (y49, .inl (cT 2, 3000, .inl (upd (upd (upd (upd df 0 (vp_nar .byte 48)) 1 (vp_nar .byte 48)) 2 (vp_nar .byte 48)) 3 (vp_nar .byte 48)))), (y48, .inl (cT 2, 6000, .inl (upd of 0 (vp_nar .byte 48)))), (y37, .inl (cT 0, 302, .inl (upd (upd (upd (upd af 300 0) 301 0) 300 0) 301 0))), (y31, .inl (cT 0, 302, .inl (upd (upd (upd hf 0 1) 300 1) 301 1)))] := hD
  rw [hpu5]
  have hP9 := hP.sub (ws' := [(y42, .inl (cT 0, 19, .inl (upd (upd (upd (upd (upd (upd (upd (upd (upd (upd (upd (upd (upd (upd (upd (upd (upd (upd (upd lf 0 0) 1 0) 2 0) 3 0) 4 0) 5 0) 6 0) 7 0) 8 0) 9 0) 10 0) 11 0) 12 0) 13 0) 14 0) 15 0) 16 0) 17 0) 18 0))), (y, .inr (11, [.ref y0, .int 0, .int y2, .int 0, .ref y4, .ref y5, .ref y6, .ref y7, .ref y8, .ref y9, .int y10, .int y11, .int y12, .int y13, .int y14, .long y15, .int y16, .int 0, .ref y18, .ref y19, .ref y20, .ref y21, .ref y22, .ref y23, .ref y24, .ref y25, .ref y26, .ref y27, .ref y28, .ref y29, .ref y30, .ref y31, .ref y32, .ref y33, .ref y34, .ref y35, .ref y36, .ref y37, .ref y38, .ref y39, .ref y40, .ref y41, .ref y42, .ref y43, .ref y44, .ref y45, .ref y46, .int 1, .ref y48, .ref y49, .int y50, .int y51, .int y52, .int y53, .long y54, .int y55, .ref y56, .ref y57, .ref y58, .ref y59])), (y49, .inl (cT 2, 3000, .inl (upd (upd (upd (upd df 0 (vp_nar .byte 48)) 1 (vp_nar .byte 48)) 2 (vp_nar .byte 48)) 3 (vp_nar .byte 48)))), (y48, .inl (cT 2, 6000, .inl (upd of 0 (vp_nar .byte 48)))), (y37, .inl (cT 0, 302, .inl (upd (upd (upd (upd af 300 0) 301 0) 300 0) 301 0))), (y31, .inl (cT 0, 302, .inl (upd (upd (upd hf 0 1) 300 1) 301 1)))]) [0, 1, 2, 3, 4, 5] rfl
  have hD9 := hD.sub (ws' := [(y42, .inl (cT 0, 19, .inl (upd (upd (upd (upd (upd (upd (upd (upd (upd (upd (upd (upd (upd (upd (upd (upd (upd (upd (upd lf 0 0) 1 0) 2 0) 3 0) 4 0) 5 0) 6 0) 7 0) 8 0) 9 0) 10 0) 11 0) 12 0) 13 0) 14 0) 15 0) 16 0) 17 0) 18 0))), (y, .inr (11, [.ref y0, .int 0, .int y2, .int 0, .ref y4, .ref y5, .ref y6, .ref y7, .ref y8, .ref y9, .int y10, .int y11, .int y12, .int y13, .int y14, .long y15, .int y16, .int 0, .ref y18, .ref y19, .ref y20, .ref y21, .ref y22, .ref y23, .ref y24, .ref y25, .ref y26, .ref y27, .ref y28, .ref y29, .ref y30, .ref y31, .ref y32, .ref y33, .ref y34, .ref y35, .ref y36, .ref y37, .ref y38, .ref y39, .ref y40, .ref y41, .ref y42, .ref y43, .ref y44, .ref y45, .ref y46, .int 1, .ref y48, .ref y49, .int y50, .int y51, .int y52, .int y53, .long y54, .int y55, .ref y56, .ref y57, .ref y58, .ref y59])), (y49, .inl (cT 2, 3000, .inl (upd (upd (upd (upd df 0 (vp_nar .byte 48)) 1 (vp_nar .byte 48)) 2 (vp_nar .byte 48)) 3 (vp_nar .byte 48)))), (y48, .inl (cT 2, 6000, .inl (upd of 0 (vp_nar .byte 48)))), (y37, .inl (cT 0, 302, .inl (upd (upd (upd (upd af 300 0) 301 0) 300 0) 301 0))), (y31, .inl (cT 0, 302, .inl (upd (upd (upd hf 0 1) 300 1) 301 1)))]) [0, 1, 2, 3, 4, 5] (by decide) rfl
  refine W.widen (k := 0) (n := 0) (Nat.le_of_ble_eq_true rfl) (Nat.le_of_ble_eq_true rfl) ?_
  exact W.iret (v := 1) hx hb hr (fun t ht hW => ⟨⟨1, (fun _ => 0), rfl, rfl, by rw [ht]; exact hP9, hD9⟩, hS.F ht⟩) hS.2.2 dM_error_44
set_option maxHeartbeats 4000000 in
set_option maxRecDepth 100000 in
theorem y_best (l : Launch) (D : va_G) (cT : Nat → ClassId) (y : Nat) (y0 : Nat) (y1 : Int32) (y2 : Int32) (y4 : Nat) (y5 : Nat) (y6 : Nat) (y7 : Nat) (y8 : Nat) (y9 : Nat) (y10 : Int32) (y11 : Int32) (y12 : Int32) (y13 : Int32) (y14 : Int32) (y15 : Int64) (y16 : Int32) (y18 : Nat) (y19 : Nat) (y20 : Nat) (y21 : Nat) (y22 : Nat) (y23 : Nat) (y24 : Nat) (y25 : Nat) (y26 : Nat) (y27 : Nat) (y28 : Nat) (y29 : Nat) (y30 : Nat) (y31 : Nat) (y32 : Nat) (y33 : Nat) (y34 : Nat) (y35 : Nat) (y36 : Nat) (y37 : Nat) (y38 : Nat) (y39 : Nat) (y40 : Nat) (y41 : Nat) (y42 : Nat) (y43 : Nat) (y44 : Nat) (y45 : Nat) (y46 : Nat) (y47 : Int32) (y48 : Nat) (y49 : Nat) (y50 : Int32) (y51 : Int32) (y52 : Int32) (y53 : Int32) (y54 : Int64) (y55 : Int32) (y56 : Nat) (y57 : Nat) (y58 : Nat) (y59 : Nat) (af : Nat → Int32) (lf : Nat → Int32) (bf : Nat → Int32) (rf : Nat → Int32) (a1 : Int64) (sz : Nat) : Met l yM_best WM_best ({ frames := 2, cells := 0, slots := 0, locals := 50 } : Room) (RW D vwCl [.ref y, .long a1] [(y, .inr (11, [.ref y0, .int y1, .int y2, .int 0, .ref y4, .ref y5, .ref y6, .ref y7, .ref y8, .ref y9, .int y10, .int y11, .int y12, .int y13, .int y14, .long y15, .int y16, .int 0, .ref y18, .ref y19, .ref y20, .ref y21, .ref y22, .ref y23, .ref y24, .ref y25, .ref y26, .ref y27, .ref y28, .ref y29, .ref y30, .ref y31, .ref y32, .ref y33, .ref y34, .ref y35, .ref y36, .ref y37, .ref y38, .ref y39, .ref y40, .ref y41, .ref y42, .ref y43, .ref y44, .ref y45, .ref y46, .int y47, .ref y48, .ref y49, .int y50, .int y51, .int y52, .int y53, .long y54, .int y55, .ref y56, .ref y57, .ref y58, .ref y59])), (y37, .inl (cT 0, 302, .inl af)), (y42, .inl (cT 0, 19, .inl lf)), (y38, .inl (cT 0, 302, .inl bf)), (y43, .inl (cT 0, 19, .inl rf))] (TY cT) sz) (va_Qi (fun (r : Int32) (_ : Nat → Nat) => r = 0) (BW D vwCl (va_A [(y, .inr (11, [.ref y0, .int y1, .int y2, .int 0, .ref y4, .ref y5, .ref y6, .ref y7, .ref y8, .ref y9, .int y10, .int y11, .int y12, .int y13, .int y14, .long y15, .int y16, .int 0, .ref y18, .ref y19, .ref y20, .ref y21, .ref y22, .ref y23, .ref y24, .ref y25, .ref y26, .ref y27, .ref y28, .ref y29, .ref y30, .ref y31, .ref y32, .ref y33, .ref y34, .ref y35, .ref y36, .ref y37, .ref y38, .ref y39, .ref y40, .ref y41, .ref y42, .ref y43, .ref y44, .ref y45, .ref y46, .int y47, .ref y48, .ref y49, .int y50, .int y51, .int y52, .int y53, .long y54, .int y55, .ref y56, .ref y57, .ref y58, .ref y59])), (y37, .inl (cT 0, 302, .inl af)), (y42, .inl (cT 0, 19, .inl lf)), (y38, .inl (cT 0, 302, .inl bf)), (y43, .inl (cT 0, 19, .inl rf))] sz) (fun u => [(y, .inr (11, [.ref y0, .int 0, .int y2, .int 0, .ref y4, .ref y5, .ref y6, .ref y7, .ref y8, .ref y9, .int y10, .int y11, .int y12, .int y13, .int y14, .long y15, .int y16, .int 0, .ref y18, .ref y19, .ref y20, .ref y21, .ref y22, .ref y23, .ref y24, .ref y25, .ref y26, .ref y27, .ref y28, .ref y29, .ref y30, .ref y31, .ref y32, .ref y33, .ref y34, .ref y35, .ref y36, .ref y37, .ref y38, .ref y39, .ref y40, .ref y41, .ref y42, .ref y43, .ref y44, .ref y45, .ref y46, .int y47, .ref y48, .ref y49, .int y50, .int y51, .int y52, .int y53, .long y54, .int y55, .ref y56, .ref y57, .ref y58, .ref y59])), (y37, .inl (cT 0, 302, .inl (upd (upd af 300 0) 301 0))), (y38, .inl (cT 0, 302, .inl (upd (upd bf 300 0) 301 0))), (y42, .inl (cT 0, 19, .inl (upd (upd (upd (upd (upd (upd (upd (upd (upd (upd (upd (upd (upd (upd (upd (upd (upd (upd (upd lf 0 0) 1 0) 2 0) 3 0) 4 0) 5 0) 6 0) 7 0) 8 0) 9 0) 10 0) 11 0) 12 0) 13 0) 14 0) 15 0) 16 0) 17 0) 18 0))), (y43, .inl (cT 0, 19, .inl (upd (upd (upd (upd (upd (upd (upd (upd (upd (upd (upd (upd (upd (upd (upd (upd (upd (upd (upd rf 0 ((upd (upd (upd (upd (upd (upd (upd (upd (upd (upd (upd (upd (upd (upd (upd (upd (upd (upd (upd lf 0 0) 1 0) 2 0) 3 0) 4 0) 5 0) 6 0) 7 0) 8 0) 9 0) 10 0) 11 0) 12 0) 13 0) 14 0) 15 0) 16 0) 17 0) 18 0) 0)) 1 ((upd (upd (upd (upd (upd (upd (upd (upd (upd (upd (upd (upd (upd (upd (upd (upd (upd (upd (upd lf 0 0) 1 0) 2 0) 3 0) 4 0) 5 0) 6 0) 7 0) 8 0) 9 0) 10 0) 11 0) 12 0) 13 0) 14 0) 15 0) 16 0) 17 0) 18 0) 1)) 2 ((upd (upd (upd (upd (upd (upd (upd (upd (upd (upd (upd (upd (upd (upd (upd (upd (upd (upd (upd lf 0 0) 1 0) 2 0) 3 0) 4 0) 5 0) 6 0) 7 0) 8 0) 9 0) 10 0) 11 0) 12 0) 13 0) 14 0) 15 0) 16 0) 17 0) 18 0) 2)) 3 ((upd (upd (upd (upd (upd (upd (upd (upd (upd (upd (upd (upd (upd (upd (upd (upd (upd (upd (upd lf 0 0) 1 0) 2 0) 3 0) 4 0) 5 0) 6 0) 7 0) 8 0) 9 0) 10 0) 11 0) 12 0) 13 0) 14 0) 15 0) 16 0) 17 0) 18 0) 3)) 4 ((upd (upd (upd (upd (upd (upd (upd (upd (upd (upd (upd (upd (upd (upd (upd (upd (upd (upd (upd lf 0 0) 1 0) 2 0) 3 0) 4 0) 5 0) 6 0) 7 0) 8 0) 9 0) 10 0) 11 0) 12 0) 13 0) 14 0) 15 0) 16 0) 17 0) 18 0) 4)) 5 ((upd (upd (upd (upd (upd (upd (upd (upd (upd (upd (upd (upd (upd (upd (upd (upd (upd (upd (upd lf 0 0) 1 0) 2 0) 3 0) 4 0) 5 0) 6 0) 7 0) 8 0) 9 0) 10 0) 11 0) 12 0) 13 0) 14 0) 15 0) 16 0) 17 0) 18 0) 5)) 6 ((upd (upd (upd (upd (upd (upd (upd (upd (upd (upd (upd (upd (upd (upd (upd (upd (upd (upd (upd lf 0 0) 1 0) 2 0) 3 0) 4 0) 5 0) 6 0) 7 0) 8 0) 9 0) 10 0) 11 0) 12 0) 13 0) 14 0) 15 0) 16 0) 17 0) 18 0) 6)) 7 ((upd (upd (upd (upd (upd (upd (upd (upd (upd (upd (upd (upd (upd (upd (upd (upd (upd (upd (upd lf 0 0) 1 0) 2 0) 3 0) 4 0) 5 0) 6 0) 7 0) 8 0) 9 0) 10 0) 11 0) 12 0) 13 0) 14 0) 15 0) 16 0) 17 0) 18 0) 7)) 8 ((upd (upd (upd (upd (upd (upd (upd (upd (upd (upd (upd (upd (upd (upd (upd (upd (upd (upd (upd lf 0 0) 1 0) 2 0) 3 0) 4 0) 5 0) 6 0) 7 0) 8 0) 9 0) 10 0) 11 0) 12 0) 13 0) 14 0) 15 0) 16 0) 17 0) 18 0) 8)) 9 ((upd (upd (upd (upd (upd (upd (upd (upd (upd (upd (upd (upd (upd (upd (upd (upd (upd (upd (upd lf 0 0) 1 0) 2 0) 3 0) 4 0) 5 0) 6 0) 7 0) 8 0) 9 0) 10 0) 11 0) 12 0) 13 0) 14 0) 15 0) 16 0) 17 0) 18 0) 9)) 10 ((upd (upd (upd (upd (upd (upd (upd (upd (upd (upd (upd (upd (upd (upd (upd (upd (upd (upd (upd lf 0 0) 1 0) 2 0) 3 0) 4 0) 5 0) 6 0) 7 0) 8 0) 9 0) 10 0) 11 0) 12 0) 13 0) 14 0) 15 0) 16 0) 17 0) 18 0) 10)) 11 ((upd (upd (upd (upd (upd (upd (upd (upd (upd (upd (upd (upd (upd (upd (upd (upd (upd (upd (upd lf 0 0) 1 0) 2 0) 3 0) 4 0) 5 0) 6 0) 7 0) 8 0) 9 0) 10 0) 11 0) 12 0) 13 0) 14 0) 15 0) 16 0) 17 0) 18 0) 11)) 12 ((upd (upd (upd (upd (upd (upd (upd (upd (upd (upd (upd (upd (upd (upd (upd (upd (upd (upd (upd lf 0 0) 1 0) 2 0) 3 0) 4 0) 5 0) 6 0) 7 0) 8 0) 9 0) 10 0) 11 0) 12 0) 13 0) 14 0) 15 0) 16 0) 17 0) 18 0) 12)) 13 ((upd (upd (upd (upd (upd (upd (upd (upd (upd (upd (upd (upd (upd (upd (upd (upd (upd (upd (upd lf 0 0) 1 0) 2 0) 3 0) 4 0) 5 0) 6 0) 7 0) 8 0) 9 0) 10 0) 11 0) 12 0) 13 0) 14 0) 15 0) 16 0) 17 0) 18 0) 13)) 14 ((upd (upd (upd (upd (upd (upd (upd (upd (upd (upd (upd (upd (upd (upd (upd (upd (upd (upd (upd lf 0 0) 1 0) 2 0) 3 0) 4 0) 5 0) 6 0) 7 0) 8 0) 9 0) 10 0) 11 0) 12 0) 13 0) 14 0) 15 0) 16 0) 17 0) 18 0) 14)) 15 ((upd (upd (upd (upd (upd (upd (upd (upd (upd (upd (upd (upd (upd (upd (upd (upd (upd (upd (upd lf 0 0) 1 0) 2 0) 3 0) 4 0) 5 0) 6 0) 7 0) 8 0) 9 0) 10 0) 11 0) 12 0) 13 0) 14 0) 15 0) 16 0) 17 0) 18 0) 15)) 16 ((upd (upd (upd (upd (upd (upd (upd (upd (upd (upd (upd (upd (upd (upd (upd (upd (upd (upd (upd lf 0 0) 1 0) 2 0) 3 0) 4 0) 5 0) 6 0) 7 0) 8 0) 9 0) 10 0) 11 0) 12 0) 13 0) 14 0) 15 0) 16 0) 17 0) 18 0) 16)) 17 ((upd (upd (upd (upd (upd (upd (upd (upd (upd (upd (upd (upd (upd (upd (upd (upd (upd (upd (upd lf 0 0) 1 0) 2 0) 3 0) 4 0) 5 0) 6 0) 7 0) 8 0) 9 0) 10 0) 11 0) 12 0) 13 0) 14 0) 15 0) 16 0) 17 0) 18 0) 17)) 18 ((upd (upd (upd (upd (upd (upd (upd (upd (upd (upd (upd (upd (upd (upd (upd (upd (upd (upd (upd lf 0 0) 1 0) 2 0) 3 0) 4 0) 5 0) 6 0) 7 0) 8 0) 9 0) 10 0) 11 0) 12 0) 13 0) 14 0) 15 0) 16 0) 17 0) 18 0) 18))))])) (va_A [(y, .inr (11, [.ref y0, .int y1, .int y2, .int 0, .ref y4, .ref y5, .ref y6, .ref y7, .ref y8, .ref y9, .int y10, .int y11, .int y12, .int y13, .int y14, .long y15, .int y16, .int 0, .ref y18, .ref y19, .ref y20, .ref y21, .ref y22, .ref y23, .ref y24, .ref y25, .ref y26, .ref y27, .ref y28, .ref y29, .ref y30, .ref y31, .ref y32, .ref y33, .ref y34, .ref y35, .ref y36, .ref y37, .ref y38, .ref y39, .ref y40, .ref y41, .ref y42, .ref y43, .ref y44, .ref y45, .ref y46, .int y47, .ref y48, .ref y49, .int y50, .int y51, .int y52, .int y53, .long y54, .int y55, .ref y56, .ref y57, .ref y58, .ref y59])), (y37, .inl (cT 0, 302, .inl af)), (y42, .inl (cT 0, 19, .inl lf)), (y38, .inl (cT 0, 302, .inl bf)), (y43, .inl (cT 0, 19, .inl rf))] sz)) 0 0 (va_A [(y, .inr (11, [.ref y0, .int y1, .int y2, .int 0, .ref y4, .ref y5, .ref y6, .ref y7, .ref y8, .ref y9, .int y10, .int y11, .int y12, .int y13, .int y14, .long y15, .int y16, .int 0, .ref y18, .ref y19, .ref y20, .ref y21, .ref y22, .ref y23, .ref y24, .ref y25, .ref y26, .ref y27, .ref y28, .ref y29, .ref y30, .ref y31, .ref y32, .ref y33, .ref y34, .ref y35, .ref y36, .ref y37, .ref y38, .ref y39, .ref y40, .ref y41, .ref y42, .ref y43, .ref y44, .ref y45, .ref y46, .int y47, .ref y48, .ref y49, .int y50, .int y51, .int y52, .int y53, .long y54, .int y55, .ref y56, .ref y57, .ref y58, .ref y59])), (y37, .inl (cT 0, 302, .inl af)), (y42, .inl (cT 0, 19, .inl lf)), (y38, .inl (cT 0, 302, .inl bf)), (y43, .inl (cT 0, 19, .inl rf))] sz) := by
  refine Met.ofW (cc := cM_best) (maxL := 5) (ret := (some .int)) (by decide) rfl ?_
  intro p e s m args below meth c s₁ B hml hv
  obtain ⟨rfl, hsz, hZ, hP, hK, hD0⟩ := hv
  have hx := B.exec
  have hb := B.bytes
  have hr := B.returns
  have hts := atoms_spec (ws := WM_best) B.pre
  have hT : ∀ w ∈ TB, w.before _ s = true := fun w h => hts w (List.mem_cons_of_mem _ h)
  have hown : s.vm.findClass R_M = some m.cls := findClass_of_methodNamed B.named
  have hlocks := B.notSynchronized
  subst hsz
  have hD := hD0.self (sz := s.heap.size)
  generalize hAe : va_A [(y, .inr (11, [.ref y0, .int y1, .int y2, .int 0, .ref y4, .ref y5, .ref y6, .ref y7, .ref y8, .ref y9, .int y10, .int y11, .int y12, .int y13, .int y14, .long y15, .int y16, .int 0, .ref y18, .ref y19, .ref y20, .ref y21, .ref y22, .ref y23, .ref y24, .ref y25, .ref y26, .ref y27, .ref y28, .ref y29, .ref y30, .ref y31, .ref y32, .ref y33, .ref y34, .ref y35, .ref y36, .ref y37, .ref y38, .ref y39, .ref y40, .ref y41, .ref y42, .ref y43, .ref y44, .ref y45, .ref y46, .int y47, .ref y48, .ref y49, .int y50, .int y51, .int y52, .int y53, .long y54, .int y55, .ref y56, .ref y57, .ref y58, .ref y59])), (y37, .inl (cT 0, 302, .inl af)), (y42, .inl (cT 0, 19, .inl lf)), (y38, .inl (cT 0, 302, .inl bf)), (y43, .inl (cT 0, 19, .inl rf))] s.heap.size = A at hD hZ ⊢
  have hA : ∀ q : Nat, s.heap.size ≤ q → A q := fun q h => by rw [← hAe]; exact Or.inr h
  have hS : va_S A s.heap s.heap [] := va_S.rf
  have hl := lv_entry ([.ref y, .long a1]) (n := 5) (Nat.le_of_ble_eq_true rfl)
  rw [lg_entry_eq]
  generalize (lg_sl ([.ref y, .long a1]) ++ List.replicate (5 - (lg_sl ([.ref y, .long a1])).length) Slot.unset).toArray = ls at hl ⊢
  have hl : lv_has ls 5 [(0, .ref y), (1, .long a1)] := hl
  refine lv_aload_n hx hb dM_best_0 rfl (lv_at hl 0 rfl) ?_
  refine lv_iconst (v := 0) hx hb dM_best_1 (by decide) ?_
  refine va_put (D := D) (ci := 11) (v := .int 0) (ty := .int) (C := R_M) (T := T_M) (N := 60) hx hb hT in_M ty_M ty_M_ok m_M hown hK hP hD hS 0 rfl rfl 1 (by decide) (hT _ w1105) (fun _ h9 => h9) rfl (by decide +kernel) rfl rfl (Nat.le_of_ble_eq_true rfl) dM_best_2 (fun H locs hP hD hS => ?_)
  have hP : va_P D vwCl [(y, .inr (11, [.ref y0, .int 0, .int y2, .int 0, .ref y4, .ref y5, .ref y6, .ref y7, .ref y8, .ref y9, .int y10, .int y11, .int y12, .int y13, .int y14, .long y15, .int y16, .int 0, .ref y18, .ref y19, .ref y20, .ref y21, .ref y22, .ref y23, .ref y24, .ref y25, .ref y26, .ref y27, .ref y28, .ref y29, .ref y30, .ref y31, .ref y32, .ref y33, .ref y34, .ref y35, .ref y36, .ref y37, .ref y38, .ref y39, .ref y40, .ref y41, .ref y42, .ref y43, .ref y44, .ref y45, .ref y46, .int y47, .ref y48, .ref y49, .int y50, .int y51, .int y52, .int y53, .long y54, .int y55, .ref y56, .ref y57, .ref y58, .ref y59])), (y37, .inl (cT 0, 302, .inl af)), (y42, .inl (cT 0, 19, .inl lf)), (y38, .inl (cT 0, 302, .inl bf)), (y43, .inl (cT 0, 19, .inl rf))] H := hP
  have hD : va_D A [(y, .inr (11, [.ref y0, .int 0, .int y2, .int 0, .ref y4, .ref y5, .ref y6, .ref y7, .ref y8, .ref y9, .int y10, .int y11, .int y12, .int y13, .int y14, .long y15, .int y16, .int 0, .ref y18, .ref y19, .ref y20, .ref y21, .ref y22, .ref y23, .ref y24, .ref y25, .ref y26, .ref y27, .ref y28, .ref y29, .ref y30, .ref y31, .ref y32, .ref y33, .ref y34, .ref y35, .ref y36, .ref y37, .ref y38, .ref y39, .ref y40, .ref y41, .ref y42, .ref y43, .ref y44, .ref y45, .ref y46, .int y47, .ref y48, .ref y49, .int y50, .int y51, .int y52, .int y53, .long y54, .int y55, .ref y56, .ref y57, .ref y58, .ref y59])), (y37, .inl (cT 0, 302, .inl af)), (y42, .inl (cT 0, 19, .inl lf)), (y38, .inl (cT 0, 302, .inl bf)), (y43, .inl (cT 0, 19, .inl rf))] := hD
  refine lv_iconst (v := 0) hx hb dM_best_5 (by decide) ?_
  refine lv_istore_n hx hb dM_best_6 rfl hl (by decide) rfl (fun ls hl => ?_)
  have hl : lv_has ls 5 [(3, .int 0), (0, .ref y), (1, .long a1)] := hl
  refine lv_aload_n hx hb dM_best_7 rfl (lv_at hl 1 rfl) ?_
  refine lv_lload_n hx hb dM_best_8 rfl (lv_at hl 2 rfl) ?_
  refine lv_iconst (v := 0) hx hb dM_best_9 (by decide) ?_
  refine rw_v (wc := [(y, .inr (11, [.ref y0, .int 0, .int y2, .int 0, .ref y4, .ref y5, .ref y6, .ref y7, .ref y8, .ref y9, .int y10, .int y11, .int y12, .int y13, .int y14, .long y15, .int y16, .int 0, .ref y18, .ref y19, .ref y20, .ref y21, .ref y22, .ref y23, .ref y24, .ref y25, .ref y26, .ref y27, .ref y28, .ref y29, .ref y30, .ref y31, .ref y32, .ref y33, .ref y34, .ref y35, .ref y36, .ref y37, .ref y38, .ref y39, .ref y40, .ref y41, .ref y42, .ref y43, .ref y44, .ref y45, .ref y46, .int y47, .ref y48, .ref y49, .int y50, .int y51, .int y52, .int y53, .long y54, .int y55, .ref y56, .ref y57, .ref y58, .ref y59])), (y37, .inl (cT 0, 302, .inl af)), (y42, .inl (cT 0, 19, .inl lf))]) (wr := [(y38, .inl (cT 0, 302, .inl bf)), (y43, .inl (cT 0, 19, .inl rf))]) hP hD hS hA [0, 1, 2] [3, 4] rfl rfl (by decide) (by decide) (va_runV (As := [.long a1, .int 0]) (rest := []) ⟨hx, hb, hml, hown, hT⟩ (y_sumSquares0 l D cT y y0 0 y2 y4 y5 y6 y7 y8 y9 y10 y11 y12 y13 y14 y15 y16 0 y18 y19 y20 y21 y22 y23 y24 y25 y26 y27 y28 y29 y30 y31 y32 y33 y34 y35 y36 y37 y38 y39 y40 y41 y42 y43 y44 y45 y46 y47 y48 y49 y50 y51 y52 y53 y54 y55 y56 y57 y58 y59 af lf a1 0 _) ⟨callB_of 2 hT (tb_gd w1583) rfl rfl rfl (hT _ w13) (hT _ w1580) hM_sumSquares ⟨Nat.le_of_ble_eq_true rfl, Nat.le_of_ble_eq_true rfl⟩, (hT _ w1582), (hT _ wp64)⟩ (RW.preV (ci := 11) (q0 := 0) hZ hS (va_free (wc := [(y, .inr (11, [.ref y0, .int 0, .int y2, .int 0, .ref y4, .ref y5, .ref y6, .ref y7, .ref y8, .ref y9, .int y10, .int y11, .int y12, .int y13, .int y14, .long y15, .int y16, .int 0, .ref y18, .ref y19, .ref y20, .ref y21, .ref y22, .ref y23, .ref y24, .ref y25, .ref y26, .ref y27, .ref y28, .ref y29, .ref y30, .ref y31, .ref y32, .ref y33, .ref y34, .ref y35, .ref y36, .ref y37, .ref y38, .ref y39, .ref y40, .ref y41, .ref y42, .ref y43, .ref y44, .ref y45, .ref y46, .int y47, .ref y48, .ref y49, .int y50, .int y51, .int y52, .int y53, .long y54, .int y55, .ref y56, .ref y57, .ref y58, .ref y59])), (y37, .inl (cT 0, 302, .inl af)), (y42, .inl (cT 0, 19, .inl lf))]) hD hS hA [0, 1, 2] rfl) (hP.sub (ws' := [(y, .inr (11, [.ref y0, .int 0, .int y2, .int 0, .ref y4, .ref y5, .ref y6, .ref y7, .ref y8, .ref y9, .int y10, .int y11, .int y12, .int y13, .int y14, .long y15, .int y16, .int 0, .ref y18, .ref y19, .ref y20, .ref y21, .ref y22, .ref y23, .ref y24, .ref y25, .ref y26, .ref y27, .ref y28, .ref y29, .ref y30, .ref y31, .ref y32, .ref y33, .ref y34, .ref y35, .ref y36, .ref y37, .ref y38, .ref y39, .ref y40, .ref y41, .ref y42, .ref y43, .ref y44, .ref y45, .ref y46, .int y47, .ref y48, .ref y49, .int y50, .int y51, .int y52, .int y53, .long y54, .int y55, .ref y56, .ref y57, .ref y58, .ref y59])), (y37, .inl (cT 0, 302, .inl af)), (y42, .inl (cT 0, 19, .inl lf))]) [0, 1, 2] rfl) hK (hD.sub (ws' := [(y, .inr (11, [.ref y0, .int 0, .int y2, .int 0, .ref y4, .ref y5, .ref y6, .ref y7, .ref y8, .ref y9, .int y10, .int y11, .int y12, .int y13, .int y14, .long y15, .int y16, .int 0, .ref y18, .ref y19, .ref y20, .ref y21, .ref y22, .ref y23, .ref y24, .ref y25, .ref y26, .ref y27, .ref y28, .ref y29, .ref y30, .ref y31, .ref y32, .ref y33, .ref y34, .ref y35, .ref y36, .ref y37, .ref y38, .ref y39, .ref y40, .ref y41, .ref y42, .ref y43, .ref y44, .ref y45, .ref y46, .int y47, .ref y48, .ref y49, .int y50, .int y51, .int y52, .int y53, .long y54, .int y55, .ref y56, .ref y57, .ref y58, .ref y59])), (y37, .inl (cT 0, 302, .inl af)), (y42, .inl (cT 0, 19, .inl lf))]) [0, 1, 2] (by decide) rfl) rfl rfl) rfl rfl hl.1 rfl (lv_room (Nat.le_of_ble_eq_true rfl)) dM_best_10 ⟨Nat.le_of_ble_eq_true rfl, Nat.le_of_ble_eq_true rfl⟩) (fun u1 H locs hpu1 hP hD hS => ?_)
  have hP : va_P D vwCl [(y38, .inl (cT 0, 302, .inl bf)), (y43, .inl (cT 0, 19, .inl rf)), (y, .inr (11, [.ref y0, .int 0, .int y2, .int 0, .ref y4, .ref y5, .ref y6, .ref y7, .ref y8, .ref y9, .int y10, .int y11, .int y12, .int y13, .int y14, .long y15, .int y16, .int 0, .ref y18, .ref y19, .ref y20, .ref y21, .ref y22, .ref y23, .ref y24, .ref y25, .ref y26, .ref y27, .ref y28, .ref y29, .ref y30, .ref y31, .ref y32, .ref y33, .ref y34, .ref y35, .ref y36, .ref y37, .ref y38, .ref y39, .ref y40, .ref y41, .ref y42, .ref y43, .ref y44, .ref y45, .ref y46, .int y47, .ref y48, .ref y49, .int y50, .int y51, .int y52, .int y53, .long y54, .int y55, .ref y56, .ref y57, .ref y58, .ref y59])), (y37, .inl (cT 0, 302, .inl (upd (upd af 300 0) 301 0))), (y42, .inl (cT 0, 19, .inl (upd (upd (upd (upd (upd (upd (upd (upd (upd (upd (upd (upd (upd (upd (upd (upd (upd (upd (upd lf 0 0) 1 0) 2 0) 3 0) 4 0) 5 0) 6 0) 7 0) 8 0) 9 0) 10 0) 11 0) 12 0) 13 0) 14 0) 15 0) 16 0) 17 0) 18 0)))] H := hP
  have hD : va_D A [(y38, .inl (cT 0, 302, .inl bf)), (y43, .inl (cT 0, 19, .inl rf)), (y, .inr (11, [.ref y0, .int 0, .int y2, .int 0, .ref y4, .ref y5, .ref y6, .ref y7, .ref y8, .ref y9, .int y10, .int y11, .int y12, .int y13, .int y14, .long y15, .int y16, .int 0, .ref y18, .ref y19, .ref y20, .ref y21, .ref y22, .ref y23, .ref y24, .ref y25, .ref y26, .ref y27, .ref y28, .ref y29, .ref y30, .ref y31, .ref y32, .ref y33, .ref y34, .ref y35, .ref y36, .ref y37, .ref y38, .ref y39, .ref y40, .ref y41, .ref y42, .ref y43, .ref y44, .ref y45, .ref y46, .int y47, .ref y48, .ref y49, .int y50, .int y51, .int y52, .int y53, .long y54, .int y55, .ref y56, .ref y57, .ref y58, .ref y59])), (y37, .inl (cT 0, 302, .inl (upd (upd af 300 0) 301 0))), (y42, .inl (cT 0, 19, .inl (upd (upd (upd (upd (upd (upd (upd (upd (upd (upd (upd (upd (upd (upd (upd (upd (upd (upd (upd lf 0 0) 1 0) 2 0) 3 0) 4 0) 5 0) 6 0) 7 0) 8 0) 9 0) 10 0) 11 0) 12 0) 13 0) 14 0) 15 0) 16 0) 17 0) 18 0)))] := hD
  refine lv_aload_n hx hb dM_best_13 rfl (lv_at hl 1 rfl) ?_
  refine va_get (D := D) (ci := 11) (v := .ref y37) (C := R_M) (T := T_M) (N := 60) hx hb hT in_M hown hK hP 2 rfl rfl 37 (by decide) (hT _ w1141) (fun _ h9 => h9) rfl dM_best_14 ?_
  refine lv_aload_n hx hb dM_best_17 rfl (lv_at hl 1 rfl) ?_
  refine va_get (D := D) (ci := 11) (v := .ref y38) (C := R_M) (T := T_M) (N := 60) hx hb hT in_M hown hK hP 2 rfl rfl 38 (by decide) (hT _ w1142) (fun _ h9 => h9) rfl dM_best_18 ?_
  refine rw_v (wc := [(y37, .inl (cT 0, 302, .inl (upd (upd af 300 0) 301 0))), (y38, .inl (cT 0, 302, .inl bf))]) (wr := [(y43, .inl (cT 0, 19, .inl rf)), (y, .inr (11, [.ref y0, .int 0, .int y2, .int 0, .ref y4, .ref y5, .ref y6, .ref y7, .ref y8, .ref y9, .int y10, .int y11, .int y12, .int y13, .int y14, .long y15, .int y16, .int 0, .ref y18, .ref y19, .ref y20, .ref y21, .ref y22, .ref y23, .ref y24, .ref y25, .ref y26, .ref y27, .ref y28, .ref y29, .ref y30, .ref y31, .ref y32, .ref y33, .ref y34, .ref y35, .ref y36, .ref y37, .ref y38, .ref y39, .ref y40, .ref y41, .ref y42, .ref y43, .ref y44, .ref y45, .ref y46, .int y47, .ref y48, .ref y49, .int y50, .int y51, .int y52, .int y53, .long y54, .int y55, .ref y56, .ref y57, .ref y58, .ref y59])), (y42, .inl (cT 0, 19, .inl (upd (upd (upd (upd (upd (upd (upd (upd (upd (upd (upd (upd (upd (upd (upd (upd (upd (upd (upd lf 0 0) 1 0) 2 0) 3 0) 4 0) 5 0) 6 0) 7 0) 8 0) 9 0) 10 0) 11 0) 12 0) 13 0) 14 0) 15 0) 16 0) 17 0) 18 0)))]) hP hD hS hA [3, 0] [1, 2, 4] rfl rfl (by decide) (by decide) (va_runS (As := [.ref y37, .ref y38]) (rest := []) ⟨hx, hb, hml, hown, hT⟩ (y_copy0 l D cT y37 (upd (upd af 300 0) 301 0) y38 bf rfl rfl _) ⟨callB_of 2 hT (tb_gd w1426) rfl rfl rfl (hT _ w13) (hT _ w1424) hM_copy ⟨Nat.le_of_ble_eq_true rfl, Nat.le_of_ble_eq_true rfl⟩, (hT _ w1425)⟩ (RW.preS hZ hS (va_free (wc := [(y37, .inl (cT 0, 302, .inl (upd (upd af 300 0) 301 0))), (y38, .inl (cT 0, 302, .inl bf))]) hD hS hA [3, 0] rfl) (hP.sub (ws' := [(y37, .inl (cT 0, 302, .inl (upd (upd af 300 0) 301 0))), (y38, .inl (cT 0, 302, .inl bf))]) [3, 0] rfl) hK (hD.sub (ws' := [(y37, .inl (cT 0, 302, .inl (upd (upd af 300 0) 301 0))), (y38, .inl (cT 0, 302, .inl bf))]) [3, 0] (by decide) rfl)) rfl rfl hl.1 rfl (lv_room (Nat.le_of_ble_eq_true rfl)) dM_best_21 ⟨Nat.le_of_ble_eq_true rfl, Nat.le_of_ble_eq_true rfl⟩) (fun u2 H locs hpu2 hP hD hS => ?_)
  have hP : va_P D vwCl [(y43, .inl (cT 0, 19, .inl rf)), (y, .inr (11, [.ref y0, .int 0, .int y2, .int 0, .ref y4, .ref y5, .ref y6, .ref y7, .ref y8, .ref y9, .int y10, .int y11, .int y12, .int y13, .int y14, .long y15, .int y16, .int 0, .ref y18, .ref y19, .ref y20, .ref y21, .ref y22, .ref y23, .ref y24, .ref y25, .ref y26, .ref y27, .ref y28, .ref y29, .ref y30, .ref y31, .ref y32, .ref y33, .ref y34, .ref y35, .ref y36, .ref y37, .ref y38, .ref y39, .ref y40, .ref y41, .ref y42, .ref y43, .ref y44, .ref y45, .ref y46, .int y47, .ref y48, .ref y49, .int y50, .int y51, .int y52, .int y53, .long y54, .int y55, .ref y56, .ref y57, .ref y58, .ref y59])), (y42, .inl (cT 0, 19, .inl (upd (upd (upd (upd (upd (upd (upd (upd (upd (upd (upd (upd (upd (upd (upd (upd (upd (upd (upd lf 0 0) 1 0) 2 0) 3 0) 4 0) 5 0) 6 0) 7 0) 8 0) 9 0) 10 0) 11 0) 12 0) 13 0) 14 0) 15 0) 16 0) 17 0) 18 0))), (y37, .inl (cT 0, 302, .inl (upd (upd af 300 0) 301 0))), (y38, .inl (cT 0, 302, .inl (upd (upd bf 300 0) 301 0)))] H := hP
  have hD : va_D A [(y43, .inl (cT 0, 19, .inl rf)), (y, .inr (11, [.ref y0, .int 0, .int y2, .int 0, .ref y4, .ref y5, .ref y6, .ref y7, .ref y8, .ref y9, .int y10, .int y11, .int y12, .int y13, .int y14, .long y15, .int y16, .int 0, .ref y18, .ref y19, .ref y20, .ref y21, .ref y22, .ref y23, .ref y24, .ref y25, .ref y26, .ref y27, .ref y28, .ref y29, .ref y30, .ref y31, .ref y32, .ref y33, .ref y34, .ref y35, .ref y36, .ref y37, .ref y38, .ref y39, .ref y40, .ref y41, .ref y42, .ref y43, .ref y44, .ref y45, .ref y46, .int y47, .ref y48, .ref y49, .int y50, .int y51, .int y52, .int y53, .long y54, .int y55, .ref y56, .ref y57, .ref y58, .ref y59])), (y42, .inl (cT 0, 19, .inl (upd (upd (upd (upd (upd (upd (upd (upd (upd (upd (upd (upd (upd (upd (upd (upd (upd (upd (upd lf 0 0) 1 0) 2 0) 3 0) 4 0) 5 0) 6 0) 7 0) 8 0) 9 0) 10 0) 11 0) 12 0) 13 0) 14 0) 15 0) 16 0) 17 0) 18 0))), (y37, .inl (cT 0, 302, .inl (upd (upd af 300 0) 301 0))), (y38, .inl (cT 0, 302, .inl (upd (upd bf 300 0) 301 0)))] := hD
  refine lv_aload_n hx hb dM_best_24 rfl (lv_at hl 1 rfl) ?_
  refine va_get (D := D) (ci := 11) (v := .ref y42) (C := R_M) (T := T_M) (N := 60) hx hb hT in_M hown hK hP 1 rfl rfl 42 (by decide) (hT _ w1146) (fun _ h9 => h9) rfl dM_best_25 ?_
  refine lv_aload_n hx hb dM_best_28 rfl (lv_at hl 1 rfl) ?_
  refine va_get (D := D) (ci := 11) (v := .ref y43) (C := R_M) (T := T_M) (N := 60) hx hb hT in_M hown hK hP 1 rfl rfl 43 (by decide) (hT _ w1147) (fun _ h9 => h9) rfl dM_best_29 ?_
  refine lv_iconst (v := 0) hx hb dM_best_32 (by decide) ?_
  refine rw_v (wc := [(y42, .inl (cT 0, 19, .inl (upd (upd (upd (upd (upd (upd (upd (upd (upd (upd (upd (upd (upd (upd (upd (upd (upd (upd (upd lf 0 0) 1 0) 2 0) 3 0) 4 0) 5 0) 6 0) 7 0) 8 0) 9 0) 10 0) 11 0) 12 0) 13 0) 14 0) 15 0) 16 0) 17 0) 18 0))), (y43, .inl (cT 0, 19, .inl rf))]) (wr := [(y, .inr (11, [.ref y0, .int 0, .int y2, .int 0, .ref y4, .ref y5, .ref y6, .ref y7, .ref y8, .ref y9, .int y10, .int y11, .int y12, .int y13, .int y14, .long y15, .int y16, .int 0, .ref y18, .ref y19, .ref y20, .ref y21, .ref y22, .ref y23, .ref y24, .ref y25, .ref y26, .ref y27, .ref y28, .ref y29, .ref y30, .ref y31, .ref y32, .ref y33, .ref y34, .ref y35, .ref y36, .ref y37, .ref y38, .ref y39, .ref y40, .ref y41, .ref y42, .ref y43, .ref y44, .ref y45, .ref y46, .int y47, .ref y48, .ref y49, .int y50, .int y51, .int y52, .int y53, .long y54, .int y55, .ref y56, .ref y57, .ref y58, .ref y59])), (y37, .inl (cT 0, 302, .inl (upd (upd af 300 0) 301 0))), (y38, .inl (cT 0, 302, .inl (upd (upd bf 300 0) 301 0)))]) hP hD hS hA [2, 0] [1, 3, 4] rfl rfl (by decide) (by decide) (va_runS (As := [.ref y42, .ref y43, .int 0]) (rest := []) ⟨hx, hb, hml, hown, hT⟩ (y_storeLows l D cT y42 (upd (upd (upd (upd (upd (upd (upd (upd (upd (upd (upd (upd (upd (upd (upd (upd (upd (upd (upd lf 0 0) 1 0) 2 0) 3 0) 4 0) 5 0) 6 0) 7 0) 8 0) 9 0) 10 0) 11 0) 12 0) 13 0) 14 0) 15 0) 16 0) 17 0) 18 0) y43 rf _) ⟨callB_of 3 hT (tb_gd w1452) rfl rfl rfl (hT _ w13) (hT _ w1450) hM_storeLows ⟨Nat.le_of_ble_eq_true rfl, Nat.le_of_ble_eq_true rfl⟩, (hT _ w1451)⟩ (RW.preS hZ hS (va_free (wc := [(y42, .inl (cT 0, 19, .inl (upd (upd (upd (upd (upd (upd (upd (upd (upd (upd (upd (upd (upd (upd (upd (upd (upd (upd (upd lf 0 0) 1 0) 2 0) 3 0) 4 0) 5 0) 6 0) 7 0) 8 0) 9 0) 10 0) 11 0) 12 0) 13 0) 14 0) 15 0) 16 0) 17 0) 18 0))), (y43, .inl (cT 0, 19, .inl rf))]) hD hS hA [2, 0] rfl) (hP.sub (ws' := [(y42, .inl (cT 0, 19, .inl (upd (upd (upd (upd (upd (upd (upd (upd (upd (upd (upd (upd (upd (upd (upd (upd (upd (upd (upd lf 0 0) 1 0) 2 0) 3 0) 4 0) 5 0) 6 0) 7 0) 8 0) 9 0) 10 0) 11 0) 12 0) 13 0) 14 0) 15 0) 16 0) 17 0) 18 0))), (y43, .inl (cT 0, 19, .inl rf))]) [2, 0] rfl) hK (hD.sub (ws' := [(y42, .inl (cT 0, 19, .inl (upd (upd (upd (upd (upd (upd (upd (upd (upd (upd (upd (upd (upd (upd (upd (upd (upd (upd (upd lf 0 0) 1 0) 2 0) 3 0) 4 0) 5 0) 6 0) 7 0) 8 0) 9 0) 10 0) 11 0) 12 0) 13 0) 14 0) 15 0) 16 0) 17 0) 18 0))), (y43, .inl (cT 0, 19, .inl rf))]) [2, 0] (by decide) rfl)) rfl rfl hl.1 rfl (lv_room (Nat.le_of_ble_eq_true rfl)) dM_best_33 ⟨Nat.le_of_ble_eq_true rfl, Nat.le_of_ble_eq_true rfl⟩) (fun u3 H locs hpu3 hP hD hS => ?_)
  have hP : va_P D vwCl [(y, .inr (11, [.ref y0, .int 0, .int y2, .int 0, .ref y4, .ref y5, .ref y6, .ref y7, .ref y8, .ref y9, .int y10, .int y11, .int y12, .int y13, .int y14, .long y15, .int y16, .int 0, .ref y18, .ref y19, .ref y20, .ref y21, .ref y22, .ref y23, .ref y24, .ref y25, .ref y26, .ref y27, .ref y28, .ref y29, .ref y30, .ref y31, .ref y32, .ref y33, .ref y34, .ref y35, .ref y36, .ref y37, .ref y38, .ref y39, .ref y40, .ref y41, .ref y42, .ref y43, .ref y44, .ref y45, .ref y46, .int y47, .ref y48, .ref y49, .int y50, .int y51, .int y52, .int y53, .long y54, .int y55, .ref y56, .ref y57, .ref y58, .ref y59])), (y37, .inl (cT 0, 302, .inl (upd (upd af 300 0) 301 0))), (y38, .inl (cT 0, 302, .inl (upd (upd bf 300 0) 301 0))), (y42, .inl (cT 0, 19, .inl (upd (upd (upd (upd (upd (upd (upd (upd (upd (upd (upd (upd (upd (upd (upd (upd (upd (upd (upd lf 0 0) 1 0) 2 0) 3 0) 4 0) 5 0) 6 0) 7 0) 8 0) 9 0) 10 0) 11 0) 12 0) 13 0) 14 0) 15 0) 16 0) 17 0) 18 0))), (y43, .inl (cT 0, 19, .inl (upd (upd (upd (upd (upd (upd (upd (upd (upd (upd (upd (upd (upd (upd (upd (upd (upd (upd (upd rf 0 ((upd (upd (upd (upd (upd (upd (upd (upd (upd (upd (upd (upd (upd (upd (upd (upd (upd (upd (upd lf 0 0) 1 0) 2 0) 3 0) 4 0) 5 0) 6 0) 7 0) 8 0) 9 0) 10 0) 11 0) 12 0) 13 0) 14 0) 15 0) 16 0) 17 0) 18 0) 0)) 1 ((upd (upd (upd (upd (upd (upd (upd (upd (upd (upd (upd (upd (upd (upd (upd (upd (upd (upd (upd lf 0 0) 1 0) 2 0) 3 0) 4 0) 5 0) 6 0) 7 0) 8 0) 9 0) 10 0) 11 0) 12 0) 13 0) 14 0) 15 0) 16 0) 17 0) 18 0) 1)) 2 ((upd (upd (upd (upd (upd (upd (upd (upd (upd (upd (upd (upd (upd (upd (upd (upd (upd (upd (upd lf 0 0) 1 0) 2 0) 3 0) 4 0) 5 0) 6 0) 7 0) 8 0) 9 0) 10 0) 11 0) 12 0) 13 0) 14 0) 15 0) 16 0) 17 0) 18 0) 2)) 3 ((upd (upd (upd (upd (upd (upd (upd (upd (upd (upd (upd (upd (upd (upd (upd (upd (upd (upd (upd lf 0 0) 1 0) 2 0) 3 0) 4 0) 5 0) 6 0) 7 0) 8 0) 9 0) 10 0) 11 0) 12 0) 13 0) 14 0) 15 0) 16 0) 17 0) 18 0) 3)) 4 ((upd (upd (upd (upd (upd (upd (upd (upd (upd (upd (upd (upd (upd (upd (upd (upd (upd (upd (upd lf 0 0) 1 0) 2 0) 3 0) 4 0) 5 0) 6 0) 7 0) 8 0) 9 0) 10 0) 11 0) 12 0) 13 0) 14 0) 15 0) 16 0) 17 0) 18 0) 4)) 5 ((upd (upd (upd (upd (upd (upd (upd (upd (upd (upd (upd (upd (upd (upd (upd (upd (upd (upd (upd lf 0 0) 1 0) 2 0) 3 0) 4 0) 5 0) 6 0) 7 0) 8 0) 9 0) 10 0) 11 0) 12 0) 13 0) 14 0) 15 0) 16 0) 17 0) 18 0) 5)) 6 ((upd (upd (upd (upd (upd (upd (upd (upd (upd (upd (upd (upd (upd (upd (upd (upd (upd (upd (upd lf 0 0) 1 0) 2 0) 3 0) 4 0) 5 0) 6 0) 7 0) 8 0) 9 0) 10 0) 11 0) 12 0) 13 0) 14 0) 15 0) 16 0) 17 0) 18 0) 6)) 7 ((upd (upd (upd (upd (upd (upd (upd (upd (upd (upd (upd (upd (upd (upd (upd (upd (upd (upd (upd lf 0 0) 1 0) 2 0) 3 0) 4 0) 5 0) 6 0) 7 0) 8 0) 9 0) 10 0) 11 0) 12 0) 13 0) 14 0) 15 0) 16 0) 17 0) 18 0) 7)) 8 ((upd (upd (upd (upd (upd (upd (upd (upd (upd (upd (upd (upd (upd (upd (upd (upd (upd (upd (upd lf 0 0) 1 0) 2 0) 3 0) 4 0) 5 0) 6 0) 7 0) 8 0) 9 0) 10 0) 11 0) 12 0) 13 0) 14 0) 15 0) 16 0) 17 0) 18 0) 8)) 9 ((upd (upd (upd (upd (upd (upd (upd (upd (upd (upd (upd (upd (upd (upd (upd (upd (upd (upd (upd lf 0 0) 1 0) 2 0) 3 0) 4 0) 5 0) 6 0) 7 0) 8 0) 9 0) 10 0) 11 0) 12 0) 13 0) 14 0) 15 0) 16 0) 17 0) 18 0) 9)) 10 ((upd (upd (upd (upd (upd (upd (upd (upd (upd (upd (upd (upd (upd (upd (upd (upd (upd (upd (upd lf 0 0) 1 0) 2 0) 3 0) 4 0) 5 0) 6 0) 7 0) 8 0) 9 0) 10 0) 11 0) 12 0) 13 0) 14 0) 15 0) 16 0) 17 0) 18 0) 10)) 11 ((upd (upd (upd (upd (upd (upd (upd (upd (upd (upd (upd (upd (upd (upd (upd (upd (upd (upd (upd lf 0 0) 1 0) 2 0) 3 0) 4 0) 5 0) 6 0) 7 0) 8 0) 9 0) 10 0) 11 0) 12 0) 13 0) 14 0) 15 0) 16 0) 17 0) 18 0) 11)) 12 ((upd (upd (upd (upd (upd (upd (upd (upd (upd (upd (upd (upd (upd (upd (upd (upd (upd (upd (upd lf 0 0) 1 0) 2 0) 3 0) 4 0) 5 0) 6 0) 7 0) 8 0) 9 0) 10 0) 11 0) 12 0) 13 0) 14 0) 15 0) 16 0) 17 0) 18 0) 12)) 13 ((upd (upd (upd (upd (upd (upd (upd (upd (upd (upd (upd (upd (upd (upd (upd (upd (upd (upd (upd lf 0 0) 1 0) 2 0) 3 0) 4 0) 5 0) 6 0) 7 0) 8 0) 9 0) 10 0) 11 0) 12 0) 13 0) 14 0) 15 0) 16 0) 17 0) 18 0) 13)) 14 ((upd (upd (upd (upd (upd (upd (upd (upd (upd (upd (upd (upd (upd (upd (upd (upd (upd (upd (upd lf 0 0) 1 0) 2 0) 3 0) 4 0) 5 0) 6 0) 7 0) 8 0) 9 0) 10 0) 11 0) 12 0) 13 0) 14 0) 15 0) 16 0) 17 0) 18 0) 14)) 15 ((upd (upd (upd (upd (upd (upd (upd (upd (upd (upd (upd (upd (upd (upd (upd (upd (upd (upd (upd lf 0 0) 1 0) 2 0) 3 0) 4 0) 5 0) 6 0) 7 0) 8 0) 9 0) 10 0) 11 0) 12 0) 13 0) 14 0) 15 0) 16 0) 17 0) 18 0) 15)) 16 ((upd (upd (upd (upd (upd (upd (upd (upd (upd (upd (upd (upd (upd (upd (upd (upd (upd (upd (upd lf 0 0) 1 0) 2 0) 3 0) 4 0) 5 0) 6 0) 7 0) 8 0) 9 0) 10 0) 11 0) 12 0) 13 0) 14 0) 15 0) 16 0) 17 0) 18 0) 16)) 17 ((upd (upd (upd (upd (upd (upd (upd (upd (upd (upd (upd (upd (upd (upd (upd (upd (upd (upd (upd lf 0 0) 1 0) 2 0) 3 0) 4 0) 5 0) 6 0) 7 0) 8 0) 9 0) 10 0) 11 0) 12 0) 13 0) 14 0) 15 0) 16 0) 17 0) 18 0) 17)) 18 ((upd (upd (upd (upd (upd (upd (upd (upd (upd (upd (upd (upd (upd (upd (upd (upd (upd (upd (upd lf 0 0) 1 0) 2 0) 3 0) 4 0) 5 0) 6 0) 7 0) 8 0) 9 0) 10 0) 11 0) 12 0) 13 0) 14 0) 15 0) 16 0) 17 0) 18 0) 18))))] H := hP
  have hD : va_D A [(y, .inr (11, [.ref y0, .int 0, .int y2, .int 0, .ref y4, .ref y5, .ref y6, .ref y7, .ref y8, .ref y9, .int y10, .int y11, .int y12, .int y13, .int y14, .long y15, .int y16, .int 0, .ref y18, .ref y19, .ref y20, .ref y21, .ref y22, .ref y23, .ref y24, .ref y25, .ref y26, .ref y27, .ref y28, .ref y29, .ref y30, .ref y31, .ref y32, .ref y33, .ref y34, .ref y35, .ref y36, .ref y37, .ref y38, .ref y39, .ref y40, .ref y41, .ref y42, .ref y43, .ref y44, .ref y45, .ref y46, .int y47, .ref y48, .ref y49, .int y50, .int y51, .int y52, .int y53, .long y54, .int y55, .ref y56, .ref y57, .ref y58, .ref y59])), (y37, .inl (cT 0, 302, .inl (upd (upd af 300 0) 301 0))), (y38, .inl (cT 0, 302, .inl (upd (upd bf 300 0) 301 0))), (y42, .inl (cT 0, 19, .inl (upd (upd (upd (upd (upd (upd (upd (upd (upd (upd (upd (upd (upd (upd (upd (upd (upd (upd (upd lf 0 0) 1 0) 2 0) 3 0) 4 0) 5 0) 6 0) 7 0) 8 0) 9 0) 10 0) 11 0) 12 0) 13 0) 14 0) 15 0) 16 0) 17 0) 18 0))), (y43, .inl (cT 0, 19, .inl (upd (upd (upd (upd (upd (upd (upd (upd (upd (upd (upd (upd (upd (upd (upd (upd (upd (upd (upd rf 0 ((upd (upd (upd (upd (upd (upd (upd (upd (upd (upd (upd (upd (upd (upd (upd (upd (upd (upd (upd lf 0 0) 1 0) 2 0) 3 0) 4 0) 5 0) 6 0) 7 0) 8 0) 9 0) 10 0) 11 0) 12 0) 13 0) 14 0) 15 0) 16 0) 17 0) 18 0) 0)) 1 ((upd (upd (upd (upd (upd (upd (upd (upd (upd (upd (upd (upd (upd (upd (upd (upd (upd (upd (upd lf 0 0) 1 0) 2 0) 3 0) 4 0) 5 0) 6 0) 7 0) 8 0) 9 0) 10 0) 11 0) 12 0) 13 0) 14 0) 15 0) 16 0) 17 0) 18 0) 1)) 2 ((upd (upd (upd (upd (upd (upd (upd (upd (upd (upd (upd (upd (upd (upd (upd (upd (upd (upd (upd lf 0 0) 1 0) 2 0) 3 0) 4 0) 5 0) 6 0) 7 0) 8 0) 9 0) 10 0) 11 0) 12 0) 13 0) 14 0) 15 0) 16 0) 17 0) 18 0) 2)) 3 ((upd (upd (upd (upd (upd (upd (upd (upd (upd (upd (upd (upd (upd (upd (upd (upd (upd (upd (upd lf 0 0) 1 0) 2 0) 3 0) 4 0) 5 0) 6 0) 7 0) 8 0) 9 0) 10 0) 11 0) 12 0) 13 0) 14 0) 15 0) 16 0) 17 0) 18 0) 3)) 4 ((upd (upd (upd (upd (upd (upd (upd (upd (upd (upd (upd (upd (upd (upd (upd (upd (upd (upd (upd lf 0 0) 1 0) 2 0) 3 0) 4 0) 5 0) 6 0) 7 0) 8 0) 9 0) 10 0) 11 0) 12 0) 13 0) 14 0) 15 0) 16 0) 17 0) 18 0) 4)) 5 ((upd (upd (upd (upd (upd (upd (upd (upd (upd (upd (upd (upd (upd (upd (upd (upd (upd (upd (upd lf 0 0) 1 0) 2 0) 3 0) 4 0) 5 0) 6 0) 7 0) 8 0) 9 0) 10 0) 11 0) 12 0) 13 0) 14 0) 15 0) 16 0) 17 0) 18 0) 5)) 6 ((upd (upd (upd (upd (upd (upd (upd (upd (upd (upd (upd (upd (upd (upd (upd (upd (upd (upd (upd lf 0 0) 1 0) 2 0) 3 0) 4 0) 5 0) 6 0) 7 0) 8 0) 9 0) 10 0) 11 0) 12 0) 13 0) 14 0) 15 0) 16 0) 17 0) 18 0) 6)) 7 ((upd (upd (upd (upd (upd (upd (upd (upd (upd (upd (upd (upd (upd (upd (upd (upd (upd (upd (upd lf 0 0) 1 0) 2 0) 3 0) 4 0) 5 0) 6 0) 7 0) 8 0) 9 0) 10 0) 11 0) 12 0) 13 0) 14 0) 15 0) 16 0) 17 0) 18 0) 7)) 8 ((upd (upd (upd (upd (upd (upd (upd (upd (upd (upd (upd (upd (upd (upd (upd (upd (upd (upd (upd lf 0 0) 1 0) 2 0) 3 0) 4 0) 5 0) 6 0) 7 0) 8 0) 9 0) 10 0) 11 0) 12 0) 13 0) 14 0) 15 0) 16 0) 17 0) 18 0) 8)) 9 ((upd (upd (upd (upd (upd (upd (upd (upd (upd (upd (upd (upd (upd (upd (upd (upd (upd (upd (upd lf 0 0) 1 0) 2 0) 3 0) 4 0) 5 0) 6 0) 7 0) 8 0) 9 0) 10 0) 11 0) 12 0) 13 0) 14 0) 15 0) 16 0) 17 0) 18 0) 9)) 10 ((upd (upd (upd (upd (upd (upd (upd (upd (upd (upd (upd (upd (upd (upd (upd (upd (upd (upd (upd lf 0 0) 1 0) 2 0) 3 0) 4 0) 5 0) 6 0) 7 0) 8 0) 9 0) 10 0) 11 0) 12 0) 13 0) 14 0) 15 0) 16 0) 17 0) 18 0) 10)) 11 ((upd (upd (upd (upd (upd (upd (upd (upd (upd (upd (upd (upd (upd (upd (upd (upd (upd (upd (upd lf 0 0) 1 0) 2 0) 3 0) 4 0) 5 0) 6 0) 7 0) 8 0) 9 0) 10 0) 11 0) 12 0) 13 0) 14 0) 15 0) 16 0) 17 0) 18 0) 11)) 12 ((upd (upd (upd (upd (upd (upd (upd (upd (upd (upd (upd (upd (upd (upd (upd (upd (upd (upd (upd lf 0 0) 1 0) 2 0) 3 0) 4 0) 5 0) 6 0) 7 0) 8 0) 9 0) 10 0) 11 0) 12 0) 13 0) 14 0) 15 0) 16 0) 17 0) 18 0) 12)) 13 ((upd (upd (upd (upd (upd (upd (upd (upd (upd (upd (upd (upd (upd (upd (upd (upd (upd (upd (upd lf 0 0) 1 0) 2 0) 3 0) 4 0) 5 0) 6 0) 7 0) 8 0) 9 0) 10 0) 11 0) 12 0) 13 0) 14 0) 15 0) 16 0) 17 0) 18 0) 13)) 14 ((upd (upd (upd (upd (upd (upd (upd (upd (upd (upd (upd (upd (upd (upd (upd (upd (upd (upd (upd lf 0 0) 1 0) 2 0) 3 0) 4 0) 5 0) 6 0) 7 0) 8 0) 9 0) 10 0) 11 0) 12 0) 13 0) 14 0) 15 0) 16 0) 17 0) 18 0) 14)) 15 ((upd (upd (upd (upd (upd (upd (upd (upd (upd (upd (upd (upd (upd (upd (upd (upd (upd (upd (upd lf 0 0) 1 0) 2 0) 3 0) 4 0) 5 0) 6 0) 7 0) 8 0) 9 0) 10 0) 11 0) 12 0) 13 0) 14 0) 15 0) 16 0) 17 0) 18 0) 15)) 16 ((upd (upd (upd (upd (upd (upd (upd (upd (upd (upd (upd (upd (upd (upd (upd (upd (upd (upd (upd lf 0 0) 1 0) 2 0) 3 0) 4 0) 5 0) 6 0) 7 0) 8 0) 9 0) 10 0) 11 0) 12 0) 13 0) 14 0) 15 0) 16 0) 17 0) 18 0) 16)) 17 ((upd (upd (upd (upd (upd (upd (upd (upd (upd (upd (upd (upd (upd (upd (upd (upd (upd (upd (upd lf 0 0) 1 0) 2 0) 3 0) 4 0) 5 0) 6 0) 7 0) 8 0) 9 0) 10 0) 11 0) 12 0) 13 0) 14 0) 15 0) 16 0) 17 0) 18 0) 17)) 18 ((upd (upd (upd (upd (upd (upd (upd (upd (upd (upd (upd (upd (upd (upd (upd (upd (upd (upd (upd lf 0 0) 1 0) 2 0) 3 0) 4 0) 5 0) 6 0) 7 0) 8 0) 9 0) 10 0) 11 0) 12 0) 13 0) 14 0) 15 0) 16 0) 17 0) 18 0) 18))))] := hD
  refine lv_iconst (v := 1) hx hb dM_best_36 (by decide) ?_
  refine lv_istore hx hb dM_best_37 hl (by decide) rfl (fun ls hl => ?_)
  have hl : lv_has ls 5 [(4, .int 1), (3, .int 0), (0, .ref y), (1, .long a1)] := hl
  refine lv_iload hx hb dM_best_39 (lv_at hl 0 rfl) ?_
  refine lv_aload_n hx hb dM_best_41 rfl (lv_at hl 2 rfl) ?_
  refine va_get (D := D) (ci := 11) (v := .int 0) (C := R_M) (T := T_M) (N := 60) hx hb hT in_M hown hK hP 0 rfl rfl 17 (by decide) (hT _ w1121) (fun _ h9 => h9) rfl dM_best_42 ?_
  refine lv_icmp_gt (tgt := 179) hx hb dM_best_45 rfl (fun _ => ?_) (fun hj4 => absurd (by decide) hj4)
  refine lv_iload_n hx hb dM_best_179 rfl (lv_at hl 1 rfl) ?_
  have hP9 := hP.sub (ws' := [(y, .inr (11, [.ref y0, .int 0, .int y2, .int 0, .ref y4, .ref y5, .ref y6, .ref y7, .ref y8, .ref y9, .int y10, .int y11, .int y12, .int y13, .int y14, .long y15, .int y16, .int 0, .ref y18, .ref y19, .ref y20, .ref y21, .ref y22, .ref y23, .ref y24, .ref y25, .ref y26, .ref y27, .ref y28, .ref y29, .ref y30, .ref y31, .ref y32, .ref y33, .ref y34, .ref y35, .ref y36, .ref y37, .ref y38, .ref y39, .ref y40, .ref y41, .ref y42, .ref y43, .ref y44, .ref y45, .ref y46, .int y47, .ref y48, .ref y49, .int y50, .int y51, .int y52, .int y53, .long y54, .int y55, .ref y56, .ref y57, .ref y58, .ref y59])), (y37, .inl (cT 0, 302, .inl (upd (upd af 300 0) 301 0))), (y38, .inl (cT 0, 302, .inl (upd (upd bf 300 0) 301 0))), (y42, .inl (cT 0, 19, .inl (upd (upd (upd (upd (upd (upd (upd (upd (upd (upd (upd (upd (upd (upd (upd (upd (upd (upd (upd lf 0 0) 1 0) 2 0) 3 0) 4 0) 5 0) 6 0) 7 0) 8 0) 9 0) 10 0) 11 0) 12 0) 13 0) 14 0) 15 0) 16 0) 17 0) 18 0))), (y43, .inl (cT 0, 19, .inl (upd (upd (upd (upd (upd (upd (upd (upd (upd (upd (upd (upd (upd (upd (upd (upd (upd (upd (upd rf 0 ((upd (upd (upd (upd (upd (upd (upd (upd (upd (upd (upd (upd (upd (upd (upd (upd (upd (upd (upd lf 0 0) 1 0) 2 0) 3 0) 4 0) 5 0) 6 0) 7 0) 8 0) 9 0) 10 0) 11 0) 12 0) 13 0) 14 0) 15 0) 16 0) 17 0) 18 0) 0)) 1 ((upd (upd (upd (upd (upd (upd (upd (upd (upd (upd (upd (upd (upd (upd (upd (upd (upd (upd (upd lf 0 0) 1 0) 2 0) 3 0) 4 0) 5 0) 6 0) 7 0) 8 0) 9 0) 10 0) 11 0) 12 0) 13 0) 14 0) 15 0) 16 0) 17 0) 18 0) 1)) 2 ((upd (upd (upd (upd (upd (upd (upd (upd (upd (upd (upd (upd (upd (upd (upd (upd (upd (upd (upd lf 0 0) 1 0) 2 0) 3 0) 4 0) 5 0) 6 0) 7 0) 8 0) 9 0) 10 0) 11 0) 12 0) 13 0) 14 0) 15 0) 16 0) 17 0) 18 0) 2)) 3 ((upd (upd (upd (upd (upd (upd (upd (upd (upd (upd (upd (upd (upd (upd (upd (upd (upd (upd (upd lf 0 0) 1 0) 2 0) 3 0) 4 0) 5 0) 6 0) 7 0) 8 0) 9 0) 10 0) 11 0) 12 0) 13 0) 14 0) 15 0) 16 0) 17 0) 18 0) 3)) 4 ((upd (upd (upd (upd (upd (upd (upd (upd (upd (upd (upd (upd (upd (upd (upd (upd (upd (upd (upd lf 0 0) 1 0) 2 0) 3 0) 4 0) 5 0) 6 0) 7 0) 8 0) 9 0) 10 0) 11 0) 12 0) 13 0) 14 0) 15 0) 16 0) 17 0) 18 0) 4)) 5 ((upd (upd (upd (upd (upd (upd (upd (upd (upd (upd (upd (upd (upd (upd (upd (upd (upd (upd (upd lf 0 0) 1 0) 2 0) 3 0) 4 0) 5 0) 6 0) 7 0) 8 0) 9 0) 10 0) 11 0) 12 0) 13 0) 14 0) 15 0) 16 0) 17 0) 18 0) 5)) 6 ((upd (upd (upd (upd (upd (upd (upd (upd (upd (upd (upd (upd (upd (upd (upd (upd (upd (upd (upd lf 0 0) 1 0) 2 0) 3 0) 4 0) 5 0) 6 0) 7 0) 8 0) 9 0) 10 0) 11 0) 12 0) 13 0) 14 0) 15 0) 16 0) 17 0) 18 0) 6)) 7 ((upd (upd (upd (upd (upd (upd (upd (upd (upd (upd (upd (upd (upd (upd (upd (upd (upd (upd (upd lf 0 0) 1 0) 2 0) 3 0) 4 0) 5 0) 6 0) 7 0) 8 0) 9 0) 10 0) 11 0) 12 0) 13 0) 14 0) 15 0) 16 0) 17 0) 18 0) 7)) 8 ((upd (upd (upd (upd (upd (upd (upd (upd (upd (upd (upd (upd (upd (upd (upd (upd (upd (upd (upd lf 0 0) 1 0) 2 0) 3 0) 4 0) 5 0) 6 0) 7 0) 8 0) 9 0) 10 0) 11 0) 12 0) 13 0) 14 0) 15 0) 16 0) 17 0) 18 0) 8)) 9 ((upd (upd (upd (upd (upd (upd (upd (upd (upd (upd (upd (upd (upd (upd (upd (upd (upd (upd (upd lf 0 0) 1 0) 2 0) 3 0) 4 0) 5 0) 6 0) 7 0) 8 0) 9 0) 10 0) 11 0) 12 0) 13 0) 14 0) 15 0) 16 0) 17 0) 18 0) 9)) 10 ((upd (upd (upd (upd (upd (upd (upd (upd (upd (upd (upd (upd (upd (upd (upd (upd (upd (upd (upd lf 0 0) 1 0) 2 0) 3 0) 4 0) 5 0) 6 0) 7 0) 8 0) 9 0) 10 0) 11 0) 12 0) 13 0) 14 0) 15 0) 16 0) 17 0) 18 0) 10)) 11 ((upd (upd (upd (upd (upd (upd (upd (upd (upd (upd (upd (upd (upd (upd (upd (upd (upd (upd (upd lf 0 0) 1 0) 2 0) 3 0) 4 0) 5 0) 6 0) 7 0) 8 0) 9 0) 10 0) 11 0) 12 0) 13 0) 14 0) 15 0) 16 0) 17 0) 18 0) 11)) 12 ((upd (upd (upd (upd (upd (upd (upd (upd (upd (upd (upd (upd (upd (upd (upd (upd (upd (upd (upd lf 0 0) 1 0) 2 0) 3 0) 4 0) 5 0) 6 0) 7 0) 8 0) 9 0) 10 0) 11 0) 12 0) 13 0) 14 0) 15 0) 16 0) 17 0) 18 0) 12)) 13 ((upd (upd (upd (upd (upd (upd (upd (upd (upd (upd (upd (upd (upd (upd (upd (upd (upd (upd (upd lf 0 0) 1 0) 2 0) 3 0) 4 0) 5 0) 6 0) 7 0) 8 0) 9 0) 10 0) 11 0) 12 0) 13 0) 14 0) 15 0) 16 0) 17 0) 18 0) 13)) 14 ((upd (upd (upd (upd (upd (upd (upd (upd (upd (upd (upd (upd (upd (upd (upd (upd (upd (upd (upd lf 0 0) 1 0) 2 0) 3 0) 4 0) 5 0) 6 0) 7 0) 8 0) 9 0) 10 0) 11 0) 12 0) 13 0) 14 0) 15 0) 16 0) 17 0) 18 0) 14)) 15 ((upd (upd (upd (upd (upd (upd (upd (upd (upd (upd (upd (upd (upd (upd (upd (upd (upd (upd (upd lf 0 0) 1 0) 2 0) 3 0) 4 0) 5 0) 6 0) 7 0) 8 0) 9 0) 10 0) 11 0) 12 0) 13 0) 14 0) 15 0) 16 0) 17 0) 18 0) 15)) 16 ((upd (upd (upd (upd (upd (upd (upd (upd (upd (upd (upd (upd (upd (upd (upd (upd (upd (upd (upd lf 0 0) 1 0) 2 0) 3 0) 4 0) 5 0) 6 0) 7 0) 8 0) 9 0) 10 0) 11 0) 12 0) 13 0) 14 0) 15 0) 16 0) 17 0) 18 0) 16)) 17 ((upd (upd (upd (upd (upd (upd (upd (upd (upd (upd (upd (upd (upd (upd (upd (upd (upd (upd (upd lf 0 0) 1 0) 2 0) 3 0) 4 0) 5 0) 6 0) 7 0) 8 0) 9 0) 10 0) 11 0) 12 0) 13 0) 14 0) 15 0) 16 0) 17 0) 18 0) 17)) 18 ((upd (upd (upd (upd (upd (upd (upd (upd (upd (upd (upd (upd (upd (upd (upd (upd (upd (upd (upd lf 0 0) 1 0) 2 0) 3 0) 4 0) 5 0) 6 0) 7 0) 8 0) 9 0) 10 0) 11 0) 12 0) 13 0) 14 0) 15 0) 16 0) 17 0) 18 0) 18))))]) [0, 1, 2, 3, 4] rfl
  have hD9 := hD.sub (ws' := [(y, .inr (11, [.ref y0, .int 0, .int y2, .int 0, .ref y4, .ref y5, .ref y6, .ref y7, .ref y8, .ref y9, .int y10, .int y11, .int y12, .int y13, .int y14, .long y15, .int y16, .int 0, .ref y18, .ref y19, .ref y20, .ref y21, .ref y22, .ref y23, .ref y24, .ref y25, .ref y26, .ref y27, .ref y28, .ref y29, .ref y30, .ref y31, .ref y32, .ref y33, .ref y34, .ref y35, .ref y36, .ref y37, .ref y38, .ref y39, .ref y40, .ref y41, .ref y42, .ref y43, .ref y44, .ref y45, .ref y46, .int y47, .ref y48, .ref y49, .int y50, .int y51, .int y52, .int y53, .long y54, .int y55, .ref y56, .ref y57, .ref y58, .ref y59])), (y37, .inl (cT 0, 302, .inl (upd (upd af 300 0) 301 0))), (y38, .inl (cT 0, 302, .inl (upd (upd bf 300 0) 301 0))), (y42, .inl (cT 0, 19, .inl (upd (upd (upd (upd (upd (upd (upd (upd (upd (upd (upd (upd (upd (upd (upd (upd (upd (upd (upd lf 0 0) 1 0) 2 0) 3 0) 4 0) 5 0) 6 0) 7 0) 8 0) 9 0) 10 0) 11 0) 12 0) 13 0) 14 0) 15 0) 16 0) 17 0) 18 0))), (y43, .inl (cT 0, 19, .inl (upd (upd (upd (upd (upd (upd (upd (upd (upd (upd (upd (upd (upd (upd (upd (upd (upd (upd (upd rf 0 ((upd (upd (upd (upd (upd (upd (upd (upd (upd (upd (upd (upd (upd (upd (upd (upd (upd (upd (upd lf 0 0) 1 0) 2 0) 3 0) 4 0) 5 0) 6 0) 7 0) 8 0) 9 0) 10 0) 11 0) 12 0) 13 0) 14 0) 15 0) 16 0) 17 0) 18 0) 0)) 1 ((upd (upd (upd (upd (upd (upd (upd (upd (upd (upd (upd (upd (upd (upd (upd (upd (upd (upd (upd lf 0 0) 1 0) 2 0) 3 0) 4 0) 5 0) 6 0) 7 0) 8 0) 9 0) 10 0) 11 0) 12 0) 13 0) 14 0) 15 0) 16 0) 17 0) 18 0) 1)) 2 ((upd (upd (upd (upd (upd (upd (upd (upd (upd (upd (upd (upd (upd (upd (upd (upd (upd (upd (upd lf 0 0) 1 0) 2 0) 3 0) 4 0) 5 0) 6 0) 7 0) 8 0) 9 0) 10 0) 11 0) 12 0) 13 0) 14 0) 15 0) 16 0) 17 0) 18 0) 2)) 3 ((upd (upd (upd (upd (upd (upd (upd (upd (upd (upd (upd (upd (upd (upd (upd (upd (upd (upd (upd lf 0 0) 1 0) 2 0) 3 0) 4 0) 5 0) 6 0) 7 0) 8 0) 9 0) 10 0) 11 0) 12 0) 13 0) 14 0) 15 0) 16 0) 17 0) 18 0) 3)) 4 ((upd (upd (upd (upd (upd (upd (upd (upd (upd (upd (upd (upd (upd (upd (upd (upd (upd (upd (upd lf 0 0) 1 0) 2 0) 3 0) 4 0) 5 0) 6 0) 7 0) 8 0) 9 0) 10 0) 11 0) 12 0) 13 0) 14 0) 15 0) 16 0) 17 0) 18 0) 4)) 5 ((upd (upd (upd (upd (upd (upd (upd (upd (upd (upd (upd (upd (upd (upd (upd (upd (upd (upd (upd lf 0 0) 1 0) 2 0) 3 0) 4 0) 5 0) 6 0) 7 0) 8 0) 9 0) 10 0) 11 0) 12 0) 13 0) 14 0) 15 0) 16 0) 17 0) 18 0) 5)) 6 ((upd (upd (upd (upd (upd (upd (upd (upd (upd (upd (upd (upd (upd (upd (upd (upd (upd (upd (upd lf 0 0) 1 0) 2 0) 3 0) 4 0) 5 0) 6 0) 7 0) 8 0) 9 0) 10 0) 11 0) 12 0) 13 0) 14 0) 15 0) 16 0) 17 0) 18 0) 6)) 7 ((upd (upd (upd (upd (upd (upd (upd (upd (upd (upd (upd (upd (upd (upd (upd (upd (upd (upd (upd lf 0 0) 1 0) 2 0) 3 0) 4 0) 5 0) 6 0) 7 0) 8 0) 9 0) 10 0) 11 0) 12 0) 13 0) 14 0) 15 0) 16 0) 17 0) 18 0) 7)) 8 ((upd (upd (upd (upd (upd (upd (upd (upd (upd (upd (upd (upd (upd (upd (upd (upd (upd (upd (upd lf 0 0) 1 0) 2 0) 3 0) 4 0) 5 0) 6 0) 7 0) 8 0) 9 0) 10 0) 11 0) 12 0) 13 0) 14 0) 15 0) 16 0) 17 0) 18 0) 8)) 9 ((upd (upd (upd (upd (upd (upd (upd (upd (upd (upd (upd (upd (upd (upd (upd (upd (upd (upd (upd lf 0 0) 1 0) 2 0) 3 0) 4 0) 5 0) 6 0) 7 0) 8 0) 9 0) 10 0) 11 0) 12 0) 13 0) 14 0) 15 0) 16 0) 17 0) 18 0) 9)) 10 ((upd (upd (upd (upd (upd (upd (upd (upd (upd (upd (upd (upd (upd (upd (upd (upd (upd (upd (upd lf 0 0) 1 0) 2 0) 3 0) 4 0) 5 0) 6 0) 7 0) 8 0) 9 0) 10 0) 11 0) 12 0) 13 0) 14 0) 15 0) 16 0) 17 0) 18 0) 10)) 11 ((upd (upd (upd (upd (upd (upd (upd (upd (upd (upd (upd (upd (upd (upd (upd (upd (upd (upd (upd lf 0 0) 1 0) 2 0) 3 0) 4 0) 5 0) 6 0) 7 0) 8 0) 9 0) 10 0) 11 0) 12 0) 13 0) 14 0) 15 0) 16 0) 17 0) 18 0) 11)) 12 ((upd (upd (upd (upd (upd (upd (upd (upd (upd (upd (upd (upd (upd (upd (upd (upd (upd (upd (upd lf 0 0) 1 0) 2 0) 3 0) 4 0) 5 0) 6 0) 7 0) 8 0) 9 0) 10 0) 11 0) 12 0) 13 0) 14 0) 15 0) 16 0) 17 0) 18 0) 12)) 13 ((upd (upd (upd (upd (upd (upd (upd (upd (upd (upd (upd (upd (upd (upd (upd (upd (upd (upd (upd lf 0 0) 1 0) 2 0) 3 0) 4 0) 5 0) 6 0) 7 0) 8 0) 9 0) 10 0) 11 0) 12 0) 13 0) 14 0) 15 0) 16 0) 17 0) 18 0) 13)) 14 ((upd (upd (upd (upd (upd (upd (upd (upd (upd (upd (upd (upd (upd (upd (upd (upd (upd (upd (upd lf 0 0) 1 0) 2 0) 3 0) 4 0) 5 0) 6 0) 7 0) 8 0) 9 0) 10 0) 11 0) 12 0) 13 0) 14 0) 15 0) 16 0) 17 0) 18 0) 14)) 15 ((upd (upd (upd (upd (upd (upd (upd (upd (upd (upd (upd (upd (upd (upd (upd (upd (upd (upd (upd lf 0 0) 1 0) 2 0) 3 0) 4 0) 5 0) 6 0) 7 0) 8 0) 9 0) 10 0) 11 0) 12 0) 13 0) 14 0) 15 0) 16 0) 17 0) 18 0) 15)) 16 ((upd (upd (upd (upd (upd (upd (upd (upd (upd (upd (upd (upd (upd (upd (upd (upd (upd (upd (upd lf 0 0) 1 0) 2 0) 3 0) 4 0) 5 0) 6 0) 7 0) 8 0) 9 0) 10 0) 11 0) 12 0) 13 0) 14 0) 15 0) 16 0) 17 0) 18 0) 16)) 17 ((upd (upd (upd (upd (upd (upd (upd (upd (upd (upd (upd (upd (upd (upd (upd (upd (upd (upd (upd lf 0 0) 1 0) 2 0) 3 0) 4 0) 5 0) 6 0) 7 0) 8 0) 9 0) 10 0) 11 0) 12 0) 13 0) 14 0) 15 0) 16 0) 17 0) 18 0) 17)) 18 ((upd (upd (upd (upd (upd (upd (upd (upd (upd (upd (upd (upd (upd (upd (upd (upd (upd (upd (upd lf 0 0) 1 0) 2 0) 3 0) 4 0) 5 0) 6 0) 7 0) 8 0) 9 0) 10 0) 11 0) 12 0) 13 0) 14 0) 15 0) 16 0) 17 0) 18 0) 18))))]) [0, 1, 2, 3, 4] (by decide) rfl
  refine W.widen (k := 0) (n := 0) (Nat.le_of_ble_eq_true rfl) (Nat.le_of_ble_eq_true rfl) ?_
  exact W.iret (v := 0) hx hb hr (fun t ht hW => ⟨⟨0, (fun _ => 0), rfl, rfl, by rw [ht]; exact hP9, hD9⟩, hS.F ht⟩) hS.2.2 dM_best_180
