set_option maxHeartbeats 4000000 in
set_option maxRecDepth 100000 in
theorem k_trim (l : Launch) (D : va_G) (cT : Nat → ClassId) (h : Nat) (w : Nat) (R : Nat) (n : Int32) (b : Int32) (f : Nat → Int32) (k0 : Nat) (hR : R ≤ 48) (hk0 : k0 ≤ R) (hd : dok 1000000000 f k0) (sz : Nat) : Met l yW_trim WW_trim ({ frames := 0, cells := 0, slots := 0, locals := 0 } : Room) (RW D vwCl [.ref h, .int (nI k0)] [(h, .inr (4, [.ref w, .int n, .int b])), (w, .inl (cT 0, R, .inl f))] (TY cT) sz) (va_Qv (fun u9 : Nat => u9 ≤ k0 ∧ top0 f u9 ∧ vW f u9 = vW f k0) (BW D vwCl (va_A [(h, .inr (4, [.ref w, .int n, .int b])), (w, .inl (cT 0, R, .inl f))] sz) (fun u9 : Nat => [(h, .inr (4, [.ref w, .int (nI u9), .int b])), (w, .inl (cT 0, R, .inl f))])) (va_A [(h, .inr (4, [.ref w, .int n, .int b])), (w, .inl (cT 0, R, .inl f))] sz)) 0 0 (va_A [(h, .inr (4, [.ref w, .int n, .int b])), (w, .inl (cT 0, R, .inl f))] sz) := by
  refine Met.ofW (cc := cW_trim) (maxL := 2) (ret := none) (by decide) rfl ?_
  intro p e s m args below meth c s₁ B hml hv
  obtain ⟨rfl, hsz, hZ, hP, hK, hD0⟩ := hv
  have hx := B.exec
  have hb := B.bytes
  have hr := B.returns
  have hts := atoms_spec (ws := WW_trim) B.pre
  have hT : ∀ w ∈ TB, w.before _ s = true := fun w h => hts w (List.mem_cons_of_mem _ h)
  have hown : s.vm.findClass R_W = some m.cls := findClass_of_methodNamed B.named
  have hlocks := B.notSynchronized
  subst hsz
  have hD := hD0.self (sz := s.heap.size)
  generalize hAe : va_A [(h, .inr (4, [.ref w, .int n, .int b])), (w, .inl (cT 0, R, .inl f))] s.heap.size = A at hD hZ ⊢
  have hA : ∀ q : Nat, s.heap.size ≤ q → A q := fun q h => by rw [← hAe]; exact Or.inr h
  have hS : va_S A s.heap s.heap [] := va_S.rf
  have hl := lv_entry ([.ref h, .int (nI k0)]) (n := 2) (Nat.le_of_ble_eq_true rfl)
  rw [lg_entry_eq]
  generalize (lg_sl ([.ref h, .int (nI k0)]) ++ List.replicate (2 - (lg_sl ([.ref h, .int (nI k0)])).length) Slot.unset).toArray = ls at hl ⊢
  have hl : lv_has ls 2 [(0, .ref h), (1, .int (nI k0))] := hl
  refine lv_aload_n hx hb dW_trim_0 rfl (lv_at hl 0 rfl) ?_
  refine lv_iload_n hx hb dW_trim_1 rfl (lv_at hl 1 rfl) ?_
  refine va_put (D := D) (ci := 4) (v := .int (nI k0)) (ty := .int) (C := R_W) (T := T_W) (N := 3) hx hb hT in_W ty_W ty_W_ok m_W hown hK hP hD hS 0 rfl rfl 1 (by decide) (hT _ w148) (fun _ h9 => h9) rfl (by decide +kernel) rfl rfl (Nat.le_of_ble_eq_true rfl) dW_trim_2 (fun H locs hP hD hS => ?_)
  have hP : va_P D vwCl [(h, .inr (4, [.ref w, .int (nI k0), .int b])), (w, .inl (cT 0, R, .inl f))] _ := hP
  have hD : va_D A [(h, .inr (4, [.ref w, .int (nI k0), .int b])), (w, .inl (cT 0, R, .inl f))] := hD
  refine lp_w (α := Nat) (fun a9 => a9 ≤ k0 ∧ vW f a9 = vW f k0) (fun a9 => a9) (fun a9 => [(0, .ref h)]) (fun a9 => [(h, .inr (4, [.ref w, .int (nI a9), .int b])), (w, .inl (cT 0, R, .inl f))]) 5 ?_ k0 (show k0 ≤ k0 ∧ vW f k0 = vW f k0 from ⟨Nat.le_refl _, rfl⟩) (lv_sub hl [0] rfl) hP hD hS
  intro a9 hI5 ih5 ls H locs hl hP hD hS
  obtain ⟨k, rfl⟩ : ∃ q9, q9 = a9 := ⟨_, rfl⟩
  have hI5 : k ≤ k0 ∧ vW f k = vW f k0 := hI5
  obtain ⟨ik, iv⟩ := hI5
  have hl : lv_has ls 2 [(0, .ref h)] := hl
  have hP : va_P D vwCl [(h, .inr (4, [.ref w, .int (nI k), .int b])), (w, .inl (cT 0, R, .inl f))] _ := hP
  have hD : va_D A [(h, .inr (4, [.ref w, .int (nI k), .int b])), (w, .inl (cT 0, R, .inl f))] := hD
  refine lv_aload_n hx hb dW_trim_5 rfl (lv_at hl 0 rfl) ?_
  refine va_get (D := D) (ci := 4) (v := .int (nI k)) (C := R_W) (T := T_W) (N := 3) hx hb hT in_W hown hK hP 0 rfl rfl 1 (by decide) (hT _ w148) (fun _ h9 => h9) rfl dW_trim_6 ?_
  refine lv_if_le (tgt := 39) hx hb dW_trim_9 rfl (fun h1 => ?_) (fun h1 => ?_)
  · have gh1 : k ≤ 0 := (nI_leI (a := k) (b := 0) (by omega) (by omega)).mp h1
    have hP9 := hP.sub (ws' := [(h, .inr (4, [.ref w, .int (nI k), .int b])), (w, .inl (cT 0, R, .inl f))]) [0, 1] rfl
    have hD9 := hD.sub (ws' := [(h, .inr (4, [.ref w, .int (nI k), .int b])), (w, .inl (cT 0, R, .inl f))]) [0, 1] (by decide) rfl
    refine W.widen (k := 0) (n := 0) (Nat.le_of_ble_eq_true rfl) (Nat.le_of_ble_eq_true rfl) ?_
    exact W.vret hx hb hr (fun t ht hW => ⟨⟨k, rfl, (show k ≤ k0 ∧ top0 f k ∧ vW f k = vW f k0 from ⟨ik, fun q => absurd q (by omega), iv⟩), by rw [ht]; exact hP9, hD9⟩, hS.F ht⟩) hS.2.2 dW_trim_39
  · have gh1 : 0 < k := Nat.not_le.mp (fun q => h1 ((nI_leI (a := k) (b := 0) (by omega) (by omega)).mpr q))
    refine lv_aload_n hx hb dW_trim_12 rfl (lv_at hl 0 rfl) ?_
    refine va_get (D := D) (ci := 4) (v := .ref w) (C := R_W) (T := T_W) (N := 3) hx hb hT in_W hown hK hP 0 rfl rfl 0 (by decide) (hT _ w145) (fun _ h9 => h9) rfl dW_trim_13 ?_
    refine lv_aload_n hx hb dW_trim_16 rfl (lv_at hl 0 rfl) ?_
    refine va_get (D := D) (ci := 4) (v := .int (nI k)) (C := R_W) (T := T_W) (N := 3) hx hb hT in_W hown hK hP 0 rfl rfl 1 (by decide) (hT _ w148) (fun _ h9 => h9) rfl dW_trim_17 ?_
    refine lv_iconst (v := 1) hx hb dW_trim_20 (by decide) ?_
    refine lv_isub hx hb dW_trim_21 ?_
    refine lv_topi (fun y9 e9 => ?_)
    cases (show y9 = nI (k - 1) from e9.trans (pk_sub (a := k) (b := 1) (by omega)))
    refine lq_iald (j := k - 1) hx hb hK hP 1 0 rfl rfl rfl (by omega) (by omega) dW_trim_22 ?_
    refine lv_if_ne (tgt := 39) hx hb dW_trim_23 rfl (fun h2 => ?_) (fun h2 => ?_)
    · have hP9 := hP.sub (ws' := [(h, .inr (4, [.ref w, .int (nI k), .int b])), (w, .inl (cT 0, R, .inl f))]) [0, 1] rfl
      have hD9 := hD.sub (ws' := [(h, .inr (4, [.ref w, .int (nI k), .int b])), (w, .inl (cT 0, R, .inl f))]) [0, 1] (by decide) rfl
      refine W.widen (k := 0) (n := 0) (Nat.le_of_ble_eq_true rfl) (Nat.le_of_ble_eq_true rfl) ?_
      exact W.vret hx hb hr (fun t ht hW => ⟨⟨k, rfl, (show k ≤ k0 ∧ top0 f k ∧ vW f k = vW f k0 from ⟨ik, fun _ => dg_ne hd (by omega) h2, iv⟩), by rw [ht]; exact hP9, hD9⟩, hS.F ht⟩) hS.2.2 dW_trim_39
    · refine lv_aload_n hx hb dW_trim_26 rfl (lv_at hl 0 rfl) ?_
      refine lv_dup hx hb dW_trim_27 rfl ?_
      refine va_get (D := D) (ci := 4) (v := .int (nI k)) (C := R_W) (T := T_W) (N := 3) hx hb hT in_W hown hK hP 0 rfl rfl 1 (by decide) (hT _ w148) (fun _ h9 => h9) rfl dW_trim_28 ?_
      refine lv_iconst (v := 1) hx hb dW_trim_31 (by decide) ?_
      refine lv_isub hx hb dW_trim_32 ?_
      refine lv_topi (fun y9 e9 => ?_)
      cases (show y9 = nI (k - 1) from e9.trans (pk_sub (a := k) (b := 1) (by omega)))
      refine va_put (D := D) (ci := 4) (v := .int (nI (k - 1))) (ty := .int) (C := R_W) (T := T_W) (N := 3) hx hb hT in_W ty_W ty_W_ok m_W hown hK hP hD hS 0 rfl rfl 1 (by decide) (hT _ w148) (fun _ h9 => h9) rfl (by decide +kernel) rfl rfl (Nat.le_of_ble_eq_true rfl) dW_trim_33 (fun H locs hP hD hS => ?_)
      have hP : va_P D vwCl [(h, .inr (4, [.ref w, .int (nI (k - 1)), .int b])), (w, .inl (cT 0, R, .inl f))] _ := hP
      have hD : va_D A [(h, .inr (4, [.ref w, .int (nI (k - 1)), .int b])), (w, .inl (cT 0, R, .inl f))] := hD
      refine lv_goto (tgt := 5) hx hb dW_trim_36 rfl ?_
      exact ih5 (k - 1) (show (k - 1) ≤ k0 ∧ vW f (k - 1) = vW f k0 from ⟨by omega, (hv_dec (by omega) (dg_eq0 h2)).trans iv⟩) (show (k - 1) < k from (by omega)) ls H locs (lv_sub hl [0] rfl) hP hD hS
set_option maxHeartbeats 4000000 in
set_option maxRecDepth 100000 in
theorem k_mostBits (l : Launch) (D : va_G) (cT : Nat → ClassId) (h : Nat) (w : Nat) (R : Nat) (n : Int32) (b : Int32) (f : Nat → Int32) : Met l yW_mostBits WW_mostBits ({ frames := 0, cells := 0, slots := 0, locals := 0 } : Room) (RO D vwCl [.ref h] [(h, .inr (4, [.ref w, .int n, .int b])), (w, .inl (cT 0, R, .inl f))] (TY cT)) (QcRead (nI (R * 30))) 0 0 (fun _ => False) := by
  refine Met.ofW (cc := cW_mostBits) (maxL := 1) (ret := (some .int)) (by decide) rfl ?_
  intro p e s m args below meth c s₁ B hml hv
  obtain ⟨rfl, hZ, hP, hK⟩ := hv
  have hx := B.exec
  have hb := B.bytes
  have hr := B.returns
  have hts := atoms_spec (ws := WW_mostBits) B.pre
  have hT : ∀ w ∈ TB, w.before _ s = true := fun w h => hts w (List.mem_cons_of_mem _ h)
  have hown : s.vm.findClass R_W = some m.cls := findClass_of_methodNamed B.named
  have hlocks := B.notSynchronized
  have hS : va_S (fun _ => False) s.heap s.heap [] := va_S.rf
  have hl := lv_entry ([.ref h]) (n := 1) (Nat.le_of_ble_eq_true rfl)
  rw [lg_entry_eq]
  generalize (lg_sl ([.ref h]) ++ List.replicate (1 - (lg_sl ([.ref h])).length) Slot.unset).toArray = ls at hl ⊢
  have hl : lv_has ls 1 [(0, .ref h)] := hl
  refine lv_aload_n hx hb dW_mostBits_0 rfl (lv_at hl 0 rfl) ?_
  refine va_get (D := D) (ci := 4) (v := .ref w) (C := R_W) (T := T_W) (N := 3) hx hb hT in_W hown hK hP 0 rfl rfl 0 (by decide) (hT _ w145) (fun _ h9 => h9) rfl dW_mostBits_1 ?_
  refine va_alen (v := nI R) hx hb hK hP 1 0 rfl rfl rfl dW_mostBits_4 ?_
  refine lv_bipush (v := 30) hx hb dW_mostBits_5 (by decide) ?_
  refine lv_imul hx hb dW_mostBits_7 ?_
  refine lv_topi (fun y9 e9 => ?_)
  cases (show y9 = nI (R * 30) from e9.trans (pk_mul R 30))
  exact W.iret (v := nI (R * 30)) hx hb hr (fun t ht hW => ⟨rfl, ht⟩) (fun q h => nomatch h) dW_mostBits_8
set_option maxHeartbeats 4000000 in
set_option maxRecDepth 100000 in
theorem k_sign (l : Launch) (D : va_G) (cT : Nat → ClassId) (h : Nat) (w : Nat) (R : Nat) (n : Int32) (b : Int32) (f : Nat → Int32) (z : Int) (hR : R ≤ 48) (hN : WN R n b f z) : Met l yW_sign WW_sign ({ frames := 0, cells := 0, slots := 0, locals := 0 } : Room) (RO D vwCl [.ref h] [(h, .inr (4, [.ref w, .int n, .int b])), (w, .inl (cT 0, R, .inl f))] (TY cT)) (QcRead (sg z)) 0 0 (fun _ => False) := by
  refine Met.ofW (cc := cW_sign) (maxL := 1) (ret := (some .int)) (by decide) rfl ?_
  intro p e s m args below meth c s₁ B hml hv
  obtain ⟨rfl, hZ, hP, hK⟩ := hv
  have hx := B.exec
  have hb := B.bytes
  have hr := B.returns
  have hts := atoms_spec (ws := WW_sign) B.pre
  have hT : ∀ w ∈ TB, w.before _ s = true := fun w h => hts w (List.mem_cons_of_mem _ h)
  have hown : s.vm.findClass R_W = some m.cls := findClass_of_methodNamed B.named
  have hlocks := B.notSynchronized
  have hS : va_S (fun _ => False) s.heap s.heap [] := va_S.rf
  have hl := lv_entry ([.ref h]) (n := 1) (Nat.le_of_ble_eq_true rfl)
  rw [lg_entry_eq]
  generalize (lg_sl ([.ref h]) ++ List.replicate (1 - (lg_sl ([.ref h])).length) Slot.unset).toArray = ls at hl ⊢
  have hl : lv_has ls 1 [(0, .ref h)] := hl
  obtain ⟨k, rfl, hk, hd, htop, hb01, hz⟩ := hN
  have hP : va_P D vwCl [(h, .inr (4, [.ref w, .int (nI k), .int b])), (w, .inl (cT 0, R, .inl f))] _ := hP
  refine lv_aload_n hx hb dW_sign_0 rfl (lv_at hl 0 rfl) ?_
  refine va_get (D := D) (ci := 4) (v := .int (nI k)) (C := R_W) (T := T_W) (N := 3) hx hb hT in_W hown hK hP 0 rfl rfl 1 (by decide) (hT _ w148) (fun _ h9 => h9) rfl dW_sign_1 ?_
  refine lv_if_ne (tgt := 11) hx hb dW_sign_4 rfl (fun h1 => ?_) (fun h1 => ?_)
  · have gh1 : ¬ (k = 0) := fun q => h1 (congrArg nI q)
    refine lv_aload_n hx hb dW_sign_11 rfl (lv_at hl 0 rfl) ?_
    refine va_get (D := D) (ci := 4) (v := .int b) (C := R_W) (T := T_W) (N := 3) hx hb hT in_W hown hK hP 0 rfl rfl 2 (by decide) (hT _ w149) (fun _ h9 => h9) rfl dW_sign_12 ?_
    refine lv_if_eq (tgt := 22) hx hb dW_sign_15 rfl (fun h2 => ?_) (fun h2 => ?_)
    · refine lv_iconst (v := 1) hx hb dW_sign_22 (by decide) ?_
      exact W.iret (v := 1) hx hb hr (fun t ht hW => ⟨by rw [hz, show b = 0 from h2, sg_p (vW_pos htop (by omega))], ht⟩) (fun q h => nomatch h) dW_sign_23
    · refine lv_iconst (v := (-1)) hx hb dW_sign_18 (by decide) ?_
      refine lv_goto (tgt := 23) hx hb dW_sign_19 rfl ?_
      exact W.iret (v := (-1)) hx hb hr (fun t ht hW => ⟨by rw [hz, sg_n h2 (vW_pos htop (by omega))], ht⟩) (fun q h => nomatch h) dW_sign_23
  · have gh1 : k = 0 := (nI_eq (a := k) (b := 0) (by omega) (by omega)).mp h1
    refine lv_iconst (v := 0) hx hb dW_sign_7 (by decide) ?_
    refine lv_goto (tgt := 23) hx hb dW_sign_8 rfl ?_
    exact W.iret (v := 0) hx hb hr (fun t ht hW => ⟨by rw [hz, show k = 0 by omega, show vW f 0 = 0 from rfl, sg_0], ht⟩) (fun q h => nomatch h) dW_sign_23
set_option maxHeartbeats 4000000 in
set_option maxRecDepth 100000 in
theorem k_turn (l : Launch) (D : va_G) (cT : Nat → ClassId) (h : Nat) (w : Nat) (R : Nat) (n : Int32) (b : Int32) (f : Nat → Int32) (z : Int) (hR : R ≤ 48) (hN : WN R n b f z) (sz : Nat) : Met l yW_turn WW_turn ({ frames := 0, cells := 0, slots := 0, locals := 0 } : Room) (RW D vwCl [.ref h] [(h, .inr (4, [.ref w, .int n, .int b])), (w, .inl (cT 0, R, .inl f))] (TY cT) sz) (va_Qv (fun u9 : Int32 => WN R n u9 f (-z)) (BW D vwCl (va_A [(h, .inr (4, [.ref w, .int n, .int b])), (w, .inl (cT 0, R, .inl f))] sz) (fun u9 : Int32 => [(h, .inr (4, [.ref w, .int n, .int u9])), (w, .inl (cT 0, R, .inl f))])) (va_A [(h, .inr (4, [.ref w, .int n, .int b])), (w, .inl (cT 0, R, .inl f))] sz)) 0 0 (va_A [(h, .inr (4, [.ref w, .int n, .int b])), (w, .inl (cT 0, R, .inl f))] sz) := by
  refine Met.ofW (cc := cW_turn) (maxL := 1) (ret := none) (by decide) rfl ?_
  intro p e s m args below meth c s₁ B hml hv
  obtain ⟨rfl, hsz, hZ, hP, hK, hD0⟩ := hv
  have hx := B.exec
  have hb := B.bytes
  have hr := B.returns
  have hts := atoms_spec (ws := WW_turn) B.pre
  have hT : ∀ w ∈ TB, w.before _ s = true := fun w h => hts w (List.mem_cons_of_mem _ h)
  have hown : s.vm.findClass R_W = some m.cls := findClass_of_methodNamed B.named
  have hlocks := B.notSynchronized
  subst hsz
  have hD := hD0.self (sz := s.heap.size)
  generalize hAe : va_A [(h, .inr (4, [.ref w, .int n, .int b])), (w, .inl (cT 0, R, .inl f))] s.heap.size = A at hD hZ ⊢
  have hA : ∀ q : Nat, s.heap.size ≤ q → A q := fun q h => by rw [← hAe]; exact Or.inr h
  have hS : va_S A s.heap s.heap [] := va_S.rf
  have hl := lv_entry ([.ref h]) (n := 1) (Nat.le_of_ble_eq_true rfl)
  rw [lg_entry_eq]
  generalize (lg_sl ([.ref h]) ++ List.replicate (1 - (lg_sl ([.ref h])).length) Slot.unset).toArray = ls at hl ⊢
  have hl : lv_has ls 1 [(0, .ref h)] := hl
  obtain ⟨k, rfl, hk, hd, htop, hb01, hz⟩ := hN
  have hP : va_P D vwCl [(h, .inr (4, [.ref w, .int (nI k), .int b])), (w, .inl (cT 0, R, .inl f))] _ := hP
  have hD : va_D A [(h, .inr (4, [.ref w, .int (nI k), .int b])), (w, .inl (cT 0, R, .inl f))] := hD
  refine lv_aload_n hx hb dW_turn_0 rfl (lv_at hl 0 rfl) ?_
  refine lv_aload_n hx hb dW_turn_1 rfl (lv_at hl 0 rfl) ?_
  refine va_get (D := D) (ci := 4) (v := .int b) (C := R_W) (T := T_W) (N := 3) hx hb hT in_W hown hK hP 0 rfl rfl 2 (by decide) (hT _ w149) (fun _ h9 => h9) rfl dW_turn_2 ?_
  refine lv_if_ne (tgt := 12) hx hb dW_turn_5 rfl (fun h1 => ?_) (fun h1 => ?_)
  · refine lv_iconst (v := 0) hx hb dW_turn_12 (by decide) ?_
    refine va_put (D := D) (ci := 4) (v := .int 0) (ty := .boolean) (C := R_W) (T := T_W) (N := 3) hx hb hT in_W ty_W ty_W_ok m_W hown hK hP hD hS 0 rfl rfl 2 (by decide) (hT _ w149) (fun _ h9 => h9) rfl (by decide +kernel) rfl rfl (Nat.le_of_ble_eq_true rfl) dW_turn_13 (fun H locs hP hD hS => ?_)
    have hP : va_P D vwCl [(h, .inr (4, [.ref w, .int (nI k), .int 0])), (w, .inl (cT 0, R, .inl f))] _ := hP
    have hD : va_D A [(h, .inr (4, [.ref w, .int (nI k), .int 0])), (w, .inl (cT 0, R, .inl f))] := hD
    have hP9 := hP.sub (ws' := [(h, .inr (4, [.ref w, .int (nI k), .int 0])), (w, .inl (cT 0, R, .inl f))]) [0, 1] rfl
    have hD9 := hD.sub (ws' := [(h, .inr (4, [.ref w, .int (nI k), .int 0])), (w, .inl (cT 0, R, .inl f))]) [0, 1] (by decide) rfl
    refine W.widen (k := 0) (n := 0) (Nat.le_of_ble_eq_true rfl) (Nat.le_of_ble_eq_true rfl) ?_
    exact W.vret hx hb hr (fun t ht hW => ⟨⟨0, rfl, (show WN R (nI k) 0 f (-z) from ⟨k, rfl, hk, hd, htop, Or.inl rfl, by rw [hz]; unfold wz; rw [if_neg h1, if_pos rfl, Int.neg_neg]⟩), by rw [ht]; exact hP9, hD9⟩, hS.F ht⟩) hS.2.2 dW_turn_16
  · refine lv_iconst (v := 1) hx hb dW_turn_8 (by decide) ?_
    refine lv_goto (tgt := 13) hx hb dW_turn_9 rfl ?_
    refine va_put (D := D) (ci := 4) (v := .int 1) (ty := .boolean) (C := R_W) (T := T_W) (N := 3) hx hb hT in_W ty_W ty_W_ok m_W hown hK hP hD hS 0 rfl rfl 2 (by decide) (hT _ w149) (fun _ h9 => h9) rfl (by decide +kernel) rfl rfl (Nat.le_of_ble_eq_true rfl) dW_turn_13 (fun H locs hP hD hS => ?_)
    have hP : va_P D vwCl [(h, .inr (4, [.ref w, .int (nI k), .int 1])), (w, .inl (cT 0, R, .inl f))] _ := hP
    have hD : va_D A [(h, .inr (4, [.ref w, .int (nI k), .int 1])), (w, .inl (cT 0, R, .inl f))] := hD
    have hP9 := hP.sub (ws' := [(h, .inr (4, [.ref w, .int (nI k), .int 1])), (w, .inl (cT 0, R, .inl f))]) [0, 1] rfl
    have hD9 := hD.sub (ws' := [(h, .inr (4, [.ref w, .int (nI k), .int 1])), (w, .inl (cT 0, R, .inl f))]) [0, 1] (by decide) rfl
    refine W.widen (k := 0) (n := 0) (Nat.le_of_ble_eq_true rfl) (Nat.le_of_ble_eq_true rfl) ?_
    exact W.vret hx hb hr (fun t ht hW => ⟨⟨1, rfl, (show WN R (nI k) 1 f (-z) from ⟨k, rfl, hk, hd, htop, Or.inr rfl, by rw [hz]; unfold wz; rw [if_pos h1, if_neg (by decide)]⟩), by rw [ht]; exact hP9, hD9⟩, hS.F ht⟩) hS.2.2 dW_turn_16
set_option maxHeartbeats 4000000 in
set_option maxRecDepth 100000 in
theorem k_setI (l : Launch) (D : va_G) (cT : Nat → ClassId) (h : Nat) (w : Nat) (R : Nat) (n : Int32) (b : Int32) (f : Nat → Int32) (v : Int32) (hR : R ≤ 48) (hR0 : 0 < R) (hv0 : -1000000000 < v.toInt ∧ v.toInt < 1000000000) (sz : Nat) : Met l yW_set WW_set ({ frames := 1, cells := 0, slots := 0, locals := 21 } : Room) (RW D vwCl [.ref h, .int v] [(h, .inr (4, [.ref w, .int n, .int b])), (w, .inl (cT 0, R, .inl f))] (TY cT) sz) (va_Qv (fun u9 : Int32 × Int32 × (Nat → Int32) => WN R u9.1 u9.2.1 u9.2.2 v.toInt) (BW D vwCl (va_A [(h, .inr (4, [.ref w, .int n, .int b])), (w, .inl (cT 0, R, .inl f))] sz) (fun u9 : Int32 × Int32 × (Nat → Int32) => [(h, .inr (4, [.ref w, .int u9.1, .int u9.2.1])), (w, .inl (cT 0, R, .inl u9.2.2))])) (va_A [(h, .inr (4, [.ref w, .int n, .int b])), (w, .inl (cT 0, R, .inl f))] sz)) 0 0 (va_A [(h, .inr (4, [.ref w, .int n, .int b])), (w, .inl (cT 0, R, .inl f))] sz) := by
  refine Met.ofW (cc := cW_set) (maxL := 2) (ret := none) (by decide) rfl ?_
  intro p e s m args below meth c s₁ B hml hv
  obtain ⟨rfl, hsz, hZ, hP, hK, hD0⟩ := hv
  have hx := B.exec
  have hb := B.bytes
  have hr := B.returns
  have hts := atoms_spec (ws := WW_set) B.pre
  have hT : ∀ w ∈ TB, w.before _ s = true := fun w h => hts w (List.mem_cons_of_mem _ h)
  have hown : s.vm.findClass R_W = some m.cls := findClass_of_methodNamed B.named
  have hlocks := B.notSynchronized
  subst hsz
  have hD := hD0.self (sz := s.heap.size)
  generalize hAe : va_A [(h, .inr (4, [.ref w, .int n, .int b])), (w, .inl (cT 0, R, .inl f))] s.heap.size = A at hD hZ ⊢
  have hA : ∀ q : Nat, s.heap.size ≤ q → A q := fun q h => by rw [← hAe]; exact Or.inr h
  have hS : va_S A s.heap s.heap [] := va_S.rf
  have hl := lv_entry ([.ref h, .int v]) (n := 2) (Nat.le_of_ble_eq_true rfl)
  rw [lg_entry_eq]
  generalize (lg_sl ([.ref h, .int v]) ++ List.replicate (2 - (lg_sl ([.ref h, .int v])).length) Slot.unset).toArray = ls at hl ⊢
  have hl : lv_has ls 2 [(0, .ref h), (1, .int v)] := hl
  refine lv_aload_n hx hb dW_set_0 rfl (lv_at hl 0 rfl) ?_
  refine lv_iload_n hx hb dW_set_1 rfl (lv_at hl 1 rfl) ?_
  refine lv_if_ge (tgt := 9) hx hb dW_set_2 rfl (fun h1 => ?_) (fun h1 => ?_)
  · obtain ⟨j, hj, hjx, hjz⟩ := x_pos (Int32.not_lt.mpr h1) hv0.2
    refine lv_iconst (v := 0) hx hb dW_set_9 (by decide) ?_
    refine va_put (D := D) (ci := 4) (v := .int 0) (ty := .boolean) (C := R_W) (T := T_W) (N := 3) hx hb hT in_W ty_W ty_W_ok m_W hown hK hP hD hS 0 rfl rfl 2 (by decide) (hT _ w149) (fun _ h9 => h9) rfl (by decide +kernel) rfl rfl (Nat.le_of_ble_eq_true rfl) dW_set_10 (fun H locs hP hD hS => ?_)
    have hP : va_P D vwCl [(h, .inr (4, [.ref w, .int n, .int 0])), (w, .inl (cT 0, R, .inl f))] _ := hP
    have hD : va_D A [(h, .inr (4, [.ref w, .int n, .int 0])), (w, .inl (cT 0, R, .inl f))] := hD
    refine lv_aload_n hx hb dW_set_13 rfl (lv_at hl 0 rfl) ?_
    refine va_get (D := D) (ci := 4) (v := .ref w) (C := R_W) (T := T_W) (N := 3) hx hb hT in_W hown hK hP 0 rfl rfl 0 (by decide) (hT _ w145) (fun _ h9 => h9) rfl dW_set_14 ?_
    refine lv_iconst (v := 0) hx hb dW_set_17 (by decide) ?_
    refine lv_aload_n hx hb dW_set_18 rfl (lv_at hl 0 rfl) ?_
    refine va_get (D := D) (ci := 4) (v := .int 0) (C := R_W) (T := T_W) (N := 3) hx hb hT in_W hown hK hP 0 rfl rfl 2 (by decide) (hT _ w149) (fun _ h9 => h9) rfl dW_set_19 ?_
    refine lv_if_eq (tgt := 30) hx hb dW_set_22 rfl (fun _ => ?_) (fun h2 => absurd (by decide) h2)
    refine lv_iload_n hx hb dW_set_30 rfl (lv_at hl 1 rfl) ?_
    refine lv_topi (fun y9 e9 => ?_)
    cases (show y9 = nI j from e9.trans hjx)
    refine lq_iast (j := 0) hx hb hK hP hD hS 1 0 rfl rfl nI_0.symm (by omega) (by omega) dW_set_31 (fun H locs hP hD hS => ?_)
    have hP : va_P D vwCl [(h, .inr (4, [.ref w, .int n, .int 0])), (w, .inl (cT 0, R, .inl (upd f 0 (nI j))))] _ := hP
    have hD : va_D A [(h, .inr (4, [.ref w, .int n, .int 0])), (w, .inl (cT 0, R, .inl (upd f 0 (nI j))))] := hD
    refine lv_aload_n hx hb dW_set_32 rfl (lv_at hl 0 rfl) ?_
    refine lv_iconst (v := 1) hx hb dW_set_33 (by decide) ?_
    refine rw_v (wc := [(h, .inr (4, [.ref w, .int n, .int 0])), (w, .inl (cT 0, R, .inl (upd f 0 (nI j))))]) (wr := []) hP hD hS hA [0, 1] [] rfl rfl (by decide) (by decide) (va_runV (As := [.int 1]) (rest := []) ⟨hx, hb, hml, hown, hT⟩ (k_trim l D cT h w R n 0 (upd f 0 (nI j)) 1 hR (by omega) (dok_1 hj (by decide)) _) ⟨callB_of 1 hT (tb_gd w397) rfl rfl rfl (hT _ w5) (hT _ w394) hW_trim ⟨Nat.le_of_ble_eq_true rfl, Nat.le_of_ble_eq_true rfl⟩, (hT _ w396), (hT _ wp3)⟩ (RW.preV (ci := 4) (q0 := 0) hZ hS (va_free (wc := [(h, .inr (4, [.ref w, .int n, .int 0])), (w, .inl (cT 0, R, .inl (upd f 0 (nI j))))]) hD hS hA [0, 1] rfl) (hP.sub (ws' := [(h, .inr (4, [.ref w, .int n, .int 0])), (w, .inl (cT 0, R, .inl (upd f 0 (nI j))))]) [0, 1] rfl) hK (hD.sub (ws' := [(h, .inr (4, [.ref w, .int n, .int 0])), (w, .inl (cT 0, R, .inl (upd f 0 (nI j))))]) [0, 1] (by decide) rfl) rfl rfl) rfl rfl hl.1 rfl (lv_room (Nat.le_of_ble_eq_true rfl)) dW_set_34 ⟨Nat.le_of_ble_eq_true rfl, Nat.le_of_ble_eq_true rfl⟩) (fun u9 H locs hpu3 hP hD hS => ?_)
    obtain ⟨ku3, rfl⟩ : ∃ q9, q9 = u9 := ⟨_, rfl⟩
    have hpu3 : ku3 ≤ 1 ∧ top0 (upd f 0 (nI j)) ku3 ∧ vW (upd f 0 (nI j)) ku3 = vW (upd f 0 (nI j)) 1 := hpu3
    have hP : va_P D vwCl [(h, .inr (4, [.ref w, .int (nI ku3), .int 0])), (w, .inl (cT 0, R, .inl (upd f 0 (nI j))))] _ := hP
    have hD : va_D A [(h, .inr (4, [.ref w, .int (nI ku3), .int 0])), (w, .inl (cT 0, R, .inl (upd f 0 (nI j))))] := hD
    have hP9 := hP.sub (ws' := [(h, .inr (4, [.ref w, .int (nI ku3), .int 0])), (w, .inl (cT 0, R, .inl (upd f 0 (nI j))))]) [0, 1] rfl
    have hD9 := hD.sub (ws' := [(h, .inr (4, [.ref w, .int (nI ku3), .int 0])), (w, .inl (cT 0, R, .inl (upd f 0 (nI j))))]) [0, 1] (by decide) rfl
    refine W.widen (k := 0) (n := 0) (Nat.le_of_ble_eq_true rfl) (Nat.le_of_ble_eq_true rfl) ?_
    exact W.vret hx hb hr (fun t ht hW => ⟨⟨(nI ku3, 0, upd f 0 (nI j)), rfl, (show WN R (nI ku3) 0 (upd f 0 (nI j)) v.toInt from by have q0 := wn_trim (R := R) (b := 0) (by omega) (dok_1 (f := f) hj (by decide)) (by decide) hpu3; rw [vW_1 (by omega), wz_0] at q0; rw [hjz]; exact q0), by rw [ht]; exact hP9, hD9⟩, hS.F ht⟩) hS.2.2 dW_set_37
  · obtain ⟨j, hj, hjx, hjz⟩ := x_neg (Int32.not_le.mp h1) hv0.1
    refine lv_iconst (v := 1) hx hb dW_set_5 (by decide) ?_
    refine lv_goto (tgt := 10) hx hb dW_set_6 rfl ?_
    refine va_put (D := D) (ci := 4) (v := .int 1) (ty := .boolean) (C := R_W) (T := T_W) (N := 3) hx hb hT in_W ty_W ty_W_ok m_W hown hK hP hD hS 0 rfl rfl 2 (by decide) (hT _ w149) (fun _ h9 => h9) rfl (by decide +kernel) rfl rfl (Nat.le_of_ble_eq_true rfl) dW_set_10 (fun H locs hP hD hS => ?_)
    have hP : va_P D vwCl [(h, .inr (4, [.ref w, .int n, .int 1])), (w, .inl (cT 0, R, .inl f))] _ := hP
    have hD : va_D A [(h, .inr (4, [.ref w, .int n, .int 1])), (w, .inl (cT 0, R, .inl f))] := hD
    refine lv_aload_n hx hb dW_set_13 rfl (lv_at hl 0 rfl) ?_
    refine va_get (D := D) (ci := 4) (v := .ref w) (C := R_W) (T := T_W) (N := 3) hx hb hT in_W hown hK hP 0 rfl rfl 0 (by decide) (hT _ w145) (fun _ h9 => h9) rfl dW_set_14 ?_
    refine lv_iconst (v := 0) hx hb dW_set_17 (by decide) ?_
    refine lv_aload_n hx hb dW_set_18 rfl (lv_at hl 0 rfl) ?_
    refine va_get (D := D) (ci := 4) (v := .int 1) (C := R_W) (T := T_W) (N := 3) hx hb hT in_W hown hK hP 0 rfl rfl 2 (by decide) (hT _ w149) (fun _ h9 => h9) rfl dW_set_19 ?_
    refine lv_if_eq (tgt := 30) hx hb dW_set_22 rfl (fun h4 => absurd h4 (by decide)) (fun _ => ?_)
    refine lv_iload_n hx hb dW_set_25 rfl (lv_at hl 1 rfl) ?_
    refine lv_ineg hx hb dW_set_26 ?_
    refine lv_topi (fun y9 e9 => ?_)
    cases (show y9 = nI j from e9.trans hjx)
    refine lv_goto (tgt := 31) hx hb dW_set_27 rfl ?_
    refine lq_iast (j := 0) hx hb hK hP hD hS 1 0 rfl rfl nI_0.symm (by omega) (by omega) dW_set_31 (fun H locs hP hD hS => ?_)
    have hP : va_P D vwCl [(h, .inr (4, [.ref w, .int n, .int 1])), (w, .inl (cT 0, R, .inl (upd f 0 (nI j))))] _ := hP
    have hD : va_D A [(h, .inr (4, [.ref w, .int n, .int 1])), (w, .inl (cT 0, R, .inl (upd f 0 (nI j))))] := hD
    refine lv_aload_n hx hb dW_set_32 rfl (lv_at hl 0 rfl) ?_
    refine lv_iconst (v := 1) hx hb dW_set_33 (by decide) ?_
    refine rw_v (wc := [(h, .inr (4, [.ref w, .int n, .int 1])), (w, .inl (cT 0, R, .inl (upd f 0 (nI j))))]) (wr := []) hP hD hS hA [0, 1] [] rfl rfl (by decide) (by decide) (va_runV (As := [.int 1]) (rest := []) ⟨hx, hb, hml, hown, hT⟩ (k_trim l D cT h w R n 1 (upd f 0 (nI j)) 1 hR (by omega) (dok_1 hj (by decide)) _) ⟨callB_of 1 hT (tb_gd w397) rfl rfl rfl (hT _ w5) (hT _ w394) hW_trim ⟨Nat.le_of_ble_eq_true rfl, Nat.le_of_ble_eq_true rfl⟩, (hT _ w396), (hT _ wp3)⟩ (RW.preV (ci := 4) (q0 := 0) hZ hS (va_free (wc := [(h, .inr (4, [.ref w, .int n, .int 1])), (w, .inl (cT 0, R, .inl (upd f 0 (nI j))))]) hD hS hA [0, 1] rfl) (hP.sub (ws' := [(h, .inr (4, [.ref w, .int n, .int 1])), (w, .inl (cT 0, R, .inl (upd f 0 (nI j))))]) [0, 1] rfl) hK (hD.sub (ws' := [(h, .inr (4, [.ref w, .int n, .int 1])), (w, .inl (cT 0, R, .inl (upd f 0 (nI j))))]) [0, 1] (by decide) rfl) rfl rfl) rfl rfl hl.1 rfl (lv_room (Nat.le_of_ble_eq_true rfl)) dW_set_34 ⟨Nat.le_of_ble_eq_true rfl, Nat.le_of_ble_eq_true rfl⟩) (fun u9 H locs hpu5 hP hD hS => ?_)
    obtain ⟨ku5, rfl⟩ : ∃ q9, q9 = u9 := ⟨_, rfl⟩
    have hpu5 : ku5 ≤ 1 ∧ top0 (upd f 0 (nI j)) ku5 ∧ vW (upd f 0 (nI j)) ku5 = vW (upd f 0 (nI j)) 1 := hpu5
    have hP : va_P D vwCl [(h, .inr (4, [.ref w, .int (nI ku5), .int 1])), (w, .inl (cT 0, R, .inl (upd f 0 (nI j))))] _ := hP
    have hD : va_D A [(h, .inr (4, [.ref w, .int (nI ku5), .int 1])), (w, .inl (cT 0, R, .inl (upd f 0 (nI j))))] := hD
    have hP9 := hP.sub (ws' := [(h, .inr (4, [.ref w, .int (nI ku5), .int 1])), (w, .inl (cT 0, R, .inl (upd f 0 (nI j))))]) [0, 1] rfl
    have hD9 := hD.sub (ws' := [(h, .inr (4, [.ref w, .int (nI ku5), .int 1])), (w, .inl (cT 0, R, .inl (upd f 0 (nI j))))]) [0, 1] (by decide) rfl
    refine W.widen (k := 0) (n := 0) (Nat.le_of_ble_eq_true rfl) (Nat.le_of_ble_eq_true rfl) ?_
    exact W.vret hx hb hr (fun t ht hW => ⟨⟨(nI ku5, 1, upd f 0 (nI j)), rfl, (show WN R (nI ku5) 1 (upd f 0 (nI j)) v.toInt from by have q0 := wn_trim (R := R) (b := 1) (by omega) (dok_1 (f := f) hj (by decide)) (by decide) hpu5; rw [vW_1 (by omega), wz_1] at q0; rw [hjz]; exact q0), by rw [ht]; exact hP9, hD9⟩, hS.F ht⟩) hS.2.2 dW_set_37
set_option maxHeartbeats 4000000 in
set_option maxRecDepth 100000 in
theorem k_rest (l : Launch) (D : va_G) (cT : Nat → ClassId) (h : Nat) (w : Nat) (R : Nat) (n : Int32) (b : Int32) (f : Nat → Int32) (z : Int) (d : Nat) (hR : R ≤ 48) (hN : WN R n b f z) (hd0 : 0 < d) (hd1 : d < 2 ^ 31) : Met l yW_rest WW_rest ({ frames := 0, cells := 0, slots := 0, locals := 0 } : Room) (RO D vwCl [.ref h, .int (nI d)] [(h, .inr (4, [.ref w, .int n, .int b])), (w, .inl (cT 0, R, .inl f))] (TY cT)) (QcRead (nI (z.natAbs % d))) 0 0 (fun _ => False) := by
  refine Met.ofW (cc := cW_rest) (maxL := 5) (ret := (some .int)) (by decide) rfl ?_
  intro p e s m args below meth c s₁ B hml hv
  obtain ⟨rfl, hZ, hP, hK⟩ := hv
  have hx := B.exec
  have hb := B.bytes
  have hr := B.returns
  have hts := atoms_spec (ws := WW_rest) B.pre
  have hT : ∀ w ∈ TB, w.before _ s = true := fun w h => hts w (List.mem_cons_of_mem _ h)
  have hown : s.vm.findClass R_W = some m.cls := findClass_of_methodNamed B.named
  have hlocks := B.notSynchronized
  have hS : va_S (fun _ => False) s.heap s.heap [] := va_S.rf
  have hl := lv_entry ([.ref h, .int (nI d)]) (n := 5) (Nat.le_of_ble_eq_true rfl)
  rw [lg_entry_eq]
  generalize (lg_sl ([.ref h, .int (nI d)]) ++ List.replicate (5 - (lg_sl ([.ref h, .int (nI d)])).length) Slot.unset).toArray = ls at hl ⊢
  have hl : lv_has ls 5 [(0, .ref h), (1, .int (nI d))] := hl
  obtain ⟨K, rfl, hk, hd, htop, hb01, hz⟩ := hN
  have hP : va_P D vwCl [(h, .inr (4, [.ref w, .int (nI K), .int b])), (w, .inl (cT 0, R, .inl f))] _ := hP
  refine lv_lconst (v := 0) hx hb dW_rest_0 (by decide) ?_
  refine lv_lstore_n hx hb dW_rest_1 rfl hl (by decide) rfl (fun ls hl => ?_)
  have hl : lv_has ls 5 [(2, .long 0), (0, .ref h), (1, .int (nI d))] := hl
  refine lv_aload_n hx hb dW_rest_2 rfl (lv_at hl 1 rfl) ?_
  refine va_get (D := D) (ci := 4) (v := .int (nI K)) (C := R_W) (T := T_W) (N := 3) hx hb hT in_W hown hK hP 0 rfl rfl 1 (by decide) (hT _ w148) (fun _ h9 => h9) rfl dW_rest_3 ?_
  refine lv_iconst (v := 1) hx hb dW_rest_6 (by decide) ?_
  refine lv_isub hx hb dW_rest_7 ?_
  refine lv_istore hx hb dW_rest_8 hl (by decide) rfl (fun ls hl => ?_)
  have hl : lv_has ls 5 [(4, .int ((nI K) - 1)), (2, .long 0), (0, .ref h), (1, .int (nI d))] := hl
  refine lp_r (α := Nat × Nat) (fun a9 => a9.1 ≤ K ∧ a9.2 < d ∧ a9.2 = hv 1000000000 (dg f) a9.1 (K - a9.1) % d) (fun a9 => a9.1) (fun a9 => [(0, .ref h), (1, .int (nI d)), (2, .long (lN a9.2)), (4, .int (nI a9.1 - 1))]) 10 ?_ (K, 0) (show K ≤ K ∧ 0 < d ∧ 0 = hv 1000000000 (dg f) K (K - K) % d from ⟨Nat.le_refl _, hd0, by rw [Nat.sub_self]; exact (Nat.zero_mod d).symm⟩) (lv_sub hl [2, 3, 1, 0] rfl)
  intro a9 hI10 ih10 ls hl
  obtain ⟨k, r⟩ := a9
  have hI10 : k ≤ K ∧ r < d ∧ r = hv 1000000000 (dg f) k (K - k) % d := hI10
  obtain ⟨ik, ir, iv⟩ := hI10
  have hl : lv_has ls 5 [(0, .ref h), (1, .int (nI d)), (2, .long (lN r)), (4, .int (nI k - 1))] := hl
  refine lv_iload hx hb dW_rest_10 (lv_at hl 3 rfl) ?_
  refine lv_if_lt (tgt := 39) hx hb dW_rest_12 rfl (fun h1 => ?_) (fun h1 => ?_)
  · have gh1 : k = 0 := (dn_lt (by omega)).mp h1
    refine lv_lload_n hx hb dW_rest_39 rfl (lv_at hl 2 rfl) ?_
    refine lv_l2i hx hb dW_rest_40 rfl ?_
    refine lv_topi (fun y9 e9 => ?_)
    cases (show y9 = nI r from e9.trans (lN_i r))
    exact W.iret (v := nI r) hx hb hr (fun t ht hW => ⟨by rw [hz, wz_abs, iv, show k = 0 by omega, Nat.sub_zero], ht⟩) (fun q h => nomatch h) dW_rest_41
  · have gh1 : 0 < k := Nat.pos_of_ne_zero (fun q => h1 ((dn_lt (by omega)).mpr q))
    have hw := hd (k - 1) (by omega)
    refine lv_lload_n hx hb dW_rest_15 rfl (lv_at hl 2 rfl) ?_
    refine lv_ldc2 (v := 1000000000) hx hb hown (hT _ w421) dW_rest_16 ?_
    refine lv_lmul hx hb dW_rest_19 ?_
    refine lv_topl (fun y9 e9 => ?_)
    cases (show y9 = lN (r * 1000000000) from e9.trans (lN_mul r 1000000000))
    refine lv_aload_n hx hb dW_rest_20 rfl (lv_at hl 0 rfl) ?_
    refine va_get (D := D) (ci := 4) (v := .ref w) (C := R_W) (T := T_W) (N := 3) hx hb hT in_W hown hK hP 0 rfl rfl 0 (by decide) (hT _ w145) (fun _ h9 => h9) rfl dW_rest_21 ?_
    refine lv_iload hx hb dW_rest_24 (lv_at hl 3 rfl) ?_
    refine lq_iald (j := k - 1) hx hb hK hP 1 0 rfl rfl (nI_sub1 (by omega)) (by omega) (by omega) dW_rest_26 ?_
    refine lv_topi (fun y9 e9 => ?_)
    cases (show y9 = nI (dg f (k - 1)) from e9.trans hw.1)
    refine lv_i2l hx hb dW_rest_27 rfl ?_
    refine lv_topl (fun y9 e9 => ?_)
    cases (show y9 = lN (dg f (k - 1)) from e9.trans (nI_l (n := dg f (k - 1)) (by have := hw.2; omega)))
    refine lv_ladd hx hb dW_rest_28 ?_
    refine lv_topl (fun y9 e9 => ?_)
    cases (show y9 = lN ((r * 1000000000) + (dg f (k - 1))) from e9.trans (lN_add (r * 1000000000) (dg f (k - 1))))
    refine lv_iload_n hx hb dW_rest_29 rfl (lv_at hl 1 rfl) ?_
    refine lv_i2l hx hb dW_rest_30 rfl ?_
    refine lv_topl (fun y9 e9 => ?_)
    cases (show y9 = lN d from e9.trans (nI_l (n := d) (by omega)))
    have hb31 : r * 1000000000 + dg f (k - 1) < 2 ^ 63 := by have := hw.2; omega
    refine lv_lrem hx hb dW_rest_31 (fun q => absurd ((pk_lEQ (b := 0) (by omega) (by decide)).mp q) (by omega)) ?_
    refine lv_topl (fun y9 e9 => ?_)
    cases (show y9 = lN (((r * 1000000000) + (dg f (k - 1))) % d) from e9.trans (pk_lRem (a := (r * 1000000000) + (dg f (k - 1))) (b := d) hb31 hd0 (by omega)))
    obtain ⟨r1, hr1⟩ : ∃ q9 : Nat, q9 = ((r * 1000000000) + (dg f (k - 1))) % d := ⟨_, rfl⟩
    refine lv_topl (fun y9 e9 => ?_)
    cases (show y9 = lN r1 from e9.trans (congrArg lN hr1.symm))
    refine lv_lstore_n hx hb dW_rest_32 rfl hl (by decide) rfl (fun ls hl => ?_)
    have hl : lv_has ls 5 [(2, .long (lN r1)), (0, .ref h), (1, .int (nI d)), (4, .int (nI k - 1))] := hl
    refine lv_iinc (k := 3) (v := nI (k - 1) - 1) hx hb dW_rest_33 hl rfl (dn_m1 (by omega)) (by decide) rfl (fun ls hl => ?_)
    have hl : lv_has ls 5 [(4, .int (nI (k - 1) - 1)), (2, .long (lN r1)), (0, .ref h), (1, .int (nI d))] := hl
    refine lv_goto (tgt := 10) hx hb dW_rest_36 rfl ?_
    exact ih10 (k - 1, r1) (show (k - 1) ≤ K ∧ r1 < d ∧ r1 = hv 1000000000 (dg f) (k - 1) (K - (k - 1)) % d from ⟨by omega, by rw [hr1]; exact Nat.mod_lt _ hd0, by rw [hr1, rest_s iv, hv_dn (by omega) ik]⟩) (show (k - 1) < k from (by omega)) ls (lv_sub hl [2, 3, 1, 0] rfl)
set_option maxHeartbeats 4000000 in
set_option maxRecDepth 100000 in
theorem k_divide (l : Launch) (D : va_G) (cT : Nat → ClassId) (h : Nat) (w : Nat) (R : Nat) (n : Int32) (b : Int32) (f : Nat → Int32) (z : Int) (d : Nat) (hR : R ≤ 48) (hN : WN R n b f z) (hd0 : 0 < d) (hd1 : d < 2 ^ 31) (sz : Nat) : Met l yW_divide WW_divide ({ frames := 1, cells := 0, slots := 0, locals := 21 } : Room) (RW D vwCl [.ref h, .int (nI d)] [(h, .inr (4, [.ref w, .int n, .int b])), (w, .inl (cT 0, R, .inl f))] (TY cT) sz) (va_Qv (fun u9 : Int32 × (Nat → Int32) => WN R u9.1 b u9.2 (z.tdiv d)) (BW D vwCl (va_A [(h, .inr (4, [.ref w, .int n, .int b])), (w, .inl (cT 0, R, .inl f))] sz) (fun u9 : Int32 × (Nat → Int32) => [(h, .inr (4, [.ref w, .int u9.1, .int b])), (w, .inl (cT 0, R, .inl u9.2))])) (va_A [(h, .inr (4, [.ref w, .int n, .int b])), (w, .inl (cT 0, R, .inl f))] sz)) 0 0 (va_A [(h, .inr (4, [.ref w, .int n, .int b])), (w, .inl (cT 0, R, .inl f))] sz) := by
  refine Met.ofW (cc := cW_divide) (maxL := 7) (ret := none) (by decide) rfl ?_
  intro p e s m args below meth c s₁ B hml hv
  obtain ⟨rfl, hsz, hZ, hP, hK, hD0⟩ := hv
  have hx := B.exec
  have hb := B.bytes
  have hr := B.returns
  have hts := atoms_spec (ws := WW_divide) B.pre
  have hT : ∀ w ∈ TB, w.before _ s = true := fun w h => hts w (List.mem_cons_of_mem _ h)
  have hown : s.vm.findClass R_W = some m.cls := findClass_of_methodNamed B.named
  have hlocks := B.notSynchronized
  subst hsz
  have hD := hD0.self (sz := s.heap.size)
  generalize hAe : va_A [(h, .inr (4, [.ref w, .int n, .int b])), (w, .inl (cT 0, R, .inl f))] s.heap.size = A at hD hZ ⊢
  have hA : ∀ q : Nat, s.heap.size ≤ q → A q := fun q h => by rw [← hAe]; exact Or.inr h
  have hS : va_S A s.heap s.heap [] := va_S.rf
  have hl := lv_entry ([.ref h, .int (nI d)]) (n := 7) (Nat.le_of_ble_eq_true rfl)
  rw [lg_entry_eq]
  generalize (lg_sl ([.ref h, .int (nI d)]) ++ List.replicate (7 - (lg_sl ([.ref h, .int (nI d)])).length) Slot.unset).toArray = ls at hl ⊢
  have hl : lv_has ls 7 [(0, .ref h), (1, .int (nI d))] := hl
  obtain ⟨K, rfl, hk, hd, htop, hb01, hz⟩ := hN
  have hP : va_P D vwCl [(h, .inr (4, [.ref w, .int (nI K), .int b])), (w, .inl (cT 0, R, .inl f))] _ := hP
  have hD : va_D A [(h, .inr (4, [.ref w, .int (nI K), .int b])), (w, .inl (cT 0, R, .inl f))] := hD
  refine lv_lconst (v := 0) hx hb dW_divide_0 (by decide) ?_
  refine lv_lstore_n hx hb dW_divide_1 rfl hl (by decide) rfl (fun ls hl => ?_)
  have hl : lv_has ls 7 [(2, .long 0), (0, .ref h), (1, .int (nI d))] := hl
  refine lv_aload_n hx hb dW_divide_2 rfl (lv_at hl 1 rfl) ?_
  refine va_get (D := D) (ci := 4) (v := .int (nI K)) (C := R_W) (T := T_W) (N := 3) hx hb hT in_W hown hK hP 0 rfl rfl 1 (by decide) (hT _ w148) (fun _ h9 => h9) rfl dW_divide_3 ?_
  refine lv_iconst (v := 1) hx hb dW_divide_6 (by decide) ?_
  refine lv_isub hx hb dW_divide_7 ?_
  refine lv_istore hx hb dW_divide_8 hl (by decide) rfl (fun ls hl => ?_)
  have hl : lv_has ls 7 [(4, .int ((nI K) - 1)), (2, .long 0), (0, .ref h), (1, .int (nI d))] := hl
  refine lp_w (α := Nat × Nat × (Nat → Int32)) (fun a9 => a9.1 ≤ K ∧ a9.2.1 < d ∧ (∀ j, j < a9.1 → a9.2.2 j = f j) ∧ dab 1000000000 a9.2.2 a9.1 K ∧ hv 1000000000 (dg f) a9.1 (K - a9.1) = d * hv 1000000000 (dg a9.2.2) a9.1 (K - a9.1) + a9.2.1) (fun a9 => a9.1) (fun a9 => [(0, .ref h), (1, .int (nI d)), (2, .long (lN a9.2.1)), (4, .int (nI a9.1 - 1))]) (fun a9 => [(h, .inr (4, [.ref w, .int (nI K), .int b])), (w, .inl (cT 0, R, .inl a9.2.2))]) 10 ?_ (K, 0, f) (show K ≤ K ∧ 0 < d ∧ (∀ j, j < K → f j = f j) ∧ dab 1000000000 f K K ∧ hv 1000000000 (dg f) K (K - K) = d * hv 1000000000 (dg f) K (K - K) + 0 from ⟨Nat.le_refl _, hd0, fun _ _ => rfl, fun m h1 h2 => absurd h1 (by omega), by rw [Nat.sub_self]; rfl⟩) (lv_sub hl [2, 3, 1, 0] rfl) hP hD hS
  intro a9 hI10 ih10 ls H locs hl hP hD hS
  obtain ⟨k, r, g⟩ := a9
  have hI10 : k ≤ K ∧ r < d ∧ (∀ j, j < k → g j = f j) ∧ dab 1000000000 g k K ∧ hv 1000000000 (dg f) k (K - k) = d * hv 1000000000 (dg g) k (K - k) + r := hI10
  obtain ⟨ik, ir, ig, ia, iv⟩ := hI10
  have hl : lv_has ls 7 [(0, .ref h), (1, .int (nI d)), (2, .long (lN r)), (4, .int (nI k - 1))] := hl
  have hP : va_P D vwCl [(h, .inr (4, [.ref w, .int (nI K), .int b])), (w, .inl (cT 0, R, .inl g))] _ := hP
  have hD : va_D A [(h, .inr (4, [.ref w, .int (nI K), .int b])), (w, .inl (cT 0, R, .inl g))] := hD
  refine lv_iload hx hb dW_divide_10 (lv_at hl 3 rfl) ?_
  refine lv_if_lt (tgt := 56) hx hb dW_divide_12 rfl (fun h1 => ?_) (fun h1 => ?_)
  · have gh1 : k = 0 := (dn_lt (by omega)).mp h1
    have k0 : k = 0 := by omega
    subst k0
    have hdk := dab_dok ia
    have hl : lv_has ls 7 [(0, .ref h), (1, .int (nI d)), (2, .long (lN r)), (4, .int (nI 0 - 1))] := hl
    have hP : va_P D vwCl [(h, .inr (4, [.ref w, .int (nI K), .int b])), (w, .inl (cT 0, R, .inl g))] _ := hP
    have hD : va_D A [(h, .inr (4, [.ref w, .int (nI K), .int b])), (w, .inl (cT 0, R, .inl g))] := hD
    refine lv_aload_n hx hb dW_divide_56 rfl (lv_at hl 0 rfl) ?_
    refine lv_aload_n hx hb dW_divide_57 rfl (lv_at hl 0 rfl) ?_
    refine va_get (D := D) (ci := 4) (v := .int (nI K)) (C := R_W) (T := T_W) (N := 3) hx hb hT in_W hown hK hP 0 rfl rfl 1 (by decide) (hT _ w148) (fun _ h9 => h9) rfl dW_divide_58 ?_
    refine rw_v (wc := [(h, .inr (4, [.ref w, .int (nI K), .int b])), (w, .inl (cT 0, R, .inl g))]) (wr := []) hP hD hS hA [0, 1] [] rfl rfl (by decide) (by decide) (va_runV (As := [.int (nI K)]) (rest := []) ⟨hx, hb, hml, hown, hT⟩ (k_trim l D cT h w R (nI K) b g K hR hk hdk _) ⟨callB_of 1 hT (tb_gd w397) rfl rfl rfl (hT _ w5) (hT _ w394) hW_trim ⟨Nat.le_of_ble_eq_true rfl, Nat.le_of_ble_eq_true rfl⟩, (hT _ w396), (hT _ wp3)⟩ (RW.preV (ci := 4) (q0 := 0) hZ hS (va_free (wc := [(h, .inr (4, [.ref w, .int (nI K), .int b])), (w, .inl (cT 0, R, .inl g))]) hD hS hA [0, 1] rfl) (hP.sub (ws' := [(h, .inr (4, [.ref w, .int (nI K), .int b])), (w, .inl (cT 0, R, .inl g))]) [0, 1] rfl) hK (hD.sub (ws' := [(h, .inr (4, [.ref w, .int (nI K), .int b])), (w, .inl (cT 0, R, .inl g))]) [0, 1] (by decide) rfl) rfl rfl) rfl rfl hl.1 rfl (lv_room (Nat.le_of_ble_eq_true rfl)) dW_divide_61 ⟨Nat.le_of_ble_eq_true rfl, Nat.le_of_ble_eq_true rfl⟩) (fun u9 H locs hpu2 hP hD hS => ?_)
    obtain ⟨ku2, rfl⟩ : ∃ q9, q9 = u9 := ⟨_, rfl⟩
    have hpu2 : ku2 ≤ K ∧ top0 g ku2 ∧ vW g ku2 = vW g K := hpu2
    have hP : va_P D vwCl [(h, .inr (4, [.ref w, .int (nI ku2), .int b])), (w, .inl (cT 0, R, .inl g))] _ := hP
    have hD : va_D A [(h, .inr (4, [.ref w, .int (nI ku2), .int b])), (w, .inl (cT 0, R, .inl g))] := hD
    have hP9 := hP.sub (ws' := [(h, .inr (4, [.ref w, .int (nI ku2), .int b])), (w, .inl (cT 0, R, .inl g))]) [0, 1] rfl
    have hD9 := hD.sub (ws' := [(h, .inr (4, [.ref w, .int (nI ku2), .int b])), (w, .inl (cT 0, R, .inl g))]) [0, 1] (by decide) rfl
    refine W.widen (k := 0) (n := 0) (Nat.le_of_ble_eq_true rfl) (Nat.le_of_ble_eq_true rfl) ?_
    exact W.vret hx hb hr (fun t ht hW => ⟨⟨(nI ku2, g), rfl, (show WN R (nI ku2) b g (z.tdiv d) from by have q0 := wn_trim (R := R) hk hdk hb01 hpu2; rw [show vW g K = vW f K / d from vW_uq iv ir, wz_tdiv, ← hz] at q0; exact q0), by rw [ht]; exact hP9, hD9⟩, hS.F ht⟩) hS.2.2 dW_divide_64
  · have gh1 : 0 < k := Nat.pos_of_ne_zero (fun q => h1 ((dn_lt (by omega)).mpr q))
    have hw := hd (k - 1) (by omega)
    refine lv_lload_n hx hb dW_divide_15 rfl (lv_at hl 2 rfl) ?_
    refine lv_ldc2 (v := 1000000000) hx hb hown (hT _ w421) dW_divide_16 ?_
    refine lv_lmul hx hb dW_divide_19 ?_
    refine lv_topl (fun y9 e9 => ?_)
    cases (show y9 = lN (r * 1000000000) from e9.trans (lN_mul r 1000000000))
    refine lv_aload_n hx hb dW_divide_20 rfl (lv_at hl 0 rfl) ?_
    refine va_get (D := D) (ci := 4) (v := .ref w) (C := R_W) (T := T_W) (N := 3) hx hb hT in_W hown hK hP 0 rfl rfl 0 (by decide) (hT _ w145) (fun _ h9 => h9) rfl dW_divide_21 ?_
    refine lv_iload hx hb dW_divide_24 (lv_at hl 3 rfl) ?_
    refine lq_iald (j := k - 1) hx hb hK hP 1 0 rfl rfl (nI_sub1 (by omega)) (by omega) (by omega) dW_divide_26 ?_
    refine lv_topi (fun y9 e9 => ?_)
    cases (show y9 = nI (dg f (k - 1)) from e9.trans (by rw [ig (k - 1) (by omega)]; exact hw.1))
    refine lv_i2l hx hb dW_divide_27 rfl ?_
    refine lv_topl (fun y9 e9 => ?_)
    cases (show y9 = lN (dg f (k - 1)) from e9.trans (nI_l (n := dg f (k - 1)) (by have := hw.2; omega)))
    refine lv_ladd hx hb dW_divide_28 ?_
    refine lv_topl (fun y9 e9 => ?_)
    cases (show y9 = lN ((r * 1000000000) + (dg f (k - 1))) from e9.trans (lN_add (r * 1000000000) (dg f (k - 1))))
    obtain ⟨pt, hpt⟩ : ∃ q9 : Nat, q9 = (r * 1000000000) + (dg f (k - 1)) := ⟨_, rfl⟩
    refine lv_topl (fun y9 e9 => ?_)
    cases (show y9 = lN pt from e9.trans (congrArg lN hpt.symm))
    have hb31 : pt < 2 ^ 63 := by have := hw.2; omega
    refine lv_lstore hx hb dW_divide_29 hl (by decide) rfl (fun ls hl => ?_)
    have hl : lv_has ls 7 [(5, .long (lN pt)), (0, .ref h), (1, .int (nI d)), (2, .long (lN r)), (4, .int (nI k - 1))] := hl
    refine lv_aload_n hx hb dW_divide_31 rfl (lv_at hl 1 rfl) ?_
    refine va_get (D := D) (ci := 4) (v := .ref w) (C := R_W) (T := T_W) (N := 3) hx hb hT in_W hown hK hP 0 rfl rfl 0 (by decide) (hT _ w145) (fun _ h9 => h9) rfl dW_divide_32 ?_
    refine lv_iload hx hb dW_divide_35 (lv_at hl 4 rfl) ?_
    refine lv_lload hx hb dW_divide_37 (lv_at hl 0 rfl) ?_
    refine lv_iload_n hx hb dW_divide_39 rfl (lv_at hl 2 rfl) ?_
    refine lv_i2l hx hb dW_divide_40 rfl ?_
    refine lv_topl (fun y9 e9 => ?_)
    cases (show y9 = lN d from e9.trans (nI_l (n := d) (by omega)))
    refine lv_ldiv hx hb dW_divide_41 (fun q => absurd ((pk_lEQ (b := 0) (by omega) (by decide)).mp q) (by omega)) ?_
    refine lv_topl (fun y9 e9 => ?_)
    cases (show y9 = lN (pt / d) from e9.trans (pk_lDiv (a := pt) (b := d) hb31 hd0 (by omega)))
    obtain ⟨q1, hq1⟩ : ∃ q9 : Nat, q9 = pt / d := ⟨_, rfl⟩
    refine lv_topl (fun y9 e9 => ?_)
    cases (show y9 = lN q1 from e9.trans (congrArg lN hq1.symm))
    have hq1b : q1 < 1000000000 := by rw [hq1, hpt]; exact div_lt ir hw.2
    refine lv_l2i hx hb dW_divide_42 rfl ?_
    refine lv_topi (fun y9 e9 => ?_)
    cases (show y9 = nI q1 from e9.trans (lN_i q1))
    refine lq_iast (j := k - 1) hx hb hK hP hD hS 1 0 rfl rfl (nI_sub1 (by omega)) (by omega) (by omega) dW_divide_43 (fun H locs hP hD hS => ?_)
    have hP : va_P D vwCl [(h, .inr (4, [.ref w, .int (nI K), .int b])), (w, .inl (cT 0, R, .inl (upd g (k - 1) (nI q1))))] _ := hP
    have hD : va_D A [(h, .inr (4, [.ref w, .int (nI K), .int b])), (w, .inl (cT 0, R, .inl (upd g (k - 1) (nI q1))))] := hD
    refine lv_lload hx hb dW_divide_44 (lv_at hl 0 rfl) ?_
    refine lv_iload_n hx hb dW_divide_46 rfl (lv_at hl 2 rfl) ?_
    refine lv_i2l hx hb dW_divide_47 rfl ?_
    refine lv_topl (fun y9 e9 => ?_)
    cases (show y9 = lN d from e9.trans (nI_l (n := d) (by omega)))
    refine lv_lrem hx hb dW_divide_48 (fun q => absurd ((pk_lEQ (b := 0) (by omega) (by decide)).mp q) (by omega)) ?_
    refine lv_topl (fun y9 e9 => ?_)
    cases (show y9 = lN (pt % d) from e9.trans (pk_lRem (a := pt) (b := d) hb31 hd0 (by omega)))
    obtain ⟨r1, hr1⟩ : ∃ q9 : Nat, q9 = pt % d := ⟨_, rfl⟩
    refine lv_topl (fun y9 e9 => ?_)
    cases (show y9 = lN r1 from e9.trans (congrArg lN hr1.symm))
    refine lv_lstore_n hx hb dW_divide_49 rfl hl (by decide) rfl (fun ls hl => ?_)
    have hl : lv_has ls 7 [(2, .long (lN r1)), (5, .long (lN pt)), (0, .ref h), (1, .int (nI d)), (4, .int (nI k - 1))] := hl
    refine lv_iinc (k := 4) (v := nI (k - 1) - 1) hx hb dW_divide_50 hl rfl (dn_m1 (by omega)) (by decide) rfl (fun ls hl => ?_)
    have hl : lv_has ls 7 [(4, .int (nI (k - 1) - 1)), (2, .long (lN r1)), (5, .long (lN pt)), (0, .ref h), (1, .int (nI d))] := hl
    refine lv_goto (tgt := 10) hx hb dW_divide_53 rfl ?_
    exact ih10 (k - 1, r1, upd g (k - 1) (nI q1)) (show (k - 1) ≤ K ∧ r1 < d ∧ (∀ j, j < (k - 1) → (upd g (k - 1) (nI q1)) j = f j) ∧ dab 1000000000 (upd g (k - 1) (nI q1)) (k - 1) K ∧ hv 1000000000 (dg f) (k - 1) (K - (k - 1)) = d * hv 1000000000 (dg (upd g (k - 1) (nI q1))) (k - 1) (K - (k - 1)) + r1 from ⟨by omega, by rw [hr1, hpt]; exact Nat.mod_lt _ hd0, fun j h => (pk_un (by omega)).trans (ig j (by omega)), dab_s (by omega) ia hq1b (by decide), by rw [hv_dn (by omega) ik, hv_ud (v := q1) (by omega) ik (by omega)]; exact div_s iv (by rw [hq1, hpt]) (by rw [hr1, hpt])⟩) (show (k - 1) < k from (by omega)) ls H locs (lv_sub hl [3, 4, 1, 0] rfl) hP hD hS
set_option maxHeartbeats 4000000 in
set_option maxRecDepth 100000 in
theorem k_times (l : Launch) (D : va_G) (cT : Nat → ClassId) (h : Nat) (w : Nat) (R : Nat) (n : Int32) (b : Int32) (f : Nat → Int32) (z : Int) (F : Nat) (hR : R ≤ 48) (hN : WN R n b f z) (hF : F < 1000000000000000000) (hfit : z.natAbs * F < 1000000000 ^ R) (sz : Nat) : Met l yW_times WW_times ({ frames := 1, cells := 0, slots := 0, locals := 21 } : Room) (RW D vwCl [.ref h, .long (lN F)] [(h, .inr (4, [.ref w, .int n, .int b])), (w, .inl (cT 0, R, .inl f))] (TY cT) sz) (va_Qv (fun u9 : Int32 × (Nat → Int32) => WN R u9.1 b u9.2 (z * F)) (BW D vwCl (va_A [(h, .inr (4, [.ref w, .int n, .int b])), (w, .inl (cT 0, R, .inl f))] sz) (fun u9 : Int32 × (Nat → Int32) => [(h, .inr (4, [.ref w, .int u9.1, .int b])), (w, .inl (cT 0, R, .inl u9.2))])) (va_A [(h, .inr (4, [.ref w, .int n, .int b])), (w, .inl (cT 0, R, .inl f))] sz)) 0 0 (va_A [(h, .inr (4, [.ref w, .int n, .int b])), (w, .inl (cT 0, R, .inl f))] sz) := by
  refine Met.ofW (cc := cW_times) (maxL := 16) (ret := none) (by decide) rfl ?_
  intro p e s m args below meth c s₁ B hml hv
  obtain ⟨rfl, hsz, hZ, hP, hK, hD0⟩ := hv
  have hx := B.exec
  have hb := B.bytes
  have hr := B.returns
  have hts := atoms_spec (ws := WW_times) B.pre
  have hT : ∀ w ∈ TB, w.before _ s = true := fun w h => hts w (List.mem_cons_of_mem _ h)
  have hown : s.vm.findClass R_W = some m.cls := findClass_of_methodNamed B.named
  have hlocks := B.notSynchronized
  subst hsz
  have hD := hD0.self (sz := s.heap.size)
  generalize hAe : va_A [(h, .inr (4, [.ref w, .int n, .int b])), (w, .inl (cT 0, R, .inl f))] s.heap.size = A at hD hZ ⊢
  have hA : ∀ q : Nat, s.heap.size ≤ q → A q := fun q h => by rw [← hAe]; exact Or.inr h
  have hS : va_S A s.heap s.heap [] := va_S.rf
  have hl := lv_entry ([.ref h, .long (lN F)]) (n := 16) (Nat.le_of_ble_eq_true rfl)
  rw [lg_entry_eq]
  generalize (lg_sl ([.ref h, .long (lN F)]) ++ List.replicate (16 - (lg_sl ([.ref h, .long (lN F)])).length) Slot.unset).toArray = ls at hl ⊢
  have hl : lv_has ls 16 [(0, .ref h), (1, .long (lN F))] := hl
  obtain ⟨K, rfl, hk, hd, htop, hb01, hz⟩ := hN
  have hP : va_P D vwCl [(h, .inr (4, [.ref w, .int (nI K), .int b])), (w, .inl (cT 0, R, .inl f))] _ := hP
  have hD : va_D A [(h, .inr (4, [.ref w, .int (nI K), .int b])), (w, .inl (cT 0, R, .inl f))] := hD
  obtain ⟨hi, hhi⟩ : ∃ q : Nat, q = F / 1000000000 := ⟨_, rfl⟩
  obtain ⟨lo, hlo⟩ : ∃ q : Nat, q = F % 1000000000 := ⟨_, rfl⟩
  have hFe : F = hi * 1000000000 + lo := by omega
  have hhib : hi < 1000000000 := by omega
  have hlob : lo < 1000000000 := by omega
  refine lv_lload_n hx hb dW_times_0 rfl (lv_at hl 1 rfl) ?_
  refine lv_ldc2 (v := 1000000000) hx hb hown (hT _ w421) dW_times_1 ?_
  refine lv_ldiv hx hb dW_times_4 (by decide) ?_
  refine lv_topl (fun y9 e9 => ?_)
  cases (show y9 = lN (F / 1000000000) from e9.trans (pk_lDiv (a := F) (b := 1000000000) (by omega) (by omega) (by omega)))
  refine lv_topl (fun y9 e9 => ?_)
  cases (show y9 = lN hi from e9.trans (congrArg lN hhi.symm))
  refine lv_lstore_n hx hb dW_times_5 rfl hl (by decide) rfl (fun ls hl => ?_)
  have hl : lv_has ls 16 [(3, .long (lN hi)), (0, .ref h), (1, .long (lN F))] := hl
  refine lv_lload_n hx hb dW_times_6 rfl (lv_at hl 2 rfl) ?_
  refine lv_ldc2 (v := 1000000000) hx hb hown (hT _ w421) dW_times_7 ?_
  refine lv_lrem hx hb dW_times_10 (by decide) ?_
  refine lv_topl (fun y9 e9 => ?_)
  cases (show y9 = lN (F % 1000000000) from e9.trans (pk_lRem (a := F) (b := 1000000000) (by omega) (by omega) (by omega)))
  refine lv_topl (fun y9 e9 => ?_)
  cases (show y9 = lN lo from e9.trans (congrArg lN hlo.symm))
  refine lv_lstore hx hb dW_times_11 hl (by decide) rfl (fun ls hl => ?_)
  have hl : lv_has ls 16 [(5, .long (lN lo)), (3, .long (lN hi)), (0, .ref h), (1, .long (lN F))] := hl
  refine lv_lconst (v := 0) hx hb dW_times_13 (by decide) ?_
  refine lv_lstore hx hb dW_times_14 hl (by decide) rfl (fun ls hl => ?_)
  have hl : lv_has ls 16 [(7, .long 0), (5, .long (lN lo)), (3, .long (lN hi)), (0, .ref h), (1, .long (lN F))] := hl
  refine lv_lconst (v := 0) hx hb dW_times_16 (by decide) ?_
  refine lv_lstore hx hb dW_times_17 hl (by decide) rfl (fun ls hl => ?_)
  have hl : lv_has ls 16 [(9, .long 0), (7, .long 0), (5, .long (lN lo)), (3, .long (lN hi)), (0, .ref h), (1, .long (lN F))] := hl
  refine lv_iconst (v := 0) hx hb dW_times_19 (by decide) ?_
  refine lv_istore hx hb dW_times_20 hl (by decide) rfl (fun ls hl => ?_)
  have hl : lv_has ls 16 [(11, .int 0), (9, .long 0), (7, .long 0), (5, .long (lN lo)), (3, .long (lN hi)), (0, .ref h), (1, .long (lN F))] := hl
  refine lp_w (α := Nat × Nat × Nat × (Nat → Int32)) (fun a9 => a9.1 ≤ R ∧ a9.2.1 < 1000000000 ∧ a9.2.2.1 < 4000000000 ∧ dok 1000000000 a9.2.2.2 a9.1 ∧ (∀ m, a9.1 ≤ m → a9.2.2.2 m = f m) ∧ hv 1000000000 (dg a9.2.2.2) 0 a9.1 + 1000000000 ^ a9.1 * (a9.2.1 * hi + a9.2.2.1) = F * hv 1000000000 (ct K (dg f)) 0 a9.1) (fun a9 => R - a9.1) (fun a9 => [(0, .ref h), (3, .long (lN hi)), (5, .long (lN lo)), (7, .long (lN a9.2.1)), (9, .long (lN a9.2.2.1)), (11, .int (nI a9.1))]) (fun a9 => [(h, .inr (4, [.ref w, .int (nI K), .int b])), (w, .inl (cT 0, R, .inl a9.2.2.2))]) 22 ?_ (0, 0, 0, f) (show 0 ≤ R ∧ 0 < 1000000000 ∧ 0 < 4000000000 ∧ dok 1000000000 f 0 ∧ (∀ m, 0 ≤ m → f m = f m) ∧ hv 1000000000 (dg f) 0 0 + 1000000000 ^ 0 * (0 * hi + 0) = F * hv 1000000000 (ct K (dg f)) 0 0 from ⟨by omega, by decide, by decide, fun q h => absurd h (by omega), fun _ _ => rfl, by simp [hv]⟩) (lv_sub hl [5, 4, 3, 2, 1, 0] rfl) hP hD hS
  intro a9 hI22 ih22 ls H locs hl hP hD hS
  obtain ⟨j, bf, ca, g⟩ := a9
  have hI22 : j ≤ R ∧ bf < 1000000000 ∧ ca < 4000000000 ∧ dok 1000000000 g j ∧ (∀ m, j ≤ m → g m = f m) ∧ hv 1000000000 (dg g) 0 j + 1000000000 ^ j * (bf * hi + ca) = F * hv 1000000000 (ct K (dg f)) 0 j := hI22
  obtain ⟨ij, ib, ic, ig, if0, iv⟩ := hI22
  have hl : lv_has ls 16 [(0, .ref h), (3, .long (lN hi)), (5, .long (lN lo)), (7, .long (lN bf)), (9, .long (lN ca)), (11, .int (nI j))] := hl
  have hP : va_P D vwCl [(h, .inr (4, [.ref w, .int (nI K), .int b])), (w, .inl (cT 0, R, .inl g))] _ := hP
  have hD : va_D A [(h, .inr (4, [.ref w, .int (nI K), .int b])), (w, .inl (cT 0, R, .inl g))] := hD
  have hbh := mulb ib hhib
  refine lv_iload hx hb dW_times_22 (lv_at hl 5 rfl) ?_
  refine lv_aload_n hx hb dW_times_24 rfl (lv_at hl 0 rfl) ?_
  refine va_get (D := D) (ci := 4) (v := .ref w) (C := R_W) (T := T_W) (N := 3) hx hb hT in_W hown hK hP 0 rfl rfl 0 (by decide) (hT _ w145) (fun _ h9 => h9) rfl dW_times_25 ?_
  refine va_alen (v := nI R) hx hb hK hP 1 0 rfl rfl rfl dW_times_28 ?_
  refine lv_icmp_ge (tgt := 126) hx hb dW_times_29 rfl (fun h1 => ?_) (fun h1 => ?_)
  · have gh1 : R ≤ j := (nI_leI (a := R) (b := j) (by omega) (by omega)).mp h1
    have hx0 : bf * hi + ca = 0 ∧ hv 1000000000 (ct K (dg f)) 0 j = vW f K := by
      have e1 : j = R := by omega
      have e2 := hv_ct (B := 1000000000) (d := dg f) (show K ≤ j by omega)
      rw [e2] at iv
      rw [hz, wz_abs, Nat.mul_comm, ← iv, e1] at hfit
      refine ⟨?_, e2⟩
      rcases Nat.eq_zero_or_pos (bf * hi + ca) with q | q
      · exact q
      · have := Nat.mul_le_mul_left (1000000000 ^ R) (show 1 ≤ bf * hi + ca from q)
        omega
    rw [hx0.1, hx0.2, Nat.mul_zero, Nat.add_zero] at iv
    refine lv_aload_n hx hb dW_times_126 rfl (lv_at hl 0 rfl) ?_
    refine lv_iload hx hb dW_times_127 (lv_at hl 5 rfl) ?_
    refine rw_v (wc := [(h, .inr (4, [.ref w, .int (nI K), .int b])), (w, .inl (cT 0, R, .inl g))]) (wr := []) hP hD hS hA [0, 1] [] rfl rfl (by decide) (by decide) (va_runV (As := [.int (nI j)]) (rest := []) ⟨hx, hb, hml, hown, hT⟩ (k_trim l D cT h w R (nI K) b g j hR ij ig _) ⟨callB_of 1 hT (tb_gd w397) rfl rfl rfl (hT _ w5) (hT _ w394) hW_trim ⟨Nat.le_of_ble_eq_true rfl, Nat.le_of_ble_eq_true rfl⟩, (hT _ w396), (hT _ wp3)⟩ (RW.preV (ci := 4) (q0 := 0) hZ hS (va_free (wc := [(h, .inr (4, [.ref w, .int (nI K), .int b])), (w, .inl (cT 0, R, .inl g))]) hD hS hA [0, 1] rfl) (hP.sub (ws' := [(h, .inr (4, [.ref w, .int (nI K), .int b])), (w, .inl (cT 0, R, .inl g))]) [0, 1] rfl) hK (hD.sub (ws' := [(h, .inr (4, [.ref w, .int (nI K), .int b])), (w, .inl (cT 0, R, .inl g))]) [0, 1] (by decide) rfl) rfl rfl) rfl rfl hl.1 rfl (lv_room (Nat.le_of_ble_eq_true rfl)) dW_times_129 ⟨Nat.le_of_ble_eq_true rfl, Nat.le_of_ble_eq_true rfl⟩) (fun u9 H locs hpu2 hP hD hS => ?_)
    obtain ⟨ku2, rfl⟩ : ∃ q9, q9 = u9 := ⟨_, rfl⟩
    have hpu2 : ku2 ≤ j ∧ top0 g ku2 ∧ vW g ku2 = vW g j := hpu2
    have hP : va_P D vwCl [(h, .inr (4, [.ref w, .int (nI ku2), .int b])), (w, .inl (cT 0, R, .inl g))] _ := hP
    have hD : va_D A [(h, .inr (4, [.ref w, .int (nI ku2), .int b])), (w, .inl (cT 0, R, .inl g))] := hD
    have hP9 := hP.sub (ws' := [(h, .inr (4, [.ref w, .int (nI ku2), .int b])), (w, .inl (cT 0, R, .inl g))]) [0, 1] rfl
    have hD9 := hD.sub (ws' := [(h, .inr (4, [.ref w, .int (nI ku2), .int b])), (w, .inl (cT 0, R, .inl g))]) [0, 1] (by decide) rfl
    refine W.widen (k := 0) (n := 0) (Nat.le_of_ble_eq_true rfl) (Nat.le_of_ble_eq_true rfl) ?_
    exact W.vret hx hb hr (fun t ht hW => ⟨⟨(nI ku2, g), rfl, (show WN R (nI ku2) b g (z * F) from by have q0 := wn_trim (R := R) ij ig hb01 hpu2; rw [show vW g j = vW f K * F from iv.trans (Nat.mul_comm _ _), wz_mul, ← hz] at q0; exact q0), by rw [ht]; exact hP9, hD9⟩, hS.F ht⟩) hS.2.2 dW_times_132
  · have gh1 : j < R := Nat.not_le.mp (fun q => h1 ((nI_leI (a := R) (b := j) (by omega) (by omega)).mpr q))
    refine lv_iload hx hb dW_times_32 (lv_at hl 5 rfl) ?_
    refine lv_aload_n hx hb dW_times_34 rfl (lv_at hl 0 rfl) ?_
    refine va_get (D := D) (ci := 4) (v := .int (nI K)) (C := R_W) (T := T_W) (N := 3) hx hb hT in_W hown hK hP 0 rfl rfl 1 (by decide) (hT _ w148) (fun _ h9 => h9) rfl dW_times_35 ?_
    refine lv_icmp_lt (tgt := 53) hx hb dW_times_38 rfl (fun h3 => ?_) (fun h3 => ?_)
    · have gh3 : j < K := (nI_ltI (a := j) (b := K) (by omega) (by omega)).mp h3
      obtain ⟨wd, hwd⟩ : ∃ q9 : Nat, q9 = ct K (dg f) j := ⟨_, rfl⟩
      have hwdb : wd < 1000000000 := by
        rw [hwd]
        by_cases q : j < K
        · rw [ct_lt q]; exact (hd j q).2
        · rw [ct_ge (show K ≤ j by omega)]; decide
      have hwl := mulb hwdb hlob
      refine lv_iload hx hb dW_times_53 (lv_at hl 5 rfl) ?_
      refine lv_aload_n hx hb dW_times_55 rfl (lv_at hl 0 rfl) ?_
      refine va_get (D := D) (ci := 4) (v := .int (nI K)) (C := R_W) (T := T_W) (N := 3) hx hb hT in_W hown hK hP 0 rfl rfl 1 (by decide) (hT _ w148) (fun _ h9 => h9) rfl dW_times_56 ?_
      refine lv_icmp_ge (tgt := 73) hx hb dW_times_59 rfl (fun h4 => absurd h4 (Int32.not_le.mpr h3)) (fun _ => ?_)
      refine lv_aload_n hx hb dW_times_62 rfl (lv_at hl 0 rfl) ?_
      refine va_get (D := D) (ci := 4) (v := .ref w) (C := R_W) (T := T_W) (N := 3) hx hb hT in_W hown hK hP 0 rfl rfl 0 (by decide) (hT _ w145) (fun _ h9 => h9) rfl dW_times_63 ?_
      refine lv_iload hx hb dW_times_66 (lv_at hl 5 rfl) ?_
      refine lq_iald (j := j) hx hb hK hP 1 0 rfl rfl rfl (by omega) (by omega) dW_times_68 ?_
      refine lv_topi (fun y9 e9 => ?_)
      cases (show y9 = nI wd from e9.trans (by rw [if0 j (Nat.le_refl _), hwd, ct_lt (show j < K by omega)]; exact (hd j (by omega)).1))
      refine lv_i2l hx hb dW_times_69 rfl ?_
      refine lv_topl (fun y9 e9 => ?_)
      cases (show y9 = lN wd from e9.trans (nI_l (n := wd) (by omega)))
      refine lv_goto (tgt := 74) hx hb dW_times_70 rfl ?_
      refine lv_lstore hx hb dW_times_74 hl (by decide) rfl (fun ls hl => ?_)
      have hl : lv_has ls 16 [(12, .long (lN wd)), (0, .ref h), (3, .long (lN hi)), (5, .long (lN lo)), (7, .long (lN bf)), (9, .long (lN ca)), (11, .int (nI j))] := hl
      refine lv_lload hx hb dW_times_76 (lv_at hl 0 rfl) ?_
      refine lv_lload hx hb dW_times_78 (lv_at hl 3 rfl) ?_
      refine lv_lmul hx hb dW_times_80 ?_
      refine lv_topl (fun y9 e9 => ?_)
      cases (show y9 = lN (wd * lo) from e9.trans (lN_mul wd lo))
      refine lv_lload hx hb dW_times_81 (lv_at hl 4 rfl) ?_
      refine lv_lload_n hx hb dW_times_83 rfl (lv_at hl 2 rfl) ?_
      refine lv_lmul hx hb dW_times_84 ?_
      refine lv_topl (fun y9 e9 => ?_)
      cases (show y9 = lN (bf * hi) from e9.trans (lN_mul bf hi))
      refine lv_ladd hx hb dW_times_85 ?_
      refine lv_topl (fun y9 e9 => ?_)
      cases (show y9 = lN ((wd * lo) + (bf * hi)) from e9.trans (lN_add (wd * lo) (bf * hi)))
      refine lv_lload hx hb dW_times_86 (lv_at hl 5 rfl) ?_
      refine lv_ladd hx hb dW_times_88 ?_
      refine lv_topl (fun y9 e9 => ?_)
      cases (show y9 = lN (((wd * lo) + (bf * hi)) + ca) from e9.trans (lN_add ((wd * lo) + (bf * hi)) ca))
      obtain ⟨sm, hsm⟩ : ∃ q9 : Nat, q9 = ((wd * lo) + (bf * hi)) + ca := ⟨_, rfl⟩
      refine lv_topl (fun y9 e9 => ?_)
      cases (show y9 = lN sm from e9.trans (congrArg lN hsm.symm))
      refine lv_lstore hx hb dW_times_89 hl (by decide) rfl (fun ls hl => ?_)
      have hl : lv_has ls 16 [(14, .long (lN sm)), (12, .long (lN wd)), (0, .ref h), (3, .long (lN hi)), (5, .long (lN lo)), (7, .long (lN bf)), (9, .long (lN ca)), (11, .int (nI j))] := hl
      have hsb : sm < 4000000000000000000 := by omega
      refine lv_lload hx hb dW_times_91 (lv_at hl 0 rfl) ?_
      refine lv_ldc2 (v := 1000000000) hx hb hown (hT _ w421) dW_times_93 ?_
      refine lv_ldiv hx hb dW_times_96 (by decide) ?_
      refine lv_topl (fun y9 e9 => ?_)
      cases (show y9 = lN (sm / 1000000000) from e9.trans (pk_lDiv (a := sm) (b := 1000000000) (by omega) (by omega) (by decide)))
      obtain ⟨c1, hc1⟩ : ∃ q9 : Nat, q9 = sm / 1000000000 := ⟨_, rfl⟩
      refine lv_topl (fun y9 e9 => ?_)
      cases (show y9 = lN c1 from e9.trans (congrArg lN hc1.symm))
      refine lv_lstore hx hb dW_times_97 hl (by decide) rfl (fun ls hl => ?_)
      have hl : lv_has ls 16 [(9, .long (lN c1)), (14, .long (lN sm)), (12, .long (lN wd)), (0, .ref h), (3, .long (lN hi)), (5, .long (lN lo)), (7, .long (lN bf)), (11, .int (nI j))] := hl
      refine lv_aload_n hx hb dW_times_99 rfl (lv_at hl 3 rfl) ?_
      refine va_get (D := D) (ci := 4) (v := .ref w) (C := R_W) (T := T_W) (N := 3) hx hb hT in_W hown hK hP 0 rfl rfl 0 (by decide) (hT _ w145) (fun _ h9 => h9) rfl dW_times_100 ?_
      refine lv_iload hx hb dW_times_103 (lv_at hl 7 rfl) ?_
      refine lv_lload hx hb dW_times_105 (lv_at hl 1 rfl) ?_
      refine lv_lload hx hb dW_times_107 (lv_at hl 0 rfl) ?_
      refine lv_ldc2 (v := 1000000000) hx hb hown (hT _ w421) dW_times_109 ?_
      refine lv_lmul hx hb dW_times_112 ?_
      refine lv_topl (fun y9 e9 => ?_)
      cases (show y9 = lN (c1 * 1000000000) from e9.trans (lN_mul c1 1000000000))
      refine lv_lsub hx hb dW_times_113 ?_
      refine lv_topl (fun y9 e9 => ?_)
      cases (show y9 = lN (sm - (c1 * 1000000000)) from e9.trans (lN_sub (a := sm) (b := c1 * 1000000000) (by omega)))
      obtain ⟨v1, hv1⟩ : ∃ q9 : Nat, q9 = sm % 1000000000 := ⟨_, rfl⟩
      have hv1b : v1 < 1000000000 := by omega
      refine lv_topl (fun y9 e9 => ?_)
      cases (show y9 = lN v1 from e9.trans (congrArg lN (show sm - (c1 * 1000000000) = v1 by omega)))
      refine lv_l2i hx hb dW_times_114 rfl ?_
      refine lv_topi (fun y9 e9 => ?_)
      cases (show y9 = nI v1 from e9.trans (lN_i v1))
      refine lq_iast (j := j) hx hb hK hP hD hS 1 0 rfl rfl rfl (by omega) (by omega) dW_times_115 (fun H locs hP hD hS => ?_)
      have hP : va_P D vwCl [(h, .inr (4, [.ref w, .int (nI K), .int b])), (w, .inl (cT 0, R, .inl (upd g j (nI v1))))] _ := hP
      have hD : va_D A [(h, .inr (4, [.ref w, .int (nI K), .int b])), (w, .inl (cT 0, R, .inl (upd g j (nI v1))))] := hD
      refine lv_lload hx hb dW_times_116 (lv_at hl 2 rfl) ?_
      refine lv_lstore hx hb dW_times_118 hl (by decide) rfl (fun ls hl => ?_)
      have hl : lv_has ls 16 [(7, .long (lN wd)), (9, .long (lN c1)), (14, .long (lN sm)), (12, .long (lN wd)), (0, .ref h), (3, .long (lN hi)), (5, .long (lN lo)), (11, .int (nI j))] := hl
      refine lv_iinc (k := 7) (v := nI (j + 1)) hx hb dW_times_120 hl rfl (nI_1 j) (by decide) rfl (fun ls hl => ?_)
      have hl : lv_has ls 16 [(11, .int (nI (j + 1))), (7, .long (lN wd)), (9, .long (lN c1)), (14, .long (lN sm)), (12, .long (lN wd)), (0, .ref h), (3, .long (lN hi)), (5, .long (lN lo))] := hl
      refine lv_goto (tgt := 22) hx hb dW_times_123 rfl ?_
      exact ih22 (j + 1, wd, c1, upd g j (nI v1)) (show (j + 1) ≤ R ∧ wd < 1000000000 ∧ c1 < 4000000000 ∧ dok 1000000000 (upd g j (nI v1)) (j + 1) ∧ (∀ m, (j + 1) ≤ m → (upd g j (nI v1)) m = f m) ∧ hv 1000000000 (dg (upd g j (nI v1))) 0 (j + 1) + 1000000000 ^ (j + 1) * (wd * hi + c1) = F * hv 1000000000 (ct K (dg f)) 0 (j + 1) from ⟨by omega, hwdb, by omega, dok_s ig (by omega) (by decide), fun q h => (pk_un (by omega)).trans (if0 q (by omega)), by rw [hv_us (v := v1) (by omega), hv_snoc, Nat.zero_add, Nat.pow_succ, hv1, hc1, ← hwd]; exact times_s iv hsm hFe⟩) (show R - (j + 1) < R - j from (by omega)) ls H locs (lv_sub hl [5, 6, 7, 1, 2, 0] rfl) hP hD hS
    · have gh3 : K ≤ j := Nat.not_lt.mp (fun q => h3 ((nI_ltI (a := j) (b := K) (by omega) (by omega)).mpr q))
      refine lv_lload hx hb dW_times_41 (lv_at hl 3 rfl) ?_
      refine lv_lload_n hx hb dW_times_43 rfl (lv_at hl 1 rfl) ?_
      refine lv_lmul hx hb dW_times_44 ?_
      refine lv_topl (fun y9 e9 => ?_)
      cases (show y9 = lN (bf * hi) from e9.trans (lN_mul bf hi))
      refine lv_lload hx hb dW_times_45 (lv_at hl 4 rfl) ?_
      refine lv_ladd hx hb dW_times_47 ?_
      refine lv_topl (fun y9 e9 => ?_)
      cases (show y9 = lN ((bf * hi) + ca) from e9.trans (lN_add (bf * hi) ca))
      refine lv_lconst (v := 0) hx hb dW_times_48 (by decide) ?_
      refine W.lcmp hx hb dW_times_49 ?_
      refine lv_if_eq (tgt := 126) hx hb dW_times_50 rfl (fun h5 => ?_) (fun h5 => ?_)
      · have gh5 : (bf * hi) + ca = 0 := ((lg_cmp_eq (lN ((bf * hi) + ca)) 0).trans (pk_lEQ (a := (bf * hi) + ca) (b := 0) (by omega) (by decide))).mp h5
        have hx0 : bf * hi + ca = 0 ∧ hv 1000000000 (ct K (dg f)) 0 j = vW f K := by
          exact ⟨by omega, hv_ct (by omega)⟩
        rw [hx0.1, hx0.2, Nat.mul_zero, Nat.add_zero] at iv
        refine lv_aload_n hx hb dW_times_126 rfl (lv_at hl 0 rfl) ?_
        refine lv_iload hx hb dW_times_127 (lv_at hl 5 rfl) ?_
        refine rw_v (wc := [(h, .inr (4, [.ref w, .int (nI K), .int b])), (w, .inl (cT 0, R, .inl g))]) (wr := []) hP hD hS hA [0, 1] [] rfl rfl (by decide) (by decide) (va_runV (As := [.int (nI j)]) (rest := []) ⟨hx, hb, hml, hown, hT⟩ (k_trim l D cT h w R (nI K) b g j hR ij ig _) ⟨callB_of 1 hT (tb_gd w397) rfl rfl rfl (hT _ w5) (hT _ w394) hW_trim ⟨Nat.le_of_ble_eq_true rfl, Nat.le_of_ble_eq_true rfl⟩, (hT _ w396), (hT _ wp3)⟩ (RW.preV (ci := 4) (q0 := 0) hZ hS (va_free (wc := [(h, .inr (4, [.ref w, .int (nI K), .int b])), (w, .inl (cT 0, R, .inl g))]) hD hS hA [0, 1] rfl) (hP.sub (ws' := [(h, .inr (4, [.ref w, .int (nI K), .int b])), (w, .inl (cT 0, R, .inl g))]) [0, 1] rfl) hK (hD.sub (ws' := [(h, .inr (4, [.ref w, .int (nI K), .int b])), (w, .inl (cT 0, R, .inl g))]) [0, 1] (by decide) rfl) rfl rfl) rfl rfl hl.1 rfl (lv_room (Nat.le_of_ble_eq_true rfl)) dW_times_129 ⟨Nat.le_of_ble_eq_true rfl, Nat.le_of_ble_eq_true rfl⟩) (fun u9 H locs hpu6 hP hD hS => ?_)
        obtain ⟨ku6, rfl⟩ : ∃ q9, q9 = u9 := ⟨_, rfl⟩
        have hpu6 : ku6 ≤ j ∧ top0 g ku6 ∧ vW g ku6 = vW g j := hpu6
        have hP : va_P D vwCl [(h, .inr (4, [.ref w, .int (nI ku6), .int b])), (w, .inl (cT 0, R, .inl g))] _ := hP
        have hD : va_D A [(h, .inr (4, [.ref w, .int (nI ku6), .int b])), (w, .inl (cT 0, R, .inl g))] := hD
        have hP9 := hP.sub (ws' := [(h, .inr (4, [.ref w, .int (nI ku6), .int b])), (w, .inl (cT 0, R, .inl g))]) [0, 1] rfl
        have hD9 := hD.sub (ws' := [(h, .inr (4, [.ref w, .int (nI ku6), .int b])), (w, .inl (cT 0, R, .inl g))]) [0, 1] (by decide) rfl
        refine W.widen (k := 0) (n := 0) (Nat.le_of_ble_eq_true rfl) (Nat.le_of_ble_eq_true rfl) ?_
        exact W.vret hx hb hr (fun t ht hW => ⟨⟨(nI ku6, g), rfl, (show WN R (nI ku6) b g (z * F) from by have q0 := wn_trim (R := R) ij ig hb01 hpu6; rw [show vW g j = vW f K * F from iv.trans (Nat.mul_comm _ _), wz_mul, ← hz] at q0; exact q0), by rw [ht]; exact hP9, hD9⟩, hS.F ht⟩) hS.2.2 dW_times_132
      · have gh5 : ¬ ((bf * hi) + ca = 0) := fun q => h5 (((lg_cmp_eq (lN ((bf * hi) + ca)) 0).trans (pk_lEQ (a := (bf * hi) + ca) (b := 0) (by omega) (by decide))).mpr q)
        obtain ⟨wd, hwd⟩ : ∃ q9 : Nat, q9 = ct K (dg f) j := ⟨_, rfl⟩
        have hwdb : wd < 1000000000 := by
          rw [hwd]
          by_cases q : j < K
          · rw [ct_lt q]; exact (hd j q).2
          · rw [ct_ge (show K ≤ j by omega)]; decide
        have hwl := mulb hwdb hlob
        refine lv_iload hx hb dW_times_53 (lv_at hl 5 rfl) ?_
        refine lv_aload_n hx hb dW_times_55 rfl (lv_at hl 0 rfl) ?_
        refine va_get (D := D) (ci := 4) (v := .int (nI K)) (C := R_W) (T := T_W) (N := 3) hx hb hT in_W hown hK hP 0 rfl rfl 1 (by decide) (hT _ w148) (fun _ h9 => h9) rfl dW_times_56 ?_
        refine lv_icmp_ge (tgt := 73) hx hb dW_times_59 rfl (fun _ => ?_) (fun h7 => absurd (Int32.not_lt.mp h3) h7)
        have hw0 : wd = 0 := by rw [hwd, ct_ge (show K ≤ j by omega)]
        refine lv_lconst (v := 0) hx hb dW_times_73 (by decide) ?_
        refine lv_topl (fun y9 e9 => ?_)
        cases (show y9 = lN wd from e9.trans (by rw [hw0]; rfl))
        refine lv_lstore hx hb dW_times_74 hl (by decide) rfl (fun ls hl => ?_)
        have hl : lv_has ls 16 [(12, .long (lN wd)), (0, .ref h), (3, .long (lN hi)), (5, .long (lN lo)), (7, .long (lN bf)), (9, .long (lN ca)), (11, .int (nI j))] := hl
        refine lv_lload hx hb dW_times_76 (lv_at hl 0 rfl) ?_
        refine lv_lload hx hb dW_times_78 (lv_at hl 3 rfl) ?_
        refine lv_lmul hx hb dW_times_80 ?_
        refine lv_topl (fun y9 e9 => ?_)
        cases (show y9 = lN (wd * lo) from e9.trans (lN_mul wd lo))
        refine lv_lload hx hb dW_times_81 (lv_at hl 4 rfl) ?_
        refine lv_lload_n hx hb dW_times_83 rfl (lv_at hl 2 rfl) ?_
        refine lv_lmul hx hb dW_times_84 ?_
        refine lv_topl (fun y9 e9 => ?_)
        cases (show y9 = lN (bf * hi) from e9.trans (lN_mul bf hi))
        refine lv_ladd hx hb dW_times_85 ?_
        refine lv_topl (fun y9 e9 => ?_)
        cases (show y9 = lN ((wd * lo) + (bf * hi)) from e9.trans (lN_add (wd * lo) (bf * hi)))
        refine lv_lload hx hb dW_times_86 (lv_at hl 5 rfl) ?_
        refine lv_ladd hx hb dW_times_88 ?_
        refine lv_topl (fun y9 e9 => ?_)
        cases (show y9 = lN (((wd * lo) + (bf * hi)) + ca) from e9.trans (lN_add ((wd * lo) + (bf * hi)) ca))
        obtain ⟨sm, hsm⟩ : ∃ q9 : Nat, q9 = ((wd * lo) + (bf * hi)) + ca := ⟨_, rfl⟩
        refine lv_topl (fun y9 e9 => ?_)
        cases (show y9 = lN sm from e9.trans (congrArg lN hsm.symm))
        refine lv_lstore hx hb dW_times_89 hl (by decide) rfl (fun ls hl => ?_)
        have hl : lv_has ls 16 [(14, .long (lN sm)), (12, .long (lN wd)), (0, .ref h), (3, .long (lN hi)), (5, .long (lN lo)), (7, .long (lN bf)), (9, .long (lN ca)), (11, .int (nI j))] := hl
        have hsb : sm < 4000000000000000000 := by omega
        refine lv_lload hx hb dW_times_91 (lv_at hl 0 rfl) ?_
        refine lv_ldc2 (v := 1000000000) hx hb hown (hT _ w421) dW_times_93 ?_
        refine lv_ldiv hx hb dW_times_96 (by decide) ?_
        refine lv_topl (fun y9 e9 => ?_)
        cases (show y9 = lN (sm / 1000000000) from e9.trans (pk_lDiv (a := sm) (b := 1000000000) (by omega) (by omega) (by decide)))
        obtain ⟨c1, hc1⟩ : ∃ q9 : Nat, q9 = sm / 1000000000 := ⟨_, rfl⟩
        refine lv_topl (fun y9 e9 => ?_)
        cases (show y9 = lN c1 from e9.trans (congrArg lN hc1.symm))
        refine lv_lstore hx hb dW_times_97 hl (by decide) rfl (fun ls hl => ?_)
        have hl : lv_has ls 16 [(9, .long (lN c1)), (14, .long (lN sm)), (12, .long (lN wd)), (0, .ref h), (3, .long (lN hi)), (5, .long (lN lo)), (7, .long (lN bf)), (11, .int (nI j))] := hl
        refine lv_aload_n hx hb dW_times_99 rfl (lv_at hl 3 rfl) ?_
        refine va_get (D := D) (ci := 4) (v := .ref w) (C := R_W) (T := T_W) (N := 3) hx hb hT in_W hown hK hP 0 rfl rfl 0 (by decide) (hT _ w145) (fun _ h9 => h9) rfl dW_times_100 ?_
        refine lv_iload hx hb dW_times_103 (lv_at hl 7 rfl) ?_
        refine lv_lload hx hb dW_times_105 (lv_at hl 1 rfl) ?_
        refine lv_lload hx hb dW_times_107 (lv_at hl 0 rfl) ?_
        refine lv_ldc2 (v := 1000000000) hx hb hown (hT _ w421) dW_times_109 ?_
        refine lv_lmul hx hb dW_times_112 ?_
        refine lv_topl (fun y9 e9 => ?_)
        cases (show y9 = lN (c1 * 1000000000) from e9.trans (lN_mul c1 1000000000))
        refine lv_lsub hx hb dW_times_113 ?_
        refine lv_topl (fun y9 e9 => ?_)
        cases (show y9 = lN (sm - (c1 * 1000000000)) from e9.trans (lN_sub (a := sm) (b := c1 * 1000000000) (by omega)))
        obtain ⟨v1, hv1⟩ : ∃ q9 : Nat, q9 = sm % 1000000000 := ⟨_, rfl⟩
        have hv1b : v1 < 1000000000 := by omega
        refine lv_topl (fun y9 e9 => ?_)
        cases (show y9 = lN v1 from e9.trans (congrArg lN (show sm - (c1 * 1000000000) = v1 by omega)))
        refine lv_l2i hx hb dW_times_114 rfl ?_
        refine lv_topi (fun y9 e9 => ?_)
        cases (show y9 = nI v1 from e9.trans (lN_i v1))
        refine lq_iast (j := j) hx hb hK hP hD hS 1 0 rfl rfl rfl (by omega) (by omega) dW_times_115 (fun H locs hP hD hS => ?_)
        have hP : va_P D vwCl [(h, .inr (4, [.ref w, .int (nI K), .int b])), (w, .inl (cT 0, R, .inl (upd g j (nI v1))))] _ := hP
        have hD : va_D A [(h, .inr (4, [.ref w, .int (nI K), .int b])), (w, .inl (cT 0, R, .inl (upd g j (nI v1))))] := hD
        refine lv_lload hx hb dW_times_116 (lv_at hl 2 rfl) ?_
        refine lv_lstore hx hb dW_times_118 hl (by decide) rfl (fun ls hl => ?_)
        have hl : lv_has ls 16 [(7, .long (lN wd)), (9, .long (lN c1)), (14, .long (lN sm)), (12, .long (lN wd)), (0, .ref h), (3, .long (lN hi)), (5, .long (lN lo)), (11, .int (nI j))] := hl
        refine lv_iinc (k := 7) (v := nI (j + 1)) hx hb dW_times_120 hl rfl (nI_1 j) (by decide) rfl (fun ls hl => ?_)
        have hl : lv_has ls 16 [(11, .int (nI (j + 1))), (7, .long (lN wd)), (9, .long (lN c1)), (14, .long (lN sm)), (12, .long (lN wd)), (0, .ref h), (3, .long (lN hi)), (5, .long (lN lo))] := hl
        refine lv_goto (tgt := 22) hx hb dW_times_123 rfl ?_
        exact ih22 (j + 1, wd, c1, upd g j (nI v1)) (show (j + 1) ≤ R ∧ wd < 1000000000 ∧ c1 < 4000000000 ∧ dok 1000000000 (upd g j (nI v1)) (j + 1) ∧ (∀ m, (j + 1) ≤ m → (upd g j (nI v1)) m = f m) ∧ hv 1000000000 (dg (upd g j (nI v1))) 0 (j + 1) + 1000000000 ^ (j + 1) * (wd * hi + c1) = F * hv 1000000000 (ct K (dg f)) 0 (j + 1) from ⟨by omega, hwdb, by omega, dok_s ig (by omega) (by decide), fun q h => (pk_un (by omega)).trans (if0 q (by omega)), by rw [hv_us (v := v1) (by omega), hv_snoc, Nat.zero_add, Nat.pow_succ, hv1, hc1, ← hwd]; exact times_s iv hsm hFe⟩) (show R - (j + 1) < R - j from (by omega)) ls H locs (lv_sub hl [5, 6, 7, 1, 2, 0] rfl) hP hD hS
set_option maxHeartbeats 4000000 in
set_option maxRecDepth 100000 in
theorem k_icmp (l : Launch) (D : va_G) (cT : Nat → ClassId) (x : Int32) (y : Int32) : Met l yIn_compare WIn_compare ({ frames := 0, cells := 0, slots := 0, locals := 0 } : Room) (RO D vwCl [.int x, .int y] [] (TY cT)) (QcRead (ic x y)) 0 0 (fun _ => False) := by
  refine Met.ofW (cc := cIn_compare) (maxL := 2) (ret := (some .int)) (by decide) rfl ?_
  intro p e s m args below meth c s₁ B hml hv
  obtain ⟨rfl, hZ, hP, hK⟩ := hv
  have hx := B.exec
  have hb := B.bytes
  have hr := B.returns
  have hts := atoms_spec (ws := WIn_compare) B.pre
  have hT : ∀ w ∈ TB, w.before _ s = true := fun w h => hts w (List.mem_cons_of_mem _ h)
  have hown : s.vm.findClass R_In = some m.cls := findClass_of_methodNamed B.named
  have hlocks := B.notSynchronized
  have hS : va_S (fun _ => False) s.heap s.heap [] := va_S.rf
  have hl := lv_entry ([.int x, .int y]) (n := 2) (Nat.le_of_ble_eq_true rfl)
  rw [lg_entry_eq]
  generalize (lg_sl ([.int x, .int y]) ++ List.replicate (2 - (lg_sl ([.int x, .int y])).length) Slot.unset).toArray = ls at hl ⊢
  have hl : lv_has ls 2 [(0, .int x), (1, .int y)] := hl
  refine lv_iload_n hx hb dIn_compare_0 rfl (lv_at hl 0 rfl) ?_
  refine lv_iload_n hx hb dIn_compare_1 rfl (lv_at hl 1 rfl) ?_
  refine lv_icmp_ge (tgt := 9) hx hb dIn_compare_2 rfl (fun h1 => ?_) (fun h1 => ?_)
  · refine lv_iload_n hx hb dIn_compare_9 rfl (lv_at hl 0 rfl) ?_
    refine lv_iload_n hx hb dIn_compare_10 rfl (lv_at hl 1 rfl) ?_
    refine lv_icmp_ne (tgt := 18) hx hb dIn_compare_11 rfl (fun h2 => ?_) (fun h2 => ?_)
    · refine lv_iconst (v := 1) hx hb dIn_compare_18 (by decide) ?_
      exact W.iret (v := 1) hx hb hr (fun t ht hW => ⟨by unfold ic; rw [if_neg (Int32.not_lt.mpr h1), if_neg h2], ht⟩) (fun q h => nomatch h) dIn_compare_19
    · refine lv_iconst (v := 0) hx hb dIn_compare_14 (by decide) ?_
      refine lv_goto (tgt := 19) hx hb dIn_compare_15 rfl ?_
      exact W.iret (v := 0) hx hb hr (fun t ht hW => ⟨by unfold ic; rw [if_neg (Int32.not_lt.mpr h1), if_pos h2], ht⟩) (fun q h => nomatch h) dIn_compare_19
  · refine lv_iconst (v := (-1)) hx hb dIn_compare_5 (by decide) ?_
    refine lv_goto (tgt := 19) hx hb dIn_compare_6 rfl ?_
    exact W.iret (v := (-1)) hx hb hr (fun t ht hW => ⟨by unfold ic; rw [if_pos (Int32.not_le.mp h1)], ht⟩) (fun q h => nomatch h) dIn_compare_19
set_option maxHeartbeats 4000000 in
set_option maxRecDepth 100000 in
theorem k_compare (l : Launch) (D : va_G) (cT : Nat → ClassId) (h : Nat) (w : Nat) (R : Nat) (n : Int32) (b : Int32) (f : Nat → Int32) (z : Int) (x2 : Nat) (w2 : Nat) (R2 : Nat) (n2 : Int32) (b2 : Int32) (f2 : Nat → Int32) (z2 : Int) (hR : R ≤ 48) (hN : WN R n b f z) (hR2 : R2 ≤ 48) (hN2 : WN R2 n2 b2 f2 z2) : Met l yW_compare WW_compare ({ frames := 1, cells := 0, slots := 0, locals := 21 } : Room) (RO D vwCl [.ref h, .ref x2] [(h, .inr (4, [.ref w, .int n, .int b])), (w, .inl (cT 0, R, .inl f)), (x2, .inr (4, [.ref w2, .int n2, .int b2])), (w2, .inl (cT 0, R2, .inl f2))] (TY cT)) (QcRead (cz z z2)) 0 0 (fun _ => False) := by
  refine Met.ofW (cc := cW_compare) (maxL := 4) (ret := (some .int)) (by decide) rfl ?_
  intro p e s m args below meth c s₁ B hml hv
  obtain ⟨rfl, hZ, hP, hK⟩ := hv
  have hx := B.exec
  have hb := B.bytes
  have hr := B.returns
  have hts := atoms_spec (ws := WW_compare) B.pre
  have hT : ∀ w ∈ TB, w.before _ s = true := fun w h => hts w (List.mem_cons_of_mem _ h)
  have hown : s.vm.findClass R_W = some m.cls := findClass_of_methodNamed B.named
  have hlocks := B.notSynchronized
  have hS : va_S (fun _ => False) s.heap s.heap [] := va_S.rf
  have hl := lv_entry ([.ref h, .ref x2]) (n := 4) (Nat.le_of_ble_eq_true rfl)
  rw [lg_entry_eq]
  generalize (lg_sl ([.ref h, .ref x2]) ++ List.replicate (4 - (lg_sl ([.ref h, .ref x2])).length) Slot.unset).toArray = ls at hl ⊢
  have hl : lv_has ls 4 [(0, .ref h), (1, .ref x2)] := hl
  refine lv_aload_n hx hb dW_compare_0 rfl (lv_at hl 0 rfl) ?_
  refine ro_i (va_Run.run (va_runV (As := []) (rest := []) ⟨hx, hb, hml, hown, hT⟩ (k_sign l D cT h w R n b f z hR hN) ⟨callB_of 0 hT (tb_gd w489) rfl rfl rfl (hT _ w5) (hT _ w486) hW_sign ⟨Nat.le_of_ble_eq_true rfl, Nat.le_of_ble_eq_true rfl⟩, (hT _ w487), (hT _ w488)⟩ (RO.preV (ci := 4) (q0 := 0) hZ hS (hP.sub (ws' := [(h, .inr (4, [.ref w, .int n, .int b])), (w, .inl (cT 0, R, .inl f))]) [0, 1] rfl) hK rfl rfl) rfl rfl hl.1 rfl (lv_room (Nat.le_of_ble_eq_true rfl)) dW_compare_1 ⟨Nat.le_of_ble_eq_true rfl, Nat.le_of_ble_eq_true rfl⟩)) ?_
  refine lv_aload_n hx hb dW_compare_4 rfl (lv_at hl 1 rfl) ?_
  refine ro_i (va_Run.run (va_runV (As := []) (rest := [.int (sg z)]) ⟨hx, hb, hml, hown, hT⟩ (k_sign l D cT x2 w2 R2 n2 b2 f2 z2 hR2 hN2) ⟨callB_of 0 hT (tb_gd w489) rfl rfl rfl (hT _ w5) (hT _ w486) hW_sign ⟨Nat.le_of_ble_eq_true rfl, Nat.le_of_ble_eq_true rfl⟩, (hT _ w487), (hT _ w488)⟩ (RO.preV (ci := 4) (q0 := 0) hZ hS (hP.sub (ws' := [(x2, .inr (4, [.ref w2, .int n2, .int b2])), (w2, .inl (cT 0, R2, .inl f2))]) [2, 3] rfl) hK rfl rfl) rfl rfl hl.1 rfl (lv_room (Nat.le_of_ble_eq_true rfl)) dW_compare_5 ⟨Nat.le_of_ble_eq_true rfl, Nat.le_of_ble_eq_true rfl⟩)) ?_
  refine ro_i (va_Run.run (va_runS (As := [.int (sg z), .int (sg z2)]) (rest := []) ⟨hx, hb, hml, hown, hT⟩ (k_icmp l D cT (sg z) (sg z2)) ⟨callB_of 2 hT (tb_gd w492) rfl rfl rfl (hT _ w28) (hT _ w490) hIn_compare ⟨Nat.le_of_ble_eq_true rfl, Nat.le_of_ble_eq_true rfl⟩, (hT _ w491)⟩ (RO.preS hZ hS ((show va_P D vwCl [] _ from fun _ _ h => nomatch h)) hK) rfl rfl hl.1 rfl (lv_room (Nat.le_of_ble_eq_true rfl)) dW_compare_8 ⟨Nat.le_of_ble_eq_true rfl, Nat.le_of_ble_eq_true rfl⟩)) ?_
  refine lv_istore_n hx hb dW_compare_11 rfl hl (by decide) rfl (fun ls hl => ?_)
  have hl : lv_has ls 4 [(2, .int (ic (sg z) (sg z2))), (0, .ref h), (1, .ref x2)] := hl
  refine lv_iload_n hx hb dW_compare_12 rfl (lv_at hl 0 rfl) ?_
  refine lv_if_ne (tgt := 79) hx hb dW_compare_13 rfl (fun h1 => ?_) (fun h1 => ?_)
  · refine lv_iload_n hx hb dW_compare_79 rfl (lv_at hl 0 rfl) ?_
    exact W.iret (v := ic (sg z) (sg z2)) hx hb hr (fun t ht hW => ⟨by rw [cz_sg h1], ht⟩) (fun q h => nomatch h) dW_compare_80
  · have hsg := ic_eq h1
    obtain ⟨K, rfl, hk, hd, htop, hb01, hz⟩ := hN
    have hP : va_P D vwCl [(h, .inr (4, [.ref w, .int (nI K), .int b])), (w, .inl (cT 0, R, .inl f)), (x2, .inr (4, [.ref w2, .int n2, .int b2])), (w2, .inl (cT 0, R2, .inl f2))] _ := hP
    obtain ⟨K2, rfl, qhk, qhd, qhtop, qhb01, qhz⟩ := hN2
    have hP : va_P D vwCl [(h, .inr (4, [.ref w, .int (nI K), .int b])), (w, .inl (cT 0, R, .inl f)), (x2, .inr (4, [.ref w2, .int (nI K2), .int b2])), (w2, .inl (cT 0, R2, .inl f2))] _ := hP
    rw [hz, qhz] at hsg
    refine lv_aload_n hx hb dW_compare_16 rfl (lv_at hl 1 rfl) ?_
    refine va_get (D := D) (ci := 4) (v := .int (nI K)) (C := R_W) (T := T_W) (N := 3) hx hb hT in_W hown hK hP 0 rfl rfl 1 (by decide) (hT _ w148) (fun _ h9 => h9) rfl dW_compare_17 ?_
    refine lv_aload_n hx hb dW_compare_20 rfl (lv_at hl 2 rfl) ?_
    refine va_get (D := D) (ci := 4) (v := .int (nI K2)) (C := R_W) (T := T_W) (N := 3) hx hb hT in_W hown hK hP 2 rfl rfl 1 (by decide) (hT _ w148) (fun _ h9 => h9) rfl dW_compare_21 ?_
    refine ro_i (va_Run.run (va_runS (As := [.int (nI K), .int (nI K2)]) (rest := []) ⟨hx, hb, hml, hown, hT⟩ (k_icmp l D cT (nI K) (nI K2)) ⟨callB_of 2 hT (tb_gd w492) rfl rfl rfl (hT _ w28) (hT _ w490) hIn_compare ⟨Nat.le_of_ble_eq_true rfl, Nat.le_of_ble_eq_true rfl⟩, (hT _ w491)⟩ (RO.preS hZ hS ((show va_P D vwCl [] _ from fun _ _ h => nomatch h)) hK) rfl rfl hl.1 rfl (lv_room (Nat.le_of_ble_eq_true rfl)) dW_compare_24 ⟨Nat.le_of_ble_eq_true rfl, Nat.le_of_ble_eq_true rfl⟩)) ?_
    refine lv_istore_n hx hb dW_compare_27 rfl hl (by decide) rfl (fun ls hl => ?_)
    have hl : lv_has ls 4 [(2, .int (ic (nI K) (nI K2))), (0, .ref h), (1, .ref x2)] := hl
    refine lv_aload_n hx hb dW_compare_28 rfl (lv_at hl 1 rfl) ?_
    refine va_get (D := D) (ci := 4) (v := .int (nI K)) (C := R_W) (T := T_W) (N := 3) hx hb hT in_W hown hK hP 0 rfl rfl 1 (by decide) (hT _ w148) (fun _ h9 => h9) rfl dW_compare_29 ?_
    refine lv_iconst (v := 1) hx hb dW_compare_32 (by decide) ?_
    refine lv_isub hx hb dW_compare_33 ?_
    refine lv_istore_n hx hb dW_compare_34 rfl hl (by decide) rfl (fun ls hl => ?_)
    have hl : lv_has ls 4 [(3, .int ((nI K) - 1)), (2, .int (ic (nI K) (nI K2))), (0, .ref h), (1, .ref x2)] := hl
    refine lp_r (α := Nat × Int32) (fun a9 => a9.1 ≤ K ∧ (a9.2 = 0 → K = K2 ∧ hv 1000000000 (dg f) a9.1 (K - a9.1) = hv 1000000000 (dg f2) a9.1 (K - a9.1)) ∧ (¬ a9.2 = 0 → a9.2 = cn (vW f K) (vW f2 K2))) (fun a9 => a9.1) (fun a9 => [(0, .ref h), (1, .ref x2), (2, .int a9.2), (3, .int (nI a9.1 - 1))]) 35 ?_ (K, ic (nI K) (nI K2)) (show K ≤ K ∧ ((ic (nI K) (nI K2)) = 0 → K = K2 ∧ hv 1000000000 (dg f) K (K - K) = hv 1000000000 (dg f2) K (K - K)) ∧ (¬ (ic (nI K) (nI K2)) = 0 → (ic (nI K) (nI K2)) = cn (vW f K) (vW f2 K2)) from ⟨Nat.le_refl _, fun q => ⟨cn_eq (by rw [ic_nI (by omega) (by omega)] at q; exact q), by rw [Nat.sub_self, hv_0, hv_0]⟩, cmp_len (by omega) (by omega) hd qhd htop qhtop⟩) (lv_sub hl [2, 3, 1, 0] rfl)
    intro a9 hI35 ih35 ls hl
    obtain ⟨k, od⟩ := a9
    have hI35 : k ≤ K ∧ (od = 0 → K = K2 ∧ hv 1000000000 (dg f) k (K - k) = hv 1000000000 (dg f2) k (K - k)) ∧ (¬ od = 0 → od = cn (vW f K) (vW f2 K2)) := hI35
    obtain ⟨ik, ie, ine⟩ := hI35
    have hl : lv_has ls 4 [(0, .ref h), (1, .ref x2), (2, .int od), (3, .int (nI k - 1))] := hl
    refine lv_iload_n hx hb dW_compare_35 rfl (lv_at hl 3 rfl) ?_
    refine lv_if_lt (tgt := 65) hx hb dW_compare_36 rfl (fun h2 => ?_) (fun h2 => ?_)
    · have gh2 : k = 0 := (dn_lt (by omega)).mp h2
      have hfin := cmp_end ie ine (Or.inl (by omega))
      refine lv_aload_n hx hb dW_compare_65 rfl (lv_at hl 0 rfl) ?_
      refine va_get (D := D) (ci := 4) (v := .int b) (C := R_W) (T := T_W) (N := 3) hx hb hT in_W hown hK hP 0 rfl rfl 2 (by decide) (hT _ w149) (fun _ h9 => h9) rfl dW_compare_66 ?_
      refine lv_if_eq (tgt := 77) hx hb dW_compare_69 rfl (fun h3 => ?_) (fun h3 => ?_)
      · refine lv_iload_n hx hb dW_compare_77 rfl (lv_at hl 2 rfl) ?_
        refine lv_istore_n hx hb dW_compare_78 rfl hl (by decide) rfl (fun ls hl => ?_)
        have hl : lv_has ls 4 [(2, .int od), (0, .ref h), (1, .ref x2), (3, .int (nI k - 1))] := hl
        refine lv_iload_n hx hb dW_compare_79 rfl (lv_at hl 0 rfl) ?_
        exact W.iret (v := od) hx hb hr (fun t ht hW => ⟨by rw [hz, qhz, cz_fin hsg, if_pos h3, ← hfin], ht⟩) (fun q h => nomatch h) dW_compare_80
      · refine lv_iload_n hx hb dW_compare_72 rfl (lv_at hl 2 rfl) ?_
        refine lv_ineg hx hb dW_compare_73 ?_
        refine lv_goto (tgt := 78) hx hb dW_compare_74 rfl ?_
        refine lv_istore_n hx hb dW_compare_78 rfl hl (by decide) rfl (fun ls hl => ?_)
        have hl : lv_has ls 4 [(2, .int (-od)), (0, .ref h), (1, .ref x2), (3, .int (nI k - 1))] := hl
        refine lv_iload_n hx hb dW_compare_79 rfl (lv_at hl 0 rfl) ?_
        exact W.iret (v := -od) hx hb hr (fun t ht hW => ⟨by rw [hz, qhz, cz_fin hsg, if_neg h3, ← hfin], ht⟩) (fun q h => nomatch h) dW_compare_80
    · have gh2 : 0 < k := Nat.pos_of_ne_zero (fun q => h2 ((dn_lt (by omega)).mpr q))
      refine lv_iload_n hx hb dW_compare_39 rfl (lv_at hl 2 rfl) ?_
      refine lv_if_ne (tgt := 65) hx hb dW_compare_40 rfl (fun h4 => ?_) (fun h4 => ?_)
      · have hfin := cmp_end ie ine (Or.inr h4)
        refine lv_aload_n hx hb dW_compare_65 rfl (lv_at hl 0 rfl) ?_
        refine va_get (D := D) (ci := 4) (v := .int b) (C := R_W) (T := T_W) (N := 3) hx hb hT in_W hown hK hP 0 rfl rfl 2 (by decide) (hT _ w149) (fun _ h9 => h9) rfl dW_compare_66 ?_
        refine lv_if_eq (tgt := 77) hx hb dW_compare_69 rfl (fun h5 => ?_) (fun h5 => ?_)
        · refine lv_iload_n hx hb dW_compare_77 rfl (lv_at hl 2 rfl) ?_
          refine lv_istore_n hx hb dW_compare_78 rfl hl (by decide) rfl (fun ls hl => ?_)
          have hl : lv_has ls 4 [(2, .int od), (0, .ref h), (1, .ref x2), (3, .int (nI k - 1))] := hl
          refine lv_iload_n hx hb dW_compare_79 rfl (lv_at hl 0 rfl) ?_
          exact W.iret (v := od) hx hb hr (fun t ht hW => ⟨by rw [hz, qhz, cz_fin hsg, if_pos h5, ← hfin], ht⟩) (fun q h => nomatch h) dW_compare_80
        · refine lv_iload_n hx hb dW_compare_72 rfl (lv_at hl 2 rfl) ?_
          refine lv_ineg hx hb dW_compare_73 ?_
          refine lv_goto (tgt := 78) hx hb dW_compare_74 rfl ?_
          refine lv_istore_n hx hb dW_compare_78 rfl hl (by decide) rfl (fun ls hl => ?_)
          have hl : lv_has ls 4 [(2, .int (-od)), (0, .ref h), (1, .ref x2), (3, .int (nI k - 1))] := hl
          refine lv_iload_n hx hb dW_compare_79 rfl (lv_at hl 0 rfl) ?_
          exact W.iret (v := -od) hx hb hr (fun t ht hW => ⟨by rw [hz, qhz, cz_fin hsg, if_neg h5, ← hfin], ht⟩) (fun q h => nomatch h) dW_compare_80
      · have hEQ := ie h4
        refine lv_aload_n hx hb dW_compare_43 rfl (lv_at hl 0 rfl) ?_
        refine va_get (D := D) (ci := 4) (v := .ref w) (C := R_W) (T := T_W) (N := 3) hx hb hT in_W hown hK hP 0 rfl rfl 0 (by decide) (hT _ w145) (fun _ h9 => h9) rfl dW_compare_44 ?_
        refine lv_iload_n hx hb dW_compare_47 rfl (lv_at hl 3 rfl) ?_
        refine lq_iald (j := k - 1) hx hb hK hP 1 0 rfl rfl (nI_sub1 (by omega)) (by have := hEQ.1; omega) (by omega) dW_compare_48 ?_
        refine lv_aload_n hx hb dW_compare_49 rfl (lv_at hl 1 rfl) ?_
        refine va_get (D := D) (ci := 4) (v := .ref w2) (C := R_W) (T := T_W) (N := 3) hx hb hT in_W hown hK hP 2 rfl rfl 0 (by decide) (hT _ w145) (fun _ h9 => h9) rfl dW_compare_50 ?_
        refine lv_iload_n hx hb dW_compare_53 rfl (lv_at hl 3 rfl) ?_
        refine lq_iald (j := k - 1) hx hb hK hP 3 0 rfl rfl (nI_sub1 (by omega)) (by have := hEQ.1; omega) (by omega) dW_compare_54 ?_
        refine ro_i (va_Run.run (va_runS (As := [.int (f (k - 1)), .int (f2 (k - 1))]) (rest := []) ⟨hx, hb, hml, hown, hT⟩ (k_icmp l D cT (f (k - 1)) (f2 (k - 1))) ⟨callB_of 2 hT (tb_gd w492) rfl rfl rfl (hT _ w28) (hT _ w490) hIn_compare ⟨Nat.le_of_ble_eq_true rfl, Nat.le_of_ble_eq_true rfl⟩, (hT _ w491)⟩ (RO.preS hZ hS ((show va_P D vwCl [] _ from fun _ _ h => nomatch h)) hK) rfl rfl hl.1 rfl (lv_room (Nat.le_of_ble_eq_true rfl)) dW_compare_55 ⟨Nat.le_of_ble_eq_true rfl, Nat.le_of_ble_eq_true rfl⟩)) ?_
        refine lv_istore_n hx hb dW_compare_58 rfl hl (by decide) rfl (fun ls hl => ?_)
        have hl : lv_has ls 4 [(2, .int (ic (f (k - 1)) (f2 (k - 1)))), (0, .ref h), (1, .ref x2), (3, .int (nI k - 1))] := hl
        refine lv_iinc (k := 3) (v := nI (k - 1) - 1) hx hb dW_compare_59 hl rfl (dn_m1 (by omega)) (by decide) rfl (fun ls hl => ?_)
        have hl : lv_has ls 4 [(3, .int (nI (k - 1) - 1)), (2, .int (ic (f (k - 1)) (f2 (k - 1)))), (0, .ref h), (1, .ref x2)] := hl
        refine lv_goto (tgt := 35) hx hb dW_compare_62 rfl ?_
        exact ih35 (k - 1, ic (f (k - 1)) (f2 (k - 1))) (show (k - 1) ≤ K ∧ ((ic (f (k - 1)) (f2 (k - 1))) = 0 → K = K2 ∧ hv 1000000000 (dg f) (k - 1) (K - (k - 1)) = hv 1000000000 (dg f2) (k - 1) (K - (k - 1))) ∧ (¬ (ic (f (k - 1)) (f2 (k - 1))) = 0 → (ic (f (k - 1)) (f2 (k - 1))) = cn (vW f K) (vW f2 K2)) from ⟨by omega, fun q => ⟨hEQ.1, cmp_dig0 (by omega) ik hEQ.2 q⟩, cmp_dig hEQ.1 (by omega) ik hd qhd hEQ.2⟩) (show (k - 1) < k from (by omega)) ls (lv_sub hl [2, 3, 1, 0] rfl)
set_option maxHeartbeats 4000000 in
set_option maxRecDepth 100000 in
theorem k_complement (l : Launch) (D : va_G) (cT : Nat → ClassId) (h : Nat) (w : Nat) (R : Nat) (n : Int32) (b : Int32) (f : Nat → Int32) (k0 : Nat) (hR : R ≤ 48) (hk0 : k0 ≤ R) (hd : dok 1000000000 f k0) (hb01 : b = 0 ∨ b = 1) (sz : Nat) : Met l yW_complement WW_complement ({ frames := 0, cells := 0, slots := 0, locals := 0 } : Room) (RW D vwCl [.ref h, .int (nI k0)] [(h, .inr (4, [.ref w, .int n, .int b])), (w, .inl (cT 0, R, .inl f))] (TY cT) sz) (va_Qv (fun u9 : Int32 × (Nat → Int32) => dok 1000000000 u9.2 k0 ∧ (0 < vW f k0 → vW u9.2 k0 = 1000000000 ^ k0 - vW f k0) ∧ u9.1 = fl b) (BW D vwCl (va_A [(h, .inr (4, [.ref w, .int n, .int b])), (w, .inl (cT 0, R, .inl f))] sz) (fun u9 : Int32 × (Nat → Int32) => [(h, .inr (4, [.ref w, .int n, .int u9.1])), (w, .inl (cT 0, R, .inl u9.2))])) (va_A [(h, .inr (4, [.ref w, .int n, .int b])), (w, .inl (cT 0, R, .inl f))] sz)) 0 0 (va_A [(h, .inr (4, [.ref w, .int n, .int b])), (w, .inl (cT 0, R, .inl f))] sz) := by
  refine Met.ofW (cc := cW_complement) (maxL := 5) (ret := none) (by decide) rfl ?_
  intro p e s m args below meth c s₁ B hml hv
  obtain ⟨rfl, hsz, hZ, hP, hK, hD0⟩ := hv
  have hx := B.exec
  have hb := B.bytes
  have hr := B.returns
  have hts := atoms_spec (ws := WW_complement) B.pre
  have hT : ∀ w ∈ TB, w.before _ s = true := fun w h => hts w (List.mem_cons_of_mem _ h)
  have hown : s.vm.findClass R_W = some m.cls := findClass_of_methodNamed B.named
  have hlocks := B.notSynchronized
  subst hsz
  have hD := hD0.self (sz := s.heap.size)
  generalize hAe : va_A [(h, .inr (4, [.ref w, .int n, .int b])), (w, .inl (cT 0, R, .inl f))] s.heap.size = A at hD hZ ⊢
  have hA : ∀ q : Nat, s.heap.size ≤ q → A q := fun q h => by rw [← hAe]; exact Or.inr h
  have hS : va_S A s.heap s.heap [] := va_S.rf
  have hl := lv_entry ([.ref h, .int (nI k0)]) (n := 5) (Nat.le_of_ble_eq_true rfl)
  rw [lg_entry_eq]
  generalize (lg_sl ([.ref h, .int (nI k0)]) ++ List.replicate (5 - (lg_sl ([.ref h, .int (nI k0)])).length) Slot.unset).toArray = ls at hl ⊢
  have hl : lv_has ls 5 [(0, .ref h), (1, .int (nI k0))] := hl
  refine lv_iconst (v := 0) hx hb dW_complement_0 (by decide) ?_
  refine lv_istore_n hx hb dW_complement_1 rfl hl (by decide) rfl (fun ls hl => ?_)
  have hl : lv_has ls 5 [(2, .int 0), (0, .ref h), (1, .int (nI k0))] := hl
  refine lv_iconst (v := 0) hx hb dW_complement_2 (by decide) ?_
  refine lv_istore_n hx hb dW_complement_3 rfl hl (by decide) rfl (fun ls hl => ?_)
  have hl : lv_has ls 5 [(3, .int 0), (2, .int 0), (0, .ref h), (1, .int (nI k0))] := hl
  refine lp_w (α := Nat × Nat × (Nat → Int32)) (fun a9 => a9.1 ≤ k0 ∧ a9.2.1 ≤ 1 ∧ dok 1000000000 a9.2.2 a9.1 ∧ (∀ m, a9.1 ≤ m → a9.2.2 m = f m) ∧ hv 1000000000 (dg a9.2.2) 0 a9.1 + hv 1000000000 (dg f) 0 a9.1 = a9.2.1 * 1000000000 ^ a9.1) (fun a9 => k0 - a9.1) (fun a9 => [(0, .ref h), (1, .int (nI k0)), (2, .int (nI a9.2.1)), (3, .int (nI a9.1))]) (fun a9 => [(h, .inr (4, [.ref w, .int n, .int b])), (w, .inl (cT 0, R, .inl a9.2.2))]) 4 ?_ (0, 0, f) (show 0 ≤ k0 ∧ 0 ≤ 1 ∧ dok 1000000000 f 0 ∧ (∀ m, 0 ≤ m → f m = f m) ∧ hv 1000000000 (dg f) 0 0 + hv 1000000000 (dg f) 0 0 = 0 * 1000000000 ^ 0 from ⟨by omega, by omega, fun q h => absurd h (by omega), fun _ _ => rfl, by simp [hv]⟩) (lv_sub hl [2, 3, 1, 0] rfl) hP hD hS
  intro a9 hI4 ih4 ls H locs hl hP hD hS
  obtain ⟨j, o, g⟩ := a9
  have hI4 : j ≤ k0 ∧ o ≤ 1 ∧ dok 1000000000 g j ∧ (∀ m, j ≤ m → g m = f m) ∧ hv 1000000000 (dg g) 0 j + hv 1000000000 (dg f) 0 j = o * 1000000000 ^ j := hI4
  obtain ⟨ij, io, ig, if0, iv⟩ := hI4
  have hl : lv_has ls 5 [(0, .ref h), (1, .int (nI k0)), (2, .int (nI o)), (3, .int (nI j))] := hl
  have hP : va_P D vwCl [(h, .inr (4, [.ref w, .int n, .int b])), (w, .inl (cT 0, R, .inl g))] _ := hP
  have hD : va_D A [(h, .inr (4, [.ref w, .int n, .int b])), (w, .inl (cT 0, R, .inl g))] := hD
  refine lv_iload_n hx hb dW_complement_4 rfl (lv_at hl 3 rfl) ?_
  refine lv_iload_n hx hb dW_complement_5 rfl (lv_at hl 1 rfl) ?_
  refine lv_icmp_ge (tgt := 59) hx hb dW_complement_6 rfl (fun h1 => ?_) (fun h1 => ?_)
  · have gh1 : k0 ≤ j := (nI_leI (a := k0) (b := j) (by omega) (by omega)).mp h1
    have ej : j = k0 := by omega
    subst ej
    have hl : lv_has ls 5 [(0, .ref h), (1, .int (nI j)), (2, .int (nI o)), (3, .int (nI j))] := hl
    refine lv_aload_n hx hb dW_complement_59 rfl (lv_at hl 0 rfl) ?_
    refine lv_aload_n hx hb dW_complement_60 rfl (lv_at hl 0 rfl) ?_
    refine va_get (D := D) (ci := 4) (v := .int b) (C := R_W) (T := T_W) (N := 3) hx hb hT in_W hown hK hP 0 rfl rfl 2 (by decide) (hT _ w149) (fun _ h9 => h9) rfl dW_complement_61 ?_
    refine lv_if_ne (tgt := 71) hx hb dW_complement_64 rfl (fun h2 => ?_) (fun h2 => ?_)
    · refine lv_iconst (v := 0) hx hb dW_complement_71 (by decide) ?_
      refine va_put (D := D) (ci := 4) (v := .int 0) (ty := .boolean) (C := R_W) (T := T_W) (N := 3) hx hb hT in_W ty_W ty_W_ok m_W hown hK hP hD hS 0 rfl rfl 2 (by decide) (hT _ w149) (fun _ h9 => h9) rfl (by decide +kernel) rfl rfl (Nat.le_of_ble_eq_true rfl) dW_complement_72 (fun H locs hP hD hS => ?_)
      have hP : va_P D vwCl [(h, .inr (4, [.ref w, .int n, .int 0])), (w, .inl (cT 0, R, .inl g))] _ := hP
      have hD : va_D A [(h, .inr (4, [.ref w, .int n, .int 0])), (w, .inl (cT 0, R, .inl g))] := hD
      have hP9 := hP.sub (ws' := [(h, .inr (4, [.ref w, .int n, .int 0])), (w, .inl (cT 0, R, .inl g))]) [0, 1] rfl
      have hD9 := hD.sub (ws' := [(h, .inr (4, [.ref w, .int n, .int 0])), (w, .inl (cT 0, R, .inl g))]) [0, 1] (by decide) rfl
      refine W.widen (k := 0) (n := 0) (Nat.le_of_ble_eq_true rfl) (Nat.le_of_ble_eq_true rfl) ?_
      exact W.vret hx hb hr (fun t ht hW => ⟨⟨(0, g), rfl, (show dok 1000000000 g j ∧ (0 < vW f j → vW g j = 1000000000 ^ j - vW f j) ∧ 0 = fl b from ⟨ig, fun q => (by rcases (show o = 0 ∨ o = 1 by omega) with r | r; (rw [r, Nat.zero_mul] at iv; omega); (rw [r, Nat.one_mul] at iv; omega)), by unfold fl; rw [if_neg h2]⟩), by rw [ht]; exact hP9, hD9⟩, hS.F ht⟩) hS.2.2 dW_complement_75
    · refine lv_iconst (v := 1) hx hb dW_complement_67 (by decide) ?_
      refine lv_goto (tgt := 72) hx hb dW_complement_68 rfl ?_
      refine va_put (D := D) (ci := 4) (v := .int 1) (ty := .boolean) (C := R_W) (T := T_W) (N := 3) hx hb hT in_W ty_W ty_W_ok m_W hown hK hP hD hS 0 rfl rfl 2 (by decide) (hT _ w149) (fun _ h9 => h9) rfl (by decide +kernel) rfl rfl (Nat.le_of_ble_eq_true rfl) dW_complement_72 (fun H locs hP hD hS => ?_)
      have hP : va_P D vwCl [(h, .inr (4, [.ref w, .int n, .int 1])), (w, .inl (cT 0, R, .inl g))] _ := hP
      have hD : va_D A [(h, .inr (4, [.ref w, .int n, .int 1])), (w, .inl (cT 0, R, .inl g))] := hD
      have hP9 := hP.sub (ws' := [(h, .inr (4, [.ref w, .int n, .int 1])), (w, .inl (cT 0, R, .inl g))]) [0, 1] rfl
      have hD9 := hD.sub (ws' := [(h, .inr (4, [.ref w, .int n, .int 1])), (w, .inl (cT 0, R, .inl g))]) [0, 1] (by decide) rfl
      refine W.widen (k := 0) (n := 0) (Nat.le_of_ble_eq_true rfl) (Nat.le_of_ble_eq_true rfl) ?_
      exact W.vret hx hb hr (fun t ht hW => ⟨⟨(1, g), rfl, (show dok 1000000000 g j ∧ (0 < vW f j → vW g j = 1000000000 ^ j - vW f j) ∧ 1 = fl b from ⟨ig, fun q => (by rcases (show o = 0 ∨ o = 1 by omega) with r | r; (rw [r, Nat.zero_mul] at iv; omega); (rw [r, Nat.one_mul] at iv; omega)), by unfold fl; rw [if_pos h2]⟩), by rw [ht]; exact hP9, hD9⟩, hS.F ht⟩) hS.2.2 dW_complement_75
  · have gh1 : j < k0 := Nat.not_le.mp (fun q => h1 ((nI_leI (a := k0) (b := j) (by omega) (by omega)).mpr q))
    refine lv_iload_n hx hb dW_complement_9 rfl (lv_at hl 3 rfl) ?_
    refine lv_aload_n hx hb dW_complement_10 rfl (lv_at hl 0 rfl) ?_
    refine va_get (D := D) (ci := 4) (v := .ref w) (C := R_W) (T := T_W) (N := 3) hx hb hT in_W hown hK hP 0 rfl rfl 0 (by decide) (hT _ w145) (fun _ h9 => h9) rfl dW_complement_11 ?_
    refine va_alen (v := nI R) hx hb hK hP 1 0 rfl rfl rfl dW_complement_14 ?_
    refine lv_icmp_ge (tgt := 59) hx hb dW_complement_15 rfl (fun h3 => ?_) (fun h3 => ?_)
    · have gh3 : R ≤ j := (nI_leI (a := R) (b := j) (by omega) (by omega)).mp h3
      have ej : j = k0 := by omega
      subst ej
      have hl : lv_has ls 5 [(0, .ref h), (1, .int (nI j)), (2, .int (nI o)), (3, .int (nI j))] := hl
      refine lv_aload_n hx hb dW_complement_59 rfl (lv_at hl 0 rfl) ?_
      refine lv_aload_n hx hb dW_complement_60 rfl (lv_at hl 0 rfl) ?_
      refine va_get (D := D) (ci := 4) (v := .int b) (C := R_W) (T := T_W) (N := 3) hx hb hT in_W hown hK hP 0 rfl rfl 2 (by decide) (hT _ w149) (fun _ h9 => h9) rfl dW_complement_61 ?_
      refine lv_if_ne (tgt := 71) hx hb dW_complement_64 rfl (fun h4 => ?_) (fun h4 => ?_)
      · refine lv_iconst (v := 0) hx hb dW_complement_71 (by decide) ?_
        refine va_put (D := D) (ci := 4) (v := .int 0) (ty := .boolean) (C := R_W) (T := T_W) (N := 3) hx hb hT in_W ty_W ty_W_ok m_W hown hK hP hD hS 0 rfl rfl 2 (by decide) (hT _ w149) (fun _ h9 => h9) rfl (by decide +kernel) rfl rfl (Nat.le_of_ble_eq_true rfl) dW_complement_72 (fun H locs hP hD hS => ?_)
        have hP : va_P D vwCl [(h, .inr (4, [.ref w, .int n, .int 0])), (w, .inl (cT 0, R, .inl g))] _ := hP
        have hD : va_D A [(h, .inr (4, [.ref w, .int n, .int 0])), (w, .inl (cT 0, R, .inl g))] := hD
        have hP9 := hP.sub (ws' := [(h, .inr (4, [.ref w, .int n, .int 0])), (w, .inl (cT 0, R, .inl g))]) [0, 1] rfl
        have hD9 := hD.sub (ws' := [(h, .inr (4, [.ref w, .int n, .int 0])), (w, .inl (cT 0, R, .inl g))]) [0, 1] (by decide) rfl
        refine W.widen (k := 0) (n := 0) (Nat.le_of_ble_eq_true rfl) (Nat.le_of_ble_eq_true rfl) ?_
        exact W.vret hx hb hr (fun t ht hW => ⟨⟨(0, g), rfl, (show dok 1000000000 g j ∧ (0 < vW f j → vW g j = 1000000000 ^ j - vW f j) ∧ 0 = fl b from ⟨ig, fun q => (by rcases (show o = 0 ∨ o = 1 by omega) with r | r; (rw [r, Nat.zero_mul] at iv; omega); (rw [r, Nat.one_mul] at iv; omega)), by unfold fl; rw [if_neg h4]⟩), by rw [ht]; exact hP9, hD9⟩, hS.F ht⟩) hS.2.2 dW_complement_75
      · refine lv_iconst (v := 1) hx hb dW_complement_67 (by decide) ?_
        refine lv_goto (tgt := 72) hx hb dW_complement_68 rfl ?_
        refine va_put (D := D) (ci := 4) (v := .int 1) (ty := .boolean) (C := R_W) (T := T_W) (N := 3) hx hb hT in_W ty_W ty_W_ok m_W hown hK hP hD hS 0 rfl rfl 2 (by decide) (hT _ w149) (fun _ h9 => h9) rfl (by decide +kernel) rfl rfl (Nat.le_of_ble_eq_true rfl) dW_complement_72 (fun H locs hP hD hS => ?_)
        have hP : va_P D vwCl [(h, .inr (4, [.ref w, .int n, .int 1])), (w, .inl (cT 0, R, .inl g))] _ := hP
        have hD : va_D A [(h, .inr (4, [.ref w, .int n, .int 1])), (w, .inl (cT 0, R, .inl g))] := hD
        have hP9 := hP.sub (ws' := [(h, .inr (4, [.ref w, .int n, .int 1])), (w, .inl (cT 0, R, .inl g))]) [0, 1] rfl
        have hD9 := hD.sub (ws' := [(h, .inr (4, [.ref w, .int n, .int 1])), (w, .inl (cT 0, R, .inl g))]) [0, 1] (by decide) rfl
        refine W.widen (k := 0) (n := 0) (Nat.le_of_ble_eq_true rfl) (Nat.le_of_ble_eq_true rfl) ?_
        exact W.vret hx hb hr (fun t ht hW => ⟨⟨(1, g), rfl, (show dok 1000000000 g j ∧ (0 < vW f j → vW g j = 1000000000 ^ j - vW f j) ∧ 1 = fl b from ⟨ig, fun q => (by rcases (show o = 0 ∨ o = 1 by omega) with r | r; (rw [r, Nat.zero_mul] at iv; omega); (rw [r, Nat.one_mul] at iv; omega)), by unfold fl; rw [if_pos h4]⟩), by rw [ht]; exact hP9, hD9⟩, hS.F ht⟩) hS.2.2 dW_complement_75
    · have gh3 : j < R := Nat.not_le.mp (fun q => h3 ((nI_leI (a := R) (b := j) (by omega) (by omega)).mpr q))
      have hw := hd j (by omega)
      obtain ⟨d1, hd1⟩ : ∃ q9 : Nat, q9 = dg f j := ⟨_, rfl⟩
      have hd1b : d1 < 1000000000 := by rw [hd1]; exact hw.2
      rw [← hd1] at hw
      refine lv_aload_n hx hb dW_complement_18 rfl (lv_at hl 0 rfl) ?_
      refine va_get (D := D) (ci := 4) (v := .ref w) (C := R_W) (T := T_W) (N := 3) hx hb hT in_W hown hK hP 0 rfl rfl 0 (by decide) (hT _ w145) (fun _ h9 => h9) rfl dW_complement_19 ?_
      refine lv_iload_n hx hb dW_complement_22 rfl (lv_at hl 3 rfl) ?_
      refine lq_iald (j := j) hx hb hK hP 1 0 rfl rfl rfl (by omega) (by omega) dW_complement_23 ?_
      refine lv_topi (fun y9 e9 => ?_)
      cases (show y9 = nI d1 from e9.trans ((if0 j (Nat.le_refl _)).trans hw.1))
      refine lv_ineg hx hb dW_complement_24 ?_
      refine lv_iload_n hx hb dW_complement_25 rfl (lv_at hl 2 rfl) ?_
      refine lv_isub hx hb dW_complement_26 ?_
      refine lv_topi (fun y9 e9 => ?_)
      cases (show y9 = -(nI (d1 + o)) from e9.trans (ng_add d1 o))
      refine lv_istore hx hb dW_complement_27 hl (by decide) rfl (fun ls hl => ?_)
      have hl : lv_has ls 5 [(4, .int (-(nI (d1 + o)))), (0, .ref h), (1, .int (nI k0)), (2, .int (nI o)), (3, .int (nI j))] := hl
      refine lv_iload hx hb dW_complement_29 (lv_at hl 0 rfl) ?_
      refine lv_if_ge (tgt := 38) hx hb dW_complement_31 rfl (fun h5 => ?_) (fun h5 => ?_)
      · have gd : d1 + o = 0 := (ng_ge (by omega)).mp h5
        obtain ⟨e1, he1⟩ : ∃ q9 : Nat, q9 = 0 := ⟨_, rfl⟩
        have he1b : e1 < 1000000000 := by omega
        refine lv_iconst (v := 0) hx hb dW_complement_38 (by decide) ?_
        refine lv_istore_n hx hb dW_complement_39 rfl hl (by decide) rfl (fun ls hl => ?_)
        have hl : lv_has ls 5 [(2, .int 0), (4, .int (-(nI (d1 + o)))), (0, .ref h), (1, .int (nI k0)), (3, .int (nI j))] := hl
        refine lv_aload_n hx hb dW_complement_40 rfl (lv_at hl 2 rfl) ?_
        refine va_get (D := D) (ci := 4) (v := .ref w) (C := R_W) (T := T_W) (N := 3) hx hb hT in_W hown hK hP 0 rfl rfl 0 (by decide) (hT _ w145) (fun _ h9 => h9) rfl dW_complement_41 ?_
        refine lv_iload_n hx hb dW_complement_44 rfl (lv_at hl 4 rfl) ?_
        refine lv_iload hx hb dW_complement_45 (lv_at hl 1 rfl) ?_
        refine lv_iload_n hx hb dW_complement_47 rfl (lv_at hl 0 rfl) ?_
        refine lv_ldc (v := 1000000000) hx hb hown (hT _ w462) dW_complement_48 ?_
        refine lv_imul hx hb dW_complement_50 ?_
        refine lv_topi (fun y9 e9 => ?_)
        cases (show y9 = 0 from e9.trans (by decide))
        refine lv_iadd hx hb dW_complement_51 ?_
        refine lv_topi (fun y9 e9 => ?_)
        cases (show y9 = nI e1 from e9.trans (by rw [he1, gd]; decide))
        refine lq_iast (j := j) hx hb hK hP hD hS 1 0 rfl rfl rfl (by omega) (by omega) dW_complement_52 (fun H locs hP hD hS => ?_)
        have hP : va_P D vwCl [(h, .inr (4, [.ref w, .int n, .int b])), (w, .inl (cT 0, R, .inl (upd g j (nI e1))))] _ := hP
        have hD : va_D A [(h, .inr (4, [.ref w, .int n, .int b])), (w, .inl (cT 0, R, .inl (upd g j (nI e1))))] := hD
        refine lv_iinc (k := 4) (v := nI (j + 1)) hx hb dW_complement_53 hl rfl (nI_1 j) (by decide) rfl (fun ls hl => ?_)
        have hl : lv_has ls 5 [(3, .int (nI (j + 1))), (2, .int 0), (4, .int (-(nI (d1 + o)))), (0, .ref h), (1, .int (nI k0))] := hl
        refine lv_goto (tgt := 4) hx hb dW_complement_56 rfl ?_
        exact ih4 (j + 1, 0, upd g j (nI e1)) (show (j + 1) ≤ k0 ∧ 0 ≤ 1 ∧ dok 1000000000 (upd g j (nI e1)) (j + 1) ∧ (∀ m, (j + 1) ≤ m → (upd g j (nI e1)) m = f m) ∧ hv 1000000000 (dg (upd g j (nI e1))) 0 (j + 1) + hv 1000000000 (dg f) 0 (j + 1) = 0 * 1000000000 ^ (j + 1) from ⟨by omega, by omega, dok_s ig he1b (by decide), fun q h => (pk_un (by omega)).trans (if0 q (by omega)), by rw [hv_us (v := e1) (by omega), hv_snoc, Nat.zero_add, Nat.pow_succ]; exact cpl_s iv (by omega)⟩) (show k0 - (j + 1) < k0 - j from (by omega)) ls H locs (lv_sub hl [3, 4, 1, 0] rfl) hP hD hS
      · have gd : 0 < d1 + o := Nat.pos_of_ne_zero (fun q => h5 ((ng_ge (by omega)).mpr q))
        obtain ⟨e1, he1⟩ : ∃ q9 : Nat, q9 = 1000000000 - (d1 + o) := ⟨_, rfl⟩
        have he1b : e1 < 1000000000 := by omega
        refine lv_iconst (v := 1) hx hb dW_complement_34 (by decide) ?_
        refine lv_goto (tgt := 39) hx hb dW_complement_35 rfl ?_
        refine lv_istore_n hx hb dW_complement_39 rfl hl (by decide) rfl (fun ls hl => ?_)
        have hl : lv_has ls 5 [(2, .int 1), (4, .int (-(nI (d1 + o)))), (0, .ref h), (1, .int (nI k0)), (3, .int (nI j))] := hl
        refine lv_aload_n hx hb dW_complement_40 rfl (lv_at hl 2 rfl) ?_
        refine va_get (D := D) (ci := 4) (v := .ref w) (C := R_W) (T := T_W) (N := 3) hx hb hT in_W hown hK hP 0 rfl rfl 0 (by decide) (hT _ w145) (fun _ h9 => h9) rfl dW_complement_41 ?_
        refine lv_iload_n hx hb dW_complement_44 rfl (lv_at hl 4 rfl) ?_
        refine lv_iload hx hb dW_complement_45 (lv_at hl 1 rfl) ?_
        refine lv_iload_n hx hb dW_complement_47 rfl (lv_at hl 0 rfl) ?_
        refine lv_ldc (v := 1000000000) hx hb hown (hT _ w462) dW_complement_48 ?_
        refine lv_imul hx hb dW_complement_50 ?_
        refine lv_topi (fun y9 e9 => ?_)
        cases (show y9 = 1000000000 from e9.trans (by decide))
        refine lv_iadd hx hb dW_complement_51 ?_
        refine lv_topi (fun y9 e9 => ?_)
        cases (show y9 = nI e1 from e9.trans (by rw [he1]; exact ng_up (n := 1000000000) (by omega)))
        refine lq_iast (j := j) hx hb hK hP hD hS 1 0 rfl rfl rfl (by omega) (by omega) dW_complement_52 (fun H locs hP hD hS => ?_)
        have hP : va_P D vwCl [(h, .inr (4, [.ref w, .int n, .int b])), (w, .inl (cT 0, R, .inl (upd g j (nI e1))))] _ := hP
        have hD : va_D A [(h, .inr (4, [.ref w, .int n, .int b])), (w, .inl (cT 0, R, .inl (upd g j (nI e1))))] := hD
        refine lv_iinc (k := 4) (v := nI (j + 1)) hx hb dW_complement_53 hl rfl (nI_1 j) (by decide) rfl (fun ls hl => ?_)
        have hl : lv_has ls 5 [(3, .int (nI (j + 1))), (2, .int 1), (4, .int (-(nI (d1 + o)))), (0, .ref h), (1, .int (nI k0))] := hl
        refine lv_goto (tgt := 4) hx hb dW_complement_56 rfl ?_
        exact ih4 (j + 1, 1, upd g j (nI e1)) (show (j + 1) ≤ k0 ∧ 1 ≤ 1 ∧ dok 1000000000 (upd g j (nI e1)) (j + 1) ∧ (∀ m, (j + 1) ≤ m → (upd g j (nI e1)) m = f m) ∧ hv 1000000000 (dg (upd g j (nI e1))) 0 (j + 1) + hv 1000000000 (dg f) 0 (j + 1) = 1 * 1000000000 ^ (j + 1) from ⟨by omega, by omega, dok_s ig he1b (by decide), fun q h => (pk_un (by omega)).trans (if0 q (by omega)), by rw [hv_us (v := e1) (by omega), hv_snoc, Nat.zero_add, Nat.pow_succ]; exact cpl_s iv (by omega)⟩) (show k0 - (j + 1) < k0 - j from (by omega)) ls H locs (lv_sub hl [3, 4, 1, 0] rfl) hP hD hS
set_option maxHeartbeats 4000000 in
set_option maxRecDepth 100000 in
theorem k_setW (l : Launch) (D : va_G) (cT : Nat → ClassId) (h : Nat) (w : Nat) (R : Nat) (n : Int32) (b : Int32) (f : Nat → Int32) (x2 : Nat) (w2 : Nat) (R2 : Nat) (n2 : Int32) (b2 : Int32) (f2 : Nat → Int32) (z2 : Int) (hR : R ≤ 48) (hR2 : R2 ≤ 48) (hN2 : WN R2 n2 b2 f2 z2) (hfit : z2.natAbs < 1000000000 ^ R) (sz : Nat) : Met l yW_setb WW_setb ({ frames := 1, cells := 0, slots := 0, locals := 40 } : Room) (RW D vwCl [.ref h, .ref x2] [(h, .inr (4, [.ref w, .int n, .int b])), (w, .inl (cT 0, R, .inl f)), (x2, .inr (4, [.ref w2, .int n2, .int b2])), (w2, .inl (cT 0, R2, .inl f2))] (TY cT) sz) (va_Qv (fun u9 : (Nat → Int32) => WN R n2 b2 u9 z2) (BW D vwCl (va_A [(h, .inr (4, [.ref w, .int n, .int b])), (w, .inl (cT 0, R, .inl f)), (x2, .inr (4, [.ref w2, .int n2, .int b2])), (w2, .inl (cT 0, R2, .inl f2))] sz) (fun u9 : (Nat → Int32) => [(h, .inr (4, [.ref w, .int n2, .int b2])), (w, .inl (cT 0, R, .inl u9)), (x2, .inr (4, [.ref w2, .int n2, .int b2])), (w2, .inl (cT 0, R2, .inl f2))])) (va_A [(h, .inr (4, [.ref w, .int n, .int b])), (w, .inl (cT 0, R, .inl f)), (x2, .inr (4, [.ref w2, .int n2, .int b2])), (w2, .inl (cT 0, R2, .inl f2))] sz)) 0 0 (va_A [(h, .inr (4, [.ref w, .int n, .int b])), (w, .inl (cT 0, R, .inl f)), (x2, .inr (4, [.ref w2, .int n2, .int b2])), (w2, .inl (cT 0, R2, .inl f2))] sz) := by
  refine Met.ofW (cc := cW_setb) (maxL := 2) (ret := none) (by decide) rfl ?_
  intro p e s m args below meth c s₁ B hml hv
  obtain ⟨rfl, hsz, hZ, hP, hK, hD0⟩ := hv
  have hx := B.exec
  have hb := B.bytes
  have hr := B.returns
  have hts := atoms_spec (ws := WW_setb) B.pre
  have hT : ∀ w ∈ TB, w.before _ s = true := fun w h => hts w (List.mem_cons_of_mem _ h)
  have hown : s.vm.findClass R_W = some m.cls := findClass_of_methodNamed B.named
  have hlocks := B.notSynchronized
  subst hsz
  have hD := hD0.self (sz := s.heap.size)
  generalize hAe : va_A [(h, .inr (4, [.ref w, .int n, .int b])), (w, .inl (cT 0, R, .inl f)), (x2, .inr (4, [.ref w2, .int n2, .int b2])), (w2, .inl (cT 0, R2, .inl f2))] s.heap.size = A at hD hZ ⊢
  have hA : ∀ q : Nat, s.heap.size ≤ q → A q := fun q h => by rw [← hAe]; exact Or.inr h
  have hS : va_S A s.heap s.heap [] := va_S.rf
  have hl := lv_entry ([.ref h, .ref x2]) (n := 2) (Nat.le_of_ble_eq_true rfl)
  rw [lg_entry_eq]
  generalize (lg_sl ([.ref h, .ref x2]) ++ List.replicate (2 - (lg_sl ([.ref h, .ref x2])).length) Slot.unset).toArray = ls at hl ⊢
  have hl : lv_has ls 2 [(0, .ref h), (1, .ref x2)] := hl
  obtain ⟨K, rfl, hk, hd, htop, hb01, hz⟩ := hN2
  have hP : va_P D vwCl [(h, .inr (4, [.ref w, .int n, .int b])), (w, .inl (cT 0, R, .inl f)), (x2, .inr (4, [.ref w2, .int (nI K), .int b2])), (w2, .inl (cT 0, R2, .inl f2))] _ := hP
  have hD : va_D A [(h, .inr (4, [.ref w, .int n, .int b])), (w, .inl (cT 0, R, .inl f)), (x2, .inr (4, [.ref w2, .int (nI K), .int b2])), (w2, .inl (cT 0, R2, .inl f2))] := hD
  have hKR : K ≤ R := K_le htop (by rw [hz, wz_abs] at hfit; exact hfit)
  refine lv_aload_n hx hb dW_setb_0 rfl (lv_at hl 0 rfl) ?_
  refine lv_aload_n hx hb dW_setb_1 rfl (lv_at hl 1 rfl) ?_
  refine va_get (D := D) (ci := 4) (v := .int (nI K)) (C := R_W) (T := T_W) (N := 3) hx hb hT in_W hown hK hP 2 rfl rfl 1 (by decide) (hT _ w148) (fun _ h9 => h9) rfl dW_setb_2 ?_
  refine lv_aload_n hx hb dW_setb_5 rfl (lv_at hl 0 rfl) ?_
  refine va_get (D := D) (ci := 4) (v := .ref w) (C := R_W) (T := T_W) (N := 3) hx hb hT in_W hown hK hP 0 rfl rfl 0 (by decide) (hT _ w145) (fun _ h9 => h9) rfl dW_setb_6 ?_
  refine va_alen (v := nI R) hx hb hK hP 1 0 rfl rfl rfl dW_setb_9 ?_
  refine va_mmin hx hb (hml.trans hl.1.symm) hown (hT _ w447) (hT _ w448) (hT _ w22) (hT _ w449) (Nat.le_of_ble_eq_true rfl) (Nat.le_of_ble_eq_true rfl) (Nat.le_of_ble_eq_true rfl) (Nat.le_of_ble_eq_true rfl) dW_setb_10 ?_
  refine lv_topi (fun y9 e9 => ?_)
  cases (show y9 = nI (min K R) from e9.trans (mmin_nI (a := K) (b := R) (by omega) (by omega)))
  refine lv_topi (fun y9 e9 => ?_)
  cases (show y9 = nI K from e9.trans (congrArg nI (Nat.min_eq_left hKR)))
  refine va_put (D := D) (ci := 4) (v := .int (nI K)) (ty := .int) (C := R_W) (T := T_W) (N := 3) hx hb hT in_W ty_W ty_W_ok m_W hown hK hP hD hS 0 rfl rfl 1 (by decide) (hT _ w148) (fun _ h9 => h9) rfl (by decide +kernel) rfl rfl (Nat.le_of_ble_eq_true rfl) dW_setb_13 (fun H locs hP hD hS => ?_)
  have hP : va_P D vwCl [(h, .inr (4, [.ref w, .int (nI K), .int b])), (w, .inl (cT 0, R, .inl f)), (x2, .inr (4, [.ref w2, .int (nI K), .int b2])), (w2, .inl (cT 0, R2, .inl f2))] _ := hP
  have hD : va_D A [(h, .inr (4, [.ref w, .int (nI K), .int b])), (w, .inl (cT 0, R, .inl f)), (x2, .inr (4, [.ref w2, .int (nI K), .int b2])), (w2, .inl (cT 0, R2, .inl f2))] := hD
  refine lv_aload_n hx hb dW_setb_16 rfl (lv_at hl 1 rfl) ?_
  refine va_get (D := D) (ci := 4) (v := .ref w2) (C := R_W) (T := T_W) (N := 3) hx hb hT in_W hown hK hP 2 rfl rfl 0 (by decide) (hT _ w145) (fun _ h9 => h9) rfl dW_setb_17 ?_
  refine lv_iconst (v := 0) hx hb dW_setb_20 (by decide) ?_
  refine lv_aload_n hx hb dW_setb_21 rfl (lv_at hl 0 rfl) ?_
  refine va_get (D := D) (ci := 4) (v := .ref w) (C := R_W) (T := T_W) (N := 3) hx hb hT in_W hown hK hP 0 rfl rfl 0 (by decide) (hT _ w145) (fun _ h9 => h9) rfl dW_setb_22 ?_
  refine lv_iconst (v := 0) hx hb dW_setb_25 (by decide) ?_
  refine lv_aload_n hx hb dW_setb_26 rfl (lv_at hl 0 rfl) ?_
  refine va_get (D := D) (ci := 4) (v := .int (nI K)) (C := R_W) (T := T_W) (N := 3) hx hb hT in_W hown hK hP 0 rfl rfl 1 (by decide) (hT _ w148) (fun _ h9 => h9) rfl dW_setb_27 ?_
  refine lq_copy (K := K) hx hb (hml.trans hl.1.symm) hown (hT _ w450) (hT _ w452) (hT _ w451) (hT _ w23) hK hP hD hS 3 1 0 rfl rfl rfl (by omega) (by omega) (by omega) (Nat.le_of_ble_eq_true rfl) (by decide) dW_setb_30 (fun H locs hP hD hS => ?_)
  have hP : va_P D vwCl [(h, .inr (4, [.ref w, .int (nI K), .int b])), (w, .inl (cT 0, R, .inl (va_cpy f2 f 0 0 K))), (x2, .inr (4, [.ref w2, .int (nI K), .int b2])), (w2, .inl (cT 0, R2, .inl f2))] _ := hP
  have hD : va_D A [(h, .inr (4, [.ref w, .int (nI K), .int b])), (w, .inl (cT 0, R, .inl (va_cpy f2 f 0 0 K))), (x2, .inr (4, [.ref w2, .int (nI K), .int b2])), (w2, .inl (cT 0, R2, .inl f2))] := hD
  refine lv_aload_n hx hb dW_setb_33 rfl (lv_at hl 0 rfl) ?_
  refine lv_aload_n hx hb dW_setb_34 rfl (lv_at hl 1 rfl) ?_
  refine va_get (D := D) (ci := 4) (v := .int b2) (C := R_W) (T := T_W) (N := 3) hx hb hT in_W hown hK hP 2 rfl rfl 2 (by decide) (hT _ w149) (fun _ h9 => h9) rfl dW_setb_35 ?_
  refine va_put (D := D) (ci := 4) (v := .int b2) (ty := .boolean) (C := R_W) (T := T_W) (N := 3) hx hb hT in_W ty_W ty_W_ok m_W hown hK hP hD hS 0 rfl rfl 2 (by decide) (hT _ w149) (fun _ h9 => h9) rfl (by decide +kernel) (bz01 hb01).1 (bz01 hb01).2 (Nat.le_of_ble_eq_true rfl) dW_setb_38 (fun H locs hP hD hS => ?_)
  have hP : va_P D vwCl [(h, .inr (4, [.ref w, .int (nI K), .int b2])), (w, .inl (cT 0, R, .inl (va_cpy f2 f 0 0 K))), (x2, .inr (4, [.ref w2, .int (nI K), .int b2])), (w2, .inl (cT 0, R2, .inl f2))] _ := hP
  have hD : va_D A [(h, .inr (4, [.ref w, .int (nI K), .int b2])), (w, .inl (cT 0, R, .inl (va_cpy f2 f 0 0 K))), (x2, .inr (4, [.ref w2, .int (nI K), .int b2])), (w2, .inl (cT 0, R2, .inl f2))] := hD
  have hP9 := hP.sub (ws' := [(h, .inr (4, [.ref w, .int (nI K), .int b2])), (w, .inl (cT 0, R, .inl (va_cpy f2 f 0 0 K))), (x2, .inr (4, [.ref w2, .int (nI K), .int b2])), (w2, .inl (cT 0, R2, .inl f2))]) [0, 1, 2, 3] rfl
  have hD9 := hD.sub (ws' := [(h, .inr (4, [.ref w, .int (nI K), .int b2])), (w, .inl (cT 0, R, .inl (va_cpy f2 f 0 0 K))), (x2, .inr (4, [.ref w2, .int (nI K), .int b2])), (w2, .inl (cT 0, R2, .inl f2))]) [0, 1, 2, 3] (by decide) rfl
  refine W.widen (k := 0) (n := 0) (Nat.le_of_ble_eq_true rfl) (Nat.le_of_ble_eq_true rfl) ?_
  exact W.vret hx hb hr (fun t ht hW => ⟨⟨(va_cpy f2 f 0 0 K), rfl, (show WN R (nI K) b2 (va_cpy f2 f 0 0 K) z2 from wn_cpy hKR hd htop hb01 hz), by rw [ht]; exact hP9, hD9⟩, hS.F ht⟩) hS.2.2 dW_setb_41
set_option maxHeartbeats 4000000 in
set_option maxRecDepth 100000 in
theorem k_plus0 (l : Launch) (D : va_G) (cT : Nat → ClassId) (h : Nat) (w : Nat) (R : Nat) (n : Int32) (b : Int32) (f : Nat → Int32) (z : Int) (x2 : Nat) (w2 : Nat) (R2 : Nat) (n2 : Int32) (b2 : Int32) (f2 : Nat → Int32) (z2 : Int) (hR : R ≤ 48) (hN : WN R n b f z) (hR2 : R2 ≤ 48) (hN2 : WN R2 n2 b2 f2 z2) (hfit : z.natAbs + z2.natAbs < 1000000000 ^ R) (sz : Nat) : Met l yW_plus WW_plus ({ frames := 1, cells := 0, slots := 0, locals := 24 } : Room) (RW D vwCl [.ref h, .ref x2, .int 0] [(h, .inr (4, [.ref w, .int n, .int b])), (w, .inl (cT 0, R, .inl f)), (x2, .inr (4, [.ref w2, .int n2, .int b2])), (w2, .inl (cT 0, R2, .inl f2))] (TY cT) sz) (va_Qv (fun u9 : Int32 × Int32 × (Nat → Int32) => WN R u9.1 u9.2.1 u9.2.2 (z + z2)) (BW D vwCl (va_A [(h, .inr (4, [.ref w, .int n, .int b])), (w, .inl (cT 0, R, .inl f)), (x2, .inr (4, [.ref w2, .int n2, .int b2])), (w2, .inl (cT 0, R2, .inl f2))] sz) (fun u9 : Int32 × Int32 × (Nat → Int32) => [(h, .inr (4, [.ref w, .int u9.1, .int u9.2.1])), (w, .inl (cT 0, R, .inl u9.2.2)), (x2, .inr (4, [.ref w2, .int n2, .int b2])), (w2, .inl (cT 0, R2, .inl f2))])) (va_A [(h, .inr (4, [.ref w, .int n, .int b])), (w, .inl (cT 0, R, .inl f)), (x2, .inr (4, [.ref w2, .int n2, .int b2])), (w2, .inl (cT 0, R2, .inl f2))] sz)) 0 0 (va_A [(h, .inr (4, [.ref w, .int n, .int b])), (w, .inl (cT 0, R, .inl f)), (x2, .inr (4, [.ref w2, .int n2, .int b2])), (w2, .inl (cT 0, R2, .inl f2))] sz) := by
  refine Met.ofW (cc := cW_plus) (maxL := 8) (ret := none) (by decide) rfl ?_
  intro p e s m args below meth c s₁ B hml hv
  obtain ⟨rfl, hsz, hZ, hP, hK, hD0⟩ := hv
  have hx := B.exec
  have hb := B.bytes
  have hr := B.returns
  have hts := atoms_spec (ws := WW_plus) B.pre
  have hT : ∀ w ∈ TB, w.before _ s = true := fun w h => hts w (List.mem_cons_of_mem _ h)
  have hown : s.vm.findClass R_W = some m.cls := findClass_of_methodNamed B.named
  have hlocks := B.notSynchronized
  subst hsz
  have hD := hD0.self (sz := s.heap.size)
  generalize hAe : va_A [(h, .inr (4, [.ref w, .int n, .int b])), (w, .inl (cT 0, R, .inl f)), (x2, .inr (4, [.ref w2, .int n2, .int b2])), (w2, .inl (cT 0, R2, .inl f2))] s.heap.size = A at hD hZ ⊢
  have hA : ∀ q : Nat, s.heap.size ≤ q → A q := fun q h => by rw [← hAe]; exact Or.inr h
  have hS : va_S A s.heap s.heap [] := va_S.rf
  have hl := lv_entry ([.ref h, .ref x2, .int 0]) (n := 8) (Nat.le_of_ble_eq_true rfl)
  rw [lg_entry_eq]
  generalize (lg_sl ([.ref h, .ref x2, .int 0]) ++ List.replicate (8 - (lg_sl ([.ref h, .ref x2, .int 0])).length) Slot.unset).toArray = ls at hl ⊢
  have hl : lv_has ls 8 [(0, .ref h), (1, .ref x2), (2, .int 0)] := hl
  obtain ⟨K, rfl, hk, hd, htop, hb01, hz⟩ := hN
  have hP : va_P D vwCl [(h, .inr (4, [.ref w, .int (nI K), .int b])), (w, .inl (cT 0, R, .inl f)), (x2, .inr (4, [.ref w2, .int n2, .int b2])), (w2, .inl (cT 0, R2, .inl f2))] _ := hP
  have hD : va_D A [(h, .inr (4, [.ref w, .int (nI K), .int b])), (w, .inl (cT 0, R, .inl f)), (x2, .inr (4, [.ref w2, .int n2, .int b2])), (w2, .inl (cT 0, R2, .inl f2))] := hD
  obtain ⟨K2, rfl, qhk, qhd, qhtop, qhb01, qhz⟩ := hN2
  have hP : va_P D vwCl [(h, .inr (4, [.ref w, .int (nI K), .int b])), (w, .inl (cT 0, R, .inl f)), (x2, .inr (4, [.ref w2, .int (nI K2), .int b2])), (w2, .inl (cT 0, R2, .inl f2))] _ := hP
  have hD : va_D A [(h, .inr (4, [.ref w, .int (nI K), .int b])), (w, .inl (cT 0, R, .inl f)), (x2, .inr (4, [.ref w2, .int (nI K2), .int b2])), (w2, .inl (cT 0, R2, .inl f2))] := hD
  rw [hz, qhz, wz_abs, wz_abs] at hfit
  have hK2R : K2 ≤ R := K_le qhtop (by omega)
  refine lv_aload_n hx hb dW_plus_0 rfl (lv_at hl 0 rfl) ?_
  refine va_get (D := D) (ci := 4) (v := .int b) (C := R_W) (T := T_W) (N := 3) hx hb hT in_W hown hK hP 0 rfl rfl 2 (by decide) (hT _ w149) (fun _ h9 => h9) rfl dW_plus_1 ?_
  refine lv_aload_n hx hb dW_plus_4 rfl (lv_at hl 1 rfl) ?_
  refine va_get (D := D) (ci := 4) (v := .int b2) (C := R_W) (T := T_W) (N := 3) hx hb hT in_W hown hK hP 2 rfl rfl 2 (by decide) (hT _ w149) (fun _ h9 => h9) rfl dW_plus_5 ?_
  refine lv_icmp_ne (tgt := 15) hx hb dW_plus_8 rfl (fun h1 => ?_) (fun h1 => ?_)
  · refine lv_iconst (v := 0) hx hb dW_plus_15 (by decide) ?_
    refine lv_iload_n hx hb dW_plus_16 rfl (lv_at hl 2 rfl) ?_
    refine lv_icmp_eq (tgt := 24) hx hb dW_plus_17 rfl (fun _ => ?_) (fun h2 => absurd (by decide) h2)
    refine lv_iconst (v := 0) hx hb dW_plus_24 (by decide) ?_
    refine lv_istore_n hx hb dW_plus_25 rfl hl (by decide) rfl (fun ls hl => ?_)
    have hl : lv_has ls 8 [(3, .int 0), (0, .ref h), (1, .ref x2), (2, .int 0)] := hl
    refine lv_iconst (v := 0) hx hb dW_plus_26 (by decide) ?_
    refine lv_istore hx hb dW_plus_27 hl (by decide) rfl (fun ls hl => ?_)
    have hl : lv_has ls 8 [(4, .int 0), (3, .int 0), (0, .ref h), (1, .ref x2), (2, .int 0)] := hl
    refine lv_iconst (v := 0) hx hb dW_plus_29 (by decide) ?_
    refine lv_istore hx hb dW_plus_30 hl (by decide) rfl (fun ls hl => ?_)
    have hl : lv_has ls 8 [(5, .int 0), (4, .int 0), (3, .int 0), (0, .ref h), (1, .ref x2), (2, .int 0)] := hl
    refine lp_w (α := Nat × Nat × Int32 × (Nat → Int32)) (fun a9 => a9.1 ≤ R ∧ a9.2.1 ≤ 1 ∧ dok 1000000000 a9.2.2.2 a9.1 ∧ (∀ m, a9.1 ≤ m → a9.2.2.2 m = f m) ∧ a9.2.2.1 = -(nI a9.2.1) ∧ hv 1000000000 (dg a9.2.2.2) 0 a9.1 + hv 1000000000 (ct K2 (dg f2)) 0 a9.1 = hv 1000000000 (ct K (dg f)) 0 a9.1 + 1000000000 ^ a9.1 * a9.2.1) (fun a9 => R - a9.1) (fun a9 => [(0, .ref h), (1, .ref x2), (3, .int 0), (4, .int a9.2.2.1), (5, .int (nI a9.1))]) (fun a9 => [(h, .inr (4, [.ref w, .int (nI K), .int b])), (w, .inl (cT 0, R, .inl a9.2.2.2)), (x2, .inr (4, [.ref w2, .int (nI K2), .int b2])), (w2, .inl (cT 0, R2, .inl f2))]) 32 ?_ (0, 0, 0, f) (show 0 ≤ R ∧ 0 ≤ 1 ∧ dok 1000000000 f 0 ∧ (∀ m, 0 ≤ m → f m = f m) ∧ 0 = -(nI 0) ∧ hv 1000000000 (dg f) 0 0 + hv 1000000000 (ct K2 (dg f2)) 0 0 = hv 1000000000 (ct K (dg f)) 0 0 + 1000000000 ^ 0 * 0 from ⟨by omega, by omega, fun q h => absurd h (by omega), fun _ _ => rfl, by decide, by simp [hv]⟩) (lv_sub hl [3, 4, 2, 1, 0] rfl) hP hD hS
    intro a9 hI32 ih32 ls H locs hl hP hD hS
    obtain ⟨j, o, cr, g⟩ := a9
    have hI32 : j ≤ R ∧ o ≤ 1 ∧ dok 1000000000 g j ∧ (∀ m, j ≤ m → g m = f m) ∧ cr = -(nI o) ∧ hv 1000000000 (dg g) 0 j + hv 1000000000 (ct K2 (dg f2)) 0 j = hv 1000000000 (ct K (dg f)) 0 j + 1000000000 ^ j * o := hI32
    obtain ⟨ij, io, ig, if0, icr, iv⟩ := hI32
    have hl : lv_has ls 8 [(0, .ref h), (1, .ref x2), (3, .int 0), (4, .int cr), (5, .int (nI j))] := hl
    have hP : va_P D vwCl [(h, .inr (4, [.ref w, .int (nI K), .int b])), (w, .inl (cT 0, R, .inl g)), (x2, .inr (4, [.ref w2, .int (nI K2), .int b2])), (w2, .inl (cT 0, R2, .inl f2))] _ := hP
    have hD : va_D A [(h, .inr (4, [.ref w, .int (nI K), .int b])), (w, .inl (cT 0, R, .inl g)), (x2, .inr (4, [.ref w2, .int (nI K2), .int b2])), (w2, .inl (cT 0, R2, .inl f2))] := hD
    subst icr
    have hl : lv_has ls 8 [(0, .ref h), (1, .ref x2), (3, .int 0), (4, .int (-(nI o))), (5, .int (nI j))] := hl
    have hP : va_P D vwCl [(h, .inr (4, [.ref w, .int (nI K), .int b])), (w, .inl (cT 0, R, .inl g)), (x2, .inr (4, [.ref w2, .int (nI K2), .int b2])), (w2, .inl (cT 0, R2, .inl f2))] _ := hP
    have hD : va_D A [(h, .inr (4, [.ref w, .int (nI K), .int b])), (w, .inl (cT 0, R, .inl g)), (x2, .inr (4, [.ref w2, .int (nI K2), .int b2])), (w2, .inl (cT 0, R2, .inl f2))] := hD
    refine lv_iload hx hb dW_plus_32 (lv_at hl 4 rfl) ?_
    refine lv_aload_n hx hb dW_plus_34 rfl (lv_at hl 0 rfl) ?_
    refine va_get (D := D) (ci := 4) (v := .ref w) (C := R_W) (T := T_W) (N := 3) hx hb hT in_W hown hK hP 0 rfl rfl 0 (by decide) (hT _ w145) (fun _ h9 => h9) rfl dW_plus_35 ?_
    refine va_alen (v := nI R) hx hb hK hP 1 0 rfl rfl rfl dW_plus_38 ?_
    refine lv_icmp_ge (tgt := 169) hx hb dW_plus_39 rfl (fun h3 => ?_) (fun h3 => ?_)
    · have gh3 : R ≤ j := (nI_leI (a := R) (b := j) (by omega) (by omega)).mp h3
      have hjK : K ≤ j ∧ K2 ≤ j := by omega
      rw [hv_ct hjK.1, hv_ct hjK.2] at iv
      have iv : vW g j + vW f2 K2 = vW f K + 1000000000 ^ j * o := iv
      have hvg := vW_b ig
      have hb2 := vW_b qhd
      have hpw : 1000000000 ^ K2 ≤ 1000000000 ^ j := Nat.pow_le_pow_right (by decide) hjK.2
      refine lv_iload hx hb dW_plus_169 (lv_at hl 3 rfl) ?_
      refine lv_if_ge (tgt := 180) hx hb dW_plus_171 rfl (fun h4 => ?_) (fun h4 => ?_)
      · have ho : o = 0 := by rcases (show o = 0 ∨ o = 1 by omega) with r | r; (exact r); (exact absurd (show 0 ≤ -(nI o) from h4) (by rw [r]; decide))
        rw [ho, Nat.mul_zero, Nat.add_zero] at iv
        refine lv_aload_n hx hb dW_plus_180 rfl (lv_at hl 0 rfl) ?_
        refine lv_iload hx hb dW_plus_181 (lv_at hl 4 rfl) ?_
        refine rw_v (wc := [(h, .inr (4, [.ref w, .int (nI K), .int b])), (w, .inl (cT 0, R, .inl g))]) (wr := [(x2, .inr (4, [.ref w2, .int (nI K2), .int b2])), (w2, .inl (cT 0, R2, .inl f2))]) hP hD hS hA [0, 1] [2, 3] rfl rfl (by decide) (by decide) (va_runV (As := [.int (nI j)]) (rest := []) ⟨hx, hb, hml, hown, hT⟩ (k_trim l D cT h w R (nI K) b g j hR ij ig _) ⟨callB_of 1 hT (tb_gd w397) rfl rfl rfl (hT _ w5) (hT _ w394) hW_trim ⟨Nat.le_of_ble_eq_true rfl, Nat.le_of_ble_eq_true rfl⟩, (hT _ w396), (hT _ wp3)⟩ (RW.preV (ci := 4) (q0 := 0) hZ hS (va_free (wc := [(h, .inr (4, [.ref w, .int (nI K), .int b])), (w, .inl (cT 0, R, .inl g))]) hD hS hA [0, 1] rfl) (hP.sub (ws' := [(h, .inr (4, [.ref w, .int (nI K), .int b])), (w, .inl (cT 0, R, .inl g))]) [0, 1] rfl) hK (hD.sub (ws' := [(h, .inr (4, [.ref w, .int (nI K), .int b])), (w, .inl (cT 0, R, .inl g))]) [0, 1] (by decide) rfl) rfl rfl) rfl rfl hl.1 rfl (lv_room (Nat.le_of_ble_eq_true rfl)) dW_plus_183 ⟨Nat.le_of_ble_eq_true rfl, Nat.le_of_ble_eq_true rfl⟩) (fun u9 H locs hpu5 hP hD hS => ?_)
        obtain ⟨ku5, rfl⟩ : ∃ q9, q9 = u9 := ⟨_, rfl⟩
        have hpu5 : ku5 ≤ j ∧ top0 g ku5 ∧ vW g ku5 = vW g j := hpu5
        have hP : va_P D vwCl [(x2, .inr (4, [.ref w2, .int (nI K2), .int b2])), (w2, .inl (cT 0, R2, .inl f2)), (h, .inr (4, [.ref w, .int (nI ku5), .int b])), (w, .inl (cT 0, R, .inl g))] _ := hP
        have hD : va_D A [(x2, .inr (4, [.ref w2, .int (nI K2), .int b2])), (w2, .inl (cT 0, R2, .inl f2)), (h, .inr (4, [.ref w, .int (nI ku5), .int b])), (w, .inl (cT 0, R, .inl g))] := hD
        have hP9 := hP.sub (ws' := [(h, .inr (4, [.ref w, .int (nI ku5), .int b])), (w, .inl (cT 0, R, .inl g)), (x2, .inr (4, [.ref w2, .int (nI K2), .int b2])), (w2, .inl (cT 0, R2, .inl f2))]) [2, 3, 0, 1] rfl
        have hD9 := hD.sub (ws' := [(h, .inr (4, [.ref w, .int (nI ku5), .int b])), (w, .inl (cT 0, R, .inl g)), (x2, .inr (4, [.ref w2, .int (nI K2), .int b2])), (w2, .inl (cT 0, R2, .inl f2))]) [2, 3, 0, 1] (by decide) rfl
        refine W.widen (k := 0) (n := 0) (Nat.le_of_ble_eq_true rfl) (Nat.le_of_ble_eq_true rfl) ?_
        exact W.vret hx hb hr (fun t ht hW => ⟨⟨(nI ku5, b, g), rfl, (show WN R (nI ku5) b g (z + z2) from by have q0 := wn_trim (R := R) (b := b) ij ig hb01 hpu5; rw [hz, qhz, fl_ne hb01 qhb01 h1, wz_fl]; rw [show vW g j = vW f K - vW f2 K2 by omega] at q0; rw [← Int.sub_eq_add_neg, wz_sub (by omega)]; exact q0), by rw [ht]; exact hP9, hD9⟩, hS.F ht⟩) hS.2.2 dW_plus_186
      · have ho : o = 1 := by rcases (show o = 0 ∨ o = 1 by omega) with r | r; (exact absurd (by rw [r]; decide) h4); (exact r)
        rw [ho, Nat.mul_one] at iv
        refine lv_aload_n hx hb dW_plus_174 rfl (lv_at hl 0 rfl) ?_
        refine lv_iload hx hb dW_plus_175 (lv_at hl 4 rfl) ?_
        refine rw_v (wc := [(h, .inr (4, [.ref w, .int (nI K), .int b])), (w, .inl (cT 0, R, .inl g))]) (wr := [(x2, .inr (4, [.ref w2, .int (nI K2), .int b2])), (w2, .inl (cT 0, R2, .inl f2))]) hP hD hS hA [0, 1] [2, 3] rfl rfl (by decide) (by decide) (va_runV (As := [.int (nI j)]) (rest := []) ⟨hx, hb, hml, hown, hT⟩ (k_complement l D cT h w R (nI K) b g j hR ij ig hb01 _) ⟨callB_of 1 hT (tb_gd w466) rfl rfl rfl (hT _ w5) (hT _ w463) hW_complement ⟨Nat.le_of_ble_eq_true rfl, Nat.le_of_ble_eq_true rfl⟩, (hT _ w465), (hT _ wp5)⟩ (RW.preV (ci := 4) (q0 := 0) hZ hS (va_free (wc := [(h, .inr (4, [.ref w, .int (nI K), .int b])), (w, .inl (cT 0, R, .inl g))]) hD hS hA [0, 1] rfl) (hP.sub (ws' := [(h, .inr (4, [.ref w, .int (nI K), .int b])), (w, .inl (cT 0, R, .inl g))]) [0, 1] rfl) hK (hD.sub (ws' := [(h, .inr (4, [.ref w, .int (nI K), .int b])), (w, .inl (cT 0, R, .inl g))]) [0, 1] (by decide) rfl) rfl rfl) rfl rfl hl.1 rfl (lv_room (Nat.le_of_ble_eq_true rfl)) dW_plus_177 ⟨Nat.le_of_ble_eq_true rfl, Nat.le_of_ble_eq_true rfl⟩) (fun u9 H locs hpu6 hP hD hS => ?_)
        obtain ⟨b1u6, f1u6⟩ := u9
        have hpu6 : dok 1000000000 f1u6 j ∧ (0 < vW g j → vW f1u6 j = 1000000000 ^ j - vW g j) ∧ b1u6 = fl b := hpu6
        have hP : va_P D vwCl [(x2, .inr (4, [.ref w2, .int (nI K2), .int b2])), (w2, .inl (cT 0, R2, .inl f2)), (h, .inr (4, [.ref w, .int (nI K), .int b1u6])), (w, .inl (cT 0, R, .inl f1u6))] _ := hP
        have hD : va_D A [(x2, .inr (4, [.ref w2, .int (nI K2), .int b2])), (w2, .inl (cT 0, R2, .inl f2)), (h, .inr (4, [.ref w, .int (nI K), .int b1u6])), (w, .inl (cT 0, R, .inl f1u6))] := hD
        obtain ⟨hc1, hc2, hc3⟩ := hpu6
        have hc2 := hc2 (by omega)
        refine lv_aload_n hx hb dW_plus_180 rfl (lv_at hl 0 rfl) ?_
        refine lv_iload hx hb dW_plus_181 (lv_at hl 4 rfl) ?_
        refine rw_v (wc := [(h, .inr (4, [.ref w, .int (nI K), .int b1u6])), (w, .inl (cT 0, R, .inl f1u6))]) (wr := [(x2, .inr (4, [.ref w2, .int (nI K2), .int b2])), (w2, .inl (cT 0, R2, .inl f2))]) hP hD hS hA [2, 3] [0, 1] rfl rfl (by decide) (by decide) (va_runV (As := [.int (nI j)]) (rest := []) ⟨hx, hb, hml, hown, hT⟩ (k_trim l D cT h w R (nI K) b1u6 f1u6 j hR ij hc1 _) ⟨callB_of 1 hT (tb_gd w397) rfl rfl rfl (hT _ w5) (hT _ w394) hW_trim ⟨Nat.le_of_ble_eq_true rfl, Nat.le_of_ble_eq_true rfl⟩, (hT _ w396), (hT _ wp3)⟩ (RW.preV (ci := 4) (q0 := 0) hZ hS (va_free (wc := [(h, .inr (4, [.ref w, .int (nI K), .int b1u6])), (w, .inl (cT 0, R, .inl f1u6))]) hD hS hA [2, 3] rfl) (hP.sub (ws' := [(h, .inr (4, [.ref w, .int (nI K), .int b1u6])), (w, .inl (cT 0, R, .inl f1u6))]) [2, 3] rfl) hK (hD.sub (ws' := [(h, .inr (4, [.ref w, .int (nI K), .int b1u6])), (w, .inl (cT 0, R, .inl f1u6))]) [2, 3] (by decide) rfl) rfl rfl) rfl rfl hl.1 rfl (lv_room (Nat.le_of_ble_eq_true rfl)) dW_plus_183 ⟨Nat.le_of_ble_eq_true rfl, Nat.le_of_ble_eq_true rfl⟩) (fun u9 H locs hpu7 hP hD hS => ?_)
        obtain ⟨ku7, rfl⟩ : ∃ q9, q9 = u9 := ⟨_, rfl⟩
        have hpu7 : ku7 ≤ j ∧ top0 f1u6 ku7 ∧ vW f1u6 ku7 = vW f1u6 j := hpu7
        have hP : va_P D vwCl [(x2, .inr (4, [.ref w2, .int (nI K2), .int b2])), (w2, .inl (cT 0, R2, .inl f2)), (h, .inr (4, [.ref w, .int (nI ku7), .int b1u6])), (w, .inl (cT 0, R, .inl f1u6))] _ := hP
        have hD : va_D A [(x2, .inr (4, [.ref w2, .int (nI K2), .int b2])), (w2, .inl (cT 0, R2, .inl f2)), (h, .inr (4, [.ref w, .int (nI ku7), .int b1u6])), (w, .inl (cT 0, R, .inl f1u6))] := hD
        have hP9 := hP.sub (ws' := [(h, .inr (4, [.ref w, .int (nI ku7), .int b1u6])), (w, .inl (cT 0, R, .inl f1u6)), (x2, .inr (4, [.ref w2, .int (nI K2), .int b2])), (w2, .inl (cT 0, R2, .inl f2))]) [2, 3, 0, 1] rfl
        have hD9 := hD.sub (ws' := [(h, .inr (4, [.ref w, .int (nI ku7), .int b1u6])), (w, .inl (cT 0, R, .inl f1u6)), (x2, .inr (4, [.ref w2, .int (nI K2), .int b2])), (w2, .inl (cT 0, R2, .inl f2))]) [2, 3, 0, 1] (by decide) rfl
        refine W.widen (k := 0) (n := 0) (Nat.le_of_ble_eq_true rfl) (Nat.le_of_ble_eq_true rfl) ?_
        exact W.vret hx hb hr (fun t ht hW => ⟨⟨(nI ku7, b1u6, f1u6), rfl, (show WN R (nI ku7) b1u6 f1u6 (z + z2) from by have q0 := wn_trim (R := R) (b := b1u6) ij hc1 (by rw [hc3]; exact fl_01 b) hpu7; rw [hz, qhz, fl_ne hb01 qhb01 h1, wz_fl]; rw [hc3]; rw [hc3, wz_fl, show vW f1u6 j = vW f2 K2 - vW f K by omega, ← wz_sub (by omega), Int.neg_sub] at q0; rw [← Int.sub_eq_add_neg]; exact q0), by rw [ht]; exact hP9, hD9⟩, hS.F ht⟩) hS.2.2 dW_plus_186
    · have gh3 : j < R := Nat.not_le.mp (fun q => h3 ((nI_leI (a := R) (b := j) (by omega) (by omega)).mpr q))
      refine lv_iload hx hb dW_plus_42 (lv_at hl 4 rfl) ?_
      refine lv_aload_n hx hb dW_plus_44 rfl (lv_at hl 0 rfl) ?_
      refine va_get (D := D) (ci := 4) (v := .int (nI K)) (C := R_W) (T := T_W) (N := 3) hx hb hT in_W hown hK hP 0 rfl rfl 1 (by decide) (hT _ w148) (fun _ h9 => h9) rfl dW_plus_45 ?_
      refine lv_icmp_lt (tgt := 65) hx hb dW_plus_48 rfl (fun h8 => ?_) (fun h8 => ?_)
      · have gh8 : j < K := (nI_ltI (a := j) (b := K) (by omega) (by omega)).mp h8
        obtain ⟨y1, hy1⟩ : ∃ q9 : Nat, q9 = ct K2 (dg f2) j := ⟨_, rfl⟩
        obtain ⟨x1, hx1⟩ : ∃ q9 : Nat, q9 = ct K (dg f) j := ⟨_, rfl⟩
        have hy1b : y1 < 1000000000 := by
          rw [hy1]
          by_cases q : j < K2
          · rw [ct_lt q]; exact (qhd j q).2
          · rw [ct_ge (show K2 ≤ j by omega)]; decide
        have hx1b : x1 < 1000000000 := by
          rw [hx1]
          by_cases q : j < K
          · rw [ct_lt q]; exact (hd j q).2
          · rw [ct_ge (show K ≤ j by omega)]; decide
        refine lp_cut (fun x9 : Int32 => x9 = nI y1) (fun x9 => [.int x9]) 85 ls (fun x9 e9 => ?_) (fun hct9 => ?_)
        · cases (show x9 = nI y1 from e9)
          refine lv_istore hx hb dW_plus_85 hl (by decide) rfl (fun ls hl => ?_)
          have hl : lv_has ls 8 [(6, .int (nI y1)), (0, .ref h), (1, .ref x2), (3, .int 0), (4, .int (-(nI o))), (5, .int (nI j))] := hl
          refine lp_cut (fun x9 : Int32 => x9 = nI x1) (fun x9 => [.int x9]) 107 ls (fun x9 e9 => ?_) (fun hct10 => ?_)
          · cases (show x9 = nI x1 from e9)
            refine lv_iload_n hx hb dW_plus_107 rfl (lv_at hl 3 rfl) ?_
            refine lv_if_eq (tgt := 116) hx hb dW_plus_108 rfl (fun _ => ?_) (fun h11 => absurd (by decide) h11)
            refine lv_iload hx hb dW_plus_116 (lv_at hl 0 rfl) ?_
            refine lv_ineg hx hb dW_plus_118 ?_
            refine lv_iadd hx hb dW_plus_119 ?_
            refine lv_iload hx hb dW_plus_120 (lv_at hl 4 rfl) ?_
            refine lv_iadd hx hb dW_plus_122 ?_
            obtain ⟨s1, hs1⟩ : ∃ q9 : Int32, q9 = nI x1 + -(nI y1) + -(nI o) := ⟨_, rfl⟩
            refine lv_topi (fun y9 e9 => ?_)
            cases (show y9 = s1 from e9.trans hs1.symm)
            have hs1i : s1.toInt = (x1 : Int) - y1 - o := by rw [hs1]; exact sb_ti (by omega) (by omega) io
            refine lv_istore hx hb dW_plus_123 hl (by decide) rfl (fun ls hl => ?_)
            have hl : lv_has ls 8 [(7, .int s1), (6, .int (nI y1)), (0, .ref h), (1, .ref x2), (3, .int 0), (4, .int (-(nI o))), (5, .int (nI j))] := hl
            refine lv_iload hx hb dW_plus_125 (lv_at hl 0 rfl) ?_
            refine lv_ldc (v := 1000000000) hx hb hown (hT _ w462) dW_plus_127 ?_
            refine lv_icmp_lt (tgt := 136) hx hb dW_plus_129 rfl (fun _ => ?_) (fun h12 => absurd (Int32.lt_iff_toInt_lt.mpr (by rw [hs1i]; show _ < (1000000000 : Int); omega)) h12)
            refine lv_iload hx hb dW_plus_136 (lv_at hl 0 rfl) ?_
            refine lv_if_ge (tgt := 145) hx hb dW_plus_138 rfl (fun h13 => ?_) (fun h13 => ?_)
            · have hng : 0 ≤ (x1 : Int) - y1 - o := by have q := Int32.le_iff_toInt_le.mp h13; rw [hs1i] at q; exact q
              obtain ⟨e1, he1⟩ : ∃ q9 : Nat, q9 = x1 - y1 - o := ⟨_, rfl⟩
              have he1b : e1 < 1000000000 := by omega
              refine lv_iconst (v := 0) hx hb dW_plus_145 (by decide) ?_
              refine lv_istore hx hb dW_plus_146 hl (by decide) rfl (fun ls hl => ?_)
              have hl : lv_has ls 8 [(4, .int 0), (7, .int s1), (6, .int (nI y1)), (0, .ref h), (1, .ref x2), (3, .int 0), (5, .int (nI j))] := hl
              refine lv_aload_n hx hb dW_plus_148 rfl (lv_at hl 3 rfl) ?_
              refine va_get (D := D) (ci := 4) (v := .ref w) (C := R_W) (T := T_W) (N := 3) hx hb hT in_W hown hK hP 0 rfl rfl 0 (by decide) (hT _ w145) (fun _ h9 => h9) rfl dW_plus_149 ?_
              refine lv_iload hx hb dW_plus_152 (lv_at hl 6 rfl) ?_
              refine lv_iload hx hb dW_plus_154 (lv_at hl 1 rfl) ?_
              refine lv_iload hx hb dW_plus_156 (lv_at hl 0 rfl) ?_
              refine lv_ldc (v := 1000000000) hx hb hown (hT _ w462) dW_plus_158 ?_
              refine lv_imul hx hb dW_plus_160 ?_
              refine lv_topi (fun y9 e9 => ?_)
              cases (show y9 = 0 from e9.trans (by decide))
              refine lv_isub hx hb dW_plus_161 ?_
              refine lv_topi (fun y9 e9 => ?_)
              cases (show y9 = nI e1 from e9.trans (sb_z hs1i hng (by omega) (by omega)))
              refine lq_iast (j := j) hx hb hK hP hD hS 1 0 rfl rfl rfl (by omega) (by omega) dW_plus_162 (fun H locs hP hD hS => ?_)
              have hP : va_P D vwCl [(h, .inr (4, [.ref w, .int (nI K), .int b])), (w, .inl (cT 0, R, .inl (upd g j (nI e1)))), (x2, .inr (4, [.ref w2, .int (nI K2), .int b2])), (w2, .inl (cT 0, R2, .inl f2))] _ := hP
              have hD : va_D A [(h, .inr (4, [.ref w, .int (nI K), .int b])), (w, .inl (cT 0, R, .inl (upd g j (nI e1)))), (x2, .inr (4, [.ref w2, .int (nI K2), .int b2])), (w2, .inl (cT 0, R2, .inl f2))] := hD
              refine lv_iinc (k := 6) (v := nI (j + 1)) hx hb dW_plus_163 hl rfl (nI_1 j) (by decide) rfl (fun ls hl => ?_)
              have hl : lv_has ls 8 [(5, .int (nI (j + 1))), (4, .int 0), (7, .int s1), (6, .int (nI y1)), (0, .ref h), (1, .ref x2), (3, .int 0)] := hl
              refine lv_goto (tgt := 32) hx hb dW_plus_166 rfl ?_
              exact ih32 (j + 1, 0, 0, upd g j (nI e1)) (show (j + 1) ≤ R ∧ 0 ≤ 1 ∧ dok 1000000000 (upd g j (nI e1)) (j + 1) ∧ (∀ m, (j + 1) ≤ m → (upd g j (nI e1)) m = f m) ∧ 0 = -(nI 0) ∧ hv 1000000000 (dg (upd g j (nI e1))) 0 (j + 1) + hv 1000000000 (ct K2 (dg f2)) 0 (j + 1) = hv 1000000000 (ct K (dg f)) 0 (j + 1) + 1000000000 ^ (j + 1) * 0 from ⟨by omega, by omega, dok_s ig he1b (by decide), fun q h => (pk_un (by omega)).trans (if0 q (by omega)), by decide, by rw [hv_us (v := e1) (by omega), hv_snoc, hv_snoc, Nat.zero_add, Nat.pow_succ, ← hx1, ← hy1]; exact sub_s iv (by omega)⟩) (show R - (j + 1) < R - j from (by omega)) ls H locs (lv_sub hl [4, 5, 6, 1, 0] rfl) hP hD hS
            · have hng : (x1 : Int) - y1 - o < 0 := by have q := Int32.lt_iff_toInt_lt.mp (Int32.not_le.mp h13); rw [hs1i] at q; exact q
              obtain ⟨e1, he1⟩ : ∃ q9 : Nat, q9 = x1 + 1000000000 - y1 - o := ⟨_, rfl⟩
              have he1b : e1 < 1000000000 := by omega
              refine lv_iconst (v := (-1)) hx hb dW_plus_141 (by decide) ?_
              refine lv_goto (tgt := 146) hx hb dW_plus_142 rfl ?_
              refine lv_istore hx hb dW_plus_146 hl (by decide) rfl (fun ls hl => ?_)
              have hl : lv_has ls 8 [(4, .int (-1)), (7, .int s1), (6, .int (nI y1)), (0, .ref h), (1, .ref x2), (3, .int 0), (5, .int (nI j))] := hl
              refine lv_aload_n hx hb dW_plus_148 rfl (lv_at hl 3 rfl) ?_
              refine va_get (D := D) (ci := 4) (v := .ref w) (C := R_W) (T := T_W) (N := 3) hx hb hT in_W hown hK hP 0 rfl rfl 0 (by decide) (hT _ w145) (fun _ h9 => h9) rfl dW_plus_149 ?_
              refine lv_iload hx hb dW_plus_152 (lv_at hl 6 rfl) ?_
              refine lv_iload hx hb dW_plus_154 (lv_at hl 1 rfl) ?_
              refine lv_iload hx hb dW_plus_156 (lv_at hl 0 rfl) ?_
              refine lv_ldc (v := 1000000000) hx hb hown (hT _ w462) dW_plus_158 ?_
              refine lv_imul hx hb dW_plus_160 ?_
              refine lv_topi (fun y9 e9 => ?_)
              cases (show y9 = (-1000000000) from e9.trans (by decide))
              refine lv_isub hx hb dW_plus_161 ?_
              refine lv_topi (fun y9 e9 => ?_)
              cases (show y9 = nI e1 from e9.trans (sb_m hs1i (by omega) hng (by omega)))
              refine lq_iast (j := j) hx hb hK hP hD hS 1 0 rfl rfl rfl (by omega) (by omega) dW_plus_162 (fun H locs hP hD hS => ?_)
              have hP : va_P D vwCl [(h, .inr (4, [.ref w, .int (nI K), .int b])), (w, .inl (cT 0, R, .inl (upd g j (nI e1)))), (x2, .inr (4, [.ref w2, .int (nI K2), .int b2])), (w2, .inl (cT 0, R2, .inl f2))] _ := hP
              have hD : va_D A [(h, .inr (4, [.ref w, .int (nI K), .int b])), (w, .inl (cT 0, R, .inl (upd g j (nI e1)))), (x2, .inr (4, [.ref w2, .int (nI K2), .int b2])), (w2, .inl (cT 0, R2, .inl f2))] := hD
              refine lv_iinc (k := 6) (v := nI (j + 1)) hx hb dW_plus_163 hl rfl (nI_1 j) (by decide) rfl (fun ls hl => ?_)
              have hl : lv_has ls 8 [(5, .int (nI (j + 1))), (4, .int (-1)), (7, .int s1), (6, .int (nI y1)), (0, .ref h), (1, .ref x2), (3, .int 0)] := hl
              refine lv_goto (tgt := 32) hx hb dW_plus_166 rfl ?_
              exact ih32 (j + 1, 1, (-1), upd g j (nI e1)) (show (j + 1) ≤ R ∧ 1 ≤ 1 ∧ dok 1000000000 (upd g j (nI e1)) (j + 1) ∧ (∀ m, (j + 1) ≤ m → (upd g j (nI e1)) m = f m) ∧ (-1) = -(nI 1) ∧ hv 1000000000 (dg (upd g j (nI e1))) 0 (j + 1) + hv 1000000000 (ct K2 (dg f2)) 0 (j + 1) = hv 1000000000 (ct K (dg f)) 0 (j + 1) + 1000000000 ^ (j + 1) * 1 from ⟨by omega, by omega, dok_s ig he1b (by decide), fun q h => (pk_un (by omega)).trans (if0 q (by omega)), by decide, by rw [hv_us (v := e1) (by omega), hv_snoc, hv_snoc, Nat.zero_add, Nat.pow_succ, ← hx1, ← hy1]; exact sub_s iv (by omega)⟩) (show R - (j + 1) < R - j from (by omega)) ls H locs (lv_sub hl [4, 5, 6, 1, 0] rfl) hP hD hS
          · refine lv_iload hx hb dW_plus_87 (lv_at hl 5 rfl) ?_
            refine lv_aload_n hx hb dW_plus_89 rfl (lv_at hl 1 rfl) ?_
            refine va_get (D := D) (ci := 4) (v := .int (nI K)) (C := R_W) (T := T_W) (N := 3) hx hb hT in_W hown hK hP 0 rfl rfl 1 (by decide) (hT _ w148) (fun _ h9 => h9) rfl dW_plus_90 ?_
            refine lv_icmp_ge (tgt := 106) hx hb dW_plus_93 rfl (fun h14 => absurd h14 (Int32.not_le.mpr h8)) (fun _ => ?_)
            refine lv_aload_n hx hb dW_plus_96 rfl (lv_at hl 1 rfl) ?_
            refine va_get (D := D) (ci := 4) (v := .ref w) (C := R_W) (T := T_W) (N := 3) hx hb hT in_W hown hK hP 0 rfl rfl 0 (by decide) (hT _ w145) (fun _ h9 => h9) rfl dW_plus_97 ?_
            refine lv_iload hx hb dW_plus_100 (lv_at hl 5 rfl) ?_
            refine lq_iald (j := j) hx hb hK hP 1 0 rfl rfl rfl (by omega) (by omega) dW_plus_102 ?_
            refine lv_goto (tgt := 107) hx hb dW_plus_103 rfl ?_
            exact hct10 _ (by rw [if0 j (Nat.le_refl _), hx1, ct_lt (show j < K by omega)]; exact (hd j (by omega)).1)
        · refine lv_iload hx hb dW_plus_65 (lv_at hl 4 rfl) ?_
          refine lv_aload_n hx hb dW_plus_67 rfl (lv_at hl 1 rfl) ?_
          refine va_get (D := D) (ci := 4) (v := .int (nI K2)) (C := R_W) (T := T_W) (N := 3) hx hb hT in_W hown hK hP 2 rfl rfl 1 (by decide) (hT _ w148) (fun _ h9 => h9) rfl dW_plus_68 ?_
          refine lv_icmp_ge (tgt := 84) hx hb dW_plus_71 rfl (fun h15 => ?_) (fun h15 => ?_)
          · have gh15 : K2 ≤ j := (nI_leI (a := K2) (b := j) (by omega) (by omega)).mp h15
            refine lv_iconst (v := 0) hx hb dW_plus_84 (by decide) ?_
            exact hct9 _ (by rw [hy1, ct_ge (show K2 ≤ j by omega)]; rfl)
          · have gh15 : j < K2 := Nat.not_le.mp (fun q => h15 ((nI_leI (a := K2) (b := j) (by omega) (by omega)).mpr q))
            refine lv_aload_n hx hb dW_plus_74 rfl (lv_at hl 1 rfl) ?_
            refine va_get (D := D) (ci := 4) (v := .ref w2) (C := R_W) (T := T_W) (N := 3) hx hb hT in_W hown hK hP 2 rfl rfl 0 (by decide) (hT _ w145) (fun _ h9 => h9) rfl dW_plus_75 ?_
            refine lv_iload hx hb dW_plus_78 (lv_at hl 4 rfl) ?_
            refine lq_iald (j := j) hx hb hK hP 3 0 rfl rfl rfl (by omega) (by omega) dW_plus_80 ?_
            refine lv_goto (tgt := 85) hx hb dW_plus_81 rfl ?_
            exact hct9 _ (by rw [hy1, ct_lt (show j < K2 by omega)]; exact (qhd j (by omega)).1)
      · have gh8 : K ≤ j := Nat.not_lt.mp (fun q => h8 ((nI_ltI (a := j) (b := K) (by omega) (by omega)).mpr q))
        refine lv_iload hx hb dW_plus_51 (lv_at hl 4 rfl) ?_
        refine lv_aload_n hx hb dW_plus_53 rfl (lv_at hl 1 rfl) ?_
        refine va_get (D := D) (ci := 4) (v := .int (nI K2)) (C := R_W) (T := T_W) (N := 3) hx hb hT in_W hown hK hP 2 rfl rfl 1 (by decide) (hT _ w148) (fun _ h9 => h9) rfl dW_plus_54 ?_
        refine lv_icmp_lt (tgt := 65) hx hb dW_plus_57 rfl (fun h16 => ?_) (fun h16 => ?_)
        · have gh16 : j < K2 := (nI_ltI (a := j) (b := K2) (by omega) (by omega)).mp h16
          obtain ⟨y1, hy1⟩ : ∃ q9 : Nat, q9 = ct K2 (dg f2) j := ⟨_, rfl⟩
          obtain ⟨x1, hx1⟩ : ∃ q9 : Nat, q9 = ct K (dg f) j := ⟨_, rfl⟩
          have hy1b : y1 < 1000000000 := by
            rw [hy1]
            by_cases q : j < K2
            · rw [ct_lt q]; exact (qhd j q).2
            · rw [ct_ge (show K2 ≤ j by omega)]; decide
          have hx1b : x1 < 1000000000 := by
            rw [hx1]
            by_cases q : j < K
            · rw [ct_lt q]; exact (hd j q).2
            · rw [ct_ge (show K ≤ j by omega)]; decide
          refine lp_cut (fun x9 : Int32 => x9 = nI y1) (fun x9 => [.int x9]) 85 ls (fun x9 e9 => ?_) (fun hct17 => ?_)
          · cases (show x9 = nI y1 from e9)
            refine lv_istore hx hb dW_plus_85 hl (by decide) rfl (fun ls hl => ?_)
            have hl : lv_has ls 8 [(6, .int (nI y1)), (0, .ref h), (1, .ref x2), (3, .int 0), (4, .int (-(nI o))), (5, .int (nI j))] := hl
            refine lp_cut (fun x9 : Int32 => x9 = nI x1) (fun x9 => [.int x9]) 107 ls (fun x9 e9 => ?_) (fun hct18 => ?_)
            · cases (show x9 = nI x1 from e9)
              refine lv_iload_n hx hb dW_plus_107 rfl (lv_at hl 3 rfl) ?_
              refine lv_if_eq (tgt := 116) hx hb dW_plus_108 rfl (fun _ => ?_) (fun h19 => absurd (by decide) h19)
              refine lv_iload hx hb dW_plus_116 (lv_at hl 0 rfl) ?_
              refine lv_ineg hx hb dW_plus_118 ?_
              refine lv_iadd hx hb dW_plus_119 ?_
              refine lv_iload hx hb dW_plus_120 (lv_at hl 4 rfl) ?_
              refine lv_iadd hx hb dW_plus_122 ?_
              obtain ⟨s1, hs1⟩ : ∃ q9 : Int32, q9 = nI x1 + -(nI y1) + -(nI o) := ⟨_, rfl⟩
              refine lv_topi (fun y9 e9 => ?_)
              cases (show y9 = s1 from e9.trans hs1.symm)
              have hs1i : s1.toInt = (x1 : Int) - y1 - o := by rw [hs1]; exact sb_ti (by omega) (by omega) io
              refine lv_istore hx hb dW_plus_123 hl (by decide) rfl (fun ls hl => ?_)
              have hl : lv_has ls 8 [(7, .int s1), (6, .int (nI y1)), (0, .ref h), (1, .ref x2), (3, .int 0), (4, .int (-(nI o))), (5, .int (nI j))] := hl
              refine lv_iload hx hb dW_plus_125 (lv_at hl 0 rfl) ?_
              refine lv_ldc (v := 1000000000) hx hb hown (hT _ w462) dW_plus_127 ?_
              refine lv_icmp_lt (tgt := 136) hx hb dW_plus_129 rfl (fun _ => ?_) (fun h20 => absurd (Int32.lt_iff_toInt_lt.mpr (by rw [hs1i]; show _ < (1000000000 : Int); omega)) h20)
              refine lv_iload hx hb dW_plus_136 (lv_at hl 0 rfl) ?_
              refine lv_if_ge (tgt := 145) hx hb dW_plus_138 rfl (fun h21 => ?_) (fun h21 => ?_)
              · have hng : 0 ≤ (x1 : Int) - y1 - o := by have q := Int32.le_iff_toInt_le.mp h21; rw [hs1i] at q; exact q
                obtain ⟨e1, he1⟩ : ∃ q9 : Nat, q9 = x1 - y1 - o := ⟨_, rfl⟩
                have he1b : e1 < 1000000000 := by omega
                refine lv_iconst (v := 0) hx hb dW_plus_145 (by decide) ?_
                refine lv_istore hx hb dW_plus_146 hl (by decide) rfl (fun ls hl => ?_)
                have hl : lv_has ls 8 [(4, .int 0), (7, .int s1), (6, .int (nI y1)), (0, .ref h), (1, .ref x2), (3, .int 0), (5, .int (nI j))] := hl
                refine lv_aload_n hx hb dW_plus_148 rfl (lv_at hl 3 rfl) ?_
                refine va_get (D := D) (ci := 4) (v := .ref w) (C := R_W) (T := T_W) (N := 3) hx hb hT in_W hown hK hP 0 rfl rfl 0 (by decide) (hT _ w145) (fun _ h9 => h9) rfl dW_plus_149 ?_
                refine lv_iload hx hb dW_plus_152 (lv_at hl 6 rfl) ?_
                refine lv_iload hx hb dW_plus_154 (lv_at hl 1 rfl) ?_
                refine lv_iload hx hb dW_plus_156 (lv_at hl 0 rfl) ?_
                refine lv_ldc (v := 1000000000) hx hb hown (hT _ w462) dW_plus_158 ?_
                refine lv_imul hx hb dW_plus_160 ?_
                refine lv_topi (fun y9 e9 => ?_)
                cases (show y9 = 0 from e9.trans (by decide))
                refine lv_isub hx hb dW_plus_161 ?_
                refine lv_topi (fun y9 e9 => ?_)
                cases (show y9 = nI e1 from e9.trans (sb_z hs1i hng (by omega) (by omega)))
                refine lq_iast (j := j) hx hb hK hP hD hS 1 0 rfl rfl rfl (by omega) (by omega) dW_plus_162 (fun H locs hP hD hS => ?_)
                have hP : va_P D vwCl [(h, .inr (4, [.ref w, .int (nI K), .int b])), (w, .inl (cT 0, R, .inl (upd g j (nI e1)))), (x2, .inr (4, [.ref w2, .int (nI K2), .int b2])), (w2, .inl (cT 0, R2, .inl f2))] _ := hP
                have hD : va_D A [(h, .inr (4, [.ref w, .int (nI K), .int b])), (w, .inl (cT 0, R, .inl (upd g j (nI e1)))), (x2, .inr (4, [.ref w2, .int (nI K2), .int b2])), (w2, .inl (cT 0, R2, .inl f2))] := hD
                refine lv_iinc (k := 6) (v := nI (j + 1)) hx hb dW_plus_163 hl rfl (nI_1 j) (by decide) rfl (fun ls hl => ?_)
                have hl : lv_has ls 8 [(5, .int (nI (j + 1))), (4, .int 0), (7, .int s1), (6, .int (nI y1)), (0, .ref h), (1, .ref x2), (3, .int 0)] := hl
                refine lv_goto (tgt := 32) hx hb dW_plus_166 rfl ?_
                exact ih32 (j + 1, 0, 0, upd g j (nI e1)) (show (j + 1) ≤ R ∧ 0 ≤ 1 ∧ dok 1000000000 (upd g j (nI e1)) (j + 1) ∧ (∀ m, (j + 1) ≤ m → (upd g j (nI e1)) m = f m) ∧ 0 = -(nI 0) ∧ hv 1000000000 (dg (upd g j (nI e1))) 0 (j + 1) + hv 1000000000 (ct K2 (dg f2)) 0 (j + 1) = hv 1000000000 (ct K (dg f)) 0 (j + 1) + 1000000000 ^ (j + 1) * 0 from ⟨by omega, by omega, dok_s ig he1b (by decide), fun q h => (pk_un (by omega)).trans (if0 q (by omega)), by decide, by rw [hv_us (v := e1) (by omega), hv_snoc, hv_snoc, Nat.zero_add, Nat.pow_succ, ← hx1, ← hy1]; exact sub_s iv (by omega)⟩) (show R - (j + 1) < R - j from (by omega)) ls H locs (lv_sub hl [4, 5, 6, 1, 0] rfl) hP hD hS
              · have hng : (x1 : Int) - y1 - o < 0 := by have q := Int32.lt_iff_toInt_lt.mp (Int32.not_le.mp h21); rw [hs1i] at q; exact q
                obtain ⟨e1, he1⟩ : ∃ q9 : Nat, q9 = x1 + 1000000000 - y1 - o := ⟨_, rfl⟩
                have he1b : e1 < 1000000000 := by omega
                refine lv_iconst (v := (-1)) hx hb dW_plus_141 (by decide) ?_
                refine lv_goto (tgt := 146) hx hb dW_plus_142 rfl ?_
                refine lv_istore hx hb dW_plus_146 hl (by decide) rfl (fun ls hl => ?_)
                have hl : lv_has ls 8 [(4, .int (-1)), (7, .int s1), (6, .int (nI y1)), (0, .ref h), (1, .ref x2), (3, .int 0), (5, .int (nI j))] := hl
                refine lv_aload_n hx hb dW_plus_148 rfl (lv_at hl 3 rfl) ?_
                refine va_get (D := D) (ci := 4) (v := .ref w) (C := R_W) (T := T_W) (N := 3) hx hb hT in_W hown hK hP 0 rfl rfl 0 (by decide) (hT _ w145) (fun _ h9 => h9) rfl dW_plus_149 ?_
                refine lv_iload hx hb dW_plus_152 (lv_at hl 6 rfl) ?_
                refine lv_iload hx hb dW_plus_154 (lv_at hl 1 rfl) ?_
                refine lv_iload hx hb dW_plus_156 (lv_at hl 0 rfl) ?_
                refine lv_ldc (v := 1000000000) hx hb hown (hT _ w462) dW_plus_158 ?_
                refine lv_imul hx hb dW_plus_160 ?_
                refine lv_topi (fun y9 e9 => ?_)
                cases (show y9 = (-1000000000) from e9.trans (by decide))
                refine lv_isub hx hb dW_plus_161 ?_
                refine lv_topi (fun y9 e9 => ?_)
                cases (show y9 = nI e1 from e9.trans (sb_m hs1i (by omega) hng (by omega)))
                refine lq_iast (j := j) hx hb hK hP hD hS 1 0 rfl rfl rfl (by omega) (by omega) dW_plus_162 (fun H locs hP hD hS => ?_)
                have hP : va_P D vwCl [(h, .inr (4, [.ref w, .int (nI K), .int b])), (w, .inl (cT 0, R, .inl (upd g j (nI e1)))), (x2, .inr (4, [.ref w2, .int (nI K2), .int b2])), (w2, .inl (cT 0, R2, .inl f2))] _ := hP
                have hD : va_D A [(h, .inr (4, [.ref w, .int (nI K), .int b])), (w, .inl (cT 0, R, .inl (upd g j (nI e1)))), (x2, .inr (4, [.ref w2, .int (nI K2), .int b2])), (w2, .inl (cT 0, R2, .inl f2))] := hD
                refine lv_iinc (k := 6) (v := nI (j + 1)) hx hb dW_plus_163 hl rfl (nI_1 j) (by decide) rfl (fun ls hl => ?_)
                have hl : lv_has ls 8 [(5, .int (nI (j + 1))), (4, .int (-1)), (7, .int s1), (6, .int (nI y1)), (0, .ref h), (1, .ref x2), (3, .int 0)] := hl
                refine lv_goto (tgt := 32) hx hb dW_plus_166 rfl ?_
                exact ih32 (j + 1, 1, (-1), upd g j (nI e1)) (show (j + 1) ≤ R ∧ 1 ≤ 1 ∧ dok 1000000000 (upd g j (nI e1)) (j + 1) ∧ (∀ m, (j + 1) ≤ m → (upd g j (nI e1)) m = f m) ∧ (-1) = -(nI 1) ∧ hv 1000000000 (dg (upd g j (nI e1))) 0 (j + 1) + hv 1000000000 (ct K2 (dg f2)) 0 (j + 1) = hv 1000000000 (ct K (dg f)) 0 (j + 1) + 1000000000 ^ (j + 1) * 1 from ⟨by omega, by omega, dok_s ig he1b (by decide), fun q h => (pk_un (by omega)).trans (if0 q (by omega)), by decide, by rw [hv_us (v := e1) (by omega), hv_snoc, hv_snoc, Nat.zero_add, Nat.pow_succ, ← hx1, ← hy1]; exact sub_s iv (by omega)⟩) (show R - (j + 1) < R - j from (by omega)) ls H locs (lv_sub hl [4, 5, 6, 1, 0] rfl) hP hD hS
            · refine lv_iload hx hb dW_plus_87 (lv_at hl 5 rfl) ?_
              refine lv_aload_n hx hb dW_plus_89 rfl (lv_at hl 1 rfl) ?_
              refine va_get (D := D) (ci := 4) (v := .int (nI K)) (C := R_W) (T := T_W) (N := 3) hx hb hT in_W hown hK hP 0 rfl rfl 1 (by decide) (hT _ w148) (fun _ h9 => h9) rfl dW_plus_90 ?_
              refine lv_icmp_ge (tgt := 106) hx hb dW_plus_93 rfl (fun _ => ?_) (fun h22 => absurd (Int32.not_lt.mp h8) h22)
              refine lv_iconst (v := 0) hx hb dW_plus_106 (by decide) ?_
              exact hct18 _ (by rw [hx1, ct_ge (show K ≤ j by omega)]; rfl)
          · refine lv_iload hx hb dW_plus_65 (lv_at hl 4 rfl) ?_
            refine lv_aload_n hx hb dW_plus_67 rfl (lv_at hl 1 rfl) ?_
            refine va_get (D := D) (ci := 4) (v := .int (nI K2)) (C := R_W) (T := T_W) (N := 3) hx hb hT in_W hown hK hP 2 rfl rfl 1 (by decide) (hT _ w148) (fun _ h9 => h9) rfl dW_plus_68 ?_
            refine lv_icmp_ge (tgt := 84) hx hb dW_plus_71 rfl (fun h23 => absurd h23 (Int32.not_le.mpr h16)) (fun _ => ?_)
            refine lv_aload_n hx hb dW_plus_74 rfl (lv_at hl 1 rfl) ?_
            refine va_get (D := D) (ci := 4) (v := .ref w2) (C := R_W) (T := T_W) (N := 3) hx hb hT in_W hown hK hP 2 rfl rfl 0 (by decide) (hT _ w145) (fun _ h9 => h9) rfl dW_plus_75 ?_
            refine lv_iload hx hb dW_plus_78 (lv_at hl 4 rfl) ?_
            refine lq_iald (j := j) hx hb hK hP 3 0 rfl rfl rfl (by omega) (by omega) dW_plus_80 ?_
            refine lv_goto (tgt := 85) hx hb dW_plus_81 rfl ?_
            exact hct17 _ (by rw [hy1, ct_lt (show j < K2 by omega)]; exact (qhd j (by omega)).1)
        · have gh16 : K2 ≤ j := Nat.not_lt.mp (fun q => h16 ((nI_ltI (a := j) (b := K2) (by omega) (by omega)).mpr q))
          refine lv_iload hx hb dW_plus_60 (lv_at hl 3 rfl) ?_
          refine lv_if_le (tgt := 169) hx hb dW_plus_62 rfl (fun _ => ?_) (fun h24 => absurd (show -(nI o) ≤ 0 from by rcases (show o = 0 ∨ o = 1 by omega) with r | r <;> rw [r] <;> decide) h24)
          have hjK : K ≤ j ∧ K2 ≤ j := by omega
          rw [hv_ct hjK.1, hv_ct hjK.2] at iv
          have iv : vW g j + vW f2 K2 = vW f K + 1000000000 ^ j * o := iv
          have hvg := vW_b ig
          have hb2 := vW_b qhd
          have hpw : 1000000000 ^ K2 ≤ 1000000000 ^ j := Nat.pow_le_pow_right (by decide) hjK.2
          refine lv_iload hx hb dW_plus_169 (lv_at hl 3 rfl) ?_
          refine lv_if_ge (tgt := 180) hx hb dW_plus_171 rfl (fun h25 => ?_) (fun h25 => ?_)
          · have ho : o = 0 := by rcases (show o = 0 ∨ o = 1 by omega) with r | r; (exact r); (exact absurd (show 0 ≤ -(nI o) from h25) (by rw [r]; decide))
            rw [ho, Nat.mul_zero, Nat.add_zero] at iv
            refine lv_aload_n hx hb dW_plus_180 rfl (lv_at hl 0 rfl) ?_
            refine lv_iload hx hb dW_plus_181 (lv_at hl 4 rfl) ?_
            refine rw_v (wc := [(h, .inr (4, [.ref w, .int (nI K), .int b])), (w, .inl (cT 0, R, .inl g))]) (wr := [(x2, .inr (4, [.ref w2, .int (nI K2), .int b2])), (w2, .inl (cT 0, R2, .inl f2))]) hP hD hS hA [0, 1] [2, 3] rfl rfl (by decide) (by decide) (va_runV (As := [.int (nI j)]) (rest := []) ⟨hx, hb, hml, hown, hT⟩ (k_trim l D cT h w R (nI K) b g j hR ij ig _) ⟨callB_of 1 hT (tb_gd w397) rfl rfl rfl (hT _ w5) (hT _ w394) hW_trim ⟨Nat.le_of_ble_eq_true rfl, Nat.le_of_ble_eq_true rfl⟩, (hT _ w396), (hT _ wp3)⟩ (RW.preV (ci := 4) (q0 := 0) hZ hS (va_free (wc := [(h, .inr (4, [.ref w, .int (nI K), .int b])), (w, .inl (cT 0, R, .inl g))]) hD hS hA [0, 1] rfl) (hP.sub (ws' := [(h, .inr (4, [.ref w, .int (nI K), .int b])), (w, .inl (cT 0, R, .inl g))]) [0, 1] rfl) hK (hD.sub (ws' := [(h, .inr (4, [.ref w, .int (nI K), .int b])), (w, .inl (cT 0, R, .inl g))]) [0, 1] (by decide) rfl) rfl rfl) rfl rfl hl.1 rfl (lv_room (Nat.le_of_ble_eq_true rfl)) dW_plus_183 ⟨Nat.le_of_ble_eq_true rfl, Nat.le_of_ble_eq_true rfl⟩) (fun u9 H locs hpu26 hP hD hS => ?_)
            obtain ⟨ku26, rfl⟩ : ∃ q9, q9 = u9 := ⟨_, rfl⟩
            have hpu26 : ku26 ≤ j ∧ top0 g ku26 ∧ vW g ku26 = vW g j := hpu26
            have hP : va_P D vwCl [(x2, .inr (4, [.ref w2, .int (nI K2), .int b2])), (w2, .inl (cT 0, R2, .inl f2)), (h, .inr (4, [.ref w, .int (nI ku26), .int b])), (w, .inl (cT 0, R, .inl g))] _ := hP
            have hD : va_D A [(x2, .inr (4, [.ref w2, .int (nI K2), .int b2])), (w2, .inl (cT 0, R2, .inl f2)), (h, .inr (4, [.ref w, .int (nI ku26), .int b])), (w, .inl (cT 0, R, .inl g))] := hD
            have hP9 := hP.sub (ws' := [(h, .inr (4, [.ref w, .int (nI ku26), .int b])), (w, .inl (cT 0, R, .inl g)), (x2, .inr (4, [.ref w2, .int (nI K2), .int b2])), (w2, .inl (cT 0, R2, .inl f2))]) [2, 3, 0, 1] rfl
            have hD9 := hD.sub (ws' := [(h, .inr (4, [.ref w, .int (nI ku26), .int b])), (w, .inl (cT 0, R, .inl g)), (x2, .inr (4, [.ref w2, .int (nI K2), .int b2])), (w2, .inl (cT 0, R2, .inl f2))]) [2, 3, 0, 1] (by decide) rfl
            refine W.widen (k := 0) (n := 0) (Nat.le_of_ble_eq_true rfl) (Nat.le_of_ble_eq_true rfl) ?_
            exact W.vret hx hb hr (fun t ht hW => ⟨⟨(nI ku26, b, g), rfl, (show WN R (nI ku26) b g (z + z2) from by have q0 := wn_trim (R := R) (b := b) ij ig hb01 hpu26; rw [hz, qhz, fl_ne hb01 qhb01 h1, wz_fl]; rw [show vW g j = vW f K - vW f2 K2 by omega] at q0; rw [← Int.sub_eq_add_neg, wz_sub (by omega)]; exact q0), by rw [ht]; exact hP9, hD9⟩, hS.F ht⟩) hS.2.2 dW_plus_186
          · have ho : o = 1 := by rcases (show o = 0 ∨ o = 1 by omega) with r | r; (exact absurd (by rw [r]; decide) h25); (exact r)
            rw [ho, Nat.mul_one] at iv
            refine lv_aload_n hx hb dW_plus_174 rfl (lv_at hl 0 rfl) ?_
            refine lv_iload hx hb dW_plus_175 (lv_at hl 4 rfl) ?_
            refine rw_v (wc := [(h, .inr (4, [.ref w, .int (nI K), .int b])), (w, .inl (cT 0, R, .inl g))]) (wr := [(x2, .inr (4, [.ref w2, .int (nI K2), .int b2])), (w2, .inl (cT 0, R2, .inl f2))]) hP hD hS hA [0, 1] [2, 3] rfl rfl (by decide) (by decide) (va_runV (As := [.int (nI j)]) (rest := []) ⟨hx, hb, hml, hown, hT⟩ (k_complement l D cT h w R (nI K) b g j hR ij ig hb01 _) ⟨callB_of 1 hT (tb_gd w466) rfl rfl rfl (hT _ w5) (hT _ w463) hW_complement ⟨Nat.le_of_ble_eq_true rfl, Nat.le_of_ble_eq_true rfl⟩, (hT _ w465), (hT _ wp5)⟩ (RW.preV (ci := 4) (q0 := 0) hZ hS (va_free (wc := [(h, .inr (4, [.ref w, .int (nI K), .int b])), (w, .inl (cT 0, R, .inl g))]) hD hS hA [0, 1] rfl) (hP.sub (ws' := [(h, .inr (4, [.ref w, .int (nI K), .int b])), (w, .inl (cT 0, R, .inl g))]) [0, 1] rfl) hK (hD.sub (ws' := [(h, .inr (4, [.ref w, .int (nI K), .int b])), (w, .inl (cT 0, R, .inl g))]) [0, 1] (by decide) rfl) rfl rfl) rfl rfl hl.1 rfl (lv_room (Nat.le_of_ble_eq_true rfl)) dW_plus_177 ⟨Nat.le_of_ble_eq_true rfl, Nat.le_of_ble_eq_true rfl⟩) (fun u9 H locs hpu27 hP hD hS => ?_)
            obtain ⟨b1u27, f1u27⟩ := u9
            have hpu27 : dok 1000000000 f1u27 j ∧ (0 < vW g j → vW f1u27 j = 1000000000 ^ j - vW g j) ∧ b1u27 = fl b := hpu27
            have hP : va_P D vwCl [(x2, .inr (4, [.ref w2, .int (nI K2), .int b2])), (w2, .inl (cT 0, R2, .inl f2)), (h, .inr (4, [.ref w, .int (nI K), .int b1u27])), (w, .inl (cT 0, R, .inl f1u27))] _ := hP
            have hD : va_D A [(x2, .inr (4, [.ref w2, .int (nI K2), .int b2])), (w2, .inl (cT 0, R2, .inl f2)), (h, .inr (4, [.ref w, .int (nI K), .int b1u27])), (w, .inl (cT 0, R, .inl f1u27))] := hD
            obtain ⟨hc1, hc2, hc3⟩ := hpu27
            have hc2 := hc2 (by omega)
            refine lv_aload_n hx hb dW_plus_180 rfl (lv_at hl 0 rfl) ?_
            refine lv_iload hx hb dW_plus_181 (lv_at hl 4 rfl) ?_
            refine rw_v (wc := [(h, .inr (4, [.ref w, .int (nI K), .int b1u27])), (w, .inl (cT 0, R, .inl f1u27))]) (wr := [(x2, .inr (4, [.ref w2, .int (nI K2), .int b2])), (w2, .inl (cT 0, R2, .inl f2))]) hP hD hS hA [2, 3] [0, 1] rfl rfl (by decide) (by decide) (va_runV (As := [.int (nI j)]) (rest := []) ⟨hx, hb, hml, hown, hT⟩ (k_trim l D cT h w R (nI K) b1u27 f1u27 j hR ij hc1 _) ⟨callB_of 1 hT (tb_gd w397) rfl rfl rfl (hT _ w5) (hT _ w394) hW_trim ⟨Nat.le_of_ble_eq_true rfl, Nat.le_of_ble_eq_true rfl⟩, (hT _ w396), (hT _ wp3)⟩ (RW.preV (ci := 4) (q0 := 0) hZ hS (va_free (wc := [(h, .inr (4, [.ref w, .int (nI K), .int b1u27])), (w, .inl (cT 0, R, .inl f1u27))]) hD hS hA [2, 3] rfl) (hP.sub (ws' := [(h, .inr (4, [.ref w, .int (nI K), .int b1u27])), (w, .inl (cT 0, R, .inl f1u27))]) [2, 3] rfl) hK (hD.sub (ws' := [(h, .inr (4, [.ref w, .int (nI K), .int b1u27])), (w, .inl (cT 0, R, .inl f1u27))]) [2, 3] (by decide) rfl) rfl rfl) rfl rfl hl.1 rfl (lv_room (Nat.le_of_ble_eq_true rfl)) dW_plus_183 ⟨Nat.le_of_ble_eq_true rfl, Nat.le_of_ble_eq_true rfl⟩) (fun u9 H locs hpu28 hP hD hS => ?_)
            obtain ⟨ku28, rfl⟩ : ∃ q9, q9 = u9 := ⟨_, rfl⟩
            have hpu28 : ku28 ≤ j ∧ top0 f1u27 ku28 ∧ vW f1u27 ku28 = vW f1u27 j := hpu28
            have hP : va_P D vwCl [(x2, .inr (4, [.ref w2, .int (nI K2), .int b2])), (w2, .inl (cT 0, R2, .inl f2)), (h, .inr (4, [.ref w, .int (nI ku28), .int b1u27])), (w, .inl (cT 0, R, .inl f1u27))] _ := hP
            have hD : va_D A [(x2, .inr (4, [.ref w2, .int (nI K2), .int b2])), (w2, .inl (cT 0, R2, .inl f2)), (h, .inr (4, [.ref w, .int (nI ku28), .int b1u27])), (w, .inl (cT 0, R, .inl f1u27))] := hD
            have hP9 := hP.sub (ws' := [(h, .inr (4, [.ref w, .int (nI ku28), .int b1u27])), (w, .inl (cT 0, R, .inl f1u27)), (x2, .inr (4, [.ref w2, .int (nI K2), .int b2])), (w2, .inl (cT 0, R2, .inl f2))]) [2, 3, 0, 1] rfl
            have hD9 := hD.sub (ws' := [(h, .inr (4, [.ref w, .int (nI ku28), .int b1u27])), (w, .inl (cT 0, R, .inl f1u27)), (x2, .inr (4, [.ref w2, .int (nI K2), .int b2])), (w2, .inl (cT 0, R2, .inl f2))]) [2, 3, 0, 1] (by decide) rfl
            refine W.widen (k := 0) (n := 0) (Nat.le_of_ble_eq_true rfl) (Nat.le_of_ble_eq_true rfl) ?_
            exact W.vret hx hb hr (fun t ht hW => ⟨⟨(nI ku28, b1u27, f1u27), rfl, (show WN R (nI ku28) b1u27 f1u27 (z + z2) from by have q0 := wn_trim (R := R) (b := b1u27) ij hc1 (by rw [hc3]; exact fl_01 b) hpu28; rw [hz, qhz, fl_ne hb01 qhb01 h1, wz_fl]; rw [hc3]; rw [hc3, wz_fl, show vW f1u27 j = vW f2 K2 - vW f K by omega, ← wz_sub (by omega), Int.neg_sub] at q0; rw [← Int.sub_eq_add_neg]; exact q0), by rw [ht]; exact hP9, hD9⟩, hS.F ht⟩) hS.2.2 dW_plus_186
  · refine lv_iconst (v := 1) hx hb dW_plus_11 (by decide) ?_
    refine lv_goto (tgt := 16) hx hb dW_plus_12 rfl ?_
    refine lv_iload_n hx hb dW_plus_16 rfl (lv_at hl 2 rfl) ?_
    refine lv_icmp_eq (tgt := 24) hx hb dW_plus_17 rfl (fun h29 => absurd h29 (by decide)) (fun _ => ?_)
    refine lv_iconst (v := 1) hx hb dW_plus_20 (by decide) ?_
    refine lv_goto (tgt := 25) hx hb dW_plus_21 rfl ?_
    refine lv_istore_n hx hb dW_plus_25 rfl hl (by decide) rfl (fun ls hl => ?_)
    have hl : lv_has ls 8 [(3, .int 1), (0, .ref h), (1, .ref x2), (2, .int 0)] := hl
    refine lv_iconst (v := 0) hx hb dW_plus_26 (by decide) ?_
    refine lv_istore hx hb dW_plus_27 hl (by decide) rfl (fun ls hl => ?_)
    have hl : lv_has ls 8 [(4, .int 0), (3, .int 1), (0, .ref h), (1, .ref x2), (2, .int 0)] := hl
    refine lv_iconst (v := 0) hx hb dW_plus_29 (by decide) ?_
    refine lv_istore hx hb dW_plus_30 hl (by decide) rfl (fun ls hl => ?_)
    have hl : lv_has ls 8 [(5, .int 0), (4, .int 0), (3, .int 1), (0, .ref h), (1, .ref x2), (2, .int 0)] := hl
    refine lp_w (α := Nat × Nat × Int32 × (Nat → Int32)) (fun a9 => a9.1 ≤ R ∧ a9.2.1 ≤ 1 ∧ dok 1000000000 a9.2.2.2 a9.1 ∧ (∀ m, a9.1 ≤ m → a9.2.2.2 m = f m) ∧ a9.2.2.1 = nI a9.2.1 ∧ hv 1000000000 (dg a9.2.2.2) 0 a9.1 + 1000000000 ^ a9.1 * a9.2.1 = hv 1000000000 (ct K (dg f)) 0 a9.1 + hv 1000000000 (ct K2 (dg f2)) 0 a9.1) (fun a9 => R - a9.1) (fun a9 => [(0, .ref h), (1, .ref x2), (3, .int 1), (4, .int a9.2.2.1), (5, .int (nI a9.1))]) (fun a9 => [(h, .inr (4, [.ref w, .int (nI K), .int b])), (w, .inl (cT 0, R, .inl a9.2.2.2)), (x2, .inr (4, [.ref w2, .int (nI K2), .int b2])), (w2, .inl (cT 0, R2, .inl f2))]) 32 ?_ (0, 0, 0, f) (show 0 ≤ R ∧ 0 ≤ 1 ∧ dok 1000000000 f 0 ∧ (∀ m, 0 ≤ m → f m = f m) ∧ 0 = nI 0 ∧ hv 1000000000 (dg f) 0 0 + 1000000000 ^ 0 * 0 = hv 1000000000 (ct K (dg f)) 0 0 + hv 1000000000 (ct K2 (dg f2)) 0 0 from ⟨by omega, by omega, fun q h => absurd h (by omega), fun _ _ => rfl, by decide, by simp [hv]⟩) (lv_sub hl [3, 4, 2, 1, 0] rfl) hP hD hS
    intro a9 hI32 ih32 ls H locs hl hP hD hS
    obtain ⟨j, o, cr, g⟩ := a9
    have hI32 : j ≤ R ∧ o ≤ 1 ∧ dok 1000000000 g j ∧ (∀ m, j ≤ m → g m = f m) ∧ cr = nI o ∧ hv 1000000000 (dg g) 0 j + 1000000000 ^ j * o = hv 1000000000 (ct K (dg f)) 0 j + hv 1000000000 (ct K2 (dg f2)) 0 j := hI32
    obtain ⟨ij, io, ig, if0, icr, iv⟩ := hI32
    have hl : lv_has ls 8 [(0, .ref h), (1, .ref x2), (3, .int 1), (4, .int cr), (5, .int (nI j))] := hl
    have hP : va_P D vwCl [(h, .inr (4, [.ref w, .int (nI K), .int b])), (w, .inl (cT 0, R, .inl g)), (x2, .inr (4, [.ref w2, .int (nI K2), .int b2])), (w2, .inl (cT 0, R2, .inl f2))] _ := hP
    have hD : va_D A [(h, .inr (4, [.ref w, .int (nI K), .int b])), (w, .inl (cT 0, R, .inl g)), (x2, .inr (4, [.ref w2, .int (nI K2), .int b2])), (w2, .inl (cT 0, R2, .inl f2))] := hD
    subst icr
    have hl : lv_has ls 8 [(0, .ref h), (1, .ref x2), (3, .int 1), (4, .int (nI o)), (5, .int (nI j))] := hl
    have hP : va_P D vwCl [(h, .inr (4, [.ref w, .int (nI K), .int b])), (w, .inl (cT 0, R, .inl g)), (x2, .inr (4, [.ref w2, .int (nI K2), .int b2])), (w2, .inl (cT 0, R2, .inl f2))] _ := hP
    have hD : va_D A [(h, .inr (4, [.ref w, .int (nI K), .int b])), (w, .inl (cT 0, R, .inl g)), (x2, .inr (4, [.ref w2, .int (nI K2), .int b2])), (w2, .inl (cT 0, R2, .inl f2))] := hD
    refine lv_iload hx hb dW_plus_32 (lv_at hl 4 rfl) ?_
    refine lv_aload_n hx hb dW_plus_34 rfl (lv_at hl 0 rfl) ?_
    refine va_get (D := D) (ci := 4) (v := .ref w) (C := R_W) (T := T_W) (N := 3) hx hb hT in_W hown hK hP 0 rfl rfl 0 (by decide) (hT _ w145) (fun _ h9 => h9) rfl dW_plus_35 ?_
    refine va_alen (v := nI R) hx hb hK hP 1 0 rfl rfl rfl dW_plus_38 ?_
    refine lv_icmp_ge (tgt := 169) hx hb dW_plus_39 rfl (fun h30 => ?_) (fun h30 => ?_)
    · have gh30 : R ≤ j := (nI_leI (a := R) (b := j) (by omega) (by omega)).mp h30
      have hjK : K ≤ j ∧ K2 ≤ j := by omega
      rw [hv_ct hjK.1, hv_ct hjK.2] at iv
      have iv : vW g j + 1000000000 ^ j * o = vW f K + vW f2 K2 := iv
      have ho : o = 0 := by
        have e1 : j = R := by omega
        rw [e1] at iv
        rcases (show o = 0 ∨ o = 1 by omega) with r | r
        · exact r
        · rw [r, Nat.mul_one] at iv; omega
      rw [ho, Nat.mul_zero, Nat.add_zero] at iv
      refine lv_iload hx hb dW_plus_169 (lv_at hl 3 rfl) ?_
      refine lv_if_ge (tgt := 180) hx hb dW_plus_171 rfl (fun _ => ?_) (fun h31 => absurd (nI_pos' (by omega)) h31)
      refine lv_aload_n hx hb dW_plus_180 rfl (lv_at hl 0 rfl) ?_
      refine lv_iload hx hb dW_plus_181 (lv_at hl 4 rfl) ?_
      refine rw_v (wc := [(h, .inr (4, [.ref w, .int (nI K), .int b])), (w, .inl (cT 0, R, .inl g))]) (wr := [(x2, .inr (4, [.ref w2, .int (nI K2), .int b2])), (w2, .inl (cT 0, R2, .inl f2))]) hP hD hS hA [0, 1] [2, 3] rfl rfl (by decide) (by decide) (va_runV (As := [.int (nI j)]) (rest := []) ⟨hx, hb, hml, hown, hT⟩ (k_trim l D cT h w R (nI K) b g j hR ij ig _) ⟨callB_of 1 hT (tb_gd w397) rfl rfl rfl (hT _ w5) (hT _ w394) hW_trim ⟨Nat.le_of_ble_eq_true rfl, Nat.le_of_ble_eq_true rfl⟩, (hT _ w396), (hT _ wp3)⟩ (RW.preV (ci := 4) (q0 := 0) hZ hS (va_free (wc := [(h, .inr (4, [.ref w, .int (nI K), .int b])), (w, .inl (cT 0, R, .inl g))]) hD hS hA [0, 1] rfl) (hP.sub (ws' := [(h, .inr (4, [.ref w, .int (nI K), .int b])), (w, .inl (cT 0, R, .inl g))]) [0, 1] rfl) hK (hD.sub (ws' := [(h, .inr (4, [.ref w, .int (nI K), .int b])), (w, .inl (cT 0, R, .inl g))]) [0, 1] (by decide) rfl) rfl rfl) rfl rfl hl.1 rfl (lv_room (Nat.le_of_ble_eq_true rfl)) dW_plus_183 ⟨Nat.le_of_ble_eq_true rfl, Nat.le_of_ble_eq_true rfl⟩) (fun u9 H locs hpu32 hP hD hS => ?_)
      obtain ⟨ku32, rfl⟩ : ∃ q9, q9 = u9 := ⟨_, rfl⟩
      have hpu32 : ku32 ≤ j ∧ top0 g ku32 ∧ vW g ku32 = vW g j := hpu32
      have hP : va_P D vwCl [(x2, .inr (4, [.ref w2, .int (nI K2), .int b2])), (w2, .inl (cT 0, R2, .inl f2)), (h, .inr (4, [.ref w, .int (nI ku32), .int b])), (w, .inl (cT 0, R, .inl g))] _ := hP
      have hD : va_D A [(x2, .inr (4, [.ref w2, .int (nI K2), .int b2])), (w2, .inl (cT 0, R2, .inl f2)), (h, .inr (4, [.ref w, .int (nI ku32), .int b])), (w, .inl (cT 0, R, .inl g))] := hD
      have hP9 := hP.sub (ws' := [(h, .inr (4, [.ref w, .int (nI ku32), .int b])), (w, .inl (cT 0, R, .inl g)), (x2, .inr (4, [.ref w2, .int (nI K2), .int b2])), (w2, .inl (cT 0, R2, .inl f2))]) [2, 3, 0, 1] rfl
      have hD9 := hD.sub (ws' := [(h, .inr (4, [.ref w, .int (nI ku32), .int b])), (w, .inl (cT 0, R, .inl g)), (x2, .inr (4, [.ref w2, .int (nI K2), .int b2])), (w2, .inl (cT 0, R2, .inl f2))]) [2, 3, 0, 1] (by decide) rfl
      refine W.widen (k := 0) (n := 0) (Nat.le_of_ble_eq_true rfl) (Nat.le_of_ble_eq_true rfl) ?_
      exact W.vret hx hb hr (fun t ht hW => ⟨⟨(nI ku32, b, g), rfl, (show WN R (nI ku32) b g (z + z2) from by have q0 := wn_trim (R := R) (b := b) ij ig hb01 hpu32; rw [hz, qhz, ← h1]; rw [show vW g j = vW f K + vW f2 K2 from iv] at q0; rw [wz_add]; exact q0), by rw [ht]; exact hP9, hD9⟩, hS.F ht⟩) hS.2.2 dW_plus_186
    · have gh30 : j < R := Nat.not_le.mp (fun q => h30 ((nI_leI (a := R) (b := j) (by omega) (by omega)).mpr q))
      refine lv_iload hx hb dW_plus_42 (lv_at hl 4 rfl) ?_
      refine lv_aload_n hx hb dW_plus_44 rfl (lv_at hl 0 rfl) ?_
      refine va_get (D := D) (ci := 4) (v := .int (nI K)) (C := R_W) (T := T_W) (N := 3) hx hb hT in_W hown hK hP 0 rfl rfl 1 (by decide) (hT _ w148) (fun _ h9 => h9) rfl dW_plus_45 ?_
      refine lv_icmp_lt (tgt := 65) hx hb dW_plus_48 rfl (fun h33 => ?_) (fun h33 => ?_)
      · have gh33 : j < K := (nI_ltI (a := j) (b := K) (by omega) (by omega)).mp h33
        obtain ⟨y1, hy1⟩ : ∃ q9 : Nat, q9 = ct K2 (dg f2) j := ⟨_, rfl⟩
        obtain ⟨x1, hx1⟩ : ∃ q9 : Nat, q9 = ct K (dg f) j := ⟨_, rfl⟩
        have hy1b : y1 < 1000000000 := by
          rw [hy1]
          by_cases q : j < K2
          · rw [ct_lt q]; exact (qhd j q).2
          · rw [ct_ge (show K2 ≤ j by omega)]; decide
        have hx1b : x1 < 1000000000 := by
          rw [hx1]
          by_cases q : j < K
          · rw [ct_lt q]; exact (hd j q).2
          · rw [ct_ge (show K ≤ j by omega)]; decide
        refine lp_cut (fun x9 : Int32 => x9 = nI y1) (fun x9 => [.int x9]) 85 ls (fun x9 e9 => ?_) (fun hct34 => ?_)
        · cases (show x9 = nI y1 from e9)
          refine lv_istore hx hb dW_plus_85 hl (by decide) rfl (fun ls hl => ?_)
          have hl : lv_has ls 8 [(6, .int (nI y1)), (0, .ref h), (1, .ref x2), (3, .int 1), (4, .int (nI o)), (5, .int (nI j))] := hl
          refine lp_cut (fun x9 : Int32 => x9 = nI x1) (fun x9 => [.int x9]) 107 ls (fun x9 e9 => ?_) (fun hct35 => ?_)
          · cases (show x9 = nI x1 from e9)
            refine lv_iload_n hx hb dW_plus_107 rfl (lv_at hl 3 rfl) ?_
            refine lv_if_eq (tgt := 116) hx hb dW_plus_108 rfl (fun h36 => absurd h36 (by decide)) (fun _ => ?_)
            refine lv_iload hx hb dW_plus_111 (lv_at hl 0 rfl) ?_
            refine lv_goto (tgt := 119) hx hb dW_plus_113 rfl ?_
            refine lv_iadd hx hb dW_plus_119 ?_
            refine lv_topi (fun y9 e9 => ?_)
            cases (show y9 = nI (x1 + y1) from e9.trans (nI_add x1 y1))
            refine lv_iload hx hb dW_plus_120 (lv_at hl 4 rfl) ?_
            refine lv_iadd hx hb dW_plus_122 ?_
            refine lv_topi (fun y9 e9 => ?_)
            cases (show y9 = nI ((x1 + y1) + o) from e9.trans (nI_add (x1 + y1) o))
            obtain ⟨s1, hs1⟩ : ∃ q9 : Nat, q9 = x1 + y1 + o := ⟨_, rfl⟩
            refine lv_topi (fun y9 e9 => ?_)
            cases (show y9 = nI s1 from e9.trans (by rw [hs1]))
            refine lv_istore hx hb dW_plus_123 hl (by decide) rfl (fun ls hl => ?_)
            have hl : lv_has ls 8 [(7, .int (nI s1)), (6, .int (nI y1)), (0, .ref h), (1, .ref x2), (3, .int 1), (4, .int (nI o)), (5, .int (nI j))] := hl
            refine lv_iload hx hb dW_plus_125 (lv_at hl 0 rfl) ?_
            refine lv_ldc (v := 1000000000) hx hb hown (hT _ w462) dW_plus_127 ?_
            refine lv_icmp_lt (tgt := 136) hx hb dW_plus_129 rfl (fun h37 => ?_) (fun h37 => ?_)
            · have gh37 : s1 < 1000000000 := (nI_ltI (a := s1) (b := 1000000000) (by omega) (by omega)).mp h37
              refine lv_iload hx hb dW_plus_136 (lv_at hl 0 rfl) ?_
              refine lv_if_ge (tgt := 145) hx hb dW_plus_138 rfl (fun _ => ?_) (fun h38 => absurd (nI_pos' (by omega)) h38)
              obtain ⟨e1, he1⟩ : ∃ q9 : Nat, q9 = s1 := ⟨_, rfl⟩
              have he1b : e1 < 1000000000 := by omega
              refine lv_iconst (v := 0) hx hb dW_plus_145 (by decide) ?_
              refine lv_istore hx hb dW_plus_146 hl (by decide) rfl (fun ls hl => ?_)
              have hl : lv_has ls 8 [(4, .int 0), (7, .int (nI s1)), (6, .int (nI y1)), (0, .ref h), (1, .ref x2), (3, .int 1), (5, .int (nI j))] := hl
              refine lv_aload_n hx hb dW_plus_148 rfl (lv_at hl 3 rfl) ?_
              refine va_get (D := D) (ci := 4) (v := .ref w) (C := R_W) (T := T_W) (N := 3) hx hb hT in_W hown hK hP 0 rfl rfl 0 (by decide) (hT _ w145) (fun _ h9 => h9) rfl dW_plus_149 ?_
              refine lv_iload hx hb dW_plus_152 (lv_at hl 6 rfl) ?_
              refine lv_iload hx hb dW_plus_154 (lv_at hl 1 rfl) ?_
              refine lv_iload hx hb dW_plus_156 (lv_at hl 0 rfl) ?_
              refine lv_ldc (v := 1000000000) hx hb hown (hT _ w462) dW_plus_158 ?_
              refine lv_imul hx hb dW_plus_160 ?_
              refine lv_topi (fun y9 e9 => ?_)
              cases (show y9 = 0 from e9.trans (by decide))
              refine lv_isub hx hb dW_plus_161 ?_
              refine lv_topi (fun y9 e9 => ?_)
              cases (show y9 = nI e1 from e9.trans (by rw [he1]; exact Int32.sub_zero _))
              refine lq_iast (j := j) hx hb hK hP hD hS 1 0 rfl rfl rfl (by omega) (by omega) dW_plus_162 (fun H locs hP hD hS => ?_)
              have hP : va_P D vwCl [(h, .inr (4, [.ref w, .int (nI K), .int b])), (w, .inl (cT 0, R, .inl (upd g j (nI e1)))), (x2, .inr (4, [.ref w2, .int (nI K2), .int b2])), (w2, .inl (cT 0, R2, .inl f2))] _ := hP
              have hD : va_D A [(h, .inr (4, [.ref w, .int (nI K), .int b])), (w, .inl (cT 0, R, .inl (upd g j (nI e1)))), (x2, .inr (4, [.ref w2, .int (nI K2), .int b2])), (w2, .inl (cT 0, R2, .inl f2))] := hD
              refine lv_iinc (k := 6) (v := nI (j + 1)) hx hb dW_plus_163 hl rfl (nI_1 j) (by decide) rfl (fun ls hl => ?_)
              have hl : lv_has ls 8 [(5, .int (nI (j + 1))), (4, .int 0), (7, .int (nI s1)), (6, .int (nI y1)), (0, .ref h), (1, .ref x2), (3, .int 1)] := hl
              refine lv_goto (tgt := 32) hx hb dW_plus_166 rfl ?_
              exact ih32 (j + 1, 0, 0, upd g j (nI e1)) (show (j + 1) ≤ R ∧ 0 ≤ 1 ∧ dok 1000000000 (upd g j (nI e1)) (j + 1) ∧ (∀ m, (j + 1) ≤ m → (upd g j (nI e1)) m = f m) ∧ 0 = nI 0 ∧ hv 1000000000 (dg (upd g j (nI e1))) 0 (j + 1) + 1000000000 ^ (j + 1) * 0 = hv 1000000000 (ct K (dg f)) 0 (j + 1) + hv 1000000000 (ct K2 (dg f2)) 0 (j + 1) from ⟨by omega, by omega, dok_s ig he1b (by decide), fun q h => (pk_un (by omega)).trans (if0 q (by omega)), by decide, by rw [hv_us (v := e1) (by omega), hv_snoc, hv_snoc, Nat.zero_add, Nat.pow_succ, ← hx1, ← hy1]; exact add_s iv (by omega)⟩) (show R - (j + 1) < R - j from (by omega)) ls H locs (lv_sub hl [4, 5, 6, 1, 0] rfl) hP hD hS
            · have gh37 : 1000000000 ≤ s1 := Nat.not_lt.mp (fun q => h37 ((nI_ltI (a := s1) (b := 1000000000) (by omega) (by omega)).mpr q))
              obtain ⟨e1, he1⟩ : ∃ q9 : Nat, q9 = s1 - 1000000000 := ⟨_, rfl⟩
              have he1b : e1 < 1000000000 := by omega
              refine lv_iconst (v := 1) hx hb dW_plus_132 (by decide) ?_
              refine lv_goto (tgt := 146) hx hb dW_plus_133 rfl ?_
              refine lv_istore hx hb dW_plus_146 hl (by decide) rfl (fun ls hl => ?_)
              have hl : lv_has ls 8 [(4, .int 1), (7, .int (nI s1)), (6, .int (nI y1)), (0, .ref h), (1, .ref x2), (3, .int 1), (5, .int (nI j))] := hl
              refine lv_aload_n hx hb dW_plus_148 rfl (lv_at hl 3 rfl) ?_
              refine va_get (D := D) (ci := 4) (v := .ref w) (C := R_W) (T := T_W) (N := 3) hx hb hT in_W hown hK hP 0 rfl rfl 0 (by decide) (hT _ w145) (fun _ h9 => h9) rfl dW_plus_149 ?_
              refine lv_iload hx hb dW_plus_152 (lv_at hl 6 rfl) ?_
              refine lv_iload hx hb dW_plus_154 (lv_at hl 1 rfl) ?_
              refine lv_iload hx hb dW_plus_156 (lv_at hl 0 rfl) ?_
              refine lv_ldc (v := 1000000000) hx hb hown (hT _ w462) dW_plus_158 ?_
              refine lv_imul hx hb dW_plus_160 ?_
              refine lv_topi (fun y9 e9 => ?_)
              cases (show y9 = 1000000000 from e9.trans (by decide))
              refine lv_isub hx hb dW_plus_161 ?_
              refine lv_topi (fun y9 e9 => ?_)
              cases (show y9 = nI e1 from e9.trans (by rw [he1]; exact pk_sub (a := s1) (b := 1000000000) (by omega)))
              refine lq_iast (j := j) hx hb hK hP hD hS 1 0 rfl rfl rfl (by omega) (by omega) dW_plus_162 (fun H locs hP hD hS => ?_)
              have hP : va_P D vwCl [(h, .inr (4, [.ref w, .int (nI K), .int b])), (w, .inl (cT 0, R, .inl (upd g j (nI e1)))), (x2, .inr (4, [.ref w2, .int (nI K2), .int b2])), (w2, .inl (cT 0, R2, .inl f2))] _ := hP
              have hD : va_D A [(h, .inr (4, [.ref w, .int (nI K), .int b])), (w, .inl (cT 0, R, .inl (upd g j (nI e1)))), (x2, .inr (4, [.ref w2, .int (nI K2), .int b2])), (w2, .inl (cT 0, R2, .inl f2))] := hD
              refine lv_iinc (k := 6) (v := nI (j + 1)) hx hb dW_plus_163 hl rfl (nI_1 j) (by decide) rfl (fun ls hl => ?_)
              have hl : lv_has ls 8 [(5, .int (nI (j + 1))), (4, .int 1), (7, .int (nI s1)), (6, .int (nI y1)), (0, .ref h), (1, .ref x2), (3, .int 1)] := hl
              refine lv_goto (tgt := 32) hx hb dW_plus_166 rfl ?_
              exact ih32 (j + 1, 1, 1, upd g j (nI e1)) (show (j + 1) ≤ R ∧ 1 ≤ 1 ∧ dok 1000000000 (upd g j (nI e1)) (j + 1) ∧ (∀ m, (j + 1) ≤ m → (upd g j (nI e1)) m = f m) ∧ 1 = nI 1 ∧ hv 1000000000 (dg (upd g j (nI e1))) 0 (j + 1) + 1000000000 ^ (j + 1) * 1 = hv 1000000000 (ct K (dg f)) 0 (j + 1) + hv 1000000000 (ct K2 (dg f2)) 0 (j + 1) from ⟨by omega, by omega, dok_s ig he1b (by decide), fun q h => (pk_un (by omega)).trans (if0 q (by omega)), by decide, by rw [hv_us (v := e1) (by omega), hv_snoc, hv_snoc, Nat.zero_add, Nat.pow_succ, ← hx1, ← hy1]; exact add_s iv (by omega)⟩) (show R - (j + 1) < R - j from (by omega)) ls H locs (lv_sub hl [4, 5, 6, 1, 0] rfl) hP hD hS
          · refine lv_iload hx hb dW_plus_87 (lv_at hl 5 rfl) ?_
            refine lv_aload_n hx hb dW_plus_89 rfl (lv_at hl 1 rfl) ?_
            refine va_get (D := D) (ci := 4) (v := .int (nI K)) (C := R_W) (T := T_W) (N := 3) hx hb hT in_W hown hK hP 0 rfl rfl 1 (by decide) (hT _ w148) (fun _ h9 => h9) rfl dW_plus_90 ?_
            refine lv_icmp_ge (tgt := 106) hx hb dW_plus_93 rfl (fun h39 => absurd h39 (Int32.not_le.mpr h33)) (fun _ => ?_)
            refine lv_aload_n hx hb dW_plus_96 rfl (lv_at hl 1 rfl) ?_
            refine va_get (D := D) (ci := 4) (v := .ref w) (C := R_W) (T := T_W) (N := 3) hx hb hT in_W hown hK hP 0 rfl rfl 0 (by decide) (hT _ w145) (fun _ h9 => h9) rfl dW_plus_97 ?_
            refine lv_iload hx hb dW_plus_100 (lv_at hl 5 rfl) ?_
            refine lq_iald (j := j) hx hb hK hP 1 0 rfl rfl rfl (by omega) (by omega) dW_plus_102 ?_
            refine lv_goto (tgt := 107) hx hb dW_plus_103 rfl ?_
            exact hct35 _ (by rw [if0 j (Nat.le_refl _), hx1, ct_lt (show j < K by omega)]; exact (hd j (by omega)).1)
        · refine lv_iload hx hb dW_plus_65 (lv_at hl 4 rfl) ?_
          refine lv_aload_n hx hb dW_plus_67 rfl (lv_at hl 1 rfl) ?_
          refine va_get (D := D) (ci := 4) (v := .int (nI K2)) (C := R_W) (T := T_W) (N := 3) hx hb hT in_W hown hK hP 2 rfl rfl 1 (by decide) (hT _ w148) (fun _ h9 => h9) rfl dW_plus_68 ?_
          refine lv_icmp_ge (tgt := 84) hx hb dW_plus_71 rfl (fun h40 => ?_) (fun h40 => ?_)
          · have gh40 : K2 ≤ j := (nI_leI (a := K2) (b := j) (by omega) (by omega)).mp h40
            refine lv_iconst (v := 0) hx hb dW_plus_84 (by decide) ?_
            exact hct34 _ (by rw [hy1, ct_ge (show K2 ≤ j by omega)]; rfl)
          · have gh40 : j < K2 := Nat.not_le.mp (fun q => h40 ((nI_leI (a := K2) (b := j) (by omega) (by omega)).mpr q))
            refine lv_aload_n hx hb dW_plus_74 rfl (lv_at hl 1 rfl) ?_
            refine va_get (D := D) (ci := 4) (v := .ref w2) (C := R_W) (T := T_W) (N := 3) hx hb hT in_W hown hK hP 2 rfl rfl 0 (by decide) (hT _ w145) (fun _ h9 => h9) rfl dW_plus_75 ?_
            refine lv_iload hx hb dW_plus_78 (lv_at hl 4 rfl) ?_
            refine lq_iald (j := j) hx hb hK hP 3 0 rfl rfl rfl (by omega) (by omega) dW_plus_80 ?_
            refine lv_goto (tgt := 85) hx hb dW_plus_81 rfl ?_
            exact hct34 _ (by rw [hy1, ct_lt (show j < K2 by omega)]; exact (qhd j (by omega)).1)
      · have gh33 : K ≤ j := Nat.not_lt.mp (fun q => h33 ((nI_ltI (a := j) (b := K) (by omega) (by omega)).mpr q))
        refine lv_iload hx hb dW_plus_51 (lv_at hl 4 rfl) ?_
        refine lv_aload_n hx hb dW_plus_53 rfl (lv_at hl 1 rfl) ?_
        refine va_get (D := D) (ci := 4) (v := .int (nI K2)) (C := R_W) (T := T_W) (N := 3) hx hb hT in_W hown hK hP 2 rfl rfl 1 (by decide) (hT _ w148) (fun _ h9 => h9) rfl dW_plus_54 ?_
        refine lv_icmp_lt (tgt := 65) hx hb dW_plus_57 rfl (fun h41 => ?_) (fun h41 => ?_)
        · have gh41 : j < K2 := (nI_ltI (a := j) (b := K2) (by omega) (by omega)).mp h41
          obtain ⟨y1, hy1⟩ : ∃ q9 : Nat, q9 = ct K2 (dg f2) j := ⟨_, rfl⟩
          obtain ⟨x1, hx1⟩ : ∃ q9 : Nat, q9 = ct K (dg f) j := ⟨_, rfl⟩
          have hy1b : y1 < 1000000000 := by
            rw [hy1]
            by_cases q : j < K2
            · rw [ct_lt q]; exact (qhd j q).2
            · rw [ct_ge (show K2 ≤ j by omega)]; decide
          have hx1b : x1 < 1000000000 := by
            rw [hx1]
            by_cases q : j < K
            · rw [ct_lt q]; exact (hd j q).2
            · rw [ct_ge (show K ≤ j by omega)]; decide
          refine lp_cut (fun x9 : Int32 => x9 = nI y1) (fun x9 => [.int x9]) 85 ls (fun x9 e9 => ?_) (fun hct42 => ?_)
          · cases (show x9 = nI y1 from e9)
            refine lv_istore hx hb dW_plus_85 hl (by decide) rfl (fun ls hl => ?_)
            have hl : lv_has ls 8 [(6, .int (nI y1)), (0, .ref h), (1, .ref x2), (3, .int 1), (4, .int (nI o)), (5, .int (nI j))] := hl
            refine lp_cut (fun x9 : Int32 => x9 = nI x1) (fun x9 => [.int x9]) 107 ls (fun x9 e9 => ?_) (fun hct43 => ?_)
            · cases (show x9 = nI x1 from e9)
              refine lv_iload_n hx hb dW_plus_107 rfl (lv_at hl 3 rfl) ?_
              refine lv_if_eq (tgt := 116) hx hb dW_plus_108 rfl (fun h44 => absurd h44 (by decide)) (fun _ => ?_)
              refine lv_iload hx hb dW_plus_111 (lv_at hl 0 rfl) ?_
              refine lv_goto (tgt := 119) hx hb dW_plus_113 rfl ?_
              refine lv_iadd hx hb dW_plus_119 ?_
              refine lv_topi (fun y9 e9 => ?_)
              cases (show y9 = nI (x1 + y1) from e9.trans (nI_add x1 y1))
              refine lv_iload hx hb dW_plus_120 (lv_at hl 4 rfl) ?_
              refine lv_iadd hx hb dW_plus_122 ?_
              refine lv_topi (fun y9 e9 => ?_)
              cases (show y9 = nI ((x1 + y1) + o) from e9.trans (nI_add (x1 + y1) o))
              obtain ⟨s1, hs1⟩ : ∃ q9 : Nat, q9 = x1 + y1 + o := ⟨_, rfl⟩
              refine lv_topi (fun y9 e9 => ?_)
              cases (show y9 = nI s1 from e9.trans (by rw [hs1]))
              refine lv_istore hx hb dW_plus_123 hl (by decide) rfl (fun ls hl => ?_)
              have hl : lv_has ls 8 [(7, .int (nI s1)), (6, .int (nI y1)), (0, .ref h), (1, .ref x2), (3, .int 1), (4, .int (nI o)), (5, .int (nI j))] := hl
              refine lv_iload hx hb dW_plus_125 (lv_at hl 0 rfl) ?_
              refine lv_ldc (v := 1000000000) hx hb hown (hT _ w462) dW_plus_127 ?_
              refine lv_icmp_lt (tgt := 136) hx hb dW_plus_129 rfl (fun h45 => ?_) (fun h45 => ?_)
              · have gh45 : s1 < 1000000000 := (nI_ltI (a := s1) (b := 1000000000) (by omega) (by omega)).mp h45
                refine lv_iload hx hb dW_plus_136 (lv_at hl 0 rfl) ?_
                refine lv_if_ge (tgt := 145) hx hb dW_plus_138 rfl (fun _ => ?_) (fun h46 => absurd (nI_pos' (by omega)) h46)
                obtain ⟨e1, he1⟩ : ∃ q9 : Nat, q9 = s1 := ⟨_, rfl⟩
                have he1b : e1 < 1000000000 := by omega
                refine lv_iconst (v := 0) hx hb dW_plus_145 (by decide) ?_
                refine lv_istore hx hb dW_plus_146 hl (by decide) rfl (fun ls hl => ?_)
                have hl : lv_has ls 8 [(4, .int 0), (7, .int (nI s1)), (6, .int (nI y1)), (0, .ref h), (1, .ref x2), (3, .int 1), (5, .int (nI j))] := hl
                refine lv_aload_n hx hb dW_plus_148 rfl (lv_at hl 3 rfl) ?_
                refine va_get (D := D) (ci := 4) (v := .ref w) (C := R_W) (T := T_W) (N := 3) hx hb hT in_W hown hK hP 0 rfl rfl 0 (by decide) (hT _ w145) (fun _ h9 => h9) rfl dW_plus_149 ?_
                refine lv_iload hx hb dW_plus_152 (lv_at hl 6 rfl) ?_
                refine lv_iload hx hb dW_plus_154 (lv_at hl 1 rfl) ?_
                refine lv_iload hx hb dW_plus_156 (lv_at hl 0 rfl) ?_
                refine lv_ldc (v := 1000000000) hx hb hown (hT _ w462) dW_plus_158 ?_
                refine lv_imul hx hb dW_plus_160 ?_
                refine lv_topi (fun y9 e9 => ?_)
                cases (show y9 = 0 from e9.trans (by decide))
                refine lv_isub hx hb dW_plus_161 ?_
                refine lv_topi (fun y9 e9 => ?_)
                cases (show y9 = nI e1 from e9.trans (by rw [he1]; exact Int32.sub_zero _))
                refine lq_iast (j := j) hx hb hK hP hD hS 1 0 rfl rfl rfl (by omega) (by omega) dW_plus_162 (fun H locs hP hD hS => ?_)
                have hP : va_P D vwCl [(h, .inr (4, [.ref w, .int (nI K), .int b])), (w, .inl (cT 0, R, .inl (upd g j (nI e1)))), (x2, .inr (4, [.ref w2, .int (nI K2), .int b2])), (w2, .inl (cT 0, R2, .inl f2))] _ := hP
                have hD : va_D A [(h, .inr (4, [.ref w, .int (nI K), .int b])), (w, .inl (cT 0, R, .inl (upd g j (nI e1)))), (x2, .inr (4, [.ref w2, .int (nI K2), .int b2])), (w2, .inl (cT 0, R2, .inl f2))] := hD
                refine lv_iinc (k := 6) (v := nI (j + 1)) hx hb dW_plus_163 hl rfl (nI_1 j) (by decide) rfl (fun ls hl => ?_)
                have hl : lv_has ls 8 [(5, .int (nI (j + 1))), (4, .int 0), (7, .int (nI s1)), (6, .int (nI y1)), (0, .ref h), (1, .ref x2), (3, .int 1)] := hl
                refine lv_goto (tgt := 32) hx hb dW_plus_166 rfl ?_
                exact ih32 (j + 1, 0, 0, upd g j (nI e1)) (show (j + 1) ≤ R ∧ 0 ≤ 1 ∧ dok 1000000000 (upd g j (nI e1)) (j + 1) ∧ (∀ m, (j + 1) ≤ m → (upd g j (nI e1)) m = f m) ∧ 0 = nI 0 ∧ hv 1000000000 (dg (upd g j (nI e1))) 0 (j + 1) + 1000000000 ^ (j + 1) * 0 = hv 1000000000 (ct K (dg f)) 0 (j + 1) + hv 1000000000 (ct K2 (dg f2)) 0 (j + 1) from ⟨by omega, by omega, dok_s ig he1b (by decide), fun q h => (pk_un (by omega)).trans (if0 q (by omega)), by decide, by rw [hv_us (v := e1) (by omega), hv_snoc, hv_snoc, Nat.zero_add, Nat.pow_succ, ← hx1, ← hy1]; exact add_s iv (by omega)⟩) (show R - (j + 1) < R - j from (by omega)) ls H locs (lv_sub hl [4, 5, 6, 1, 0] rfl) hP hD hS
              · have gh45 : 1000000000 ≤ s1 := Nat.not_lt.mp (fun q => h45 ((nI_ltI (a := s1) (b := 1000000000) (by omega) (by omega)).mpr q))
                obtain ⟨e1, he1⟩ : ∃ q9 : Nat, q9 = s1 - 1000000000 := ⟨_, rfl⟩
                have he1b : e1 < 1000000000 := by omega
                refine lv_iconst (v := 1) hx hb dW_plus_132 (by decide) ?_
                refine lv_goto (tgt := 146) hx hb dW_plus_133 rfl ?_
                refine lv_istore hx hb dW_plus_146 hl (by decide) rfl (fun ls hl => ?_)
                have hl : lv_has ls 8 [(4, .int 1), (7, .int (nI s1)), (6, .int (nI y1)), (0, .ref h), (1, .ref x2), (3, .int 1), (5, .int (nI j))] := hl
                refine lv_aload_n hx hb dW_plus_148 rfl (lv_at hl 3 rfl) ?_
                refine va_get (D := D) (ci := 4) (v := .ref w) (C := R_W) (T := T_W) (N := 3) hx hb hT in_W hown hK hP 0 rfl rfl 0 (by decide) (hT _ w145) (fun _ h9 => h9) rfl dW_plus_149 ?_
                refine lv_iload hx hb dW_plus_152 (lv_at hl 6 rfl) ?_
                refine lv_iload hx hb dW_plus_154 (lv_at hl 1 rfl) ?_
                refine lv_iload hx hb dW_plus_156 (lv_at hl 0 rfl) ?_
                refine lv_ldc (v := 1000000000) hx hb hown (hT _ w462) dW_plus_158 ?_
                refine lv_imul hx hb dW_plus_160 ?_
                refine lv_topi (fun y9 e9 => ?_)
                cases (show y9 = 1000000000 from e9.trans (by decide))
                refine lv_isub hx hb dW_plus_161 ?_
                refine lv_topi (fun y9 e9 => ?_)
                cases (show y9 = nI e1 from e9.trans (by rw [he1]; exact pk_sub (a := s1) (b := 1000000000) (by omega)))
                refine lq_iast (j := j) hx hb hK hP hD hS 1 0 rfl rfl rfl (by omega) (by omega) dW_plus_162 (fun H locs hP hD hS => ?_)
                have hP : va_P D vwCl [(h, .inr (4, [.ref w, .int (nI K), .int b])), (w, .inl (cT 0, R, .inl (upd g j (nI e1)))), (x2, .inr (4, [.ref w2, .int (nI K2), .int b2])), (w2, .inl (cT 0, R2, .inl f2))] _ := hP
                have hD : va_D A [(h, .inr (4, [.ref w, .int (nI K), .int b])), (w, .inl (cT 0, R, .inl (upd g j (nI e1)))), (x2, .inr (4, [.ref w2, .int (nI K2), .int b2])), (w2, .inl (cT 0, R2, .inl f2))] := hD
                refine lv_iinc (k := 6) (v := nI (j + 1)) hx hb dW_plus_163 hl rfl (nI_1 j) (by decide) rfl (fun ls hl => ?_)
                have hl : lv_has ls 8 [(5, .int (nI (j + 1))), (4, .int 1), (7, .int (nI s1)), (6, .int (nI y1)), (0, .ref h), (1, .ref x2), (3, .int 1)] := hl
                refine lv_goto (tgt := 32) hx hb dW_plus_166 rfl ?_
                exact ih32 (j + 1, 1, 1, upd g j (nI e1)) (show (j + 1) ≤ R ∧ 1 ≤ 1 ∧ dok 1000000000 (upd g j (nI e1)) (j + 1) ∧ (∀ m, (j + 1) ≤ m → (upd g j (nI e1)) m = f m) ∧ 1 = nI 1 ∧ hv 1000000000 (dg (upd g j (nI e1))) 0 (j + 1) + 1000000000 ^ (j + 1) * 1 = hv 1000000000 (ct K (dg f)) 0 (j + 1) + hv 1000000000 (ct K2 (dg f2)) 0 (j + 1) from ⟨by omega, by omega, dok_s ig he1b (by decide), fun q h => (pk_un (by omega)).trans (if0 q (by omega)), by decide, by rw [hv_us (v := e1) (by omega), hv_snoc, hv_snoc, Nat.zero_add, Nat.pow_succ, ← hx1, ← hy1]; exact add_s iv (by omega)⟩) (show R - (j + 1) < R - j from (by omega)) ls H locs (lv_sub hl [4, 5, 6, 1, 0] rfl) hP hD hS
            · refine lv_iload hx hb dW_plus_87 (lv_at hl 5 rfl) ?_
              refine lv_aload_n hx hb dW_plus_89 rfl (lv_at hl 1 rfl) ?_
              refine va_get (D := D) (ci := 4) (v := .int (nI K)) (C := R_W) (T := T_W) (N := 3) hx hb hT in_W hown hK hP 0 rfl rfl 1 (by decide) (hT _ w148) (fun _ h9 => h9) rfl dW_plus_90 ?_
              refine lv_icmp_ge (tgt := 106) hx hb dW_plus_93 rfl (fun _ => ?_) (fun h47 => absurd (Int32.not_lt.mp h33) h47)
              refine lv_iconst (v := 0) hx hb dW_plus_106 (by decide) ?_
              exact hct43 _ (by rw [hx1, ct_ge (show K ≤ j by omega)]; rfl)
          · refine lv_iload hx hb dW_plus_65 (lv_at hl 4 rfl) ?_
            refine lv_aload_n hx hb dW_plus_67 rfl (lv_at hl 1 rfl) ?_
            refine va_get (D := D) (ci := 4) (v := .int (nI K2)) (C := R_W) (T := T_W) (N := 3) hx hb hT in_W hown hK hP 2 rfl rfl 1 (by decide) (hT _ w148) (fun _ h9 => h9) rfl dW_plus_68 ?_
            refine lv_icmp_ge (tgt := 84) hx hb dW_plus_71 rfl (fun h48 => absurd h48 (Int32.not_le.mpr h41)) (fun _ => ?_)
            refine lv_aload_n hx hb dW_plus_74 rfl (lv_at hl 1 rfl) ?_
            refine va_get (D := D) (ci := 4) (v := .ref w2) (C := R_W) (T := T_W) (N := 3) hx hb hT in_W hown hK hP 2 rfl rfl 0 (by decide) (hT _ w145) (fun _ h9 => h9) rfl dW_plus_75 ?_
            refine lv_iload hx hb dW_plus_78 (lv_at hl 4 rfl) ?_
            refine lq_iald (j := j) hx hb hK hP 3 0 rfl rfl rfl (by omega) (by omega) dW_plus_80 ?_
            refine lv_goto (tgt := 85) hx hb dW_plus_81 rfl ?_
            exact hct42 _ (by rw [hy1, ct_lt (show j < K2 by omega)]; exact (qhd j (by omega)).1)
        · have gh41 : K2 ≤ j := Nat.not_lt.mp (fun q => h41 ((nI_ltI (a := j) (b := K2) (by omega) (by omega)).mpr q))
          refine lv_iload hx hb dW_plus_60 (lv_at hl 3 rfl) ?_
          refine lv_if_le (tgt := 169) hx hb dW_plus_62 rfl (fun h49 => ?_) (fun h49 => ?_)
          · have gh49 : o ≤ 0 := (nI_leI (a := o) (b := 0) (by omega) (by omega)).mp h49
            have hjK : K ≤ j ∧ K2 ≤ j := by omega
            rw [hv_ct hjK.1, hv_ct hjK.2] at iv
            have iv : vW g j + 1000000000 ^ j * o = vW f K + vW f2 K2 := iv
            have ho : o = 0 := by
              omega
            rw [ho, Nat.mul_zero, Nat.add_zero] at iv
            refine lv_iload hx hb dW_plus_169 (lv_at hl 3 rfl) ?_
            refine lv_if_ge (tgt := 180) hx hb dW_plus_171 rfl (fun _ => ?_) (fun h50 => absurd (nI_pos' (by omega)) h50)
            refine lv_aload_n hx hb dW_plus_180 rfl (lv_at hl 0 rfl) ?_
            refine lv_iload hx hb dW_plus_181 (lv_at hl 4 rfl) ?_
            refine rw_v (wc := [(h, .inr (4, [.ref w, .int (nI K), .int b])), (w, .inl (cT 0, R, .inl g))]) (wr := [(x2, .inr (4, [.ref w2, .int (nI K2), .int b2])), (w2, .inl (cT 0, R2, .inl f2))]) hP hD hS hA [0, 1] [2, 3] rfl rfl (by decide) (by decide) (va_runV (As := [.int (nI j)]) (rest := []) ⟨hx, hb, hml, hown, hT⟩ (k_trim l D cT h w R (nI K) b g j hR ij ig _) ⟨callB_of 1 hT (tb_gd w397) rfl rfl rfl (hT _ w5) (hT _ w394) hW_trim ⟨Nat.le_of_ble_eq_true rfl, Nat.le_of_ble_eq_true rfl⟩, (hT _ w396), (hT _ wp3)⟩ (RW.preV (ci := 4) (q0 := 0) hZ hS (va_free (wc := [(h, .inr (4, [.ref w, .int (nI K), .int b])), (w, .inl (cT 0, R, .inl g))]) hD hS hA [0, 1] rfl) (hP.sub (ws' := [(h, .inr (4, [.ref w, .int (nI K), .int b])), (w, .inl (cT 0, R, .inl g))]) [0, 1] rfl) hK (hD.sub (ws' := [(h, .inr (4, [.ref w, .int (nI K), .int b])), (w, .inl (cT 0, R, .inl g))]) [0, 1] (by decide) rfl) rfl rfl) rfl rfl hl.1 rfl (lv_room (Nat.le_of_ble_eq_true rfl)) dW_plus_183 ⟨Nat.le_of_ble_eq_true rfl, Nat.le_of_ble_eq_true rfl⟩) (fun u9 H locs hpu51 hP hD hS => ?_)
            obtain ⟨ku51, rfl⟩ : ∃ q9, q9 = u9 := ⟨_, rfl⟩
            have hpu51 : ku51 ≤ j ∧ top0 g ku51 ∧ vW g ku51 = vW g j := hpu51
            have hP : va_P D vwCl [(x2, .inr (4, [.ref w2, .int (nI K2), .int b2])), (w2, .inl (cT 0, R2, .inl f2)), (h, .inr (4, [.ref w, .int (nI ku51), .int b])), (w, .inl (cT 0, R, .inl g))] _ := hP
            have hD : va_D A [(x2, .inr (4, [.ref w2, .int (nI K2), .int b2])), (w2, .inl (cT 0, R2, .inl f2)), (h, .inr (4, [.ref w, .int (nI ku51), .int b])), (w, .inl (cT 0, R, .inl g))] := hD
            have hP9 := hP.sub (ws' := [(h, .inr (4, [.ref w, .int (nI ku51), .int b])), (w, .inl (cT 0, R, .inl g)), (x2, .inr (4, [.ref w2, .int (nI K2), .int b2])), (w2, .inl (cT 0, R2, .inl f2))]) [2, 3, 0, 1] rfl
            have hD9 := hD.sub (ws' := [(h, .inr (4, [.ref w, .int (nI ku51), .int b])), (w, .inl (cT 0, R, .inl g)), (x2, .inr (4, [.ref w2, .int (nI K2), .int b2])), (w2, .inl (cT 0, R2, .inl f2))]) [2, 3, 0, 1] (by decide) rfl
            refine W.widen (k := 0) (n := 0) (Nat.le_of_ble_eq_true rfl) (Nat.le_of_ble_eq_true rfl) ?_
            exact W.vret hx hb hr (fun t ht hW => ⟨⟨(nI ku51, b, g), rfl, (show WN R (nI ku51) b g (z + z2) from by have q0 := wn_trim (R := R) (b := b) ij ig hb01 hpu51; rw [hz, qhz, ← h1]; rw [show vW g j = vW f K + vW f2 K2 from iv] at q0; rw [wz_add]; exact q0), by rw [ht]; exact hP9, hD9⟩, hS.F ht⟩) hS.2.2 dW_plus_186
          · have gh49 : 0 < o := Nat.not_le.mp (fun q => h49 ((nI_leI (a := o) (b := 0) (by omega) (by omega)).mpr q))
            obtain ⟨y1, hy1⟩ : ∃ q9 : Nat, q9 = ct K2 (dg f2) j := ⟨_, rfl⟩
            obtain ⟨x1, hx1⟩ : ∃ q9 : Nat, q9 = ct K (dg f) j := ⟨_, rfl⟩
            have hy1b : y1 < 1000000000 := by
              rw [hy1]
              by_cases q : j < K2
              · rw [ct_lt q]; exact (qhd j q).2
              · rw [ct_ge (show K2 ≤ j by omega)]; decide
            have hx1b : x1 < 1000000000 := by
              rw [hx1]
              by_cases q : j < K
              · rw [ct_lt q]; exact (hd j q).2
              · rw [ct_ge (show K ≤ j by omega)]; decide
            refine lp_cut (fun x9 : Int32 => x9 = nI y1) (fun x9 => [.int x9]) 85 ls (fun x9 e9 => ?_) (fun hct52 => ?_)
            · cases (show x9 = nI y1 from e9)
              refine lv_istore hx hb dW_plus_85 hl (by decide) rfl (fun ls hl => ?_)
              have hl : lv_has ls 8 [(6, .int (nI y1)), (0, .ref h), (1, .ref x2), (3, .int 1), (4, .int (nI o)), (5, .int (nI j))] := hl
              refine lp_cut (fun x9 : Int32 => x9 = nI x1) (fun x9 => [.int x9]) 107 ls (fun x9 e9 => ?_) (fun hct53 => ?_)
              · cases (show x9 = nI x1 from e9)
                refine lv_iload_n hx hb dW_plus_107 rfl (lv_at hl 3 rfl) ?_
                refine lv_if_eq (tgt := 116) hx hb dW_plus_108 rfl (fun h54 => absurd h54 (by decide)) (fun _ => ?_)
                refine lv_iload hx hb dW_plus_111 (lv_at hl 0 rfl) ?_
                refine lv_goto (tgt := 119) hx hb dW_plus_113 rfl ?_
                refine lv_iadd hx hb dW_plus_119 ?_
                refine lv_topi (fun y9 e9 => ?_)
                cases (show y9 = nI (x1 + y1) from e9.trans (nI_add x1 y1))
                refine lv_iload hx hb dW_plus_120 (lv_at hl 4 rfl) ?_
                refine lv_iadd hx hb dW_plus_122 ?_
                refine lv_topi (fun y9 e9 => ?_)
                cases (show y9 = nI ((x1 + y1) + o) from e9.trans (nI_add (x1 + y1) o))
                obtain ⟨s1, hs1⟩ : ∃ q9 : Nat, q9 = x1 + y1 + o := ⟨_, rfl⟩
                refine lv_topi (fun y9 e9 => ?_)
                cases (show y9 = nI s1 from e9.trans (by rw [hs1]))
                refine lv_istore hx hb dW_plus_123 hl (by decide) rfl (fun ls hl => ?_)
                have hl : lv_has ls 8 [(7, .int (nI s1)), (6, .int (nI y1)), (0, .ref h), (1, .ref x2), (3, .int 1), (4, .int (nI o)), (5, .int (nI j))] := hl
                refine lv_iload hx hb dW_plus_125 (lv_at hl 0 rfl) ?_
                refine lv_ldc (v := 1000000000) hx hb hown (hT _ w462) dW_plus_127 ?_
                refine lv_icmp_lt (tgt := 136) hx hb dW_plus_129 rfl (fun h55 => ?_) (fun h55 => ?_)
                · have gh55 : s1 < 1000000000 := (nI_ltI (a := s1) (b := 1000000000) (by omega) (by omega)).mp h55
                  refine lv_iload hx hb dW_plus_136 (lv_at hl 0 rfl) ?_
                  refine lv_if_ge (tgt := 145) hx hb dW_plus_138 rfl (fun _ => ?_) (fun h56 => absurd (nI_pos' (by omega)) h56)
                  obtain ⟨e1, he1⟩ : ∃ q9 : Nat, q9 = s1 := ⟨_, rfl⟩
                  have he1b : e1 < 1000000000 := by omega
                  refine lv_iconst (v := 0) hx hb dW_plus_145 (by decide) ?_
                  refine lv_istore hx hb dW_plus_146 hl (by decide) rfl (fun ls hl => ?_)
                  have hl : lv_has ls 8 [(4, .int 0), (7, .int (nI s1)), (6, .int (nI y1)), (0, .ref h), (1, .ref x2), (3, .int 1), (5, .int (nI j))] := hl
                  refine lv_aload_n hx hb dW_plus_148 rfl (lv_at hl 3 rfl) ?_
                  refine va_get (D := D) (ci := 4) (v := .ref w) (C := R_W) (T := T_W) (N := 3) hx hb hT in_W hown hK hP 0 rfl rfl 0 (by decide) (hT _ w145) (fun _ h9 => h9) rfl dW_plus_149 ?_
                  refine lv_iload hx hb dW_plus_152 (lv_at hl 6 rfl) ?_
                  refine lv_iload hx hb dW_plus_154 (lv_at hl 1 rfl) ?_
                  refine lv_iload hx hb dW_plus_156 (lv_at hl 0 rfl) ?_
                  refine lv_ldc (v := 1000000000) hx hb hown (hT _ w462) dW_plus_158 ?_
                  refine lv_imul hx hb dW_plus_160 ?_
                  refine lv_topi (fun y9 e9 => ?_)
                  cases (show y9 = 0 from e9.trans (by decide))
                  refine lv_isub hx hb dW_plus_161 ?_
                  refine lv_topi (fun y9 e9 => ?_)
                  cases (show y9 = nI e1 from e9.trans (by rw [he1]; exact Int32.sub_zero _))
                  refine lq_iast (j := j) hx hb hK hP hD hS 1 0 rfl rfl rfl (by omega) (by omega) dW_plus_162 (fun H locs hP hD hS => ?_)
                  have hP : va_P D vwCl [(h, .inr (4, [.ref w, .int (nI K), .int b])), (w, .inl (cT 0, R, .inl (upd g j (nI e1)))), (x2, .inr (4, [.ref w2, .int (nI K2), .int b2])), (w2, .inl (cT 0, R2, .inl f2))] _ := hP
                  have hD : va_D A [(h, .inr (4, [.ref w, .int (nI K), .int b])), (w, .inl (cT 0, R, .inl (upd g j (nI e1)))), (x2, .inr (4, [.ref w2, .int (nI K2), .int b2])), (w2, .inl (cT 0, R2, .inl f2))] := hD
                  refine lv_iinc (k := 6) (v := nI (j + 1)) hx hb dW_plus_163 hl rfl (nI_1 j) (by decide) rfl (fun ls hl => ?_)
                  have hl : lv_has ls 8 [(5, .int (nI (j + 1))), (4, .int 0), (7, .int (nI s1)), (6, .int (nI y1)), (0, .ref h), (1, .ref x2), (3, .int 1)] := hl
                  refine lv_goto (tgt := 32) hx hb dW_plus_166 rfl ?_
                  exact ih32 (j + 1, 0, 0, upd g j (nI e1)) (show (j + 1) ≤ R ∧ 0 ≤ 1 ∧ dok 1000000000 (upd g j (nI e1)) (j + 1) ∧ (∀ m, (j + 1) ≤ m → (upd g j (nI e1)) m = f m) ∧ 0 = nI 0 ∧ hv 1000000000 (dg (upd g j (nI e1))) 0 (j + 1) + 1000000000 ^ (j + 1) * 0 = hv 1000000000 (ct K (dg f)) 0 (j + 1) + hv 1000000000 (ct K2 (dg f2)) 0 (j + 1) from ⟨by omega, by omega, dok_s ig he1b (by decide), fun q h => (pk_un (by omega)).trans (if0 q (by omega)), by decide, by rw [hv_us (v := e1) (by omega), hv_snoc, hv_snoc, Nat.zero_add, Nat.pow_succ, ← hx1, ← hy1]; exact add_s iv (by omega)⟩) (show R - (j + 1) < R - j from (by omega)) ls H locs (lv_sub hl [4, 5, 6, 1, 0] rfl) hP hD hS
                · have gh55 : 1000000000 ≤ s1 := Nat.not_lt.mp (fun q => h55 ((nI_ltI (a := s1) (b := 1000000000) (by omega) (by omega)).mpr q))
                  obtain ⟨e1, he1⟩ : ∃ q9 : Nat, q9 = s1 - 1000000000 := ⟨_, rfl⟩
                  have he1b : e1 < 1000000000 := by omega
                  refine lv_iconst (v := 1) hx hb dW_plus_132 (by decide) ?_
                  refine lv_goto (tgt := 146) hx hb dW_plus_133 rfl ?_
                  refine lv_istore hx hb dW_plus_146 hl (by decide) rfl (fun ls hl => ?_)
                  have hl : lv_has ls 8 [(4, .int 1), (7, .int (nI s1)), (6, .int (nI y1)), (0, .ref h), (1, .ref x2), (3, .int 1), (5, .int (nI j))] := hl
                  refine lv_aload_n hx hb dW_plus_148 rfl (lv_at hl 3 rfl) ?_
                  refine va_get (D := D) (ci := 4) (v := .ref w) (C := R_W) (T := T_W) (N := 3) hx hb hT in_W hown hK hP 0 rfl rfl 0 (by decide) (hT _ w145) (fun _ h9 => h9) rfl dW_plus_149 ?_
                  refine lv_iload hx hb dW_plus_152 (lv_at hl 6 rfl) ?_
                  refine lv_iload hx hb dW_plus_154 (lv_at hl 1 rfl) ?_
                  refine lv_iload hx hb dW_plus_156 (lv_at hl 0 rfl) ?_
                  refine lv_ldc (v := 1000000000) hx hb hown (hT _ w462) dW_plus_158 ?_
                  refine lv_imul hx hb dW_plus_160 ?_
                  refine lv_topi (fun y9 e9 => ?_)
                  cases (show y9 = 1000000000 from e9.trans (by decide))
                  refine lv_isub hx hb dW_plus_161 ?_
                  refine lv_topi (fun y9 e9 => ?_)
                  cases (show y9 = nI e1 from e9.trans (by rw [he1]; exact pk_sub (a := s1) (b := 1000000000) (by omega)))
                  refine lq_iast (j := j) hx hb hK hP hD hS 1 0 rfl rfl rfl (by omega) (by omega) dW_plus_162 (fun H locs hP hD hS => ?_)
                  have hP : va_P D vwCl [(h, .inr (4, [.ref w, .int (nI K), .int b])), (w, .inl (cT 0, R, .inl (upd g j (nI e1)))), (x2, .inr (4, [.ref w2, .int (nI K2), .int b2])), (w2, .inl (cT 0, R2, .inl f2))] _ := hP
                  have hD : va_D A [(h, .inr (4, [.ref w, .int (nI K), .int b])), (w, .inl (cT 0, R, .inl (upd g j (nI e1)))), (x2, .inr (4, [.ref w2, .int (nI K2), .int b2])), (w2, .inl (cT 0, R2, .inl f2))] := hD
                  refine lv_iinc (k := 6) (v := nI (j + 1)) hx hb dW_plus_163 hl rfl (nI_1 j) (by decide) rfl (fun ls hl => ?_)
                  have hl : lv_has ls 8 [(5, .int (nI (j + 1))), (4, .int 1), (7, .int (nI s1)), (6, .int (nI y1)), (0, .ref h), (1, .ref x2), (3, .int 1)] := hl
                  refine lv_goto (tgt := 32) hx hb dW_plus_166 rfl ?_
                  exact ih32 (j + 1, 1, 1, upd g j (nI e1)) (show (j + 1) ≤ R ∧ 1 ≤ 1 ∧ dok 1000000000 (upd g j (nI e1)) (j + 1) ∧ (∀ m, (j + 1) ≤ m → (upd g j (nI e1)) m = f m) ∧ 1 = nI 1 ∧ hv 1000000000 (dg (upd g j (nI e1))) 0 (j + 1) + 1000000000 ^ (j + 1) * 1 = hv 1000000000 (ct K (dg f)) 0 (j + 1) + hv 1000000000 (ct K2 (dg f2)) 0 (j + 1) from ⟨by omega, by omega, dok_s ig he1b (by decide), fun q h => (pk_un (by omega)).trans (if0 q (by omega)), by decide, by rw [hv_us (v := e1) (by omega), hv_snoc, hv_snoc, Nat.zero_add, Nat.pow_succ, ← hx1, ← hy1]; exact add_s iv (by omega)⟩) (show R - (j + 1) < R - j from (by omega)) ls H locs (lv_sub hl [4, 5, 6, 1, 0] rfl) hP hD hS
              · refine lv_iload hx hb dW_plus_87 (lv_at hl 5 rfl) ?_
                refine lv_aload_n hx hb dW_plus_89 rfl (lv_at hl 1 rfl) ?_
                refine va_get (D := D) (ci := 4) (v := .int (nI K)) (C := R_W) (T := T_W) (N := 3) hx hb hT in_W hown hK hP 0 rfl rfl 1 (by decide) (hT _ w148) (fun _ h9 => h9) rfl dW_plus_90 ?_
                refine lv_icmp_ge (tgt := 106) hx hb dW_plus_93 rfl (fun _ => ?_) (fun h57 => absurd (Int32.not_lt.mp h33) h57)
                refine lv_iconst (v := 0) hx hb dW_plus_106 (by decide) ?_
                exact hct53 _ (by rw [hx1, ct_ge (show K ≤ j by omega)]; rfl)
            · refine lv_iload hx hb dW_plus_65 (lv_at hl 4 rfl) ?_
              refine lv_aload_n hx hb dW_plus_67 rfl (lv_at hl 1 rfl) ?_
              refine va_get (D := D) (ci := 4) (v := .int (nI K2)) (C := R_W) (T := T_W) (N := 3) hx hb hT in_W hown hK hP 2 rfl rfl 1 (by decide) (hT _ w148) (fun _ h9 => h9) rfl dW_plus_68 ?_
              refine lv_icmp_ge (tgt := 84) hx hb dW_plus_71 rfl (fun _ => ?_) (fun h58 => absurd (Int32.not_lt.mp h41) h58)
              refine lv_iconst (v := 0) hx hb dW_plus_84 (by decide) ?_
              exact hct52 _ (by rw [hy1, ct_ge (show K2 ≤ j by omega)]; rfl)
set_option maxHeartbeats 4000000 in
set_option maxRecDepth 100000 in
theorem k_plus1 (l : Launch) (D : va_G) (cT : Nat → ClassId) (h : Nat) (w : Nat) (R : Nat) (n : Int32) (b : Int32) (f : Nat → Int32) (z : Int) (x2 : Nat) (w2 : Nat) (R2 : Nat) (n2 : Int32) (b2 : Int32) (f2 : Nat → Int32) (z2 : Int) (hR : R ≤ 48) (hN : WN R n b f z) (hR2 : R2 ≤ 48) (hN2 : WN R2 n2 b2 f2 z2) (hfit : z.natAbs + z2.natAbs < 1000000000 ^ R) (sz : Nat) : Met l yW_plus WW_plus ({ frames := 1, cells := 0, slots := 0, locals := 24 } : Room) (RW D vwCl [.ref h, .ref x2, .int 1] [(h, .inr (4, [.ref w, .int n, .int b])), (w, .inl (cT 0, R, .inl f)), (x2, .inr (4, [.ref w2, .int n2, .int b2])), (w2, .inl (cT 0, R2, .inl f2))] (TY cT) sz) (va_Qv (fun u9 : Int32 × Int32 × (Nat → Int32) => WN R u9.1 u9.2.1 u9.2.2 (z - z2)) (BW D vwCl (va_A [(h, .inr (4, [.ref w, .int n, .int b])), (w, .inl (cT 0, R, .inl f)), (x2, .inr (4, [.ref w2, .int n2, .int b2])), (w2, .inl (cT 0, R2, .inl f2))] sz) (fun u9 : Int32 × Int32 × (Nat → Int32) => [(h, .inr (4, [.ref w, .int u9.1, .int u9.2.1])), (w, .inl (cT 0, R, .inl u9.2.2)), (x2, .inr (4, [.ref w2, .int n2, .int b2])), (w2, .inl (cT 0, R2, .inl f2))])) (va_A [(h, .inr (4, [.ref w, .int n, .int b])), (w, .inl (cT 0, R, .inl f)), (x2, .inr (4, [.ref w2, .int n2, .int b2])), (w2, .inl (cT 0, R2, .inl f2))] sz)) 0 0 (va_A [(h, .inr (4, [.ref w, .int n, .int b])), (w, .inl (cT 0, R, .inl f)), (x2, .inr (4, [.ref w2, .int n2, .int b2])), (w2, .inl (cT 0, R2, .inl f2))] sz) := by
  refine Met.ofW (cc := cW_plus) (maxL := 8) (ret := none) (by decide) rfl ?_
  intro p e s m args below meth c s₁ B hml hv
  obtain ⟨rfl, hsz, hZ, hP, hK, hD0⟩ := hv
  have hx := B.exec
  have hb := B.bytes
  have hr := B.returns
  have hts := atoms_spec (ws := WW_plus) B.pre
  have hT : ∀ w ∈ TB, w.before _ s = true := fun w h => hts w (List.mem_cons_of_mem _ h)
  have hown : s.vm.findClass R_W = some m.cls := findClass_of_methodNamed B.named
  have hlocks := B.notSynchronized
  subst hsz
  have hD := hD0.self (sz := s.heap.size)
  generalize hAe : va_A [(h, .inr (4, [.ref w, .int n, .int b])), (w, .inl (cT 0, R, .inl f)), (x2, .inr (4, [.ref w2, .int n2, .int b2])), (w2, .inl (cT 0, R2, .inl f2))] s.heap.size = A at hD hZ ⊢
  have hA : ∀ q : Nat, s.heap.size ≤ q → A q := fun q h => by rw [← hAe]; exact Or.inr h
  have hS : va_S A s.heap s.heap [] := va_S.rf
  have hl := lv_entry ([.ref h, .ref x2, .int 1]) (n := 8) (Nat.le_of_ble_eq_true rfl)
  rw [lg_entry_eq]
  generalize (lg_sl ([.ref h, .ref x2, .int 1]) ++ List.replicate (8 - (lg_sl ([.ref h, .ref x2, .int 1])).length) Slot.unset).toArray = ls at hl ⊢
  have hl : lv_has ls 8 [(0, .ref h), (1, .ref x2), (2, .int 1)] := hl
  obtain ⟨K, rfl, hk, hd, htop, hb01, hz⟩ := hN
  have hP : va_P D vwCl [(h, .inr (4, [.ref w, .int (nI K), .int b])), (w, .inl (cT 0, R, .inl f)), (x2, .inr (4, [.ref w2, .int n2, .int b2])), (w2, .inl (cT 0, R2, .inl f2))] _ := hP
  have hD : va_D A [(h, .inr (4, [.ref w, .int (nI K), .int b])), (w, .inl (cT 0, R, .inl f)), (x2, .inr (4, [.ref w2, .int n2, .int b2])), (w2, .inl (cT 0, R2, .inl f2))] := hD
  obtain ⟨K2, rfl, qhk, qhd, qhtop, qhb01, qhz⟩ := hN2
  have hP : va_P D vwCl [(h, .inr (4, [.ref w, .int (nI K), .int b])), (w, .inl (cT 0, R, .inl f)), (x2, .inr (4, [.ref w2, .int (nI K2), .int b2])), (w2, .inl (cT 0, R2, .inl f2))] _ := hP
  have hD : va_D A [(h, .inr (4, [.ref w, .int (nI K), .int b])), (w, .inl (cT 0, R, .inl f)), (x2, .inr (4, [.ref w2, .int (nI K2), .int b2])), (w2, .inl (cT 0, R2, .inl f2))] := hD
  rw [hz, qhz, wz_abs, wz_abs] at hfit
  have hK2R : K2 ≤ R := K_le qhtop (by omega)
  refine lv_aload_n hx hb dW_plus_0 rfl (lv_at hl 0 rfl) ?_
  refine va_get (D := D) (ci := 4) (v := .int b) (C := R_W) (T := T_W) (N := 3) hx hb hT in_W hown hK hP 0 rfl rfl 2 (by decide) (hT _ w149) (fun _ h9 => h9) rfl dW_plus_1 ?_
  refine lv_aload_n hx hb dW_plus_4 rfl (lv_at hl 1 rfl) ?_
  refine va_get (D := D) (ci := 4) (v := .int b2) (C := R_W) (T := T_W) (N := 3) hx hb hT in_W hown hK hP 2 rfl rfl 2 (by decide) (hT _ w149) (fun _ h9 => h9) rfl dW_plus_5 ?_
  refine lv_icmp_ne (tgt := 15) hx hb dW_plus_8 rfl (fun h1 => ?_) (fun h1 => ?_)
  · refine lv_iconst (v := 0) hx hb dW_plus_15 (by decide) ?_
    refine lv_iload_n hx hb dW_plus_16 rfl (lv_at hl 2 rfl) ?_
    refine lv_icmp_eq (tgt := 24) hx hb dW_plus_17 rfl (fun h2 => absurd h2 (by decide)) (fun _ => ?_)
    refine lv_iconst (v := 1) hx hb dW_plus_20 (by decide) ?_
    refine lv_goto (tgt := 25) hx hb dW_plus_21 rfl ?_
    refine lv_istore_n hx hb dW_plus_25 rfl hl (by decide) rfl (fun ls hl => ?_)
    have hl : lv_has ls 8 [(3, .int 1), (0, .ref h), (1, .ref x2), (2, .int 1)] := hl
    refine lv_iconst (v := 0) hx hb dW_plus_26 (by decide) ?_
    refine lv_istore hx hb dW_plus_27 hl (by decide) rfl (fun ls hl => ?_)
    have hl : lv_has ls 8 [(4, .int 0), (3, .int 1), (0, .ref h), (1, .ref x2), (2, .int 1)] := hl
    refine lv_iconst (v := 0) hx hb dW_plus_29 (by decide) ?_
    refine lv_istore hx hb dW_plus_30 hl (by decide) rfl (fun ls hl => ?_)
    have hl : lv_has ls 8 [(5, .int 0), (4, .int 0), (3, .int 1), (0, .ref h), (1, .ref x2), (2, .int 1)] := hl
    refine lp_w (α := Nat × Nat × Int32 × (Nat → Int32)) (fun a9 => a9.1 ≤ R ∧ a9.2.1 ≤ 1 ∧ dok 1000000000 a9.2.2.2 a9.1 ∧ (∀ m, a9.1 ≤ m → a9.2.2.2 m = f m) ∧ a9.2.2.1 = nI a9.2.1 ∧ hv 1000000000 (dg a9.2.2.2) 0 a9.1 + 1000000000 ^ a9.1 * a9.2.1 = hv 1000000000 (ct K (dg f)) 0 a9.1 + hv 1000000000 (ct K2 (dg f2)) 0 a9.1) (fun a9 => R - a9.1) (fun a9 => [(0, .ref h), (1, .ref x2), (3, .int 1), (4, .int a9.2.2.1), (5, .int (nI a9.1))]) (fun a9 => [(h, .inr (4, [.ref w, .int (nI K), .int b])), (w, .inl (cT 0, R, .inl a9.2.2.2)), (x2, .inr (4, [.ref w2, .int (nI K2), .int b2])), (w2, .inl (cT 0, R2, .inl f2))]) 32 ?_ (0, 0, 0, f) (show 0 ≤ R ∧ 0 ≤ 1 ∧ dok 1000000000 f 0 ∧ (∀ m, 0 ≤ m → f m = f m) ∧ 0 = nI 0 ∧ hv 1000000000 (dg f) 0 0 + 1000000000 ^ 0 * 0 = hv 1000000000 (ct K (dg f)) 0 0 + hv 1000000000 (ct K2 (dg f2)) 0 0 from ⟨by omega, by omega, fun q h => absurd h (by omega), fun _ _ => rfl, by decide, by simp [hv]⟩) (lv_sub hl [3, 4, 2, 1, 0] rfl) hP hD hS
    intro a9 hI32 ih32 ls H locs hl hP hD hS
    obtain ⟨j, o, cr, g⟩ := a9
    have hI32 : j ≤ R ∧ o ≤ 1 ∧ dok 1000000000 g j ∧ (∀ m, j ≤ m → g m = f m) ∧ cr = nI o ∧ hv 1000000000 (dg g) 0 j + 1000000000 ^ j * o = hv 1000000000 (ct K (dg f)) 0 j + hv 1000000000 (ct K2 (dg f2)) 0 j := hI32
    obtain ⟨ij, io, ig, if0, icr, iv⟩ := hI32
    have hl : lv_has ls 8 [(0, .ref h), (1, .ref x2), (3, .int 1), (4, .int cr), (5, .int (nI j))] := hl
    have hP : va_P D vwCl [(h, .inr (4, [.ref w, .int (nI K), .int b])), (w, .inl (cT 0, R, .inl g)), (x2, .inr (4, [.ref w2, .int (nI K2), .int b2])), (w2, .inl (cT 0, R2, .inl f2))] _ := hP
    have hD : va_D A [(h, .inr (4, [.ref w, .int (nI K), .int b])), (w, .inl (cT 0, R, .inl g)), (x2, .inr (4, [.ref w2, .int (nI K2), .int b2])), (w2, .inl (cT 0, R2, .inl f2))] := hD
    subst icr
    have hl : lv_has ls 8 [(0, .ref h), (1, .ref x2), (3, .int 1), (4, .int (nI o)), (5, .int (nI j))] := hl
    have hP : va_P D vwCl [(h, .inr (4, [.ref w, .int (nI K), .int b])), (w, .inl (cT 0, R, .inl g)), (x2, .inr (4, [.ref w2, .int (nI K2), .int b2])), (w2, .inl (cT 0, R2, .inl f2))] _ := hP
    have hD : va_D A [(h, .inr (4, [.ref w, .int (nI K), .int b])), (w, .inl (cT 0, R, .inl g)), (x2, .inr (4, [.ref w2, .int (nI K2), .int b2])), (w2, .inl (cT 0, R2, .inl f2))] := hD
    refine lv_iload hx hb dW_plus_32 (lv_at hl 4 rfl) ?_
    refine lv_aload_n hx hb dW_plus_34 rfl (lv_at hl 0 rfl) ?_
    refine va_get (D := D) (ci := 4) (v := .ref w) (C := R_W) (T := T_W) (N := 3) hx hb hT in_W hown hK hP 0 rfl rfl 0 (by decide) (hT _ w145) (fun _ h9 => h9) rfl dW_plus_35 ?_
    refine va_alen (v := nI R) hx hb hK hP 1 0 rfl rfl rfl dW_plus_38 ?_
    refine lv_icmp_ge (tgt := 169) hx hb dW_plus_39 rfl (fun h3 => ?_) (fun h3 => ?_)
    · have gh3 : R ≤ j := (nI_leI (a := R) (b := j) (by omega) (by omega)).mp h3
      have hjK : K ≤ j ∧ K2 ≤ j := by omega
      rw [hv_ct hjK.1, hv_ct hjK.2] at iv
      have iv : vW g j + 1000000000 ^ j * o = vW f K + vW f2 K2 := iv
      have ho : o = 0 := by
        have e1 : j = R := by omega
        rw [e1] at iv
        rcases (show o = 0 ∨ o = 1 by omega) with r | r
        · exact r
        · rw [r, Nat.mul_one] at iv; omega
      rw [ho, Nat.mul_zero, Nat.add_zero] at iv
      refine lv_iload hx hb dW_plus_169 (lv_at hl 3 rfl) ?_
      refine lv_if_ge (tgt := 180) hx hb dW_plus_171 rfl (fun _ => ?_) (fun h4 => absurd (nI_pos' (by omega)) h4)
      refine lv_aload_n hx hb dW_plus_180 rfl (lv_at hl 0 rfl) ?_
      refine lv_iload hx hb dW_plus_181 (lv_at hl 4 rfl) ?_
      refine rw_v (wc := [(h, .inr (4, [.ref w, .int (nI K), .int b])), (w, .inl (cT 0, R, .inl g))]) (wr := [(x2, .inr (4, [.ref w2, .int (nI K2), .int b2])), (w2, .inl (cT 0, R2, .inl f2))]) hP hD hS hA [0, 1] [2, 3] rfl rfl (by decide) (by decide) (va_runV (As := [.int (nI j)]) (rest := []) ⟨hx, hb, hml, hown, hT⟩ (k_trim l D cT h w R (nI K) b g j hR ij ig _) ⟨callB_of 1 hT (tb_gd w397) rfl rfl rfl (hT _ w5) (hT _ w394) hW_trim ⟨Nat.le_of_ble_eq_true rfl, Nat.le_of_ble_eq_true rfl⟩, (hT _ w396), (hT _ wp3)⟩ (RW.preV (ci := 4) (q0 := 0) hZ hS (va_free (wc := [(h, .inr (4, [.ref w, .int (nI K), .int b])), (w, .inl (cT 0, R, .inl g))]) hD hS hA [0, 1] rfl) (hP.sub (ws' := [(h, .inr (4, [.ref w, .int (nI K), .int b])), (w, .inl (cT 0, R, .inl g))]) [0, 1] rfl) hK (hD.sub (ws' := [(h, .inr (4, [.ref w, .int (nI K), .int b])), (w, .inl (cT 0, R, .inl g))]) [0, 1] (by decide) rfl) rfl rfl) rfl rfl hl.1 rfl (lv_room (Nat.le_of_ble_eq_true rfl)) dW_plus_183 ⟨Nat.le_of_ble_eq_true rfl, Nat.le_of_ble_eq_true rfl⟩) (fun u9 H locs hpu5 hP hD hS => ?_)
      obtain ⟨ku5, rfl⟩ : ∃ q9, q9 = u9 := ⟨_, rfl⟩
      have hpu5 : ku5 ≤ j ∧ top0 g ku5 ∧ vW g ku5 = vW g j := hpu5
      have hP : va_P D vwCl [(x2, .inr (4, [.ref w2, .int (nI K2), .int b2])), (w2, .inl (cT 0, R2, .inl f2)), (h, .inr (4, [.ref w, .int (nI ku5), .int b])), (w, .inl (cT 0, R, .inl g))] _ := hP
      have hD : va_D A [(x2, .inr (4, [.ref w2, .int (nI K2), .int b2])), (w2, .inl (cT 0, R2, .inl f2)), (h, .inr (4, [.ref w, .int (nI ku5), .int b])), (w, .inl (cT 0, R, .inl g))] := hD
      have hP9 := hP.sub (ws' := [(h, .inr (4, [.ref w, .int (nI ku5), .int b])), (w, .inl (cT 0, R, .inl g)), (x2, .inr (4, [.ref w2, .int (nI K2), .int b2])), (w2, .inl (cT 0, R2, .inl f2))]) [2, 3, 0, 1] rfl
      have hD9 := hD.sub (ws' := [(h, .inr (4, [.ref w, .int (nI ku5), .int b])), (w, .inl (cT 0, R, .inl g)), (x2, .inr (4, [.ref w2, .int (nI K2), .int b2])), (w2, .inl (cT 0, R2, .inl f2))]) [2, 3, 0, 1] (by decide) rfl
      refine W.widen (k := 0) (n := 0) (Nat.le_of_ble_eq_true rfl) (Nat.le_of_ble_eq_true rfl) ?_
      exact W.vret hx hb hr (fun t ht hW => ⟨⟨(nI ku5, b, g), rfl, (show WN R (nI ku5) b g (z - z2) from by have q0 := wn_trim (R := R) (b := b) ij ig hb01 hpu5; rw [hz, qhz, fl_ne hb01 qhb01 h1, wz_fl]; rw [show vW g j = vW f K + vW f2 K2 from iv] at q0; rw [Int.sub_neg, wz_add]; exact q0), by rw [ht]; exact hP9, hD9⟩, hS.F ht⟩) hS.2.2 dW_plus_186
    · have gh3 : j < R := Nat.not_le.mp (fun q => h3 ((nI_leI (a := R) (b := j) (by omega) (by omega)).mpr q))
      refine lv_iload hx hb dW_plus_42 (lv_at hl 4 rfl) ?_
      refine lv_aload_n hx hb dW_plus_44 rfl (lv_at hl 0 rfl) ?_
      refine va_get (D := D) (ci := 4) (v := .int (nI K)) (C := R_W) (T := T_W) (N := 3) hx hb hT in_W hown hK hP 0 rfl rfl 1 (by decide) (hT _ w148) (fun _ h9 => h9) rfl dW_plus_45 ?_
      refine lv_icmp_lt (tgt := 65) hx hb dW_plus_48 rfl (fun h6 => ?_) (fun h6 => ?_)
      · have gh6 : j < K := (nI_ltI (a := j) (b := K) (by omega) (by omega)).mp h6
        obtain ⟨y1, hy1⟩ : ∃ q9 : Nat, q9 = ct K2 (dg f2) j := ⟨_, rfl⟩
        obtain ⟨x1, hx1⟩ : ∃ q9 : Nat, q9 = ct K (dg f) j := ⟨_, rfl⟩
        have hy1b : y1 < 1000000000 := by
          rw [hy1]
          by_cases q : j < K2
          · rw [ct_lt q]; exact (qhd j q).2
          · rw [ct_ge (show K2 ≤ j by omega)]; decide
        have hx1b : x1 < 1000000000 := by
          rw [hx1]
          by_cases q : j < K
          · rw [ct_lt q]; exact (hd j q).2
          · rw [ct_ge (show K ≤ j by omega)]; decide
        refine lp_cut (fun x9 : Int32 => x9 = nI y1) (fun x9 => [.int x9]) 85 ls (fun x9 e9 => ?_) (fun hct7 => ?_)
        · cases (show x9 = nI y1 from e9)
          refine lv_istore hx hb dW_plus_85 hl (by decide) rfl (fun ls hl => ?_)
          have hl : lv_has ls 8 [(6, .int (nI y1)), (0, .ref h), (1, .ref x2), (3, .int 1), (4, .int (nI o)), (5, .int (nI j))] := hl
          refine lp_cut (fun x9 : Int32 => x9 = nI x1) (fun x9 => [.int x9]) 107 ls (fun x9 e9 => ?_) (fun hct8 => ?_)
          · cases (show x9 = nI x1 from e9)
            refine lv_iload_n hx hb dW_plus_107 rfl (lv_at hl 3 rfl) ?_
            refine lv_if_eq (tgt := 116) hx hb dW_plus_108 rfl (fun h9 => absurd h9 (by decide)) (fun _ => ?_)
            refine lv_iload hx hb dW_plus_111 (lv_at hl 0 rfl) ?_
            refine lv_goto (tgt := 119) hx hb dW_plus_113 rfl ?_
            refine lv_iadd hx hb dW_plus_119 ?_
            refine lv_topi (fun y9 e9 => ?_)
            cases (show y9 = nI (x1 + y1) from e9.trans (nI_add x1 y1))
            refine lv_iload hx hb dW_plus_120 (lv_at hl 4 rfl) ?_
            refine lv_iadd hx hb dW_plus_122 ?_
            refine lv_topi (fun y9 e9 => ?_)
            cases (show y9 = nI ((x1 + y1) + o) from e9.trans (nI_add (x1 + y1) o))
            obtain ⟨s1, hs1⟩ : ∃ q9 : Nat, q9 = x1 + y1 + o := ⟨_, rfl⟩
            refine lv_topi (fun y9 e9 => ?_)
            cases (show y9 = nI s1 from e9.trans (by rw [hs1]))
            refine lv_istore hx hb dW_plus_123 hl (by decide) rfl (fun ls hl => ?_)
            have hl : lv_has ls 8 [(7, .int (nI s1)), (6, .int (nI y1)), (0, .ref h), (1, .ref x2), (3, .int 1), (4, .int (nI o)), (5, .int (nI j))] := hl
            refine lv_iload hx hb dW_plus_125 (lv_at hl 0 rfl) ?_
            refine lv_ldc (v := 1000000000) hx hb hown (hT _ w462) dW_plus_127 ?_
            refine lv_icmp_lt (tgt := 136) hx hb dW_plus_129 rfl (fun h10 => ?_) (fun h10 => ?_)
            · have gh10 : s1 < 1000000000 := (nI_ltI (a := s1) (b := 1000000000) (by omega) (by omega)).mp h10
              refine lv_iload hx hb dW_plus_136 (lv_at hl 0 rfl) ?_
              refine lv_if_ge (tgt := 145) hx hb dW_plus_138 rfl (fun _ => ?_) (fun h11 => absurd (nI_pos' (by omega)) h11)
              obtain ⟨e1, he1⟩ : ∃ q9 : Nat, q9 = s1 := ⟨_, rfl⟩
              have he1b : e1 < 1000000000 := by omega
              refine lv_iconst (v := 0) hx hb dW_plus_145 (by decide) ?_
              refine lv_istore hx hb dW_plus_146 hl (by decide) rfl (fun ls hl => ?_)
              have hl : lv_has ls 8 [(4, .int 0), (7, .int (nI s1)), (6, .int (nI y1)), (0, .ref h), (1, .ref x2), (3, .int 1), (5, .int (nI j))] := hl
              refine lv_aload_n hx hb dW_plus_148 rfl (lv_at hl 3 rfl) ?_
              refine va_get (D := D) (ci := 4) (v := .ref w) (C := R_W) (T := T_W) (N := 3) hx hb hT in_W hown hK hP 0 rfl rfl 0 (by decide) (hT _ w145) (fun _ h9 => h9) rfl dW_plus_149 ?_
              refine lv_iload hx hb dW_plus_152 (lv_at hl 6 rfl) ?_
              refine lv_iload hx hb dW_plus_154 (lv_at hl 1 rfl) ?_
              refine lv_iload hx hb dW_plus_156 (lv_at hl 0 rfl) ?_
              refine lv_ldc (v := 1000000000) hx hb hown (hT _ w462) dW_plus_158 ?_
              refine lv_imul hx hb dW_plus_160 ?_
              refine lv_topi (fun y9 e9 => ?_)
              cases (show y9 = 0 from e9.trans (by decide))
              refine lv_isub hx hb dW_plus_161 ?_
              refine lv_topi (fun y9 e9 => ?_)
              cases (show y9 = nI e1 from e9.trans (by rw [he1]; exact Int32.sub_zero _))
              refine lq_iast (j := j) hx hb hK hP hD hS 1 0 rfl rfl rfl (by omega) (by omega) dW_plus_162 (fun H locs hP hD hS => ?_)
              have hP : va_P D vwCl [(h, .inr (4, [.ref w, .int (nI K), .int b])), (w, .inl (cT 0, R, .inl (upd g j (nI e1)))), (x2, .inr (4, [.ref w2, .int (nI K2), .int b2])), (w2, .inl (cT 0, R2, .inl f2))] _ := hP
              have hD : va_D A [(h, .inr (4, [.ref w, .int (nI K), .int b])), (w, .inl (cT 0, R, .inl (upd g j (nI e1)))), (x2, .inr (4, [.ref w2, .int (nI K2), .int b2])), (w2, .inl (cT 0, R2, .inl f2))] := hD
              refine lv_iinc (k := 6) (v := nI (j + 1)) hx hb dW_plus_163 hl rfl (nI_1 j) (by decide) rfl (fun ls hl => ?_)
              have hl : lv_has ls 8 [(5, .int (nI (j + 1))), (4, .int 0), (7, .int (nI s1)), (6, .int (nI y1)), (0, .ref h), (1, .ref x2), (3, .int 1)] := hl
              refine lv_goto (tgt := 32) hx hb dW_plus_166 rfl ?_
              exact ih32 (j + 1, 0, 0, upd g j (nI e1)) (show (j + 1) ≤ R ∧ 0 ≤ 1 ∧ dok 1000000000 (upd g j (nI e1)) (j + 1) ∧ (∀ m, (j + 1) ≤ m → (upd g j (nI e1)) m = f m) ∧ 0 = nI 0 ∧ hv 1000000000 (dg (upd g j (nI e1))) 0 (j + 1) + 1000000000 ^ (j + 1) * 0 = hv 1000000000 (ct K (dg f)) 0 (j + 1) + hv 1000000000 (ct K2 (dg f2)) 0 (j + 1) from ⟨by omega, by omega, dok_s ig he1b (by decide), fun q h => (pk_un (by omega)).trans (if0 q (by omega)), by decide, by rw [hv_us (v := e1) (by omega), hv_snoc, hv_snoc, Nat.zero_add, Nat.pow_succ, ← hx1, ← hy1]; exact add_s iv (by omega)⟩) (show R - (j + 1) < R - j from (by omega)) ls H locs (lv_sub hl [4, 5, 6, 1, 0] rfl) hP hD hS
            · have gh10 : 1000000000 ≤ s1 := Nat.not_lt.mp (fun q => h10 ((nI_ltI (a := s1) (b := 1000000000) (by omega) (by omega)).mpr q))
              obtain ⟨e1, he1⟩ : ∃ q9 : Nat, q9 = s1 - 1000000000 := ⟨_, rfl⟩
              have he1b : e1 < 1000000000 := by omega
              refine lv_iconst (v := 1) hx hb dW_plus_132 (by decide) ?_
              refine lv_goto (tgt := 146) hx hb dW_plus_133 rfl ?_
              refine lv_istore hx hb dW_plus_146 hl (by decide) rfl (fun ls hl => ?_)
              have hl : lv_has ls 8 [(4, .int 1), (7, .int (nI s1)), (6, .int (nI y1)), (0, .ref h), (1, .ref x2), (3, .int 1), (5, .int (nI j))] := hl
              refine lv_aload_n hx hb dW_plus_148 rfl (lv_at hl 3 rfl) ?_
              refine va_get (D := D) (ci := 4) (v := .ref w) (C := R_W) (T := T_W) (N := 3) hx hb hT in_W hown hK hP 0 rfl rfl 0 (by decide) (hT _ w145) (fun _ h9 => h9) rfl dW_plus_149 ?_
              refine lv_iload hx hb dW_plus_152 (lv_at hl 6 rfl) ?_
              refine lv_iload hx hb dW_plus_154 (lv_at hl 1 rfl) ?_
              refine lv_iload hx hb dW_plus_156 (lv_at hl 0 rfl) ?_
              refine lv_ldc (v := 1000000000) hx hb hown (hT _ w462) dW_plus_158 ?_
              refine lv_imul hx hb dW_plus_160 ?_
              refine lv_topi (fun y9 e9 => ?_)
              cases (show y9 = 1000000000 from e9.trans (by decide))
              refine lv_isub hx hb dW_plus_161 ?_
              refine lv_topi (fun y9 e9 => ?_)
              cases (show y9 = nI e1 from e9.trans (by rw [he1]; exact pk_sub (a := s1) (b := 1000000000) (by omega)))
              refine lq_iast (j := j) hx hb hK hP hD hS 1 0 rfl rfl rfl (by omega) (by omega) dW_plus_162 (fun H locs hP hD hS => ?_)
              have hP : va_P D vwCl [(h, .inr (4, [.ref w, .int (nI K), .int b])), (w, .inl (cT 0, R, .inl (upd g j (nI e1)))), (x2, .inr (4, [.ref w2, .int (nI K2), .int b2])), (w2, .inl (cT 0, R2, .inl f2))] _ := hP
              have hD : va_D A [(h, .inr (4, [.ref w, .int (nI K), .int b])), (w, .inl (cT 0, R, .inl (upd g j (nI e1)))), (x2, .inr (4, [.ref w2, .int (nI K2), .int b2])), (w2, .inl (cT 0, R2, .inl f2))] := hD
              refine lv_iinc (k := 6) (v := nI (j + 1)) hx hb dW_plus_163 hl rfl (nI_1 j) (by decide) rfl (fun ls hl => ?_)
              have hl : lv_has ls 8 [(5, .int (nI (j + 1))), (4, .int 1), (7, .int (nI s1)), (6, .int (nI y1)), (0, .ref h), (1, .ref x2), (3, .int 1)] := hl
              refine lv_goto (tgt := 32) hx hb dW_plus_166 rfl ?_
              exact ih32 (j + 1, 1, 1, upd g j (nI e1)) (show (j + 1) ≤ R ∧ 1 ≤ 1 ∧ dok 1000000000 (upd g j (nI e1)) (j + 1) ∧ (∀ m, (j + 1) ≤ m → (upd g j (nI e1)) m = f m) ∧ 1 = nI 1 ∧ hv 1000000000 (dg (upd g j (nI e1))) 0 (j + 1) + 1000000000 ^ (j + 1) * 1 = hv 1000000000 (ct K (dg f)) 0 (j + 1) + hv 1000000000 (ct K2 (dg f2)) 0 (j + 1) from ⟨by omega, by omega, dok_s ig he1b (by decide), fun q h => (pk_un (by omega)).trans (if0 q (by omega)), by decide, by rw [hv_us (v := e1) (by omega), hv_snoc, hv_snoc, Nat.zero_add, Nat.pow_succ, ← hx1, ← hy1]; exact add_s iv (by omega)⟩) (show R - (j + 1) < R - j from (by omega)) ls H locs (lv_sub hl [4, 5, 6, 1, 0] rfl) hP hD hS
          · refine lv_iload hx hb dW_plus_87 (lv_at hl 5 rfl) ?_
            refine lv_aload_n hx hb dW_plus_89 rfl (lv_at hl 1 rfl) ?_
            refine va_get (D := D) (ci := 4) (v := .int (nI K)) (C := R_W) (T := T_W) (N := 3) hx hb hT in_W hown hK hP 0 rfl rfl 1 (by decide) (hT _ w148) (fun _ h9 => h9) rfl dW_plus_90 ?_
            refine lv_icmp_ge (tgt := 106) hx hb dW_plus_93 rfl (fun h12 => absurd h12 (Int32.not_le.mpr h6)) (fun _ => ?_)
            refine lv_aload_n hx hb dW_plus_96 rfl (lv_at hl 1 rfl) ?_
            refine va_get (D := D) (ci := 4) (v := .ref w) (C := R_W) (T := T_W) (N := 3) hx hb hT in_W hown hK hP 0 rfl rfl 0 (by decide) (hT _ w145) (fun _ h9 => h9) rfl dW_plus_97 ?_
            refine lv_iload hx hb dW_plus_100 (lv_at hl 5 rfl) ?_
            refine lq_iald (j := j) hx hb hK hP 1 0 rfl rfl rfl (by omega) (by omega) dW_plus_102 ?_
            refine lv_goto (tgt := 107) hx hb dW_plus_103 rfl ?_
            exact hct8 _ (by rw [if0 j (Nat.le_refl _), hx1, ct_lt (show j < K by omega)]; exact (hd j (by omega)).1)
        · refine lv_iload hx hb dW_plus_65 (lv_at hl 4 rfl) ?_
          refine lv_aload_n hx hb dW_plus_67 rfl (lv_at hl 1 rfl) ?_
          refine va_get (D := D) (ci := 4) (v := .int (nI K2)) (C := R_W) (T := T_W) (N := 3) hx hb hT in_W hown hK hP 2 rfl rfl 1 (by decide) (hT _ w148) (fun _ h9 => h9) rfl dW_plus_68 ?_
          refine lv_icmp_ge (tgt := 84) hx hb dW_plus_71 rfl (fun h13 => ?_) (fun h13 => ?_)
          · have gh13 : K2 ≤ j := (nI_leI (a := K2) (b := j) (by omega) (by omega)).mp h13
            refine lv_iconst (v := 0) hx hb dW_plus_84 (by decide) ?_
            exact hct7 _ (by rw [hy1, ct_ge (show K2 ≤ j by omega)]; rfl)
          · have gh13 : j < K2 := Nat.not_le.mp (fun q => h13 ((nI_leI (a := K2) (b := j) (by omega) (by omega)).mpr q))
            refine lv_aload_n hx hb dW_plus_74 rfl (lv_at hl 1 rfl) ?_
            refine va_get (D := D) (ci := 4) (v := .ref w2) (C := R_W) (T := T_W) (N := 3) hx hb hT in_W hown hK hP 2 rfl rfl 0 (by decide) (hT _ w145) (fun _ h9 => h9) rfl dW_plus_75 ?_
            refine lv_iload hx hb dW_plus_78 (lv_at hl 4 rfl) ?_
            refine lq_iald (j := j) hx hb hK hP 3 0 rfl rfl rfl (by omega) (by omega) dW_plus_80 ?_
            refine lv_goto (tgt := 85) hx hb dW_plus_81 rfl ?_
            exact hct7 _ (by rw [hy1, ct_lt (show j < K2 by omega)]; exact (qhd j (by omega)).1)
      · have gh6 : K ≤ j := Nat.not_lt.mp (fun q => h6 ((nI_ltI (a := j) (b := K) (by omega) (by omega)).mpr q))
        refine lv_iload hx hb dW_plus_51 (lv_at hl 4 rfl) ?_
        refine lv_aload_n hx hb dW_plus_53 rfl (lv_at hl 1 rfl) ?_
        refine va_get (D := D) (ci := 4) (v := .int (nI K2)) (C := R_W) (T := T_W) (N := 3) hx hb hT in_W hown hK hP 2 rfl rfl 1 (by decide) (hT _ w148) (fun _ h9 => h9) rfl dW_plus_54 ?_
        refine lv_icmp_lt (tgt := 65) hx hb dW_plus_57 rfl (fun h14 => ?_) (fun h14 => ?_)
        · have gh14 : j < K2 := (nI_ltI (a := j) (b := K2) (by omega) (by omega)).mp h14
          obtain ⟨y1, hy1⟩ : ∃ q9 : Nat, q9 = ct K2 (dg f2) j := ⟨_, rfl⟩
          obtain ⟨x1, hx1⟩ : ∃ q9 : Nat, q9 = ct K (dg f) j := ⟨_, rfl⟩
          have hy1b : y1 < 1000000000 := by
            rw [hy1]
            by_cases q : j < K2
            · rw [ct_lt q]; exact (qhd j q).2
            · rw [ct_ge (show K2 ≤ j by omega)]; decide
          have hx1b : x1 < 1000000000 := by
            rw [hx1]
            by_cases q : j < K
            · rw [ct_lt q]; exact (hd j q).2
            · rw [ct_ge (show K ≤ j by omega)]; decide
          refine lp_cut (fun x9 : Int32 => x9 = nI y1) (fun x9 => [.int x9]) 85 ls (fun x9 e9 => ?_) (fun hct15 => ?_)
          · cases (show x9 = nI y1 from e9)
            refine lv_istore hx hb dW_plus_85 hl (by decide) rfl (fun ls hl => ?_)
            have hl : lv_has ls 8 [(6, .int (nI y1)), (0, .ref h), (1, .ref x2), (3, .int 1), (4, .int (nI o)), (5, .int (nI j))] := hl
            refine lp_cut (fun x9 : Int32 => x9 = nI x1) (fun x9 => [.int x9]) 107 ls (fun x9 e9 => ?_) (fun hct16 => ?_)
            · cases (show x9 = nI x1 from e9)
              refine lv_iload_n hx hb dW_plus_107 rfl (lv_at hl 3 rfl) ?_
              refine lv_if_eq (tgt := 116) hx hb dW_plus_108 rfl (fun h17 => absurd h17 (by decide)) (fun _ => ?_)
              refine lv_iload hx hb dW_plus_111 (lv_at hl 0 rfl) ?_
              refine lv_goto (tgt := 119) hx hb dW_plus_113 rfl ?_
              refine lv_iadd hx hb dW_plus_119 ?_
              refine lv_topi (fun y9 e9 => ?_)
              cases (show y9 = nI (x1 + y1) from e9.trans (nI_add x1 y1))
              refine lv_iload hx hb dW_plus_120 (lv_at hl 4 rfl) ?_
              refine lv_iadd hx hb dW_plus_122 ?_
              refine lv_topi (fun y9 e9 => ?_)
              cases (show y9 = nI ((x1 + y1) + o) from e9.trans (nI_add (x1 + y1) o))
              obtain ⟨s1, hs1⟩ : ∃ q9 : Nat, q9 = x1 + y1 + o := ⟨_, rfl⟩
              refine lv_topi (fun y9 e9 => ?_)
              cases (show y9 = nI s1 from e9.trans (by rw [hs1]))
              refine lv_istore hx hb dW_plus_123 hl (by decide) rfl (fun ls hl => ?_)
              have hl : lv_has ls 8 [(7, .int (nI s1)), (6, .int (nI y1)), (0, .ref h), (1, .ref x2), (3, .int 1), (4, .int (nI o)), (5, .int (nI j))] := hl
              refine lv_iload hx hb dW_plus_125 (lv_at hl 0 rfl) ?_
              refine lv_ldc (v := 1000000000) hx hb hown (hT _ w462) dW_plus_127 ?_
              refine lv_icmp_lt (tgt := 136) hx hb dW_plus_129 rfl (fun h18 => ?_) (fun h18 => ?_)
              · have gh18 : s1 < 1000000000 := (nI_ltI (a := s1) (b := 1000000000) (by omega) (by omega)).mp h18
                refine lv_iload hx hb dW_plus_136 (lv_at hl 0 rfl) ?_
                refine lv_if_ge (tgt := 145) hx hb dW_plus_138 rfl (fun _ => ?_) (fun h19 => absurd (nI_pos' (by omega)) h19)
                obtain ⟨e1, he1⟩ : ∃ q9 : Nat, q9 = s1 := ⟨_, rfl⟩
                have he1b : e1 < 1000000000 := by omega
                refine lv_iconst (v := 0) hx hb dW_plus_145 (by decide) ?_
                refine lv_istore hx hb dW_plus_146 hl (by decide) rfl (fun ls hl => ?_)
                have hl : lv_has ls 8 [(4, .int 0), (7, .int (nI s1)), (6, .int (nI y1)), (0, .ref h), (1, .ref x2), (3, .int 1), (5, .int (nI j))] := hl
                refine lv_aload_n hx hb dW_plus_148 rfl (lv_at hl 3 rfl) ?_
                refine va_get (D := D) (ci := 4) (v := .ref w) (C := R_W) (T := T_W) (N := 3) hx hb hT in_W hown hK hP 0 rfl rfl 0 (by decide) (hT _ w145) (fun _ h9 => h9) rfl dW_plus_149 ?_
                refine lv_iload hx hb dW_plus_152 (lv_at hl 6 rfl) ?_
                refine lv_iload hx hb dW_plus_154 (lv_at hl 1 rfl) ?_
                refine lv_iload hx hb dW_plus_156 (lv_at hl 0 rfl) ?_
                refine lv_ldc (v := 1000000000) hx hb hown (hT _ w462) dW_plus_158 ?_
                refine lv_imul hx hb dW_plus_160 ?_
                refine lv_topi (fun y9 e9 => ?_)
                cases (show y9 = 0 from e9.trans (by decide))
                refine lv_isub hx hb dW_plus_161 ?_
                refine lv_topi (fun y9 e9 => ?_)
                cases (show y9 = nI e1 from e9.trans (by rw [he1]; exact Int32.sub_zero _))
                refine lq_iast (j := j) hx hb hK hP hD hS 1 0 rfl rfl rfl (by omega) (by omega) dW_plus_162 (fun H locs hP hD hS => ?_)
                have hP : va_P D vwCl [(h, .inr (4, [.ref w, .int (nI K), .int b])), (w, .inl (cT 0, R, .inl (upd g j (nI e1)))), (x2, .inr (4, [.ref w2, .int (nI K2), .int b2])), (w2, .inl (cT 0, R2, .inl f2))] _ := hP
                have hD : va_D A [(h, .inr (4, [.ref w, .int (nI K), .int b])), (w, .inl (cT 0, R, .inl (upd g j (nI e1)))), (x2, .inr (4, [.ref w2, .int (nI K2), .int b2])), (w2, .inl (cT 0, R2, .inl f2))] := hD
                refine lv_iinc (k := 6) (v := nI (j + 1)) hx hb dW_plus_163 hl rfl (nI_1 j) (by decide) rfl (fun ls hl => ?_)
                have hl : lv_has ls 8 [(5, .int (nI (j + 1))), (4, .int 0), (7, .int (nI s1)), (6, .int (nI y1)), (0, .ref h), (1, .ref x2), (3, .int 1)] := hl
                refine lv_goto (tgt := 32) hx hb dW_plus_166 rfl ?_
                exact ih32 (j + 1, 0, 0, upd g j (nI e1)) (show (j + 1) ≤ R ∧ 0 ≤ 1 ∧ dok 1000000000 (upd g j (nI e1)) (j + 1) ∧ (∀ m, (j + 1) ≤ m → (upd g j (nI e1)) m = f m) ∧ 0 = nI 0 ∧ hv 1000000000 (dg (upd g j (nI e1))) 0 (j + 1) + 1000000000 ^ (j + 1) * 0 = hv 1000000000 (ct K (dg f)) 0 (j + 1) + hv 1000000000 (ct K2 (dg f2)) 0 (j + 1) from ⟨by omega, by omega, dok_s ig he1b (by decide), fun q h => (pk_un (by omega)).trans (if0 q (by omega)), by decide, by rw [hv_us (v := e1) (by omega), hv_snoc, hv_snoc, Nat.zero_add, Nat.pow_succ, ← hx1, ← hy1]; exact add_s iv (by omega)⟩) (show R - (j + 1) < R - j from (by omega)) ls H locs (lv_sub hl [4, 5, 6, 1, 0] rfl) hP hD hS
              · have gh18 : 1000000000 ≤ s1 := Nat.not_lt.mp (fun q => h18 ((nI_ltI (a := s1) (b := 1000000000) (by omega) (by omega)).mpr q))
                obtain ⟨e1, he1⟩ : ∃ q9 : Nat, q9 = s1 - 1000000000 := ⟨_, rfl⟩
                have he1b : e1 < 1000000000 := by omega
                refine lv_iconst (v := 1) hx hb dW_plus_132 (by decide) ?_
                refine lv_goto (tgt := 146) hx hb dW_plus_133 rfl ?_
                refine lv_istore hx hb dW_plus_146 hl (by decide) rfl (fun ls hl => ?_)
                have hl : lv_has ls 8 [(4, .int 1), (7, .int (nI s1)), (6, .int (nI y1)), (0, .ref h), (1, .ref x2), (3, .int 1), (5, .int (nI j))] := hl
                refine lv_aload_n hx hb dW_plus_148 rfl (lv_at hl 3 rfl) ?_
                refine va_get (D := D) (ci := 4) (v := .ref w) (C := R_W) (T := T_W) (N := 3) hx hb hT in_W hown hK hP 0 rfl rfl 0 (by decide) (hT _ w145) (fun _ h9 => h9) rfl dW_plus_149 ?_
                refine lv_iload hx hb dW_plus_152 (lv_at hl 6 rfl) ?_
                refine lv_iload hx hb dW_plus_154 (lv_at hl 1 rfl) ?_
                refine lv_iload hx hb dW_plus_156 (lv_at hl 0 rfl) ?_
                refine lv_ldc (v := 1000000000) hx hb hown (hT _ w462) dW_plus_158 ?_
                refine lv_imul hx hb dW_plus_160 ?_
                refine lv_topi (fun y9 e9 => ?_)
                cases (show y9 = 1000000000 from e9.trans (by decide))
                refine lv_isub hx hb dW_plus_161 ?_
                refine lv_topi (fun y9 e9 => ?_)
                cases (show y9 = nI e1 from e9.trans (by rw [he1]; exact pk_sub (a := s1) (b := 1000000000) (by omega)))
                refine lq_iast (j := j) hx hb hK hP hD hS 1 0 rfl rfl rfl (by omega) (by omega) dW_plus_162 (fun H locs hP hD hS => ?_)
                have hP : va_P D vwCl [(h, .inr (4, [.ref w, .int (nI K), .int b])), (w, .inl (cT 0, R, .inl (upd g j (nI e1)))), (x2, .inr (4, [.ref w2, .int (nI K2), .int b2])), (w2, .inl (cT 0, R2, .inl f2))] _ := hP
                have hD : va_D A [(h, .inr (4, [.ref w, .int (nI K), .int b])), (w, .inl (cT 0, R, .inl (upd g j (nI e1)))), (x2, .inr (4, [.ref w2, .int (nI K2), .int b2])), (w2, .inl (cT 0, R2, .inl f2))] := hD
                refine lv_iinc (k := 6) (v := nI (j + 1)) hx hb dW_plus_163 hl rfl (nI_1 j) (by decide) rfl (fun ls hl => ?_)
                have hl : lv_has ls 8 [(5, .int (nI (j + 1))), (4, .int 1), (7, .int (nI s1)), (6, .int (nI y1)), (0, .ref h), (1, .ref x2), (3, .int 1)] := hl
                refine lv_goto (tgt := 32) hx hb dW_plus_166 rfl ?_
                exact ih32 (j + 1, 1, 1, upd g j (nI e1)) (show (j + 1) ≤ R ∧ 1 ≤ 1 ∧ dok 1000000000 (upd g j (nI e1)) (j + 1) ∧ (∀ m, (j + 1) ≤ m → (upd g j (nI e1)) m = f m) ∧ 1 = nI 1 ∧ hv 1000000000 (dg (upd g j (nI e1))) 0 (j + 1) + 1000000000 ^ (j + 1) * 1 = hv 1000000000 (ct K (dg f)) 0 (j + 1) + hv 1000000000 (ct K2 (dg f2)) 0 (j + 1) from ⟨by omega, by omega, dok_s ig he1b (by decide), fun q h => (pk_un (by omega)).trans (if0 q (by omega)), by decide, by rw [hv_us (v := e1) (by omega), hv_snoc, hv_snoc, Nat.zero_add, Nat.pow_succ, ← hx1, ← hy1]; exact add_s iv (by omega)⟩) (show R - (j + 1) < R - j from (by omega)) ls H locs (lv_sub hl [4, 5, 6, 1, 0] rfl) hP hD hS
            · refine lv_iload hx hb dW_plus_87 (lv_at hl 5 rfl) ?_
              refine lv_aload_n hx hb dW_plus_89 rfl (lv_at hl 1 rfl) ?_
              refine va_get (D := D) (ci := 4) (v := .int (nI K)) (C := R_W) (T := T_W) (N := 3) hx hb hT in_W hown hK hP 0 rfl rfl 1 (by decide) (hT _ w148) (fun _ h9 => h9) rfl dW_plus_90 ?_
              refine lv_icmp_ge (tgt := 106) hx hb dW_plus_93 rfl (fun _ => ?_) (fun h20 => absurd (Int32.not_lt.mp h6) h20)
              refine lv_iconst (v := 0) hx hb dW_plus_106 (by decide) ?_
              exact hct16 _ (by rw [hx1, ct_ge (show K ≤ j by omega)]; rfl)
          · refine lv_iload hx hb dW_plus_65 (lv_at hl 4 rfl) ?_
            refine lv_aload_n hx hb dW_plus_67 rfl (lv_at hl 1 rfl) ?_
            refine va_get (D := D) (ci := 4) (v := .int (nI K2)) (C := R_W) (T := T_W) (N := 3) hx hb hT in_W hown hK hP 2 rfl rfl 1 (by decide) (hT _ w148) (fun _ h9 => h9) rfl dW_plus_68 ?_
            refine lv_icmp_ge (tgt := 84) hx hb dW_plus_71 rfl (fun h21 => absurd h21 (Int32.not_le.mpr h14)) (fun _ => ?_)
            refine lv_aload_n hx hb dW_plus_74 rfl (lv_at hl 1 rfl) ?_
            refine va_get (D := D) (ci := 4) (v := .ref w2) (C := R_W) (T := T_W) (N := 3) hx hb hT in_W hown hK hP 2 rfl rfl 0 (by decide) (hT _ w145) (fun _ h9 => h9) rfl dW_plus_75 ?_
            refine lv_iload hx hb dW_plus_78 (lv_at hl 4 rfl) ?_
            refine lq_iald (j := j) hx hb hK hP 3 0 rfl rfl rfl (by omega) (by omega) dW_plus_80 ?_
            refine lv_goto (tgt := 85) hx hb dW_plus_81 rfl ?_
            exact hct15 _ (by rw [hy1, ct_lt (show j < K2 by omega)]; exact (qhd j (by omega)).1)
        · have gh14 : K2 ≤ j := Nat.not_lt.mp (fun q => h14 ((nI_ltI (a := j) (b := K2) (by omega) (by omega)).mpr q))
          refine lv_iload hx hb dW_plus_60 (lv_at hl 3 rfl) ?_
          refine lv_if_le (tgt := 169) hx hb dW_plus_62 rfl (fun h22 => ?_) (fun h22 => ?_)
          · have gh22 : o ≤ 0 := (nI_leI (a := o) (b := 0) (by omega) (by omega)).mp h22
            have hjK : K ≤ j ∧ K2 ≤ j := by omega
            rw [hv_ct hjK.1, hv_ct hjK.2] at iv
            have iv : vW g j + 1000000000 ^ j * o = vW f K + vW f2 K2 := iv
            have ho : o = 0 := by
              omega
            rw [ho, Nat.mul_zero, Nat.add_zero] at iv
            refine lv_iload hx hb dW_plus_169 (lv_at hl 3 rfl) ?_
            refine lv_if_ge (tgt := 180) hx hb dW_plus_171 rfl (fun _ => ?_) (fun h23 => absurd (nI_pos' (by omega)) h23)
            refine lv_aload_n hx hb dW_plus_180 rfl (lv_at hl 0 rfl) ?_
            refine lv_iload hx hb dW_plus_181 (lv_at hl 4 rfl) ?_
            refine rw_v (wc := [(h, .inr (4, [.ref w, .int (nI K), .int b])), (w, .inl (cT 0, R, .inl g))]) (wr := [(x2, .inr (4, [.ref w2, .int (nI K2), .int b2])), (w2, .inl (cT 0, R2, .inl f2))]) hP hD hS hA [0, 1] [2, 3] rfl rfl (by decide) (by decide) (va_runV (As := [.int (nI j)]) (rest := []) ⟨hx, hb, hml, hown, hT⟩ (k_trim l D cT h w R (nI K) b g j hR ij ig _) ⟨callB_of 1 hT (tb_gd w397) rfl rfl rfl (hT _ w5) (hT _ w394) hW_trim ⟨Nat.le_of_ble_eq_true rfl, Nat.le_of_ble_eq_true rfl⟩, (hT _ w396), (hT _ wp3)⟩ (RW.preV (ci := 4) (q0 := 0) hZ hS (va_free (wc := [(h, .inr (4, [.ref w, .int (nI K), .int b])), (w, .inl (cT 0, R, .inl g))]) hD hS hA [0, 1] rfl) (hP.sub (ws' := [(h, .inr (4, [.ref w, .int (nI K), .int b])), (w, .inl (cT 0, R, .inl g))]) [0, 1] rfl) hK (hD.sub (ws' := [(h, .inr (4, [.ref w, .int (nI K), .int b])), (w, .inl (cT 0, R, .inl g))]) [0, 1] (by decide) rfl) rfl rfl) rfl rfl hl.1 rfl (lv_room (Nat.le_of_ble_eq_true rfl)) dW_plus_183 ⟨Nat.le_of_ble_eq_true rfl, Nat.le_of_ble_eq_true rfl⟩) (fun u9 H locs hpu24 hP hD hS => ?_)
            obtain ⟨ku24, rfl⟩ : ∃ q9, q9 = u9 := ⟨_, rfl⟩
            have hpu24 : ku24 ≤ j ∧ top0 g ku24 ∧ vW g ku24 = vW g j := hpu24
            have hP : va_P D vwCl [(x2, .inr (4, [.ref w2, .int (nI K2), .int b2])), (w2, .inl (cT 0, R2, .inl f2)), (h, .inr (4, [.ref w, .int (nI ku24), .int b])), (w, .inl (cT 0, R, .inl g))] _ := hP
            have hD : va_D A [(x2, .inr (4, [.ref w2, .int (nI K2), .int b2])), (w2, .inl (cT 0, R2, .inl f2)), (h, .inr (4, [.ref w, .int (nI ku24), .int b])), (w, .inl (cT 0, R, .inl g))] := hD
            have hP9 := hP.sub (ws' := [(h, .inr (4, [.ref w, .int (nI ku24), .int b])), (w, .inl (cT 0, R, .inl g)), (x2, .inr (4, [.ref w2, .int (nI K2), .int b2])), (w2, .inl (cT 0, R2, .inl f2))]) [2, 3, 0, 1] rfl
            have hD9 := hD.sub (ws' := [(h, .inr (4, [.ref w, .int (nI ku24), .int b])), (w, .inl (cT 0, R, .inl g)), (x2, .inr (4, [.ref w2, .int (nI K2), .int b2])), (w2, .inl (cT 0, R2, .inl f2))]) [2, 3, 0, 1] (by decide) rfl
            refine W.widen (k := 0) (n := 0) (Nat.le_of_ble_eq_true rfl) (Nat.le_of_ble_eq_true rfl) ?_
            exact W.vret hx hb hr (fun t ht hW => ⟨⟨(nI ku24, b, g), rfl, (show WN R (nI ku24) b g (z - z2) from by have q0 := wn_trim (R := R) (b := b) ij ig hb01 hpu24; rw [hz, qhz, fl_ne hb01 qhb01 h1, wz_fl]; rw [show vW g j = vW f K + vW f2 K2 from iv] at q0; rw [Int.sub_neg, wz_add]; exact q0), by rw [ht]; exact hP9, hD9⟩, hS.F ht⟩) hS.2.2 dW_plus_186
          · have gh22 : 0 < o := Nat.not_le.mp (fun q => h22 ((nI_leI (a := o) (b := 0) (by omega) (by omega)).mpr q))
            obtain ⟨y1, hy1⟩ : ∃ q9 : Nat, q9 = ct K2 (dg f2) j := ⟨_, rfl⟩
            obtain ⟨x1, hx1⟩ : ∃ q9 : Nat, q9 = ct K (dg f) j := ⟨_, rfl⟩
            have hy1b : y1 < 1000000000 := by
              rw [hy1]
              by_cases q : j < K2
              · rw [ct_lt q]; exact (qhd j q).2
              · rw [ct_ge (show K2 ≤ j by omega)]; decide
            have hx1b : x1 < 1000000000 := by
              rw [hx1]
              by_cases q : j < K
              · rw [ct_lt q]; exact (hd j q).2
              · rw [ct_ge (show K ≤ j by omega)]; decide
            refine lp_cut (fun x9 : Int32 => x9 = nI y1) (fun x9 => [.int x9]) 85 ls (fun x9 e9 => ?_) (fun hct25 => ?_)
            · cases (show x9 = nI y1 from e9)
              refine lv_istore hx hb dW_plus_85 hl (by decide) rfl (fun ls hl => ?_)
              have hl : lv_has ls 8 [(6, .int (nI y1)), (0, .ref h), (1, .ref x2), (3, .int 1), (4, .int (nI o)), (5, .int (nI j))] := hl
              refine lp_cut (fun x9 : Int32 => x9 = nI x1) (fun x9 => [.int x9]) 107 ls (fun x9 e9 => ?_) (fun hct26 => ?_)
              · cases (show x9 = nI x1 from e9)
                refine lv_iload_n hx hb dW_plus_107 rfl (lv_at hl 3 rfl) ?_
                refine lv_if_eq (tgt := 116) hx hb dW_plus_108 rfl (fun h27 => absurd h27 (by decide)) (fun _ => ?_)
                refine lv_iload hx hb dW_plus_111 (lv_at hl 0 rfl) ?_
                refine lv_goto (tgt := 119) hx hb dW_plus_113 rfl ?_
                refine lv_iadd hx hb dW_plus_119 ?_
                refine lv_topi (fun y9 e9 => ?_)
                cases (show y9 = nI (x1 + y1) from e9.trans (nI_add x1 y1))
                refine lv_iload hx hb dW_plus_120 (lv_at hl 4 rfl) ?_
                refine lv_iadd hx hb dW_plus_122 ?_
                refine lv_topi (fun y9 e9 => ?_)
                cases (show y9 = nI ((x1 + y1) + o) from e9.trans (nI_add (x1 + y1) o))
                obtain ⟨s1, hs1⟩ : ∃ q9 : Nat, q9 = x1 + y1 + o := ⟨_, rfl⟩
                refine lv_topi (fun y9 e9 => ?_)
                cases (show y9 = nI s1 from e9.trans (by rw [hs1]))
                refine lv_istore hx hb dW_plus_123 hl (by decide) rfl (fun ls hl => ?_)
                have hl : lv_has ls 8 [(7, .int (nI s1)), (6, .int (nI y1)), (0, .ref h), (1, .ref x2), (3, .int 1), (4, .int (nI o)), (5, .int (nI j))] := hl
                refine lv_iload hx hb dW_plus_125 (lv_at hl 0 rfl) ?_
                refine lv_ldc (v := 1000000000) hx hb hown (hT _ w462) dW_plus_127 ?_
                refine lv_icmp_lt (tgt := 136) hx hb dW_plus_129 rfl (fun h28 => ?_) (fun h28 => ?_)
                · have gh28 : s1 < 1000000000 := (nI_ltI (a := s1) (b := 1000000000) (by omega) (by omega)).mp h28
                  refine lv_iload hx hb dW_plus_136 (lv_at hl 0 rfl) ?_
                  refine lv_if_ge (tgt := 145) hx hb dW_plus_138 rfl (fun _ => ?_) (fun h29 => absurd (nI_pos' (by omega)) h29)
                  obtain ⟨e1, he1⟩ : ∃ q9 : Nat, q9 = s1 := ⟨_, rfl⟩
                  have he1b : e1 < 1000000000 := by omega
                  refine lv_iconst (v := 0) hx hb dW_plus_145 (by decide) ?_
                  refine lv_istore hx hb dW_plus_146 hl (by decide) rfl (fun ls hl => ?_)
                  have hl : lv_has ls 8 [(4, .int 0), (7, .int (nI s1)), (6, .int (nI y1)), (0, .ref h), (1, .ref x2), (3, .int 1), (5, .int (nI j))] := hl
                  refine lv_aload_n hx hb dW_plus_148 rfl (lv_at hl 3 rfl) ?_
                  refine va_get (D := D) (ci := 4) (v := .ref w) (C := R_W) (T := T_W) (N := 3) hx hb hT in_W hown hK hP 0 rfl rfl 0 (by decide) (hT _ w145) (fun _ h9 => h9) rfl dW_plus_149 ?_
                  refine lv_iload hx hb dW_plus_152 (lv_at hl 6 rfl) ?_
                  refine lv_iload hx hb dW_plus_154 (lv_at hl 1 rfl) ?_
                  refine lv_iload hx hb dW_plus_156 (lv_at hl 0 rfl) ?_
                  refine lv_ldc (v := 1000000000) hx hb hown (hT _ w462) dW_plus_158 ?_
                  refine lv_imul hx hb dW_plus_160 ?_
                  refine lv_topi (fun y9 e9 => ?_)
                  cases (show y9 = 0 from e9.trans (by decide))
                  refine lv_isub hx hb dW_plus_161 ?_
                  refine lv_topi (fun y9 e9 => ?_)
                  cases (show y9 = nI e1 from e9.trans (by rw [he1]; exact Int32.sub_zero _))
                  refine lq_iast (j := j) hx hb hK hP hD hS 1 0 rfl rfl rfl (by omega) (by omega) dW_plus_162 (fun H locs hP hD hS => ?_)
                  have hP : va_P D vwCl [(h, .inr (4, [.ref w, .int (nI K), .int b])), (w, .inl (cT 0, R, .inl (upd g j (nI e1)))), (x2, .inr (4, [.ref w2, .int (nI K2), .int b2])), (w2, .inl (cT 0, R2, .inl f2))] _ := hP
                  have hD : va_D A [(h, .inr (4, [.ref w, .int (nI K), .int b])), (w, .inl (cT 0, R, .inl (upd g j (nI e1)))), (x2, .inr (4, [.ref w2, .int (nI K2), .int b2])), (w2, .inl (cT 0, R2, .inl f2))] := hD
                  refine lv_iinc (k := 6) (v := nI (j + 1)) hx hb dW_plus_163 hl rfl (nI_1 j) (by decide) rfl (fun ls hl => ?_)
                  have hl : lv_has ls 8 [(5, .int (nI (j + 1))), (4, .int 0), (7, .int (nI s1)), (6, .int (nI y1)), (0, .ref h), (1, .ref x2), (3, .int 1)] := hl
                  refine lv_goto (tgt := 32) hx hb dW_plus_166 rfl ?_
                  exact ih32 (j + 1, 0, 0, upd g j (nI e1)) (show (j + 1) ≤ R ∧ 0 ≤ 1 ∧ dok 1000000000 (upd g j (nI e1)) (j + 1) ∧ (∀ m, (j + 1) ≤ m → (upd g j (nI e1)) m = f m) ∧ 0 = nI 0 ∧ hv 1000000000 (dg (upd g j (nI e1))) 0 (j + 1) + 1000000000 ^ (j + 1) * 0 = hv 1000000000 (ct K (dg f)) 0 (j + 1) + hv 1000000000 (ct K2 (dg f2)) 0 (j + 1) from ⟨by omega, by omega, dok_s ig he1b (by decide), fun q h => (pk_un (by omega)).trans (if0 q (by omega)), by decide, by rw [hv_us (v := e1) (by omega), hv_snoc, hv_snoc, Nat.zero_add, Nat.pow_succ, ← hx1, ← hy1]; exact add_s iv (by omega)⟩) (show R - (j + 1) < R - j from (by omega)) ls H locs (lv_sub hl [4, 5, 6, 1, 0] rfl) hP hD hS
                · have gh28 : 1000000000 ≤ s1 := Nat.not_lt.mp (fun q => h28 ((nI_ltI (a := s1) (b := 1000000000) (by omega) (by omega)).mpr q))
                  obtain ⟨e1, he1⟩ : ∃ q9 : Nat, q9 = s1 - 1000000000 := ⟨_, rfl⟩
                  have he1b : e1 < 1000000000 := by omega
                  refine lv_iconst (v := 1) hx hb dW_plus_132 (by decide) ?_
                  refine lv_goto (tgt := 146) hx hb dW_plus_133 rfl ?_
                  refine lv_istore hx hb dW_plus_146 hl (by decide) rfl (fun ls hl => ?_)
                  have hl : lv_has ls 8 [(4, .int 1), (7, .int (nI s1)), (6, .int (nI y1)), (0, .ref h), (1, .ref x2), (3, .int 1), (5, .int (nI j))] := hl
                  refine lv_aload_n hx hb dW_plus_148 rfl (lv_at hl 3 rfl) ?_
                  refine va_get (D := D) (ci := 4) (v := .ref w) (C := R_W) (T := T_W) (N := 3) hx hb hT in_W hown hK hP 0 rfl rfl 0 (by decide) (hT _ w145) (fun _ h9 => h9) rfl dW_plus_149 ?_
                  refine lv_iload hx hb dW_plus_152 (lv_at hl 6 rfl) ?_
                  refine lv_iload hx hb dW_plus_154 (lv_at hl 1 rfl) ?_
                  refine lv_iload hx hb dW_plus_156 (lv_at hl 0 rfl) ?_
                  refine lv_ldc (v := 1000000000) hx hb hown (hT _ w462) dW_plus_158 ?_
                  refine lv_imul hx hb dW_plus_160 ?_
                  refine lv_topi (fun y9 e9 => ?_)
                  cases (show y9 = 1000000000 from e9.trans (by decide))
                  refine lv_isub hx hb dW_plus_161 ?_
                  refine lv_topi (fun y9 e9 => ?_)
                  cases (show y9 = nI e1 from e9.trans (by rw [he1]; exact pk_sub (a := s1) (b := 1000000000) (by omega)))
                  refine lq_iast (j := j) hx hb hK hP hD hS 1 0 rfl rfl rfl (by omega) (by omega) dW_plus_162 (fun H locs hP hD hS => ?_)
                  have hP : va_P D vwCl [(h, .inr (4, [.ref w, .int (nI K), .int b])), (w, .inl (cT 0, R, .inl (upd g j (nI e1)))), (x2, .inr (4, [.ref w2, .int (nI K2), .int b2])), (w2, .inl (cT 0, R2, .inl f2))] _ := hP
                  have hD : va_D A [(h, .inr (4, [.ref w, .int (nI K), .int b])), (w, .inl (cT 0, R, .inl (upd g j (nI e1)))), (x2, .inr (4, [.ref w2, .int (nI K2), .int b2])), (w2, .inl (cT 0, R2, .inl f2))] := hD
                  refine lv_iinc (k := 6) (v := nI (j + 1)) hx hb dW_plus_163 hl rfl (nI_1 j) (by decide) rfl (fun ls hl => ?_)
                  have hl : lv_has ls 8 [(5, .int (nI (j + 1))), (4, .int 1), (7, .int (nI s1)), (6, .int (nI y1)), (0, .ref h), (1, .ref x2), (3, .int 1)] := hl
                  refine lv_goto (tgt := 32) hx hb dW_plus_166 rfl ?_
                  exact ih32 (j + 1, 1, 1, upd g j (nI e1)) (show (j + 1) ≤ R ∧ 1 ≤ 1 ∧ dok 1000000000 (upd g j (nI e1)) (j + 1) ∧ (∀ m, (j + 1) ≤ m → (upd g j (nI e1)) m = f m) ∧ 1 = nI 1 ∧ hv 1000000000 (dg (upd g j (nI e1))) 0 (j + 1) + 1000000000 ^ (j + 1) * 1 = hv 1000000000 (ct K (dg f)) 0 (j + 1) + hv 1000000000 (ct K2 (dg f2)) 0 (j + 1) from ⟨by omega, by omega, dok_s ig he1b (by decide), fun q h => (pk_un (by omega)).trans (if0 q (by omega)), by decide, by rw [hv_us (v := e1) (by omega), hv_snoc, hv_snoc, Nat.zero_add, Nat.pow_succ, ← hx1, ← hy1]; exact add_s iv (by omega)⟩) (show R - (j + 1) < R - j from (by omega)) ls H locs (lv_sub hl [4, 5, 6, 1, 0] rfl) hP hD hS
              · refine lv_iload hx hb dW_plus_87 (lv_at hl 5 rfl) ?_
                refine lv_aload_n hx hb dW_plus_89 rfl (lv_at hl 1 rfl) ?_
                refine va_get (D := D) (ci := 4) (v := .int (nI K)) (C := R_W) (T := T_W) (N := 3) hx hb hT in_W hown hK hP 0 rfl rfl 1 (by decide) (hT _ w148) (fun _ h9 => h9) rfl dW_plus_90 ?_
                refine lv_icmp_ge (tgt := 106) hx hb dW_plus_93 rfl (fun _ => ?_) (fun h30 => absurd (Int32.not_lt.mp h6) h30)
                refine lv_iconst (v := 0) hx hb dW_plus_106 (by decide) ?_
                exact hct26 _ (by rw [hx1, ct_ge (show K ≤ j by omega)]; rfl)
            · refine lv_iload hx hb dW_plus_65 (lv_at hl 4 rfl) ?_
              refine lv_aload_n hx hb dW_plus_67 rfl (lv_at hl 1 rfl) ?_
              refine va_get (D := D) (ci := 4) (v := .int (nI K2)) (C := R_W) (T := T_W) (N := 3) hx hb hT in_W hown hK hP 2 rfl rfl 1 (by decide) (hT _ w148) (fun _ h9 => h9) rfl dW_plus_68 ?_
              refine lv_icmp_ge (tgt := 84) hx hb dW_plus_71 rfl (fun _ => ?_) (fun h31 => absurd (Int32.not_lt.mp h14) h31)
              refine lv_iconst (v := 0) hx hb dW_plus_84 (by decide) ?_
              exact hct25 _ (by rw [hy1, ct_ge (show K2 ≤ j by omega)]; rfl)
  · refine lv_iconst (v := 1) hx hb dW_plus_11 (by decide) ?_
    refine lv_goto (tgt := 16) hx hb dW_plus_12 rfl ?_
    refine lv_iload_n hx hb dW_plus_16 rfl (lv_at hl 2 rfl) ?_
    refine lv_icmp_eq (tgt := 24) hx hb dW_plus_17 rfl (fun _ => ?_) (fun h32 => absurd (by decide) h32)
    refine lv_iconst (v := 0) hx hb dW_plus_24 (by decide) ?_
    refine lv_istore_n hx hb dW_plus_25 rfl hl (by decide) rfl (fun ls hl => ?_)
    have hl : lv_has ls 8 [(3, .int 0), (0, .ref h), (1, .ref x2), (2, .int 1)] := hl
    refine lv_iconst (v := 0) hx hb dW_plus_26 (by decide) ?_
    refine lv_istore hx hb dW_plus_27 hl (by decide) rfl (fun ls hl => ?_)
    have hl : lv_has ls 8 [(4, .int 0), (3, .int 0), (0, .ref h), (1, .ref x2), (2, .int 1)] := hl
    refine lv_iconst (v := 0) hx hb dW_plus_29 (by decide) ?_
    refine lv_istore hx hb dW_plus_30 hl (by decide) rfl (fun ls hl => ?_)
    have hl : lv_has ls 8 [(5, .int 0), (4, .int 0), (3, .int 0), (0, .ref h), (1, .ref x2), (2, .int 1)] := hl
    refine lp_w (α := Nat × Nat × Int32 × (Nat → Int32)) (fun a9 => a9.1 ≤ R ∧ a9.2.1 ≤ 1 ∧ dok 1000000000 a9.2.2.2 a9.1 ∧ (∀ m, a9.1 ≤ m → a9.2.2.2 m = f m) ∧ a9.2.2.1 = -(nI a9.2.1) ∧ hv 1000000000 (dg a9.2.2.2) 0 a9.1 + hv 1000000000 (ct K2 (dg f2)) 0 a9.1 = hv 1000000000 (ct K (dg f)) 0 a9.1 + 1000000000 ^ a9.1 * a9.2.1) (fun a9 => R - a9.1) (fun a9 => [(0, .ref h), (1, .ref x2), (3, .int 0), (4, .int a9.2.2.1), (5, .int (nI a9.1))]) (fun a9 => [(h, .inr (4, [.ref w, .int (nI K), .int b])), (w, .inl (cT 0, R, .inl a9.2.2.2)), (x2, .inr (4, [.ref w2, .int (nI K2), .int b2])), (w2, .inl (cT 0, R2, .inl f2))]) 32 ?_ (0, 0, 0, f) (show 0 ≤ R ∧ 0 ≤ 1 ∧ dok 1000000000 f 0 ∧ (∀ m, 0 ≤ m → f m = f m) ∧ 0 = -(nI 0) ∧ hv 1000000000 (dg f) 0 0 + hv 1000000000 (ct K2 (dg f2)) 0 0 = hv 1000000000 (ct K (dg f)) 0 0 + 1000000000 ^ 0 * 0 from ⟨by omega, by omega, fun q h => absurd h (by omega), fun _ _ => rfl, by decide, by simp [hv]⟩) (lv_sub hl [3, 4, 2, 1, 0] rfl) hP hD hS
    intro a9 hI32 ih32 ls H locs hl hP hD hS
    obtain ⟨j, o, cr, g⟩ := a9
    have hI32 : j ≤ R ∧ o ≤ 1 ∧ dok 1000000000 g j ∧ (∀ m, j ≤ m → g m = f m) ∧ cr = -(nI o) ∧ hv 1000000000 (dg g) 0 j + hv 1000000000 (ct K2 (dg f2)) 0 j = hv 1000000000 (ct K (dg f)) 0 j + 1000000000 ^ j * o := hI32
    obtain ⟨ij, io, ig, if0, icr, iv⟩ := hI32
    have hl : lv_has ls 8 [(0, .ref h), (1, .ref x2), (3, .int 0), (4, .int cr), (5, .int (nI j))] := hl
    have hP : va_P D vwCl [(h, .inr (4, [.ref w, .int (nI K), .int b])), (w, .inl (cT 0, R, .inl g)), (x2, .inr (4, [.ref w2, .int (nI K2), .int b2])), (w2, .inl (cT 0, R2, .inl f2))] _ := hP
    have hD : va_D A [(h, .inr (4, [.ref w, .int (nI K), .int b])), (w, .inl (cT 0, R, .inl g)), (x2, .inr (4, [.ref w2, .int (nI K2), .int b2])), (w2, .inl (cT 0, R2, .inl f2))] := hD
    subst icr
    have hl : lv_has ls 8 [(0, .ref h), (1, .ref x2), (3, .int 0), (4, .int (-(nI o))), (5, .int (nI j))] := hl
    have hP : va_P D vwCl [(h, .inr (4, [.ref w, .int (nI K), .int b])), (w, .inl (cT 0, R, .inl g)), (x2, .inr (4, [.ref w2, .int (nI K2), .int b2])), (w2, .inl (cT 0, R2, .inl f2))] _ := hP
    have hD : va_D A [(h, .inr (4, [.ref w, .int (nI K), .int b])), (w, .inl (cT 0, R, .inl g)), (x2, .inr (4, [.ref w2, .int (nI K2), .int b2])), (w2, .inl (cT 0, R2, .inl f2))] := hD
    refine lv_iload hx hb dW_plus_32 (lv_at hl 4 rfl) ?_
    refine lv_aload_n hx hb dW_plus_34 rfl (lv_at hl 0 rfl) ?_
    refine va_get (D := D) (ci := 4) (v := .ref w) (C := R_W) (T := T_W) (N := 3) hx hb hT in_W hown hK hP 0 rfl rfl 0 (by decide) (hT _ w145) (fun _ h9 => h9) rfl dW_plus_35 ?_
    refine va_alen (v := nI R) hx hb hK hP 1 0 rfl rfl rfl dW_plus_38 ?_
    refine lv_icmp_ge (tgt := 169) hx hb dW_plus_39 rfl (fun h33 => ?_) (fun h33 => ?_)
    · have gh33 : R ≤ j := (nI_leI (a := R) (b := j) (by omega) (by omega)).mp h33
      have hjK : K ≤ j ∧ K2 ≤ j := by omega
      rw [hv_ct hjK.1, hv_ct hjK.2] at iv
      have iv : vW g j + vW f2 K2 = vW f K + 1000000000 ^ j * o := iv
      have hvg := vW_b ig
      have hb2 := vW_b qhd
      have hpw : 1000000000 ^ K2 ≤ 1000000000 ^ j := Nat.pow_le_pow_right (by decide) hjK.2
      refine lv_iload hx hb dW_plus_169 (lv_at hl 3 rfl) ?_
      refine lv_if_ge (tgt := 180) hx hb dW_plus_171 rfl (fun h34 => ?_) (fun h34 => ?_)
      · have ho : o = 0 := by rcases (show o = 0 ∨ o = 1 by omega) with r | r; (exact r); (exact absurd (show 0 ≤ -(nI o) from h34) (by rw [r]; decide))
        rw [ho, Nat.mul_zero, Nat.add_zero] at iv
        refine lv_aload_n hx hb dW_plus_180 rfl (lv_at hl 0 rfl) ?_
        refine lv_iload hx hb dW_plus_181 (lv_at hl 4 rfl) ?_
        refine rw_v (wc := [(h, .inr (4, [.ref w, .int (nI K), .int b])), (w, .inl (cT 0, R, .inl g))]) (wr := [(x2, .inr (4, [.ref w2, .int (nI K2), .int b2])), (w2, .inl (cT 0, R2, .inl f2))]) hP hD hS hA [0, 1] [2, 3] rfl rfl (by decide) (by decide) (va_runV (As := [.int (nI j)]) (rest := []) ⟨hx, hb, hml, hown, hT⟩ (k_trim l D cT h w R (nI K) b g j hR ij ig _) ⟨callB_of 1 hT (tb_gd w397) rfl rfl rfl (hT _ w5) (hT _ w394) hW_trim ⟨Nat.le_of_ble_eq_true rfl, Nat.le_of_ble_eq_true rfl⟩, (hT _ w396), (hT _ wp3)⟩ (RW.preV (ci := 4) (q0 := 0) hZ hS (va_free (wc := [(h, .inr (4, [.ref w, .int (nI K), .int b])), (w, .inl (cT 0, R, .inl g))]) hD hS hA [0, 1] rfl) (hP.sub (ws' := [(h, .inr (4, [.ref w, .int (nI K), .int b])), (w, .inl (cT 0, R, .inl g))]) [0, 1] rfl) hK (hD.sub (ws' := [(h, .inr (4, [.ref w, .int (nI K), .int b])), (w, .inl (cT 0, R, .inl g))]) [0, 1] (by decide) rfl) rfl rfl) rfl rfl hl.1 rfl (lv_room (Nat.le_of_ble_eq_true rfl)) dW_plus_183 ⟨Nat.le_of_ble_eq_true rfl, Nat.le_of_ble_eq_true rfl⟩) (fun u9 H locs hpu35 hP hD hS => ?_)
        obtain ⟨ku35, rfl⟩ : ∃ q9, q9 = u9 := ⟨_, rfl⟩
        have hpu35 : ku35 ≤ j ∧ top0 g ku35 ∧ vW g ku35 = vW g j := hpu35
        have hP : va_P D vwCl [(x2, .inr (4, [.ref w2, .int (nI K2), .int b2])), (w2, .inl (cT 0, R2, .inl f2)), (h, .inr (4, [.ref w, .int (nI ku35), .int b])), (w, .inl (cT 0, R, .inl g))] _ := hP
        have hD : va_D A [(x2, .inr (4, [.ref w2, .int (nI K2), .int b2])), (w2, .inl (cT 0, R2, .inl f2)), (h, .inr (4, [.ref w, .int (nI ku35), .int b])), (w, .inl (cT 0, R, .inl g))] := hD
        have hP9 := hP.sub (ws' := [(h, .inr (4, [.ref w, .int (nI ku35), .int b])), (w, .inl (cT 0, R, .inl g)), (x2, .inr (4, [.ref w2, .int (nI K2), .int b2])), (w2, .inl (cT 0, R2, .inl f2))]) [2, 3, 0, 1] rfl
        have hD9 := hD.sub (ws' := [(h, .inr (4, [.ref w, .int (nI ku35), .int b])), (w, .inl (cT 0, R, .inl g)), (x2, .inr (4, [.ref w2, .int (nI K2), .int b2])), (w2, .inl (cT 0, R2, .inl f2))]) [2, 3, 0, 1] (by decide) rfl
        refine W.widen (k := 0) (n := 0) (Nat.le_of_ble_eq_true rfl) (Nat.le_of_ble_eq_true rfl) ?_
        exact W.vret hx hb hr (fun t ht hW => ⟨⟨(nI ku35, b, g), rfl, (show WN R (nI ku35) b g (z - z2) from by have q0 := wn_trim (R := R) (b := b) ij ig hb01 hpu35; rw [hz, qhz, ← h1]; rw [show vW g j = vW f K - vW f2 K2 by omega] at q0; rw [wz_sub (by omega)]; exact q0), by rw [ht]; exact hP9, hD9⟩, hS.F ht⟩) hS.2.2 dW_plus_186
      · have ho : o = 1 := by rcases (show o = 0 ∨ o = 1 by omega) with r | r; (exact absurd (by rw [r]; decide) h34); (exact r)
        rw [ho, Nat.mul_one] at iv
        refine lv_aload_n hx hb dW_plus_174 rfl (lv_at hl 0 rfl) ?_
        refine lv_iload hx hb dW_plus_175 (lv_at hl 4 rfl) ?_
        refine rw_v (wc := [(h, .inr (4, [.ref w, .int (nI K), .int b])), (w, .inl (cT 0, R, .inl g))]) (wr := [(x2, .inr (4, [.ref w2, .int (nI K2), .int b2])), (w2, .inl (cT 0, R2, .inl f2))]) hP hD hS hA [0, 1] [2, 3] rfl rfl (by decide) (by decide) (va_runV (As := [.int (nI j)]) (rest := []) ⟨hx, hb, hml, hown, hT⟩ (k_complement l D cT h w R (nI K) b g j hR ij ig hb01 _) ⟨callB_of 1 hT (tb_gd w466) rfl rfl rfl (hT _ w5) (hT _ w463) hW_complement ⟨Nat.le_of_ble_eq_true rfl, Nat.le_of_ble_eq_true rfl⟩, (hT _ w465), (hT _ wp5)⟩ (RW.preV (ci := 4) (q0 := 0) hZ hS (va_free (wc := [(h, .inr (4, [.ref w, .int (nI K), .int b])), (w, .inl (cT 0, R, .inl g))]) hD hS hA [0, 1] rfl) (hP.sub (ws' := [(h, .inr (4, [.ref w, .int (nI K), .int b])), (w, .inl (cT 0, R, .inl g))]) [0, 1] rfl) hK (hD.sub (ws' := [(h, .inr (4, [.ref w, .int (nI K), .int b])), (w, .inl (cT 0, R, .inl g))]) [0, 1] (by decide) rfl) rfl rfl) rfl rfl hl.1 rfl (lv_room (Nat.le_of_ble_eq_true rfl)) dW_plus_177 ⟨Nat.le_of_ble_eq_true rfl, Nat.le_of_ble_eq_true rfl⟩) (fun u9 H locs hpu36 hP hD hS => ?_)
        obtain ⟨b1u36, f1u36⟩ := u9
        have hpu36 : dok 1000000000 f1u36 j ∧ (0 < vW g j → vW f1u36 j = 1000000000 ^ j - vW g j) ∧ b1u36 = fl b := hpu36
        have hP : va_P D vwCl [(x2, .inr (4, [.ref w2, .int (nI K2), .int b2])), (w2, .inl (cT 0, R2, .inl f2)), (h, .inr (4, [.ref w, .int (nI K), .int b1u36])), (w, .inl (cT 0, R, .inl f1u36))] _ := hP
        have hD : va_D A [(x2, .inr (4, [.ref w2, .int (nI K2), .int b2])), (w2, .inl (cT 0, R2, .inl f2)), (h, .inr (4, [.ref w, .int (nI K), .int b1u36])), (w, .inl (cT 0, R, .inl f1u36))] := hD
        obtain ⟨hc1, hc2, hc3⟩ := hpu36
        have hc2 := hc2 (by omega)
        refine lv_aload_n hx hb dW_plus_180 rfl (lv_at hl 0 rfl) ?_
        refine lv_iload hx hb dW_plus_181 (lv_at hl 4 rfl) ?_
        refine rw_v (wc := [(h, .inr (4, [.ref w, .int (nI K), .int b1u36])), (w, .inl (cT 0, R, .inl f1u36))]) (wr := [(x2, .inr (4, [.ref w2, .int (nI K2), .int b2])), (w2, .inl (cT 0, R2, .inl f2))]) hP hD hS hA [2, 3] [0, 1] rfl rfl (by decide) (by decide) (va_runV (As := [.int (nI j)]) (rest := []) ⟨hx, hb, hml, hown, hT⟩ (k_trim l D cT h w R (nI K) b1u36 f1u36 j hR ij hc1 _) ⟨callB_of 1 hT (tb_gd w397) rfl rfl rfl (hT _ w5) (hT _ w394) hW_trim ⟨Nat.le_of_ble_eq_true rfl, Nat.le_of_ble_eq_true rfl⟩, (hT _ w396), (hT _ wp3)⟩ (RW.preV (ci := 4) (q0 := 0) hZ hS (va_free (wc := [(h, .inr (4, [.ref w, .int (nI K), .int b1u36])), (w, .inl (cT 0, R, .inl f1u36))]) hD hS hA [2, 3] rfl) (hP.sub (ws' := [(h, .inr (4, [.ref w, .int (nI K), .int b1u36])), (w, .inl (cT 0, R, .inl f1u36))]) [2, 3] rfl) hK (hD.sub (ws' := [(h, .inr (4, [.ref w, .int (nI K), .int b1u36])), (w, .inl (cT 0, R, .inl f1u36))]) [2, 3] (by decide) rfl) rfl rfl) rfl rfl hl.1 rfl (lv_room (Nat.le_of_ble_eq_true rfl)) dW_plus_183 ⟨Nat.le_of_ble_eq_true rfl, Nat.le_of_ble_eq_true rfl⟩) (fun u9 H locs hpu37 hP hD hS => ?_)
        obtain ⟨ku37, rfl⟩ : ∃ q9, q9 = u9 := ⟨_, rfl⟩
        have hpu37 : ku37 ≤ j ∧ top0 f1u36 ku37 ∧ vW f1u36 ku37 = vW f1u36 j := hpu37
        have hP : va_P D vwCl [(x2, .inr (4, [.ref w2, .int (nI K2), .int b2])), (w2, .inl (cT 0, R2, .inl f2)), (h, .inr (4, [.ref w, .int (nI ku37), .int b1u36])), (w, .inl (cT 0, R, .inl f1u36))] _ := hP
        have hD : va_D A [(x2, .inr (4, [.ref w2, .int (nI K2), .int b2])), (w2, .inl (cT 0, R2, .inl f2)), (h, .inr (4, [.ref w, .int (nI ku37), .int b1u36])), (w, .inl (cT 0, R, .inl f1u36))] := hD
        have hP9 := hP.sub (ws' := [(h, .inr (4, [.ref w, .int (nI ku37), .int b1u36])), (w, .inl (cT 0, R, .inl f1u36)), (x2, .inr (4, [.ref w2, .int (nI K2), .int b2])), (w2, .inl (cT 0, R2, .inl f2))]) [2, 3, 0, 1] rfl
        have hD9 := hD.sub (ws' := [(h, .inr (4, [.ref w, .int (nI ku37), .int b1u36])), (w, .inl (cT 0, R, .inl f1u36)), (x2, .inr (4, [.ref w2, .int (nI K2), .int b2])), (w2, .inl (cT 0, R2, .inl f2))]) [2, 3, 0, 1] (by decide) rfl
        refine W.widen (k := 0) (n := 0) (Nat.le_of_ble_eq_true rfl) (Nat.le_of_ble_eq_true rfl) ?_
        exact W.vret hx hb hr (fun t ht hW => ⟨⟨(nI ku37, b1u36, f1u36), rfl, (show WN R (nI ku37) b1u36 f1u36 (z - z2) from by have q0 := wn_trim (R := R) (b := b1u36) ij hc1 (by rw [hc3]; exact fl_01 b) hpu37; rw [hz, qhz, ← h1]; rw [hc3]; rw [hc3, wz_fl, show vW f1u36 j = vW f2 K2 - vW f K by omega, ← wz_sub (by omega), Int.neg_sub] at q0; exact q0), by rw [ht]; exact hP9, hD9⟩, hS.F ht⟩) hS.2.2 dW_plus_186
    · have gh33 : j < R := Nat.not_le.mp (fun q => h33 ((nI_leI (a := R) (b := j) (by omega) (by omega)).mpr q))
      refine lv_iload hx hb dW_plus_42 (lv_at hl 4 rfl) ?_
      refine lv_aload_n hx hb dW_plus_44 rfl (lv_at hl 0 rfl) ?_
      refine va_get (D := D) (ci := 4) (v := .int (nI K)) (C := R_W) (T := T_W) (N := 3) hx hb hT in_W hown hK hP 0 rfl rfl 1 (by decide) (hT _ w148) (fun _ h9 => h9) rfl dW_plus_45 ?_
      refine lv_icmp_lt (tgt := 65) hx hb dW_plus_48 rfl (fun h38 => ?_) (fun h38 => ?_)
      · have gh38 : j < K := (nI_ltI (a := j) (b := K) (by omega) (by omega)).mp h38
        obtain ⟨y1, hy1⟩ : ∃ q9 : Nat, q9 = ct K2 (dg f2) j := ⟨_, rfl⟩
        obtain ⟨x1, hx1⟩ : ∃ q9 : Nat, q9 = ct K (dg f) j := ⟨_, rfl⟩
        have hy1b : y1 < 1000000000 := by
          rw [hy1]
          by_cases q : j < K2
          · rw [ct_lt q]; exact (qhd j q).2
          · rw [ct_ge (show K2 ≤ j by omega)]; decide
        have hx1b : x1 < 1000000000 := by
          rw [hx1]
          by_cases q : j < K
          · rw [ct_lt q]; exact (hd j q).2
          · rw [ct_ge (show K ≤ j by omega)]; decide
        refine lp_cut (fun x9 : Int32 => x9 = nI y1) (fun x9 => [.int x9]) 85 ls (fun x9 e9 => ?_) (fun hct39 => ?_)
        · cases (show x9 = nI y1 from e9)
          refine lv_istore hx hb dW_plus_85 hl (by decide) rfl (fun ls hl => ?_)
          have hl : lv_has ls 8 [(6, .int (nI y1)), (0, .ref h), (1, .ref x2), (3, .int 0), (4, .int (-(nI o))), (5, .int (nI j))] := hl
          refine lp_cut (fun x9 : Int32 => x9 = nI x1) (fun x9 => [.int x9]) 107 ls (fun x9 e9 => ?_) (fun hct40 => ?_)
          · cases (show x9 = nI x1 from e9)
            refine lv_iload_n hx hb dW_plus_107 rfl (lv_at hl 3 rfl) ?_
            refine lv_if_eq (tgt := 116) hx hb dW_plus_108 rfl (fun _ => ?_) (fun h41 => absurd (by decide) h41)
            refine lv_iload hx hb dW_plus_116 (lv_at hl 0 rfl) ?_
            refine lv_ineg hx hb dW_plus_118 ?_
            refine lv_iadd hx hb dW_plus_119 ?_
            refine lv_iload hx hb dW_plus_120 (lv_at hl 4 rfl) ?_
            refine lv_iadd hx hb dW_plus_122 ?_
            obtain ⟨s1, hs1⟩ : ∃ q9 : Int32, q9 = nI x1 + -(nI y1) + -(nI o) := ⟨_, rfl⟩
            refine lv_topi (fun y9 e9 => ?_)
            cases (show y9 = s1 from e9.trans hs1.symm)
            have hs1i : s1.toInt = (x1 : Int) - y1 - o := by rw [hs1]; exact sb_ti (by omega) (by omega) io
            refine lv_istore hx hb dW_plus_123 hl (by decide) rfl (fun ls hl => ?_)
            have hl : lv_has ls 8 [(7, .int s1), (6, .int (nI y1)), (0, .ref h), (1, .ref x2), (3, .int 0), (4, .int (-(nI o))), (5, .int (nI j))] := hl
            refine lv_iload hx hb dW_plus_125 (lv_at hl 0 rfl) ?_
            refine lv_ldc (v := 1000000000) hx hb hown (hT _ w462) dW_plus_127 ?_
            refine lv_icmp_lt (tgt := 136) hx hb dW_plus_129 rfl (fun _ => ?_) (fun h42 => absurd (Int32.lt_iff_toInt_lt.mpr (by rw [hs1i]; show _ < (1000000000 : Int); omega)) h42)
            refine lv_iload hx hb dW_plus_136 (lv_at hl 0 rfl) ?_
            refine lv_if_ge (tgt := 145) hx hb dW_plus_138 rfl (fun h43 => ?_) (fun h43 => ?_)
            · have hng : 0 ≤ (x1 : Int) - y1 - o := by have q := Int32.le_iff_toInt_le.mp h43; rw [hs1i] at q; exact q
              obtain ⟨e1, he1⟩ : ∃ q9 : Nat, q9 = x1 - y1 - o := ⟨_, rfl⟩
              have he1b : e1 < 1000000000 := by omega
              refine lv_iconst (v := 0) hx hb dW_plus_145 (by decide) ?_
              refine lv_istore hx hb dW_plus_146 hl (by decide) rfl (fun ls hl => ?_)
              have hl : lv_has ls 8 [(4, .int 0), (7, .int s1), (6, .int (nI y1)), (0, .ref h), (1, .ref x2), (3, .int 0), (5, .int (nI j))] := hl
              refine lv_aload_n hx hb dW_plus_148 rfl (lv_at hl 3 rfl) ?_
              refine va_get (D := D) (ci := 4) (v := .ref w) (C := R_W) (T := T_W) (N := 3) hx hb hT in_W hown hK hP 0 rfl rfl 0 (by decide) (hT _ w145) (fun _ h9 => h9) rfl dW_plus_149 ?_
              refine lv_iload hx hb dW_plus_152 (lv_at hl 6 rfl) ?_
              refine lv_iload hx hb dW_plus_154 (lv_at hl 1 rfl) ?_
              refine lv_iload hx hb dW_plus_156 (lv_at hl 0 rfl) ?_
              refine lv_ldc (v := 1000000000) hx hb hown (hT _ w462) dW_plus_158 ?_
              refine lv_imul hx hb dW_plus_160 ?_
              refine lv_topi (fun y9 e9 => ?_)
              cases (show y9 = 0 from e9.trans (by decide))
              refine lv_isub hx hb dW_plus_161 ?_
              refine lv_topi (fun y9 e9 => ?_)
              cases (show y9 = nI e1 from e9.trans (sb_z hs1i hng (by omega) (by omega)))
              refine lq_iast (j := j) hx hb hK hP hD hS 1 0 rfl rfl rfl (by omega) (by omega) dW_plus_162 (fun H locs hP hD hS => ?_)
              have hP : va_P D vwCl [(h, .inr (4, [.ref w, .int (nI K), .int b])), (w, .inl (cT 0, R, .inl (upd g j (nI e1)))), (x2, .inr (4, [.ref w2, .int (nI K2), .int b2])), (w2, .inl (cT 0, R2, .inl f2))] _ := hP
              have hD : va_D A [(h, .inr (4, [.ref w, .int (nI K), .int b])), (w, .inl (cT 0, R, .inl (upd g j (nI e1)))), (x2, .inr (4, [.ref w2, .int (nI K2), .int b2])), (w2, .inl (cT 0, R2, .inl f2))] := hD
              refine lv_iinc (k := 6) (v := nI (j + 1)) hx hb dW_plus_163 hl rfl (nI_1 j) (by decide) rfl (fun ls hl => ?_)
              have hl : lv_has ls 8 [(5, .int (nI (j + 1))), (4, .int 0), (7, .int s1), (6, .int (nI y1)), (0, .ref h), (1, .ref x2), (3, .int 0)] := hl
              refine lv_goto (tgt := 32) hx hb dW_plus_166 rfl ?_
              exact ih32 (j + 1, 0, 0, upd g j (nI e1)) (show (j + 1) ≤ R ∧ 0 ≤ 1 ∧ dok 1000000000 (upd g j (nI e1)) (j + 1) ∧ (∀ m, (j + 1) ≤ m → (upd g j (nI e1)) m = f m) ∧ 0 = -(nI 0) ∧ hv 1000000000 (dg (upd g j (nI e1))) 0 (j + 1) + hv 1000000000 (ct K2 (dg f2)) 0 (j + 1) = hv 1000000000 (ct K (dg f)) 0 (j + 1) + 1000000000 ^ (j + 1) * 0 from ⟨by omega, by omega, dok_s ig he1b (by decide), fun q h => (pk_un (by omega)).trans (if0 q (by omega)), by decide, by rw [hv_us (v := e1) (by omega), hv_snoc, hv_snoc, Nat.zero_add, Nat.pow_succ, ← hx1, ← hy1]; exact sub_s iv (by omega)⟩) (show R - (j + 1) < R - j from (by omega)) ls H locs (lv_sub hl [4, 5, 6, 1, 0] rfl) hP hD hS
            · have hng : (x1 : Int) - y1 - o < 0 := by have q := Int32.lt_iff_toInt_lt.mp (Int32.not_le.mp h43); rw [hs1i] at q; exact q
              obtain ⟨e1, he1⟩ : ∃ q9 : Nat, q9 = x1 + 1000000000 - y1 - o := ⟨_, rfl⟩
              have he1b : e1 < 1000000000 := by omega
              refine lv_iconst (v := (-1)) hx hb dW_plus_141 (by decide) ?_
              refine lv_goto (tgt := 146) hx hb dW_plus_142 rfl ?_
              refine lv_istore hx hb dW_plus_146 hl (by decide) rfl (fun ls hl => ?_)
              have hl : lv_has ls 8 [(4, .int (-1)), (7, .int s1), (6, .int (nI y1)), (0, .ref h), (1, .ref x2), (3, .int 0), (5, .int (nI j))] := hl
              refine lv_aload_n hx hb dW_plus_148 rfl (lv_at hl 3 rfl) ?_
              refine va_get (D := D) (ci := 4) (v := .ref w) (C := R_W) (T := T_W) (N := 3) hx hb hT in_W hown hK hP 0 rfl rfl 0 (by decide) (hT _ w145) (fun _ h9 => h9) rfl dW_plus_149 ?_
              refine lv_iload hx hb dW_plus_152 (lv_at hl 6 rfl) ?_
              refine lv_iload hx hb dW_plus_154 (lv_at hl 1 rfl) ?_
              refine lv_iload hx hb dW_plus_156 (lv_at hl 0 rfl) ?_
              refine lv_ldc (v := 1000000000) hx hb hown (hT _ w462) dW_plus_158 ?_
              refine lv_imul hx hb dW_plus_160 ?_
              refine lv_topi (fun y9 e9 => ?_)
              cases (show y9 = (-1000000000) from e9.trans (by decide))
              refine lv_isub hx hb dW_plus_161 ?_
              refine lv_topi (fun y9 e9 => ?_)
              cases (show y9 = nI e1 from e9.trans (sb_m hs1i (by omega) hng (by omega)))
              refine lq_iast (j := j) hx hb hK hP hD hS 1 0 rfl rfl rfl (by omega) (by omega) dW_plus_162 (fun H locs hP hD hS => ?_)
              have hP : va_P D vwCl [(h, .inr (4, [.ref w, .int (nI K), .int b])), (w, .inl (cT 0, R, .inl (upd g j (nI e1)))), (x2, .inr (4, [.ref w2, .int (nI K2), .int b2])), (w2, .inl (cT 0, R2, .inl f2))] _ := hP
              have hD : va_D A [(h, .inr (4, [.ref w, .int (nI K), .int b])), (w, .inl (cT 0, R, .inl (upd g j (nI e1)))), (x2, .inr (4, [.ref w2, .int (nI K2), .int b2])), (w2, .inl (cT 0, R2, .inl f2))] := hD
              refine lv_iinc (k := 6) (v := nI (j + 1)) hx hb dW_plus_163 hl rfl (nI_1 j) (by decide) rfl (fun ls hl => ?_)
              have hl : lv_has ls 8 [(5, .int (nI (j + 1))), (4, .int (-1)), (7, .int s1), (6, .int (nI y1)), (0, .ref h), (1, .ref x2), (3, .int 0)] := hl
              refine lv_goto (tgt := 32) hx hb dW_plus_166 rfl ?_
              exact ih32 (j + 1, 1, (-1), upd g j (nI e1)) (show (j + 1) ≤ R ∧ 1 ≤ 1 ∧ dok 1000000000 (upd g j (nI e1)) (j + 1) ∧ (∀ m, (j + 1) ≤ m → (upd g j (nI e1)) m = f m) ∧ (-1) = -(nI 1) ∧ hv 1000000000 (dg (upd g j (nI e1))) 0 (j + 1) + hv 1000000000 (ct K2 (dg f2)) 0 (j + 1) = hv 1000000000 (ct K (dg f)) 0 (j + 1) + 1000000000 ^ (j + 1) * 1 from ⟨by omega, by omega, dok_s ig he1b (by decide), fun q h => (pk_un (by omega)).trans (if0 q (by omega)), by decide, by rw [hv_us (v := e1) (by omega), hv_snoc, hv_snoc, Nat.zero_add, Nat.pow_succ, ← hx1, ← hy1]; exact sub_s iv (by omega)⟩) (show R - (j + 1) < R - j from (by omega)) ls H locs (lv_sub hl [4, 5, 6, 1, 0] rfl) hP hD hS
          · refine lv_iload hx hb dW_plus_87 (lv_at hl 5 rfl) ?_
            refine lv_aload_n hx hb dW_plus_89 rfl (lv_at hl 1 rfl) ?_
            refine va_get (D := D) (ci := 4) (v := .int (nI K)) (C := R_W) (T := T_W) (N := 3) hx hb hT in_W hown hK hP 0 rfl rfl 1 (by decide) (hT _ w148) (fun _ h9 => h9) rfl dW_plus_90 ?_
            refine lv_icmp_ge (tgt := 106) hx hb dW_plus_93 rfl (fun h44 => absurd h44 (Int32.not_le.mpr h38)) (fun _ => ?_)
            refine lv_aload_n hx hb dW_plus_96 rfl (lv_at hl 1 rfl) ?_
            refine va_get (D := D) (ci := 4) (v := .ref w) (C := R_W) (T := T_W) (N := 3) hx hb hT in_W hown hK hP 0 rfl rfl 0 (by decide) (hT _ w145) (fun _ h9 => h9) rfl dW_plus_97 ?_
            refine lv_iload hx hb dW_plus_100 (lv_at hl 5 rfl) ?_
            refine lq_iald (j := j) hx hb hK hP 1 0 rfl rfl rfl (by omega) (by omega) dW_plus_102 ?_
            refine lv_goto (tgt := 107) hx hb dW_plus_103 rfl ?_
            exact hct40 _ (by rw [if0 j (Nat.le_refl _), hx1, ct_lt (show j < K by omega)]; exact (hd j (by omega)).1)
        · refine lv_iload hx hb dW_plus_65 (lv_at hl 4 rfl) ?_
          refine lv_aload_n hx hb dW_plus_67 rfl (lv_at hl 1 rfl) ?_
          refine va_get (D := D) (ci := 4) (v := .int (nI K2)) (C := R_W) (T := T_W) (N := 3) hx hb hT in_W hown hK hP 2 rfl rfl 1 (by decide) (hT _ w148) (fun _ h9 => h9) rfl dW_plus_68 ?_
          refine lv_icmp_ge (tgt := 84) hx hb dW_plus_71 rfl (fun h45 => ?_) (fun h45 => ?_)
          · have gh45 : K2 ≤ j := (nI_leI (a := K2) (b := j) (by omega) (by omega)).mp h45
            refine lv_iconst (v := 0) hx hb dW_plus_84 (by decide) ?_
            exact hct39 _ (by rw [hy1, ct_ge (show K2 ≤ j by omega)]; rfl)
          · have gh45 : j < K2 := Nat.not_le.mp (fun q => h45 ((nI_leI (a := K2) (b := j) (by omega) (by omega)).mpr q))
            refine lv_aload_n hx hb dW_plus_74 rfl (lv_at hl 1 rfl) ?_
            refine va_get (D := D) (ci := 4) (v := .ref w2) (C := R_W) (T := T_W) (N := 3) hx hb hT in_W hown hK hP 2 rfl rfl 0 (by decide) (hT _ w145) (fun _ h9 => h9) rfl dW_plus_75 ?_
            refine lv_iload hx hb dW_plus_78 (lv_at hl 4 rfl) ?_
            refine lq_iald (j := j) hx hb hK hP 3 0 rfl rfl rfl (by omega) (by omega) dW_plus_80 ?_
            refine lv_goto (tgt := 85) hx hb dW_plus_81 rfl ?_
            exact hct39 _ (by rw [hy1, ct_lt (show j < K2 by omega)]; exact (qhd j (by omega)).1)
      · have gh38 : K ≤ j := Nat.not_lt.mp (fun q => h38 ((nI_ltI (a := j) (b := K) (by omega) (by omega)).mpr q))
        refine lv_iload hx hb dW_plus_51 (lv_at hl 4 rfl) ?_
        refine lv_aload_n hx hb dW_plus_53 rfl (lv_at hl 1 rfl) ?_
        refine va_get (D := D) (ci := 4) (v := .int (nI K2)) (C := R_W) (T := T_W) (N := 3) hx hb hT in_W hown hK hP 2 rfl rfl 1 (by decide) (hT _ w148) (fun _ h9 => h9) rfl dW_plus_54 ?_
        refine lv_icmp_lt (tgt := 65) hx hb dW_plus_57 rfl (fun h46 => ?_) (fun h46 => ?_)
        · have gh46 : j < K2 := (nI_ltI (a := j) (b := K2) (by omega) (by omega)).mp h46
          obtain ⟨y1, hy1⟩ : ∃ q9 : Nat, q9 = ct K2 (dg f2) j := ⟨_, rfl⟩
          obtain ⟨x1, hx1⟩ : ∃ q9 : Nat, q9 = ct K (dg f) j := ⟨_, rfl⟩
          have hy1b : y1 < 1000000000 := by
            rw [hy1]
            by_cases q : j < K2
            · rw [ct_lt q]; exact (qhd j q).2
            · rw [ct_ge (show K2 ≤ j by omega)]; decide
          have hx1b : x1 < 1000000000 := by
            rw [hx1]
            by_cases q : j < K
            · rw [ct_lt q]; exact (hd j q).2
            · rw [ct_ge (show K ≤ j by omega)]; decide
          refine lp_cut (fun x9 : Int32 => x9 = nI y1) (fun x9 => [.int x9]) 85 ls (fun x9 e9 => ?_) (fun hct47 => ?_)
          · cases (show x9 = nI y1 from e9)
            refine lv_istore hx hb dW_plus_85 hl (by decide) rfl (fun ls hl => ?_)
            have hl : lv_has ls 8 [(6, .int (nI y1)), (0, .ref h), (1, .ref x2), (3, .int 0), (4, .int (-(nI o))), (5, .int (nI j))] := hl
            refine lp_cut (fun x9 : Int32 => x9 = nI x1) (fun x9 => [.int x9]) 107 ls (fun x9 e9 => ?_) (fun hct48 => ?_)
            · cases (show x9 = nI x1 from e9)
              refine lv_iload_n hx hb dW_plus_107 rfl (lv_at hl 3 rfl) ?_
              refine lv_if_eq (tgt := 116) hx hb dW_plus_108 rfl (fun _ => ?_) (fun h49 => absurd (by decide) h49)
              refine lv_iload hx hb dW_plus_116 (lv_at hl 0 rfl) ?_
              refine lv_ineg hx hb dW_plus_118 ?_
              refine lv_iadd hx hb dW_plus_119 ?_
              refine lv_iload hx hb dW_plus_120 (lv_at hl 4 rfl) ?_
              refine lv_iadd hx hb dW_plus_122 ?_
              obtain ⟨s1, hs1⟩ : ∃ q9 : Int32, q9 = nI x1 + -(nI y1) + -(nI o) := ⟨_, rfl⟩
              refine lv_topi (fun y9 e9 => ?_)
              cases (show y9 = s1 from e9.trans hs1.symm)
              have hs1i : s1.toInt = (x1 : Int) - y1 - o := by rw [hs1]; exact sb_ti (by omega) (by omega) io
              refine lv_istore hx hb dW_plus_123 hl (by decide) rfl (fun ls hl => ?_)
              have hl : lv_has ls 8 [(7, .int s1), (6, .int (nI y1)), (0, .ref h), (1, .ref x2), (3, .int 0), (4, .int (-(nI o))), (5, .int (nI j))] := hl
              refine lv_iload hx hb dW_plus_125 (lv_at hl 0 rfl) ?_
              refine lv_ldc (v := 1000000000) hx hb hown (hT _ w462) dW_plus_127 ?_
              refine lv_icmp_lt (tgt := 136) hx hb dW_plus_129 rfl (fun _ => ?_) (fun h50 => absurd (Int32.lt_iff_toInt_lt.mpr (by rw [hs1i]; show _ < (1000000000 : Int); omega)) h50)
              refine lv_iload hx hb dW_plus_136 (lv_at hl 0 rfl) ?_
              refine lv_if_ge (tgt := 145) hx hb dW_plus_138 rfl (fun h51 => ?_) (fun h51 => ?_)
              · have hng : 0 ≤ (x1 : Int) - y1 - o := by have q := Int32.le_iff_toInt_le.mp h51; rw [hs1i] at q; exact q
                obtain ⟨e1, he1⟩ : ∃ q9 : Nat, q9 = x1 - y1 - o := ⟨_, rfl⟩
                have he1b : e1 < 1000000000 := by omega
                refine lv_iconst (v := 0) hx hb dW_plus_145 (by decide) ?_
                refine lv_istore hx hb dW_plus_146 hl (by decide) rfl (fun ls hl => ?_)
                have hl : lv_has ls 8 [(4, .int 0), (7, .int s1), (6, .int (nI y1)), (0, .ref h), (1, .ref x2), (3, .int 0), (5, .int (nI j))] := hl
                refine lv_aload_n hx hb dW_plus_148 rfl (lv_at hl 3 rfl) ?_
                refine va_get (D := D) (ci := 4) (v := .ref w) (C := R_W) (T := T_W) (N := 3) hx hb hT in_W hown hK hP 0 rfl rfl 0 (by decide) (hT _ w145) (fun _ h9 => h9) rfl dW_plus_149 ?_
                refine lv_iload hx hb dW_plus_152 (lv_at hl 6 rfl) ?_
                refine lv_iload hx hb dW_plus_154 (lv_at hl 1 rfl) ?_
                refine lv_iload hx hb dW_plus_156 (lv_at hl 0 rfl) ?_
                refine lv_ldc (v := 1000000000) hx hb hown (hT _ w462) dW_plus_158 ?_
                refine lv_imul hx hb dW_plus_160 ?_
                refine lv_topi (fun y9 e9 => ?_)
                cases (show y9 = 0 from e9.trans (by decide))
                refine lv_isub hx hb dW_plus_161 ?_
                refine lv_topi (fun y9 e9 => ?_)
                cases (show y9 = nI e1 from e9.trans (sb_z hs1i hng (by omega) (by omega)))
                refine lq_iast (j := j) hx hb hK hP hD hS 1 0 rfl rfl rfl (by omega) (by omega) dW_plus_162 (fun H locs hP hD hS => ?_)
                have hP : va_P D vwCl [(h, .inr (4, [.ref w, .int (nI K), .int b])), (w, .inl (cT 0, R, .inl (upd g j (nI e1)))), (x2, .inr (4, [.ref w2, .int (nI K2), .int b2])), (w2, .inl (cT 0, R2, .inl f2))] _ := hP
                have hD : va_D A [(h, .inr (4, [.ref w, .int (nI K), .int b])), (w, .inl (cT 0, R, .inl (upd g j (nI e1)))), (x2, .inr (4, [.ref w2, .int (nI K2), .int b2])), (w2, .inl (cT 0, R2, .inl f2))] := hD
                refine lv_iinc (k := 6) (v := nI (j + 1)) hx hb dW_plus_163 hl rfl (nI_1 j) (by decide) rfl (fun ls hl => ?_)
                have hl : lv_has ls 8 [(5, .int (nI (j + 1))), (4, .int 0), (7, .int s1), (6, .int (nI y1)), (0, .ref h), (1, .ref x2), (3, .int 0)] := hl
                refine lv_goto (tgt := 32) hx hb dW_plus_166 rfl ?_
                exact ih32 (j + 1, 0, 0, upd g j (nI e1)) (show (j + 1) ≤ R ∧ 0 ≤ 1 ∧ dok 1000000000 (upd g j (nI e1)) (j + 1) ∧ (∀ m, (j + 1) ≤ m → (upd g j (nI e1)) m = f m) ∧ 0 = -(nI 0) ∧ hv 1000000000 (dg (upd g j (nI e1))) 0 (j + 1) + hv 1000000000 (ct K2 (dg f2)) 0 (j + 1) = hv 1000000000 (ct K (dg f)) 0 (j + 1) + 1000000000 ^ (j + 1) * 0 from ⟨by omega, by omega, dok_s ig he1b (by decide), fun q h => (pk_un (by omega)).trans (if0 q (by omega)), by decide, by rw [hv_us (v := e1) (by omega), hv_snoc, hv_snoc, Nat.zero_add, Nat.pow_succ, ← hx1, ← hy1]; exact sub_s iv (by omega)⟩) (show R - (j + 1) < R - j from (by omega)) ls H locs (lv_sub hl [4, 5, 6, 1, 0] rfl) hP hD hS
              · have hng : (x1 : Int) - y1 - o < 0 := by have q := Int32.lt_iff_toInt_lt.mp (Int32.not_le.mp h51); rw [hs1i] at q; exact q
                obtain ⟨e1, he1⟩ : ∃ q9 : Nat, q9 = x1 + 1000000000 - y1 - o := ⟨_, rfl⟩
                have he1b : e1 < 1000000000 := by omega
                refine lv_iconst (v := (-1)) hx hb dW_plus_141 (by decide) ?_
                refine lv_goto (tgt := 146) hx hb dW_plus_142 rfl ?_
                refine lv_istore hx hb dW_plus_146 hl (by decide) rfl (fun ls hl => ?_)
                have hl : lv_has ls 8 [(4, .int (-1)), (7, .int s1), (6, .int (nI y1)), (0, .ref h), (1, .ref x2), (3, .int 0), (5, .int (nI j))] := hl
                refine lv_aload_n hx hb dW_plus_148 rfl (lv_at hl 3 rfl) ?_
                refine va_get (D := D) (ci := 4) (v := .ref w) (C := R_W) (T := T_W) (N := 3) hx hb hT in_W hown hK hP 0 rfl rfl 0 (by decide) (hT _ w145) (fun _ h9 => h9) rfl dW_plus_149 ?_
                refine lv_iload hx hb dW_plus_152 (lv_at hl 6 rfl) ?_
                refine lv_iload hx hb dW_plus_154 (lv_at hl 1 rfl) ?_
                refine lv_iload hx hb dW_plus_156 (lv_at hl 0 rfl) ?_
                refine lv_ldc (v := 1000000000) hx hb hown (hT _ w462) dW_plus_158 ?_
                refine lv_imul hx hb dW_plus_160 ?_
                refine lv_topi (fun y9 e9 => ?_)
                cases (show y9 = (-1000000000) from e9.trans (by decide))
                refine lv_isub hx hb dW_plus_161 ?_
                refine lv_topi (fun y9 e9 => ?_)
                cases (show y9 = nI e1 from e9.trans (sb_m hs1i (by omega) hng (by omega)))
                refine lq_iast (j := j) hx hb hK hP hD hS 1 0 rfl rfl rfl (by omega) (by omega) dW_plus_162 (fun H locs hP hD hS => ?_)
                have hP : va_P D vwCl [(h, .inr (4, [.ref w, .int (nI K), .int b])), (w, .inl (cT 0, R, .inl (upd g j (nI e1)))), (x2, .inr (4, [.ref w2, .int (nI K2), .int b2])), (w2, .inl (cT 0, R2, .inl f2))] _ := hP
                have hD : va_D A [(h, .inr (4, [.ref w, .int (nI K), .int b])), (w, .inl (cT 0, R, .inl (upd g j (nI e1)))), (x2, .inr (4, [.ref w2, .int (nI K2), .int b2])), (w2, .inl (cT 0, R2, .inl f2))] := hD
                refine lv_iinc (k := 6) (v := nI (j + 1)) hx hb dW_plus_163 hl rfl (nI_1 j) (by decide) rfl (fun ls hl => ?_)
                have hl : lv_has ls 8 [(5, .int (nI (j + 1))), (4, .int (-1)), (7, .int s1), (6, .int (nI y1)), (0, .ref h), (1, .ref x2), (3, .int 0)] := hl
                refine lv_goto (tgt := 32) hx hb dW_plus_166 rfl ?_
                exact ih32 (j + 1, 1, (-1), upd g j (nI e1)) (show (j + 1) ≤ R ∧ 1 ≤ 1 ∧ dok 1000000000 (upd g j (nI e1)) (j + 1) ∧ (∀ m, (j + 1) ≤ m → (upd g j (nI e1)) m = f m) ∧ (-1) = -(nI 1) ∧ hv 1000000000 (dg (upd g j (nI e1))) 0 (j + 1) + hv 1000000000 (ct K2 (dg f2)) 0 (j + 1) = hv 1000000000 (ct K (dg f)) 0 (j + 1) + 1000000000 ^ (j + 1) * 1 from ⟨by omega, by omega, dok_s ig he1b (by decide), fun q h => (pk_un (by omega)).trans (if0 q (by omega)), by decide, by rw [hv_us (v := e1) (by omega), hv_snoc, hv_snoc, Nat.zero_add, Nat.pow_succ, ← hx1, ← hy1]; exact sub_s iv (by omega)⟩) (show R - (j + 1) < R - j from (by omega)) ls H locs (lv_sub hl [4, 5, 6, 1, 0] rfl) hP hD hS
            · refine lv_iload hx hb dW_plus_87 (lv_at hl 5 rfl) ?_
              refine lv_aload_n hx hb dW_plus_89 rfl (lv_at hl 1 rfl) ?_
              refine va_get (D := D) (ci := 4) (v := .int (nI K)) (C := R_W) (T := T_W) (N := 3) hx hb hT in_W hown hK hP 0 rfl rfl 1 (by decide) (hT _ w148) (fun _ h9 => h9) rfl dW_plus_90 ?_
              refine lv_icmp_ge (tgt := 106) hx hb dW_plus_93 rfl (fun _ => ?_) (fun h52 => absurd (Int32.not_lt.mp h38) h52)
              refine lv_iconst (v := 0) hx hb dW_plus_106 (by decide) ?_
              exact hct48 _ (by rw [hx1, ct_ge (show K ≤ j by omega)]; rfl)
          · refine lv_iload hx hb dW_plus_65 (lv_at hl 4 rfl) ?_
            refine lv_aload_n hx hb dW_plus_67 rfl (lv_at hl 1 rfl) ?_
            refine va_get (D := D) (ci := 4) (v := .int (nI K2)) (C := R_W) (T := T_W) (N := 3) hx hb hT in_W hown hK hP 2 rfl rfl 1 (by decide) (hT _ w148) (fun _ h9 => h9) rfl dW_plus_68 ?_
            refine lv_icmp_ge (tgt := 84) hx hb dW_plus_71 rfl (fun h53 => absurd h53 (Int32.not_le.mpr h46)) (fun _ => ?_)
            refine lv_aload_n hx hb dW_plus_74 rfl (lv_at hl 1 rfl) ?_
            refine va_get (D := D) (ci := 4) (v := .ref w2) (C := R_W) (T := T_W) (N := 3) hx hb hT in_W hown hK hP 2 rfl rfl 0 (by decide) (hT _ w145) (fun _ h9 => h9) rfl dW_plus_75 ?_
            refine lv_iload hx hb dW_plus_78 (lv_at hl 4 rfl) ?_
            refine lq_iald (j := j) hx hb hK hP 3 0 rfl rfl rfl (by omega) (by omega) dW_plus_80 ?_
            refine lv_goto (tgt := 85) hx hb dW_plus_81 rfl ?_
            exact hct47 _ (by rw [hy1, ct_lt (show j < K2 by omega)]; exact (qhd j (by omega)).1)
        · have gh46 : K2 ≤ j := Nat.not_lt.mp (fun q => h46 ((nI_ltI (a := j) (b := K2) (by omega) (by omega)).mpr q))
          refine lv_iload hx hb dW_plus_60 (lv_at hl 3 rfl) ?_
          refine lv_if_le (tgt := 169) hx hb dW_plus_62 rfl (fun _ => ?_) (fun h54 => absurd (show -(nI o) ≤ 0 from by rcases (show o = 0 ∨ o = 1 by omega) with r | r <;> rw [r] <;> decide) h54)
          have hjK : K ≤ j ∧ K2 ≤ j := by omega
          rw [hv_ct hjK.1, hv_ct hjK.2] at iv
          have iv : vW g j + vW f2 K2 = vW f K + 1000000000 ^ j * o := iv
          have hvg := vW_b ig
          have hb2 := vW_b qhd
          have hpw : 1000000000 ^ K2 ≤ 1000000000 ^ j := Nat.pow_le_pow_right (by decide) hjK.2
          refine lv_iload hx hb dW_plus_169 (lv_at hl 3 rfl) ?_
          refine lv_if_ge (tgt := 180) hx hb dW_plus_171 rfl (fun h55 => ?_) (fun h55 => ?_)
          · have ho : o = 0 := by rcases (show o = 0 ∨ o = 1 by omega) with r | r; (exact r); (exact absurd (show 0 ≤ -(nI o) from h55) (by rw [r]; decide))
            rw [ho, Nat.mul_zero, Nat.add_zero] at iv
            refine lv_aload_n hx hb dW_plus_180 rfl (lv_at hl 0 rfl) ?_
            refine lv_iload hx hb dW_plus_181 (lv_at hl 4 rfl) ?_
            refine rw_v (wc := [(h, .inr (4, [.ref w, .int (nI K), .int b])), (w, .inl (cT 0, R, .inl g))]) (wr := [(x2, .inr (4, [.ref w2, .int (nI K2), .int b2])), (w2, .inl (cT 0, R2, .inl f2))]) hP hD hS hA [0, 1] [2, 3] rfl rfl (by decide) (by decide) (va_runV (As := [.int (nI j)]) (rest := []) ⟨hx, hb, hml, hown, hT⟩ (k_trim l D cT h w R (nI K) b g j hR ij ig _) ⟨callB_of 1 hT (tb_gd w397) rfl rfl rfl (hT _ w5) (hT _ w394) hW_trim ⟨Nat.le_of_ble_eq_true rfl, Nat.le_of_ble_eq_true rfl⟩, (hT _ w396), (hT _ wp3)⟩ (RW.preV (ci := 4) (q0 := 0) hZ hS (va_free (wc := [(h, .inr (4, [.ref w, .int (nI K), .int b])), (w, .inl (cT 0, R, .inl g))]) hD hS hA [0, 1] rfl) (hP.sub (ws' := [(h, .inr (4, [.ref w, .int (nI K), .int b])), (w, .inl (cT 0, R, .inl g))]) [0, 1] rfl) hK (hD.sub (ws' := [(h, .inr (4, [.ref w, .int (nI K), .int b])), (w, .inl (cT 0, R, .inl g))]) [0, 1] (by decide) rfl) rfl rfl) rfl rfl hl.1 rfl (lv_room (Nat.le_of_ble_eq_true rfl)) dW_plus_183 ⟨Nat.le_of_ble_eq_true rfl, Nat.le_of_ble_eq_true rfl⟩) (fun u9 H locs hpu56 hP hD hS => ?_)
            obtain ⟨ku56, rfl⟩ : ∃ q9, q9 = u9 := ⟨_, rfl⟩
            have hpu56 : ku56 ≤ j ∧ top0 g ku56 ∧ vW g ku56 = vW g j := hpu56
            have hP : va_P D vwCl [(x2, .inr (4, [.ref w2, .int (nI K2), .int b2])), (w2, .inl (cT 0, R2, .inl f2)), (h, .inr (4, [.ref w, .int (nI ku56), .int b])), (w, .inl (cT 0, R, .inl g))] _ := hP
            have hD : va_D A [(x2, .inr (4, [.ref w2, .int (nI K2), .int b2])), (w2, .inl (cT 0, R2, .inl f2)), (h, .inr (4, [.ref w, .int (nI ku56), .int b])), (w, .inl (cT 0, R, .inl g))] := hD
            have hP9 := hP.sub (ws' := [(h, .inr (4, [.ref w, .int (nI ku56), .int b])), (w, .inl (cT 0, R, .inl g)), (x2, .inr (4, [.ref w2, .int (nI K2), .int b2])), (w2, .inl (cT 0, R2, .inl f2))]) [2, 3, 0, 1] rfl
            have hD9 := hD.sub (ws' := [(h, .inr (4, [.ref w, .int (nI ku56), .int b])), (w, .inl (cT 0, R, .inl g)), (x2, .inr (4, [.ref w2, .int (nI K2), .int b2])), (w2, .inl (cT 0, R2, .inl f2))]) [2, 3, 0, 1] (by decide) rfl
            refine W.widen (k := 0) (n := 0) (Nat.le_of_ble_eq_true rfl) (Nat.le_of_ble_eq_true rfl) ?_
            exact W.vret hx hb hr (fun t ht hW => ⟨⟨(nI ku56, b, g), rfl, (show WN R (nI ku56) b g (z - z2) from by have q0 := wn_trim (R := R) (b := b) ij ig hb01 hpu56; rw [hz, qhz, ← h1]; rw [show vW g j = vW f K - vW f2 K2 by omega] at q0; rw [wz_sub (by omega)]; exact q0), by rw [ht]; exact hP9, hD9⟩, hS.F ht⟩) hS.2.2 dW_plus_186
          · have ho : o = 1 := by rcases (show o = 0 ∨ o = 1 by omega) with r | r; (exact absurd (by rw [r]; decide) h55); (exact r)
            rw [ho, Nat.mul_one] at iv
            refine lv_aload_n hx hb dW_plus_174 rfl (lv_at hl 0 rfl) ?_
            refine lv_iload hx hb dW_plus_175 (lv_at hl 4 rfl) ?_
            refine rw_v (wc := [(h, .inr (4, [.ref w, .int (nI K), .int b])), (w, .inl (cT 0, R, .inl g))]) (wr := [(x2, .inr (4, [.ref w2, .int (nI K2), .int b2])), (w2, .inl (cT 0, R2, .inl f2))]) hP hD hS hA [0, 1] [2, 3] rfl rfl (by decide) (by decide) (va_runV (As := [.int (nI j)]) (rest := []) ⟨hx, hb, hml, hown, hT⟩ (k_complement l D cT h w R (nI K) b g j hR ij ig hb01 _) ⟨callB_of 1 hT (tb_gd w466) rfl rfl rfl (hT _ w5) (hT _ w463) hW_complement ⟨Nat.le_of_ble_eq_true rfl, Nat.le_of_ble_eq_true rfl⟩, (hT _ w465), (hT _ wp5)⟩ (RW.preV (ci := 4) (q0 := 0) hZ hS (va_free (wc := [(h, .inr (4, [.ref w, .int (nI K), .int b])), (w, .inl (cT 0, R, .inl g))]) hD hS hA [0, 1] rfl) (hP.sub (ws' := [(h, .inr (4, [.ref w, .int (nI K), .int b])), (w, .inl (cT 0, R, .inl g))]) [0, 1] rfl) hK (hD.sub (ws' := [(h, .inr (4, [.ref w, .int (nI K), .int b])), (w, .inl (cT 0, R, .inl g))]) [0, 1] (by decide) rfl) rfl rfl) rfl rfl hl.1 rfl (lv_room (Nat.le_of_ble_eq_true rfl)) dW_plus_177 ⟨Nat.le_of_ble_eq_true rfl, Nat.le_of_ble_eq_true rfl⟩) (fun u9 H locs hpu57 hP hD hS => ?_)
            obtain ⟨b1u57, f1u57⟩ := u9
            have hpu57 : dok 1000000000 f1u57 j ∧ (0 < vW g j → vW f1u57 j = 1000000000 ^ j - vW g j) ∧ b1u57 = fl b := hpu57
            have hP : va_P D vwCl [(x2, .inr (4, [.ref w2, .int (nI K2), .int b2])), (w2, .inl (cT 0, R2, .inl f2)), (h, .inr (4, [.ref w, .int (nI K), .int b1u57])), (w, .inl (cT 0, R, .inl f1u57))] _ := hP
            have hD : va_D A [(x2, .inr (4, [.ref w2, .int (nI K2), .int b2])), (w2, .inl (cT 0, R2, .inl f2)), (h, .inr (4, [.ref w, .int (nI K), .int b1u57])), (w, .inl (cT 0, R, .inl f1u57))] := hD
            obtain ⟨hc1, hc2, hc3⟩ := hpu57
            have hc2 := hc2 (by omega)
            refine lv_aload_n hx hb dW_plus_180 rfl (lv_at hl 0 rfl) ?_
            refine lv_iload hx hb dW_plus_181 (lv_at hl 4 rfl) ?_
            refine rw_v (wc := [(h, .inr (4, [.ref w, .int (nI K), .int b1u57])), (w, .inl (cT 0, R, .inl f1u57))]) (wr := [(x2, .inr (4, [.ref w2, .int (nI K2), .int b2])), (w2, .inl (cT 0, R2, .inl f2))]) hP hD hS hA [2, 3] [0, 1] rfl rfl (by decide) (by decide) (va_runV (As := [.int (nI j)]) (rest := []) ⟨hx, hb, hml, hown, hT⟩ (k_trim l D cT h w R (nI K) b1u57 f1u57 j hR ij hc1 _) ⟨callB_of 1 hT (tb_gd w397) rfl rfl rfl (hT _ w5) (hT _ w394) hW_trim ⟨Nat.le_of_ble_eq_true rfl, Nat.le_of_ble_eq_true rfl⟩, (hT _ w396), (hT _ wp3)⟩ (RW.preV (ci := 4) (q0 := 0) hZ hS (va_free (wc := [(h, .inr (4, [.ref w, .int (nI K), .int b1u57])), (w, .inl (cT 0, R, .inl f1u57))]) hD hS hA [2, 3] rfl) (hP.sub (ws' := [(h, .inr (4, [.ref w, .int (nI K), .int b1u57])), (w, .inl (cT 0, R, .inl f1u57))]) [2, 3] rfl) hK (hD.sub (ws' := [(h, .inr (4, [.ref w, .int (nI K), .int b1u57])), (w, .inl (cT 0, R, .inl f1u57))]) [2, 3] (by decide) rfl) rfl rfl) rfl rfl hl.1 rfl (lv_room (Nat.le_of_ble_eq_true rfl)) dW_plus_183 ⟨Nat.le_of_ble_eq_true rfl, Nat.le_of_ble_eq_true rfl⟩) (fun u9 H locs hpu58 hP hD hS => ?_)
            obtain ⟨ku58, rfl⟩ : ∃ q9, q9 = u9 := ⟨_, rfl⟩
            have hpu58 : ku58 ≤ j ∧ top0 f1u57 ku58 ∧ vW f1u57 ku58 = vW f1u57 j := hpu58
            have hP : va_P D vwCl [(x2, .inr (4, [.ref w2, .int (nI K2), .int b2])), (w2, .inl (cT 0, R2, .inl f2)), (h, .inr (4, [.ref w, .int (nI ku58), .int b1u57])), (w, .inl (cT 0, R, .inl f1u57))] _ := hP
            have hD : va_D A [(x2, .inr (4, [.ref w2, .int (nI K2), .int b2])), (w2, .inl (cT 0, R2, .inl f2)), (h, .inr (4, [.ref w, .int (nI ku58), .int b1u57])), (w, .inl (cT 0, R, .inl f1u57))] := hD
            have hP9 := hP.sub (ws' := [(h, .inr (4, [.ref w, .int (nI ku58), .int b1u57])), (w, .inl (cT 0, R, .inl f1u57)), (x2, .inr (4, [.ref w2, .int (nI K2), .int b2])), (w2, .inl (cT 0, R2, .inl f2))]) [2, 3, 0, 1] rfl
            have hD9 := hD.sub (ws' := [(h, .inr (4, [.ref w, .int (nI ku58), .int b1u57])), (w, .inl (cT 0, R, .inl f1u57)), (x2, .inr (4, [.ref w2, .int (nI K2), .int b2])), (w2, .inl (cT 0, R2, .inl f2))]) [2, 3, 0, 1] (by decide) rfl
            refine W.widen (k := 0) (n := 0) (Nat.le_of_ble_eq_true rfl) (Nat.le_of_ble_eq_true rfl) ?_
            exact W.vret hx hb hr (fun t ht hW => ⟨⟨(nI ku58, b1u57, f1u57), rfl, (show WN R (nI ku58) b1u57 f1u57 (z - z2) from by have q0 := wn_trim (R := R) (b := b1u57) ij hc1 (by rw [hc3]; exact fl_01 b) hpu58; rw [hz, qhz, ← h1]; rw [hc3]; rw [hc3, wz_fl, show vW f1u57 j = vW f2 K2 - vW f K by omega, ← wz_sub (by omega), Int.neg_sub] at q0; exact q0), by rw [ht]; exact hP9, hD9⟩, hS.F ht⟩) hS.2.2 dW_plus_186
set_option maxHeartbeats 4000000 in
set_option maxRecDepth 100000 in
theorem m_trim (l : Launch) (D : va_G) (cT : Nat → ClassId) (a : Nat) (f : Nat → Int32) (k0 : Nat) (hk0 : k0 ≤ 300) (hd : dok 268435456 f k0) (sz : Nat) : Met l yM_trim WM_trim ({ frames := 0, cells := 0, slots := 0, locals := 0 } : Room) (RW D vwCl [.ref a, .int (nI k0)] [(a, .inl (cT 0, 302, .inl f))] (TY cT) sz) (va_Qv (fun u9 : Nat × (Nat → Int32) => u9.1 ≤ k0 ∧ top0 f u9.1 ∧ vM f u9.1 = vM f k0 ∧ u9.2 300 = nI u9.1 ∧ u9.2 301 = (if u9.1 = 0 then 0 else f 301) ∧ ∀ q8, q8 < 300 → u9.2 q8 = f q8) (BW D vwCl (va_A [(a, .inl (cT 0, 302, .inl f))] sz) (fun u9 : Nat × (Nat → Int32) => [(a, .inl (cT 0, 302, .inl u9.2))])) (va_A [(a, .inl (cT 0, 302, .inl f))] sz)) 0 0 (va_A [(a, .inl (cT 0, 302, .inl f))] sz) := by
  refine Met.ofW (cc := cM_trim) (maxL := 3) (ret := none) (by decide) rfl ?_
  intro p e s m args below meth c s₁ B hml hv
  obtain ⟨rfl, hsz, hZ, hP, hK, hD0⟩ := hv
  have hx := B.exec
  have hb := B.bytes
  have hr := B.returns
  have hts := atoms_spec (ws := WM_trim) B.pre
  have hT : ∀ w ∈ TB, w.before _ s = true := fun w h => hts w (List.mem_cons_of_mem _ h)
  have hown : s.vm.findClass R_M = some m.cls := findClass_of_methodNamed B.named
  have hlocks := B.notSynchronized
  subst hsz
  have hD := hD0.self (sz := s.heap.size)
  generalize hAe : va_A [(a, .inl (cT 0, 302, .inl f))] s.heap.size = A at hD hZ ⊢
  have hA : ∀ q : Nat, s.heap.size ≤ q → A q := fun q h => by rw [← hAe]; exact Or.inr h
  have hS : va_S A s.heap s.heap [] := va_S.rf
  have hl := lv_entry ([.ref a, .int (nI k0)]) (n := 3) (Nat.le_of_ble_eq_true rfl)
  rw [lg_entry_eq]
  generalize (lg_sl ([.ref a, .int (nI k0)]) ++ List.replicate (3 - (lg_sl ([.ref a, .int (nI k0)])).length) Slot.unset).toArray = ls at hl ⊢
  have hl : lv_has ls 3 [(0, .ref a), (1, .int (nI k0))] := hl
  refine lv_iload_n hx hb dM_trim_0 rfl (lv_at hl 1 rfl) ?_
  refine lv_istore_n hx hb dM_trim_1 rfl hl (by decide) rfl (fun ls hl => ?_)
  have hl : lv_has ls 3 [(2, .int (nI k0)), (0, .ref a), (1, .int (nI k0))] := hl
  refine lp_r (α := Nat) (fun a9 => a9 ≤ k0 ∧ vM f a9 = vM f k0) (fun a9 => a9) (fun a9 => [(0, .ref a), (2, .int (nI a9))]) 2 ?_ k0 (show k0 ≤ k0 ∧ vM f k0 = vM f k0 from ⟨Nat.le_refl _, rfl⟩) (lv_sub hl [1, 0] rfl)
  intro a9 hI2 ih2 ls hl
  obtain ⟨k, rfl⟩ : ∃ q9, q9 = a9 := ⟨_, rfl⟩
  have hI2 : k ≤ k0 ∧ vM f k = vM f k0 := hI2
  obtain ⟨ik, iv⟩ := hI2
  have hl : lv_has ls 3 [(0, .ref a), (2, .int (nI k))] := hl
  refine lv_iload_n hx hb dM_trim_2 rfl (lv_at hl 1 rfl) ?_
  refine lv_if_le (tgt := 20) hx hb dM_trim_3 rfl (fun h1 => ?_) (fun h1 => ?_)
  · have gh1 : k ≤ 0 := (nI_leI (a := k) (b := 0) (by omega) (by omega)).mp h1
    have ht0 : top0 f k := fun q => absurd q (by omega)
    refine lv_aload_n hx hb dM_trim_20 rfl (lv_at hl 0 rfl) ?_
    refine lv_sipush (v := 300) hx hb dM_trim_21 (by decide) ?_
    refine lv_iload_n hx hb dM_trim_24 rfl (lv_at hl 1 rfl) ?_
    refine lq_iast (j := 300) hx hb hK hP hD hS 0 0 rfl rfl rfl (by decide) (by decide) dM_trim_25 (fun H locs hP hD hS => ?_)
    have hP : va_P D vwCl [(a, .inl (cT 0, 302, .inl (upd f 300 (nI k))))] _ := hP
    have hD : va_D A [(a, .inl (cT 0, 302, .inl (upd f 300 (nI k))))] := hD
    refine lv_aload_n hx hb dM_trim_26 rfl (lv_at hl 0 rfl) ?_
    refine lv_sipush (v := 301) hx hb dM_trim_27 (by decide) ?_
    refine lv_iload_n hx hb dM_trim_30 rfl (lv_at hl 1 rfl) ?_
    refine lv_if_ne (tgt := 38) hx hb dM_trim_31 rfl (fun h2 => ?_) (fun h2 => ?_)
    · have gh2 : ¬ (k = 0) := fun q => h2 (congrArg nI q)
      refine lv_aload_n hx hb dM_trim_38 rfl (lv_at hl 0 rfl) ?_
      refine lv_sipush (v := 301) hx hb dM_trim_39 (by decide) ?_
      refine lq_iald (j := 301) hx hb hK hP 0 0 rfl rfl rfl (by decide) (by decide) dM_trim_42 ?_
      refine lv_topi (fun y9 e9 => ?_)
      cases (show y9 = f 301 from e9.trans (pk_un (by decide)))
      refine lq_iast (j := 301) hx hb hK hP hD hS 0 0 rfl rfl rfl (by decide) (by decide) dM_trim_43 (fun H locs hP hD hS => ?_)
      have hP : va_P D vwCl [(a, .inl (cT 0, 302, .inl (upd (upd f 300 (nI k)) 301 (f 301))))] _ := hP
      have hD : va_D A [(a, .inl (cT 0, 302, .inl (upd (upd f 300 (nI k)) 301 (f 301))))] := hD
      have hP9 := hP.sub (ws' := [(a, .inl (cT 0, 302, .inl (upd (upd f 300 (nI k)) 301 (f 301))))]) [0] rfl
      have hD9 := hD.sub (ws' := [(a, .inl (cT 0, 302, .inl (upd (upd f 300 (nI k)) 301 (f 301))))]) [0] (by decide) rfl
      refine W.widen (k := 0) (n := 0) (Nat.le_of_ble_eq_true rfl) (Nat.le_of_ble_eq_true rfl) ?_
      exact W.vret hx hb hr (fun t ht hW => ⟨⟨(k, upd (upd f 300 (nI k)) 301 (f 301)), rfl, (show k ≤ k0 ∧ top0 f k ∧ vM f k = vM f k0 ∧ (upd (upd f 300 (nI k)) 301 (f 301)) 300 = nI k ∧ (upd (upd f 300 (nI k)) 301 (f 301)) 301 = (if k = 0 then 0 else f 301) ∧ ∀ q8, q8 < 300 → (upd (upd f 300 (nI k)) 301 (f 301)) q8 = f q8 from ⟨ik, ht0, iv, (pk_un (by decide)).trans pk_us, by rw [pk_us, if_neg (by omega)], fun j hj => (pk_un (by omega)).trans (pk_un (by omega))⟩), by rw [ht]; exact hP9, hD9⟩, hS.F ht⟩) hS.2.2 dM_trim_44
    · have gh2 : k = 0 := (nI_eq (a := k) (b := 0) (by omega) (by omega)).mp h2
      refine lv_iconst (v := 0) hx hb dM_trim_34 (by decide) ?_
      refine lv_goto (tgt := 43) hx hb dM_trim_35 rfl ?_
      refine lq_iast (j := 301) hx hb hK hP hD hS 0 0 rfl rfl rfl (by decide) (by decide) dM_trim_43 (fun H locs hP hD hS => ?_)
      have hP : va_P D vwCl [(a, .inl (cT 0, 302, .inl (upd (upd f 300 (nI k)) 301 0)))] _ := hP
      have hD : va_D A [(a, .inl (cT 0, 302, .inl (upd (upd f 300 (nI k)) 301 0)))] := hD
      have hP9 := hP.sub (ws' := [(a, .inl (cT 0, 302, .inl (upd (upd f 300 (nI k)) 301 0)))]) [0] rfl
      have hD9 := hD.sub (ws' := [(a, .inl (cT 0, 302, .inl (upd (upd f 300 (nI k)) 301 0)))]) [0] (by decide) rfl
      refine W.widen (k := 0) (n := 0) (Nat.le_of_ble_eq_true rfl) (Nat.le_of_ble_eq_true rfl) ?_
      exact W.vret hx hb hr (fun t ht hW => ⟨⟨(k, upd (upd f 300 (nI k)) 301 0), rfl, (show k ≤ k0 ∧ top0 f k ∧ vM f k = vM f k0 ∧ (upd (upd f 300 (nI k)) 301 0) 300 = nI k ∧ (upd (upd f 300 (nI k)) 301 0) 301 = (if k = 0 then 0 else f 301) ∧ ∀ q8, q8 < 300 → (upd (upd f 300 (nI k)) 301 0) q8 = f q8 from ⟨ik, ht0, iv, (pk_un (by decide)).trans pk_us, by rw [pk_us, if_pos (by omega)], fun j hj => (pk_un (by omega)).trans (pk_un (by omega))⟩), by rw [ht]; exact hP9, hD9⟩, hS.F ht⟩) hS.2.2 dM_trim_44
  · have gh1 : 0 < k := Nat.not_le.mp (fun q => h1 ((nI_leI (a := k) (b := 0) (by omega) (by omega)).mpr q))
    refine lv_aload_n hx hb dM_trim_6 rfl (lv_at hl 0 rfl) ?_
    refine lv_iload_n hx hb dM_trim_7 rfl (lv_at hl 1 rfl) ?_
    refine lv_iconst (v := 1) hx hb dM_trim_8 (by decide) ?_
    refine lv_isub hx hb dM_trim_9 ?_
    refine lv_topi (fun y9 e9 => ?_)
    cases (show y9 = nI (k - 1) from e9.trans (pk_sub (a := k) (b := 1) (by omega)))
    refine lq_iald (j := k - 1) hx hb hK hP 0 0 rfl rfl rfl (by omega) (by omega) dM_trim_10 ?_
    refine lv_if_ne (tgt := 20) hx hb dM_trim_11 rfl (fun h3 => ?_) (fun h3 => ?_)
    · have ht0 : top0 f k := fun _ => dg_ne hd (by omega) h3
      refine lv_aload_n hx hb dM_trim_20 rfl (lv_at hl 0 rfl) ?_
      refine lv_sipush (v := 300) hx hb dM_trim_21 (by decide) ?_
      refine lv_iload_n hx hb dM_trim_24 rfl (lv_at hl 1 rfl) ?_
      refine lq_iast (j := 300) hx hb hK hP hD hS 0 0 rfl rfl rfl (by decide) (by decide) dM_trim_25 (fun H locs hP hD hS => ?_)
      have hP : va_P D vwCl [(a, .inl (cT 0, 302, .inl (upd f 300 (nI k))))] _ := hP
      have hD : va_D A [(a, .inl (cT 0, 302, .inl (upd f 300 (nI k))))] := hD
      refine lv_aload_n hx hb dM_trim_26 rfl (lv_at hl 0 rfl) ?_
      refine lv_sipush (v := 301) hx hb dM_trim_27 (by decide) ?_
      refine lv_iload_n hx hb dM_trim_30 rfl (lv_at hl 1 rfl) ?_
      refine lv_if_ne (tgt := 38) hx hb dM_trim_31 rfl (fun h4 => ?_) (fun h4 => ?_)
      · have gh4 : ¬ (k = 0) := fun q => h4 (congrArg nI q)
        refine lv_aload_n hx hb dM_trim_38 rfl (lv_at hl 0 rfl) ?_
        refine lv_sipush (v := 301) hx hb dM_trim_39 (by decide) ?_
        refine lq_iald (j := 301) hx hb hK hP 0 0 rfl rfl rfl (by decide) (by decide) dM_trim_42 ?_
        refine lv_topi (fun y9 e9 => ?_)
        cases (show y9 = f 301 from e9.trans (pk_un (by decide)))
        refine lq_iast (j := 301) hx hb hK hP hD hS 0 0 rfl rfl rfl (by decide) (by decide) dM_trim_43 (fun H locs hP hD hS => ?_)
        have hP : va_P D vwCl [(a, .inl (cT 0, 302, .inl (upd (upd f 300 (nI k)) 301 (f 301))))] _ := hP
        have hD : va_D A [(a, .inl (cT 0, 302, .inl (upd (upd f 300 (nI k)) 301 (f 301))))] := hD
        have hP9 := hP.sub (ws' := [(a, .inl (cT 0, 302, .inl (upd (upd f 300 (nI k)) 301 (f 301))))]) [0] rfl
        have hD9 := hD.sub (ws' := [(a, .inl (cT 0, 302, .inl (upd (upd f 300 (nI k)) 301 (f 301))))]) [0] (by decide) rfl
        refine W.widen (k := 0) (n := 0) (Nat.le_of_ble_eq_true rfl) (Nat.le_of_ble_eq_true rfl) ?_
        exact W.vret hx hb hr (fun t ht hW => ⟨⟨(k, upd (upd f 300 (nI k)) 301 (f 301)), rfl, (show k ≤ k0 ∧ top0 f k ∧ vM f k = vM f k0 ∧ (upd (upd f 300 (nI k)) 301 (f 301)) 300 = nI k ∧ (upd (upd f 300 (nI k)) 301 (f 301)) 301 = (if k = 0 then 0 else f 301) ∧ ∀ q8, q8 < 300 → (upd (upd f 300 (nI k)) 301 (f 301)) q8 = f q8 from ⟨ik, ht0, iv, (pk_un (by decide)).trans pk_us, by rw [pk_us, if_neg (by omega)], fun j hj => (pk_un (by omega)).trans (pk_un (by omega))⟩), by rw [ht]; exact hP9, hD9⟩, hS.F ht⟩) hS.2.2 dM_trim_44
      · have gh4 : k = 0 := (nI_eq (a := k) (b := 0) (by omega) (by omega)).mp h4
        refine lv_iconst (v := 0) hx hb dM_trim_34 (by decide) ?_
        refine lv_goto (tgt := 43) hx hb dM_trim_35 rfl ?_
        refine lq_iast (j := 301) hx hb hK hP hD hS 0 0 rfl rfl rfl (by decide) (by decide) dM_trim_43 (fun H locs hP hD hS => ?_)
        have hP : va_P D vwCl [(a, .inl (cT 0, 302, .inl (upd (upd f 300 (nI k)) 301 0)))] _ := hP
        have hD : va_D A [(a, .inl (cT 0, 302, .inl (upd (upd f 300 (nI k)) 301 0)))] := hD
        have hP9 := hP.sub (ws' := [(a, .inl (cT 0, 302, .inl (upd (upd f 300 (nI k)) 301 0)))]) [0] rfl
        have hD9 := hD.sub (ws' := [(a, .inl (cT 0, 302, .inl (upd (upd f 300 (nI k)) 301 0)))]) [0] (by decide) rfl
        refine W.widen (k := 0) (n := 0) (Nat.le_of_ble_eq_true rfl) (Nat.le_of_ble_eq_true rfl) ?_
        exact W.vret hx hb hr (fun t ht hW => ⟨⟨(k, upd (upd f 300 (nI k)) 301 0), rfl, (show k ≤ k0 ∧ top0 f k ∧ vM f k = vM f k0 ∧ (upd (upd f 300 (nI k)) 301 0) 300 = nI k ∧ (upd (upd f 300 (nI k)) 301 0) 301 = (if k = 0 then 0 else f 301) ∧ ∀ q8, q8 < 300 → (upd (upd f 300 (nI k)) 301 0) q8 = f q8 from ⟨ik, ht0, iv, (pk_un (by decide)).trans pk_us, by rw [pk_us, if_pos (by omega)], fun j hj => (pk_un (by omega)).trans (pk_un (by omega))⟩), by rw [ht]; exact hP9, hD9⟩, hS.F ht⟩) hS.2.2 dM_trim_44
    · refine lv_iinc (k := 1) (v := nI (k - 1)) hx hb dM_trim_14 hl rfl (sb_m1 (by omega)) (by decide) rfl (fun ls hl => ?_)
      have hl : lv_has ls 3 [(2, .int (nI (k - 1))), (0, .ref a)] := hl
      refine lv_goto (tgt := 2) hx hb dM_trim_17 rfl ?_
      exact ih2 (k - 1) (show (k - 1) ≤ k0 ∧ vM f (k - 1) = vM f k0 from ⟨by omega, (hv_dec (by omega) (dg_eq0 h3)).trans iv⟩) (show (k - 1) < k from (by omega)) ls (lv_sub hl [1, 0] rfl)
set_option maxHeartbeats 4000000 in
set_option maxRecDepth 100000 in
theorem m_rest (l : Launch) (D : va_G) (cT : Nat → ClassId) (a : Nat) (f : Nat → Int32) (z : Int) (d : Nat) (hN : MN f z) (hd0 : 0 < d) (hd1 : d < 2 ^ 31) : Met l yM_rest WM_rest ({ frames := 0, cells := 0, slots := 0, locals := 0 } : Room) (RO D vwCl [.ref a, .int (nI d)] [(a, .inl (cT 0, 302, .inl f))] (TY cT)) (QcRead (nI (z.natAbs % d))) 0 0 (fun _ => False) := by
  refine Met.ofW (cc := cM_rest) (maxL := 5) (ret := (some .int)) (by decide) rfl ?_
  intro p e s m args below meth c s₁ B hml hv
  obtain ⟨rfl, hZ, hP, hK⟩ := hv
  have hx := B.exec
  have hb := B.bytes
  have hr := B.returns
  have hts := atoms_spec (ws := WM_rest) B.pre
  have hT : ∀ w ∈ TB, w.before _ s = true := fun w h => hts w (List.mem_cons_of_mem _ h)
  have hown : s.vm.findClass R_M = some m.cls := findClass_of_methodNamed B.named
  have hlocks := B.notSynchronized
  have hS : va_S (fun _ => False) s.heap s.heap [] := va_S.rf
  have hl := lv_entry ([.ref a, .int (nI d)]) (n := 5) (Nat.le_of_ble_eq_true rfl)
  rw [lg_entry_eq]
  generalize (lg_sl ([.ref a, .int (nI d)]) ++ List.replicate (5 - (lg_sl ([.ref a, .int (nI d)])).length) Slot.unset).toArray = ls at hl ⊢
  have hl : lv_has ls 5 [(0, .ref a), (1, .int (nI d))] := hl
  obtain ⟨K, h300, hk, hd, htop, hs, hva⟩ := hN
  refine lv_lconst (v := 0) hx hb dM_rest_0 (by decide) ?_
  refine lv_lstore_n hx hb dM_rest_1 rfl hl (by decide) rfl (fun ls hl => ?_)
  have hl : lv_has ls 5 [(2, .long 0), (0, .ref a), (1, .int (nI d))] := hl
  refine lv_aload_n hx hb dM_rest_2 rfl (lv_at hl 1 rfl) ?_
  refine lv_sipush (v := 300) hx hb dM_rest_3 (by decide) ?_
  refine lq_iald (j := 300) hx hb hK hP 0 0 rfl rfl rfl (by decide) (by decide) dM_rest_6 ?_
  refine lv_topi (fun y9 e9 => ?_)
  cases (show y9 = nI K from e9.trans h300)
  refine lv_iconst (v := 1) hx hb dM_rest_7 (by decide) ?_
  refine lv_isub hx hb dM_rest_8 ?_
  refine lv_istore hx hb dM_rest_9 hl (by decide) rfl (fun ls hl => ?_)
  have hl : lv_has ls 5 [(4, .int ((nI K) - 1)), (2, .long 0), (0, .ref a), (1, .int (nI d))] := hl
  refine lp_r (α := Nat × Nat) (fun a9 => a9.1 ≤ K ∧ a9.2 < d ∧ a9.2 = hv 268435456 (dg f) a9.1 (K - a9.1) % d) (fun a9 => a9.1) (fun a9 => [(0, .ref a), (1, .int (nI d)), (2, .long (lN a9.2)), (4, .int (nI a9.1 - 1))]) 11 ?_ (K, 0) (show K ≤ K ∧ 0 < d ∧ 0 = hv 268435456 (dg f) K (K - K) % d from ⟨Nat.le_refl _, hd0, by rw [Nat.sub_self]; exact (Nat.zero_mod d).symm⟩) (lv_sub hl [2, 3, 1, 0] rfl)
  intro a9 hI11 ih11 ls hl
  obtain ⟨k, r⟩ := a9
  have hI11 : k ≤ K ∧ r < d ∧ r = hv 268435456 (dg f) k (K - k) % d := hI11
  obtain ⟨ik, ir, iv⟩ := hI11
  have hl : lv_has ls 5 [(0, .ref a), (1, .int (nI d)), (2, .long (lN r)), (4, .int (nI k - 1))] := hl
  refine lv_iload hx hb dM_rest_11 (lv_at hl 3 rfl) ?_
  refine lv_if_lt (tgt := 36) hx hb dM_rest_13 rfl (fun h1 => ?_) (fun h1 => ?_)
  · have gh1 : k = 0 := (dn_lt (by omega)).mp h1
    refine lv_lload_n hx hb dM_rest_36 rfl (lv_at hl 2 rfl) ?_
    refine lv_l2i hx hb dM_rest_37 rfl ?_
    refine lv_topi (fun y9 e9 => ?_)
    cases (show y9 = nI r from e9.trans (lN_i r))
    exact W.iret (v := nI r) hx hb hr (fun t ht hW => ⟨by rw [hva, iv, show k = 0 by omega, Nat.sub_zero], ht⟩) (fun q h => nomatch h) dM_rest_38
  · have gh1 : 0 < k := Nat.pos_of_ne_zero (fun q => h1 ((dn_lt (by omega)).mpr q))
    have hw := hd (k - 1) (by omega)
    refine lv_lload_n hx hb dM_rest_16 rfl (lv_at hl 2 rfl) ?_
    refine lv_bipush (v := 28) hx hb dM_rest_17 (by decide) ?_
    refine lv_lshl hx hb dM_rest_19 rfl ?_
    refine lv_aload_n hx hb dM_rest_20 rfl (lv_at hl 0 rfl) ?_
    refine lv_iload hx hb dM_rest_21 (lv_at hl 3 rfl) ?_
    refine lq_iald (j := k - 1) hx hb hK hP 0 0 rfl rfl (nI_sub1 (by omega)) (by omega) (by decide) dM_rest_23 ?_
    refine lv_topi (fun y9 e9 => ?_)
    cases (show y9 = nI (dg f (k - 1)) from e9.trans hw.1)
    refine lv_i2l hx hb dM_rest_24 rfl ?_
    refine lv_topl (fun y9 e9 => ?_)
    cases (show y9 = lN (dg f (k - 1)) from e9.trans (nI_l (n := dg f (k - 1)) (by have := hw.2; omega)))
    refine lv_lor hx hb dM_rest_25 ?_
    obtain ⟨pt, hpt⟩ : ∃ q9 : Nat, q9 = r * 268435456 + dg f (k - 1) := ⟨_, rfl⟩
    refine lv_topl (fun y9 e9 => ?_)
    cases (show y9 = lN pt from e9.trans (by rw [hpt]; exact mor (by omega) hw.2))
    have hb31 : pt < 2 ^ 62 := by have := hw.2; omega
    refine lv_iload_n hx hb dM_rest_26 rfl (lv_at hl 1 rfl) ?_
    refine lv_i2l hx hb dM_rest_27 rfl ?_
    refine lv_topl (fun y9 e9 => ?_)
    cases (show y9 = lN d from e9.trans (nI_l (n := d) (by omega)))
    refine lv_lrem hx hb dM_rest_28 (fun q => absurd ((pk_lEQ (b := 0) (by omega) (by decide)).mp q) (by omega)) ?_
    refine lv_topl (fun y9 e9 => ?_)
    cases (show y9 = lN (pt % d) from e9.trans (pk_lRem (a := pt) (b := d) (by omega) hd0 (by omega)))
    obtain ⟨r1, hr1⟩ : ∃ q9 : Nat, q9 = pt % d := ⟨_, rfl⟩
    refine lv_topl (fun y9 e9 => ?_)
    cases (show y9 = lN r1 from e9.trans (congrArg lN hr1.symm))
    refine lv_lstore_n hx hb dM_rest_29 rfl hl (by decide) rfl (fun ls hl => ?_)
    have hl : lv_has ls 5 [(2, .long (lN r1)), (0, .ref a), (1, .int (nI d)), (4, .int (nI k - 1))] := hl
    refine lv_iinc (k := 3) (v := nI (k - 1) - 1) hx hb dM_rest_30 hl rfl (dn_m1 (by omega)) (by decide) rfl (fun ls hl => ?_)
    have hl : lv_has ls 5 [(4, .int (nI (k - 1) - 1)), (2, .long (lN r1)), (0, .ref a), (1, .int (nI d))] := hl
    refine lv_goto (tgt := 11) hx hb dM_rest_33 rfl ?_
    exact ih11 (k - 1, r1) (show (k - 1) ≤ K ∧ r1 < d ∧ r1 = hv 268435456 (dg f) (k - 1) (K - (k - 1)) % d from ⟨by omega, by rw [hr1, hpt]; exact Nat.mod_lt _ hd0, by rw [hr1, hpt, rest_s iv, hv_dn (by omega) ik]⟩) (show (k - 1) < k from (by omega)) ls (lv_sub hl [2, 3, 1, 0] rfl)
set_option maxHeartbeats 4000000 in
set_option maxRecDepth 100000 in
theorem m_divide (l : Launch) (D : va_G) (cT : Nat → ClassId) (a : Nat) (f : Nat → Int32) (z : Int) (d : Nat) (hN : MN f z) (hd0 : 0 < d) (hd1 : d < 2 ^ 31) (sz : Nat) : Met l yM_divide WM_divide ({ frames := 1, cells := 0, slots := 0, locals := 22 } : Room) (RW D vwCl [.ref a, .int (nI d)] [(a, .inl (cT 0, 302, .inl f))] (TY cT) sz) (va_Qi (fun (r9 : Int32) (u9 : (Nat → Int32)) => r9 = nI (z.natAbs % d) ∧ MN u9 (z.tdiv d)) (BW D vwCl (va_A [(a, .inl (cT 0, 302, .inl f))] sz) (fun u9 : (Nat → Int32) => [(a, .inl (cT 0, 302, .inl u9))])) (va_A [(a, .inl (cT 0, 302, .inl f))] sz)) 0 0 (va_A [(a, .inl (cT 0, 302, .inl f))] sz) := by
  refine Met.ofW (cc := cM_divide) (maxL := 7) (ret := (some .int)) (by decide) rfl ?_
  intro p e s m args below meth c s₁ B hml hv
  obtain ⟨rfl, hsz, hZ, hP, hK, hD0⟩ := hv
  have hx := B.exec
  have hb := B.bytes
  have hr := B.returns
  have hts := atoms_spec (ws := WM_divide) B.pre
  have hT : ∀ w ∈ TB, w.before _ s = true := fun w h => hts w (List.mem_cons_of_mem _ h)
  have hown : s.vm.findClass R_M = some m.cls := findClass_of_methodNamed B.named
  have hlocks := B.notSynchronized
  subst hsz
  have hD := hD0.self (sz := s.heap.size)
  generalize hAe : va_A [(a, .inl (cT 0, 302, .inl f))] s.heap.size = A at hD hZ ⊢
  have hA : ∀ q : Nat, s.heap.size ≤ q → A q := fun q h => by rw [← hAe]; exact Or.inr h
  have hS : va_S A s.heap s.heap [] := va_S.rf
  have hl := lv_entry ([.ref a, .int (nI d)]) (n := 7) (Nat.le_of_ble_eq_true rfl)
  rw [lg_entry_eq]
  generalize (lg_sl ([.ref a, .int (nI d)]) ++ List.replicate (7 - (lg_sl ([.ref a, .int (nI d)])).length) Slot.unset).toArray = ls at hl ⊢
  have hl : lv_has ls 7 [(0, .ref a), (1, .int (nI d))] := hl
  obtain ⟨K, h300, hk, hd, htop, hs, hva⟩ := hN
  refine lv_lconst (v := 0) hx hb dM_divide_0 (by decide) ?_
  refine lv_lstore_n hx hb dM_divide_1 rfl hl (by decide) rfl (fun ls hl => ?_)
  have hl : lv_has ls 7 [(2, .long 0), (0, .ref a), (1, .int (nI d))] := hl
  refine lv_aload_n hx hb dM_divide_2 rfl (lv_at hl 1 rfl) ?_
  refine lv_sipush (v := 300) hx hb dM_divide_3 (by decide) ?_
  refine lq_iald (j := 300) hx hb hK hP 0 0 rfl rfl rfl (by decide) (by decide) dM_divide_6 ?_
  refine lv_topi (fun y9 e9 => ?_)
  cases (show y9 = nI K from e9.trans h300)
  refine lv_iconst (v := 1) hx hb dM_divide_7 (by decide) ?_
  refine lv_isub hx hb dM_divide_8 ?_
  refine lv_istore hx hb dM_divide_9 hl (by decide) rfl (fun ls hl => ?_)
  have hl : lv_has ls 7 [(4, .int ((nI K) - 1)), (2, .long 0), (0, .ref a), (1, .int (nI d))] := hl
  refine lp_w (α := Nat × Nat × (Nat → Int32)) (fun a9 => a9.1 ≤ K ∧ a9.2.1 < d ∧ (∀ j, j < a9.1 → a9.2.2 j = f j) ∧ (∀ j, K ≤ j → a9.2.2 j = f j) ∧ dab 268435456 a9.2.2 a9.1 K ∧ hv 268435456 (dg f) a9.1 (K - a9.1) = d * hv 268435456 (dg a9.2.2) a9.1 (K - a9.1) + a9.2.1) (fun a9 => a9.1) (fun a9 => [(0, .ref a), (1, .int (nI d)), (2, .long (lN a9.2.1)), (4, .int (nI a9.1 - 1))]) (fun a9 => [(a, .inl (cT 0, 302, .inl a9.2.2))]) 11 ?_ (K, 0, f) (show K ≤ K ∧ 0 < d ∧ (∀ j, j < K → f j = f j) ∧ (∀ j, K ≤ j → f j = f j) ∧ dab 268435456 f K K ∧ hv 268435456 (dg f) K (K - K) = d * hv 268435456 (dg f) K (K - K) + 0 from ⟨Nat.le_refl _, hd0, fun _ _ => rfl, fun _ _ => rfl, fun m h1 h2 => absurd h1 (by omega), by rw [Nat.sub_self]; rfl⟩) (lv_sub hl [2, 3, 1, 0] rfl) hP hD hS
  intro a9 hI11 ih11 ls H locs hl hP hD hS
  obtain ⟨k, r, g⟩ := a9
  have hI11 : k ≤ K ∧ r < d ∧ (∀ j, j < k → g j = f j) ∧ (∀ j, K ≤ j → g j = f j) ∧ dab 268435456 g k K ∧ hv 268435456 (dg f) k (K - k) = d * hv 268435456 (dg g) k (K - k) + r := hI11
  obtain ⟨ik, ir, ig, ih, ia, iv⟩ := hI11
  have hl : lv_has ls 7 [(0, .ref a), (1, .int (nI d)), (2, .long (lN r)), (4, .int (nI k - 1))] := hl
  have hP : va_P D vwCl [(a, .inl (cT 0, 302, .inl g))] _ := hP
  have hD : va_D A [(a, .inl (cT 0, 302, .inl g))] := hD
  refine lv_iload hx hb dM_divide_11 (lv_at hl 3 rfl) ?_
  refine lv_if_lt (tgt := 50) hx hb dM_divide_13 rfl (fun h1 => ?_) (fun h1 => ?_)
  · have gh1 : k = 0 := (dn_lt (by omega)).mp h1
    have k0 : k = 0 := by omega
    subst k0
    have hdk := dab_dok ia
    have hl : lv_has ls 7 [(0, .ref a), (1, .int (nI d)), (2, .long (lN r)), (4, .int (nI 0 - 1))] := hl
    have hP : va_P D vwCl [(a, .inl (cT 0, 302, .inl g))] _ := hP
    have hD : va_D A [(a, .inl (cT 0, 302, .inl g))] := hD
    have hq0 : vM g K = vM f K / d := vW_uq iv ir
    have hr0 : r = vM f K % d := by have q0 : vM f K = d * vM g K + r := iv; rw [q0, Nat.mul_add_mod, Nat.mod_eq_of_lt ir]
    refine lv_aload_n hx hb dM_divide_50 rfl (lv_at hl 0 rfl) ?_
    refine lv_aload_n hx hb dM_divide_51 rfl (lv_at hl 0 rfl) ?_
    refine lv_sipush (v := 300) hx hb dM_divide_52 (by decide) ?_
    refine lq_iald (j := 300) hx hb hK hP 0 0 rfl rfl rfl (by decide) (by decide) dM_divide_55 ?_
    refine lv_topi (fun y9 e9 => ?_)
    cases (show y9 = nI K from e9.trans ((ih 300 hk).trans h300))
    refine rw_v (wc := [(a, .inl (cT 0, 302, .inl g))]) (wr := []) hP hD hS hA [0] [] rfl rfl (by decide) (by decide) (va_runS (As := [.ref a, .int (nI K)]) (rest := []) ⟨hx, hb, hml, hown, hT⟩ (m_trim l D cT a g K hk hdk _) ⟨callB_of 2 hT (tb_gd w1420) rfl rfl rfl (hT _ w13) (hT _ w1418) hM_trim ⟨Nat.le_of_ble_eq_true rfl, Nat.le_of_ble_eq_true rfl⟩, (hT _ w1419)⟩ (RW.preS hZ hS (va_free (wc := [(a, .inl (cT 0, 302, .inl g))]) hD hS hA [0] rfl) (hP.sub (ws' := [(a, .inl (cT 0, 302, .inl g))]) [0] rfl) hK (hD.sub (ws' := [(a, .inl (cT 0, 302, .inl g))]) [0] (by decide) rfl)) rfl rfl hl.1 rfl (lv_room (Nat.le_of_ble_eq_true rfl)) dM_divide_56 ⟨Nat.le_of_ble_eq_true rfl, Nat.le_of_ble_eq_true rfl⟩) (fun u9 H locs hpu2 hP hD hS => ?_)
    obtain ⟨ku2, f1u2⟩ := u9
    have hpu2 : ku2 ≤ K ∧ top0 g ku2 ∧ vM g ku2 = vM g K ∧ f1u2 300 = nI ku2 ∧ f1u2 301 = (if ku2 = 0 then 0 else g 301) ∧ ∀ q8, q8 < 300 → f1u2 q8 = g q8 := hpu2
    have hP : va_P D vwCl [(a, .inl (cT 0, 302, .inl f1u2))] _ := hP
    have hD : va_D A [(a, .inl (cT 0, 302, .inl f1u2))] := hD
    refine lv_lload_n hx hb dM_divide_59 rfl (lv_at hl 2 rfl) ?_
    refine lv_l2i hx hb dM_divide_60 rfl ?_
    refine lv_topi (fun y9 e9 => ?_)
    cases (show y9 = nI r from e9.trans (lN_i r))
    have hP9 := hP.sub (ws' := [(a, .inl (cT 0, 302, .inl f1u2))]) [0] rfl
    have hD9 := hD.sub (ws' := [(a, .inl (cT 0, 302, .inl f1u2))]) [0] (by decide) rfl
    refine W.widen (k := 0) (n := 0) (Nat.le_of_ble_eq_true rfl) (Nat.le_of_ble_eq_true rfl) ?_
    exact W.iret (v := nI r) hx hb hr (fun t ht hW => ⟨⟨nI r, f1u2, rfl, (show (nI r) = nI (z.natAbs % d) ∧ MN f1u2 (z.tdiv d) from ⟨by rw [hr0, hva], mn_trim hk hdk hpu2 (by rw [Int.natAbs_tdiv, hva, hq0]; rfl) (fun q => by rw [ih 301 (by omega), hs]; exact (sg_tdiv q).symm)⟩), by rw [ht]; exact hP9, hD9⟩, hS.F ht⟩) hS.2.2 dM_divide_61
  · have gh1 : 0 < k := Nat.pos_of_ne_zero (fun q => h1 ((dn_lt (by omega)).mpr q))
    have hw := hd (k - 1) (by omega)
    refine lv_lload_n hx hb dM_divide_16 rfl (lv_at hl 2 rfl) ?_
    refine lv_bipush (v := 28) hx hb dM_divide_17 (by decide) ?_
    refine lv_lshl hx hb dM_divide_19 rfl ?_
    refine lv_aload_n hx hb dM_divide_20 rfl (lv_at hl 0 rfl) ?_
    refine lv_iload hx hb dM_divide_21 (lv_at hl 3 rfl) ?_
    refine lq_iald (j := k - 1) hx hb hK hP 0 0 rfl rfl (nI_sub1 (by omega)) (by omega) (by decide) dM_divide_23 ?_
    refine lv_topi (fun y9 e9 => ?_)
    cases (show y9 = nI (dg f (k - 1)) from e9.trans ((ig (k - 1) (by omega)).trans hw.1))
    refine lv_i2l hx hb dM_divide_24 rfl ?_
    refine lv_topl (fun y9 e9 => ?_)
    cases (show y9 = lN (dg f (k - 1)) from e9.trans (nI_l (n := dg f (k - 1)) (by have := hw.2; omega)))
    refine lv_lor hx hb dM_divide_25 ?_
    obtain ⟨pt, hpt⟩ : ∃ q9 : Nat, q9 = r * 268435456 + dg f (k - 1) := ⟨_, rfl⟩
    refine lv_topl (fun y9 e9 => ?_)
    cases (show y9 = lN pt from e9.trans (by rw [hpt]; exact mor (by omega) hw.2))
    have hb31 : pt < 2 ^ 62 := by have := hw.2; omega
    refine lv_lstore hx hb dM_divide_26 hl (by decide) rfl (fun ls hl => ?_)
    have hl : lv_has ls 7 [(5, .long (lN pt)), (0, .ref a), (1, .int (nI d)), (2, .long (lN r)), (4, .int (nI k - 1))] := hl
    refine lv_aload_n hx hb dM_divide_28 rfl (lv_at hl 1 rfl) ?_
    refine lv_iload hx hb dM_divide_29 (lv_at hl 4 rfl) ?_
    refine lv_lload hx hb dM_divide_31 (lv_at hl 0 rfl) ?_
    refine lv_iload_n hx hb dM_divide_33 rfl (lv_at hl 2 rfl) ?_
    refine lv_i2l hx hb dM_divide_34 rfl ?_
    refine lv_topl (fun y9 e9 => ?_)
    cases (show y9 = lN d from e9.trans (nI_l (n := d) (by omega)))
    refine lv_ldiv hx hb dM_divide_35 (fun q => absurd ((pk_lEQ (b := 0) (by omega) (by decide)).mp q) (by omega)) ?_
    refine lv_topl (fun y9 e9 => ?_)
    cases (show y9 = lN (pt / d) from e9.trans (pk_lDiv (a := pt) (b := d) (by omega) hd0 (by omega)))
    obtain ⟨q1, hq1⟩ : ∃ q9 : Nat, q9 = pt / d := ⟨_, rfl⟩
    refine lv_topl (fun y9 e9 => ?_)
    cases (show y9 = lN q1 from e9.trans (congrArg lN hq1.symm))
    have hq1b : q1 < 268435456 := by rw [hq1, hpt]; exact div_lt ir hw.2
    refine lv_l2i hx hb dM_divide_36 rfl ?_
    refine lv_topi (fun y9 e9 => ?_)
    cases (show y9 = nI q1 from e9.trans (lN_i q1))
    refine lq_iast (j := k - 1) hx hb hK hP hD hS 0 0 rfl rfl (nI_sub1 (by omega)) (by omega) (by decide) dM_divide_37 (fun H locs hP hD hS => ?_)
    have hP : va_P D vwCl [(a, .inl (cT 0, 302, .inl (upd g (k - 1) (nI q1))))] _ := hP
    have hD : va_D A [(a, .inl (cT 0, 302, .inl (upd g (k - 1) (nI q1))))] := hD
    refine lv_lload hx hb dM_divide_38 (lv_at hl 0 rfl) ?_
    refine lv_iload_n hx hb dM_divide_40 rfl (lv_at hl 2 rfl) ?_
    refine lv_i2l hx hb dM_divide_41 rfl ?_
    refine lv_topl (fun y9 e9 => ?_)
    cases (show y9 = lN d from e9.trans (nI_l (n := d) (by omega)))
    refine lv_lrem hx hb dM_divide_42 (fun q => absurd ((pk_lEQ (b := 0) (by omega) (by decide)).mp q) (by omega)) ?_
    refine lv_topl (fun y9 e9 => ?_)
    cases (show y9 = lN (pt % d) from e9.trans (pk_lRem (a := pt) (b := d) (by omega) hd0 (by omega)))
    obtain ⟨r1, hr1⟩ : ∃ q9 : Nat, q9 = pt % d := ⟨_, rfl⟩
    refine lv_topl (fun y9 e9 => ?_)
    cases (show y9 = lN r1 from e9.trans (congrArg lN hr1.symm))
    refine lv_lstore_n hx hb dM_divide_43 rfl hl (by decide) rfl (fun ls hl => ?_)
    have hl : lv_has ls 7 [(2, .long (lN r1)), (5, .long (lN pt)), (0, .ref a), (1, .int (nI d)), (4, .int (nI k - 1))] := hl
    refine lv_iinc (k := 4) (v := nI (k - 1) - 1) hx hb dM_divide_44 hl rfl (dn_m1 (by omega)) (by decide) rfl (fun ls hl => ?_)
    have hl : lv_has ls 7 [(4, .int (nI (k - 1) - 1)), (2, .long (lN r1)), (5, .long (lN pt)), (0, .ref a), (1, .int (nI d))] := hl
    refine lv_goto (tgt := 11) hx hb dM_divide_47 rfl ?_
    exact ih11 (k - 1, r1, upd g (k - 1) (nI q1)) (show (k - 1) ≤ K ∧ r1 < d ∧ (∀ j, j < (k - 1) → (upd g (k - 1) (nI q1)) j = f j) ∧ (∀ j, K ≤ j → (upd g (k - 1) (nI q1)) j = f j) ∧ dab 268435456 (upd g (k - 1) (nI q1)) (k - 1) K ∧ hv 268435456 (dg f) (k - 1) (K - (k - 1)) = d * hv 268435456 (dg (upd g (k - 1) (nI q1))) (k - 1) (K - (k - 1)) + r1 from ⟨by omega, by rw [hr1, hpt]; exact Nat.mod_lt _ hd0, fun j h => (pk_un (by omega)).trans (ig j (by omega)), fun j h => (pk_un (by omega)).trans (ih j h), dab_s (by omega) ia hq1b (by decide), by rw [hv_dn (by omega) ik, hv_ud (v := q1) (by omega) ik (by omega)]; exact div_s iv (by rw [hq1, hpt]) (by rw [hr1, hpt])⟩) (show (k - 1) < k from (by omega)) ls H locs (lv_sub hl [3, 4, 1, 0] rfl) hP hD hS
set_option maxHeartbeats 4000000 in
set_option maxRecDepth 100000 in
theorem m_times (l : Launch) (D : va_G) (cT : Nat → ClassId) (a : Nat) (f : Nat → Int32) (z : Int) (d : Nat) (hN : MN f z) (hd0 : 0 < d) (hd1 : d < 2 ^ 31) (hfit : z.natAbs * d < 268435456 ^ 250) (sz : Nat) : Met l yM_times WM_times ({ frames := 1, cells := 0, slots := 0, locals := 22 } : Room) (RW D vwCl [.ref a, .int (nI d)] [(a, .inl (cT 0, 302, .inl f))] (TY cT) sz) (va_Qv (fun u9 : (Nat → Int32) => MN u9 (z * d)) (BW D vwCl (va_A [(a, .inl (cT 0, 302, .inl f))] sz) (fun u9 : (Nat → Int32) => [(a, .inl (cT 0, 302, .inl u9))])) (va_A [(a, .inl (cT 0, 302, .inl f))] sz)) 0 0 (va_A [(a, .inl (cT 0, 302, .inl f))] sz) := by
  refine Met.ofW (cc := cM_times) (maxL := 8) (ret := none) (by decide) rfl ?_
  intro p e s m args below meth c s₁ B hml hv
  obtain ⟨rfl, hsz, hZ, hP, hK, hD0⟩ := hv
  have hx := B.exec
  have hb := B.bytes
  have hr := B.returns
  have hts := atoms_spec (ws := WM_times) B.pre
  have hT : ∀ w ∈ TB, w.before _ s = true := fun w h => hts w (List.mem_cons_of_mem _ h)
  have hown : s.vm.findClass R_M = some m.cls := findClass_of_methodNamed B.named
  have hlocks := B.notSynchronized
  subst hsz
  have hD := hD0.self (sz := s.heap.size)
  generalize hAe : va_A [(a, .inl (cT 0, 302, .inl f))] s.heap.size = A at hD hZ ⊢
  have hA : ∀ q : Nat, s.heap.size ≤ q → A q := fun q h => by rw [← hAe]; exact Or.inr h
  have hS : va_S A s.heap s.heap [] := va_S.rf
  have hl := lv_entry ([.ref a, .int (nI d)]) (n := 8) (Nat.le_of_ble_eq_true rfl)
  rw [lg_entry_eq]
  generalize (lg_sl ([.ref a, .int (nI d)]) ++ List.replicate (8 - (lg_sl ([.ref a, .int (nI d)])).length) Slot.unset).toArray = ls at hl ⊢
  have hl : lv_has ls 8 [(0, .ref a), (1, .int (nI d))] := hl
  obtain ⟨K, h300, hk, hd, htop, hs, hva⟩ := hN
  refine lv_lconst (v := 0) hx hb dM_times_0 (by decide) ?_
  refine lv_lstore_n hx hb dM_times_1 rfl hl (by decide) rfl (fun ls hl => ?_)
  have hl : lv_has ls 8 [(2, .long 0), (0, .ref a), (1, .int (nI d))] := hl
  refine lv_aload_n hx hb dM_times_2 rfl (lv_at hl 1 rfl) ?_
  refine lv_sipush (v := 300) hx hb dM_times_3 (by decide) ?_
  refine lq_iald (j := 300) hx hb hK hP 0 0 rfl rfl rfl (by decide) (by decide) dM_times_6 ?_
  refine lv_topi (fun y9 e9 => ?_)
  cases (show y9 = nI K from e9.trans h300)
  refine lv_istore hx hb dM_times_7 hl (by decide) rfl (fun ls hl => ?_)
  have hl : lv_has ls 8 [(4, .int (nI K)), (2, .long 0), (0, .ref a), (1, .int (nI d))] := hl
  refine lv_iconst (v := 0) hx hb dM_times_9 (by decide) ?_
  refine lv_istore hx hb dM_times_10 hl (by decide) rfl (fun ls hl => ?_)
  have hl : lv_has ls 8 [(5, .int 0), (4, .int (nI K)), (2, .long 0), (0, .ref a), (1, .int (nI d))] := hl
  refine lp_w (α := Nat × Nat × (Nat → Int32)) (fun a9 => a9.1 ≤ K ∧ a9.2.1 < 2147483648 ∧ dok 268435456 a9.2.2 a9.1 ∧ (∀ q, a9.1 ≤ q → a9.2.2 q = f q) ∧ hv 268435456 (dg a9.2.2) 0 a9.1 + 268435456 ^ a9.1 * a9.2.1 = hv 268435456 (dg f) 0 a9.1 * d) (fun a9 => K - a9.1) (fun a9 => [(0, .ref a), (1, .int (nI d)), (2, .long (lN a9.2.1)), (4, .int (nI K)), (5, .int (nI a9.1))]) (fun a9 => [(a, .inl (cT 0, 302, .inl a9.2.2))]) 12 ?_ (0, 0, f) (show 0 ≤ K ∧ 0 < 2147483648 ∧ dok 268435456 f 0 ∧ (∀ q, 0 ≤ q → f q = f q) ∧ hv 268435456 (dg f) 0 0 + 268435456 ^ 0 * 0 = hv 268435456 (dg f) 0 0 * d from ⟨by omega, by decide, fun q h => absurd h (by omega), fun _ _ => rfl, by simp [hv]⟩) (lv_sub hl [3, 4, 2, 1, 0] rfl) hP hD hS
  intro a9 hI12 ih12 ls H locs hl hP hD hS
  obtain ⟨j, ca, g⟩ := a9
  have hI12 : j ≤ K ∧ ca < 2147483648 ∧ dok 268435456 g j ∧ (∀ q, j ≤ q → g q = f q) ∧ hv 268435456 (dg g) 0 j + 268435456 ^ j * ca = hv 268435456 (dg f) 0 j * d := hI12
  obtain ⟨ij, ic, ig, if0, iv⟩ := hI12
  have hl : lv_has ls 8 [(0, .ref a), (1, .int (nI d)), (2, .long (lN ca)), (4, .int (nI K)), (5, .int (nI j))] := hl
  have hP : va_P D vwCl [(a, .inl (cT 0, 302, .inl g))] _ := hP
  have hD : va_D A [(a, .inl (cT 0, 302, .inl g))] := hD
  refine lv_iload hx hb dM_times_12 (lv_at hl 4 rfl) ?_
  refine lv_iload hx hb dM_times_14 (lv_at hl 3 rfl) ?_
  refine lv_icmp_ge (tgt := 54) hx hb dM_times_16 rfl (fun h1 => ?_) (fun h1 => ?_)
  · have gh1 : K ≤ j := (nI_leI (a := K) (b := j) (by omega) (by omega)).mp h1
    have ej : j = K := by omega
    subst ej
    have hl : lv_has ls 8 [(0, .ref a), (1, .int (nI d)), (2, .long (lN ca)), (4, .int (nI j)), (5, .int (nI j))] := hl
    have hP : va_P D vwCl [(a, .inl (cT 0, 302, .inl g))] _ := hP
    have hD : va_D A [(a, .inl (cT 0, 302, .inl g))] := hD
    have hbig : hv 268435456 (dg f) 0 j * d < 268435456 ^ 250 := by have q0 := hfit; rw [hva] at q0; exact q0
    refine lp_w (α := Nat × Nat × (Nat → Int32)) (fun a9 => a9.1 ≤ 300 ∧ a9.2.1 < 2147483648 ∧ dok 268435456 a9.2.2 a9.1 ∧ (∀ q, a9.1 ≤ q → a9.2.2 q = f q) ∧ hv 268435456 (dg a9.2.2) 0 a9.1 + 268435456 ^ a9.1 * a9.2.1 = hv 268435456 (dg f) 0 j * d) (fun a9 => a9.2.1) (fun a9 => [(0, .ref a), (2, .long (lN a9.2.1)), (4, .int (nI a9.1))]) (fun a9 => [(a, .inl (cT 0, 302, .inl a9.2.2))]) 54 ?_ (j, ca, g) (show j ≤ 300 ∧ ca < 2147483648 ∧ dok 268435456 g j ∧ (∀ q, j ≤ q → g q = f q) ∧ hv 268435456 (dg g) 0 j + 268435456 ^ j * ca = hv 268435456 (dg f) 0 j * d from ⟨hk, ic, ig, if0, iv⟩) (lv_sub hl [0, 2, 3] rfl) hP hD hS
    intro a9 hI54 ih54 ls H locs hl hP hD hS
    obtain ⟨i, cb, g2⟩ := a9
    have hI54 : i ≤ 300 ∧ cb < 2147483648 ∧ dok 268435456 g2 i ∧ (∀ q, i ≤ q → g2 q = f q) ∧ hv 268435456 (dg g2) 0 i + 268435456 ^ i * cb = hv 268435456 (dg f) 0 j * d := hI54
    obtain ⟨ji, jc, jg, jf, jv⟩ := hI54
    have hl : lv_has ls 8 [(0, .ref a), (2, .long (lN cb)), (4, .int (nI i))] := hl
    have hP : va_P D vwCl [(a, .inl (cT 0, 302, .inl g2))] _ := hP
    have hD : va_D A [(a, .inl (cT 0, 302, .inl g2))] := hD
    refine lv_lload_n hx hb dM_times_54 rfl (lv_at hl 1 rfl) ?_
    refine lv_lconst (v := 0) hx hb dM_times_55 (by decide) ?_
    refine W.lcmp hx hb dM_times_56 ?_
    refine lv_if_le (tgt := 81) hx hb dM_times_57 rfl (fun h2 => ?_) (fun h2 => ?_)
    · have gh2 : cb ≤ 0 := ((lg_cmp_le (lN cb) 0).trans (pk_lLE (a := cb) (b := 0) (by omega) (by decide))).mp h2
      have hcb : cb = 0 := by omega
      rw [hcb, Nat.mul_zero, Nat.add_zero] at jv
      refine lv_aload_n hx hb dM_times_81 rfl (lv_at hl 0 rfl) ?_
      refine lv_iload hx hb dM_times_82 (lv_at hl 2 rfl) ?_
      refine rw_v (wc := [(a, .inl (cT 0, 302, .inl g2))]) (wr := []) hP hD hS hA [0] [] rfl rfl (by decide) (by decide) (va_runS (As := [.ref a, .int (nI i)]) (rest := []) ⟨hx, hb, hml, hown, hT⟩ (m_trim l D cT a g2 i ji jg _) ⟨callB_of 2 hT (tb_gd w1420) rfl rfl rfl (hT _ w13) (hT _ w1418) hM_trim ⟨Nat.le_of_ble_eq_true rfl, Nat.le_of_ble_eq_true rfl⟩, (hT _ w1419)⟩ (RW.preS hZ hS (va_free (wc := [(a, .inl (cT 0, 302, .inl g2))]) hD hS hA [0] rfl) (hP.sub (ws' := [(a, .inl (cT 0, 302, .inl g2))]) [0] rfl) hK (hD.sub (ws' := [(a, .inl (cT 0, 302, .inl g2))]) [0] (by decide) rfl)) rfl rfl hl.1 rfl (lv_room (Nat.le_of_ble_eq_true rfl)) dM_times_84 ⟨Nat.le_of_ble_eq_true rfl, Nat.le_of_ble_eq_true rfl⟩) (fun u9 H locs hpu3 hP hD hS => ?_)
      obtain ⟨ku3, f1u3⟩ := u9
      have hpu3 : ku3 ≤ i ∧ top0 g2 ku3 ∧ vM g2 ku3 = vM g2 i ∧ f1u3 300 = nI ku3 ∧ f1u3 301 = (if ku3 = 0 then 0 else g2 301) ∧ ∀ q8, q8 < 300 → f1u3 q8 = g2 q8 := hpu3
      have hP : va_P D vwCl [(a, .inl (cT 0, 302, .inl f1u3))] _ := hP
      have hD : va_D A [(a, .inl (cT 0, 302, .inl f1u3))] := hD
      have hP9 := hP.sub (ws' := [(a, .inl (cT 0, 302, .inl f1u3))]) [0] rfl
      have hD9 := hD.sub (ws' := [(a, .inl (cT 0, 302, .inl f1u3))]) [0] (by decide) rfl
      refine W.widen (k := 0) (n := 0) (Nat.le_of_ble_eq_true rfl) (Nat.le_of_ble_eq_true rfl) ?_
      exact W.vret hx hb hr (fun t ht hW => ⟨⟨f1u3, rfl, (show MN f1u3 (z * d) from mn_trim ji jg hpu3 (by rw [Int.natAbs_mul, Int.natAbs_natCast, hva]; exact jv.symm) (fun _ => by rw [jf 301 (by omega), hs, sg_mul hd0])), by rw [ht]; exact hP9, hD9⟩, hS.F ht⟩) hS.2.2 dM_times_87
    · have gh2 : ¬ (cb ≤ 0) := fun q => h2 (((lg_cmp_le (lN cb) 0).trans (pk_lLE (a := cb) (b := 0) (by omega) (by decide))).mpr q)
      have hcb : 0 < cb := by omega
      have hi300 : i < 300 := by
        rcases Nat.lt_or_ge i 250 with q | q
        · omega
        · have h1 := Nat.pow_le_pow_right (show 0 < 268435456 by decide) q
          have h2 := Nat.mul_le_mul_left (268435456 ^ i) (show 1 ≤ cb from hcb)
          rw [Nat.mul_one] at h2
          exact absurd (Nat.lt_of_le_of_lt (Nat.le_trans h1 (Nat.le_trans h2 (by rw [← jv]; exact Nat.le_add_left _ _))) hbig) (Nat.lt_irrefl _)
      refine lv_aload_n hx hb dM_times_60 rfl (lv_at hl 0 rfl) ?_
      refine lv_iload hx hb dM_times_61 (lv_at hl 2 rfl) ?_
      refine lv_lload_n hx hb dM_times_63 rfl (lv_at hl 1 rfl) ?_
      refine lv_ldc2 (v := 268435455) hx hb hown (hT _ w1388) dM_times_64 ?_
      refine lv_land hx hb dM_times_67 ?_
      obtain ⟨v2, hv2⟩ : ∃ q9 : Nat, q9 = cb % 268435456 := ⟨_, rfl⟩
      have hv2b : v2 < 268435456 := by omega
      refine lv_topl (fun y9 e9 => ?_)
      cases (show y9 = lN v2 from e9.trans (by rw [hv2]; exact msk (by omega)))
      refine lv_l2i hx hb dM_times_68 rfl ?_
      refine lv_topi (fun y9 e9 => ?_)
      cases (show y9 = nI v2 from e9.trans (lN_i v2))
      refine lq_iast (j := i) hx hb hK hP hD hS 0 0 rfl rfl rfl (by omega) (by omega) dM_times_69 (fun H locs hP hD hS => ?_)
      have hP : va_P D vwCl [(a, .inl (cT 0, 302, .inl (upd g2 i (nI v2))))] _ := hP
      have hD : va_D A [(a, .inl (cT 0, 302, .inl (upd g2 i (nI v2))))] := hD
      refine lv_lload_n hx hb dM_times_70 rfl (lv_at hl 1 rfl) ?_
      refine lv_bipush (v := 28) hx hb dM_times_71 (by decide) ?_
      refine lv_lshr hx hb dM_times_73 rfl ?_
      obtain ⟨c2, hc2⟩ : ∃ q9 : Nat, q9 = cb / 268435456 := ⟨_, rfl⟩
      refine lv_topl (fun y9 e9 => ?_)
      cases (show y9 = lN c2 from e9.trans (by rw [hc2]; exact msh (by omega)))
      refine lv_lstore_n hx hb dM_times_74 rfl hl (by decide) rfl (fun ls hl => ?_)
      have hl : lv_has ls 8 [(2, .long (lN c2)), (0, .ref a), (4, .int (nI i))] := hl
      refine lv_iinc (k := 2) (v := nI (i + 1)) hx hb dM_times_75 hl rfl (nI_1 i) (by decide) rfl (fun ls hl => ?_)
      have hl : lv_has ls 8 [(4, .int (nI (i + 1))), (2, .long (lN c2)), (0, .ref a)] := hl
      refine lv_goto (tgt := 54) hx hb dM_times_78 rfl ?_
      exact ih54 (i + 1, c2, upd g2 i (nI v2)) (show (i + 1) ≤ 300 ∧ c2 < 2147483648 ∧ dok 268435456 (upd g2 i (nI v2)) (i + 1) ∧ (∀ q, (i + 1) ≤ q → (upd g2 i (nI v2)) q = f q) ∧ hv 268435456 (dg (upd g2 i (nI v2))) 0 (i + 1) + 268435456 ^ (i + 1) * c2 = hv 268435456 (dg f) 0 j * d from ⟨by omega, by omega, dok_s jg hv2b (by decide), fun q h => (pk_un (by omega)).trans (jf q (by omega)), by rw [hv_us (v := v2) (by omega), Nat.pow_succ, hv2, hc2, car_s]; exact jv⟩) (show c2 < cb from (by omega)) ls H locs (lv_sub hl [2, 1, 0] rfl) hP hD hS
  · have gh1 : j < K := Nat.not_le.mp (fun q => h1 ((nI_leI (a := K) (b := j) (by omega) (by omega)).mpr q))
    have hw := hd j (by omega)
    obtain ⟨wd, hwd⟩ : ∃ q9 : Nat, q9 = dg f j := ⟨_, rfl⟩
    have hwdb : wd < 268435456 := by rw [hwd]; exact hw.2
    rw [← hwd] at hw
    have hwm : wd * d ≤ (268435456 - 1) * (2147483648 - 1) := Nat.mul_le_mul (by omega) (by omega)
    refine lv_aload_n hx hb dM_times_19 rfl (lv_at hl 0 rfl) ?_
    refine lv_iload hx hb dM_times_20 (lv_at hl 4 rfl) ?_
    refine lq_iald (j := j) hx hb hK hP 0 0 rfl rfl rfl (by omega) (by omega) dM_times_22 ?_
    refine lv_topi (fun y9 e9 => ?_)
    cases (show y9 = nI wd from e9.trans ((if0 j (Nat.le_refl _)).trans hw.1))
    refine lv_i2l hx hb dM_times_23 rfl ?_
    refine lv_topl (fun y9 e9 => ?_)
    cases (show y9 = lN wd from e9.trans (nI_l (n := wd) (by omega)))
    refine lv_iload_n hx hb dM_times_24 rfl (lv_at hl 1 rfl) ?_
    refine lv_i2l hx hb dM_times_25 rfl ?_
    refine lv_topl (fun y9 e9 => ?_)
    cases (show y9 = lN d from e9.trans (nI_l (n := d) (by omega)))
    refine lv_lmul hx hb dM_times_26 ?_
    refine lv_topl (fun y9 e9 => ?_)
    cases (show y9 = lN (wd * d) from e9.trans (lN_mul wd d))
    refine lv_lload_n hx hb dM_times_27 rfl (lv_at hl 2 rfl) ?_
    refine lv_ladd hx hb dM_times_28 ?_
    refine lv_topl (fun y9 e9 => ?_)
    cases (show y9 = lN ((wd * d) + ca) from e9.trans (lN_add (wd * d) ca))
    obtain ⟨sm, hsm⟩ : ∃ q9 : Nat, q9 = (wd * d) + ca := ⟨_, rfl⟩
    refine lv_topl (fun y9 e9 => ?_)
    cases (show y9 = lN sm from e9.trans (congrArg lN hsm.symm))
    have hsb : sm < 2 ^ 62 := by omega
    refine lv_lstore hx hb dM_times_29 hl (by decide) rfl (fun ls hl => ?_)
    have hl : lv_has ls 8 [(6, .long (lN sm)), (0, .ref a), (1, .int (nI d)), (2, .long (lN ca)), (4, .int (nI K)), (5, .int (nI j))] := hl
    refine lv_aload_n hx hb dM_times_31 rfl (lv_at hl 1 rfl) ?_
    refine lv_iload hx hb dM_times_32 (lv_at hl 5 rfl) ?_
    refine lv_lload hx hb dM_times_34 (lv_at hl 0 rfl) ?_
    refine lv_ldc2 (v := 268435455) hx hb hown (hT _ w1388) dM_times_36 ?_
    refine lv_land hx hb dM_times_39 ?_
    obtain ⟨v1, hv1⟩ : ∃ q9 : Nat, q9 = sm % 268435456 := ⟨_, rfl⟩
    have hv1b : v1 < 268435456 := by omega
    refine lv_topl (fun y9 e9 => ?_)
    cases (show y9 = lN v1 from e9.trans (by rw [hv1]; exact msk (by omega)))
    refine lv_l2i hx hb dM_times_40 rfl ?_
    refine lv_topi (fun y9 e9 => ?_)
    cases (show y9 = nI v1 from e9.trans (lN_i v1))
    refine lq_iast (j := j) hx hb hK hP hD hS 0 0 rfl rfl rfl (by omega) (by omega) dM_times_41 (fun H locs hP hD hS => ?_)
    have hP : va_P D vwCl [(a, .inl (cT 0, 302, .inl (upd g j (nI v1))))] _ := hP
    have hD : va_D A [(a, .inl (cT 0, 302, .inl (upd g j (nI v1))))] := hD
    refine lv_lload hx hb dM_times_42 (lv_at hl 0 rfl) ?_
    refine lv_bipush (v := 28) hx hb dM_times_44 (by decide) ?_
    refine lv_lshr hx hb dM_times_46 rfl ?_
    obtain ⟨c1, hc1⟩ : ∃ q9 : Nat, q9 = sm / 268435456 := ⟨_, rfl⟩
    refine lv_topl (fun y9 e9 => ?_)
    cases (show y9 = lN c1 from e9.trans (by rw [hc1]; exact msh (by omega)))
    refine lv_lstore_n hx hb dM_times_47 rfl hl (by decide) rfl (fun ls hl => ?_)
    have hl : lv_has ls 8 [(2, .long (lN c1)), (6, .long (lN sm)), (0, .ref a), (1, .int (nI d)), (4, .int (nI K)), (5, .int (nI j))] := hl
    refine lv_iinc (k := 5) (v := nI (j + 1)) hx hb dM_times_48 hl rfl (nI_1 j) (by decide) rfl (fun ls hl => ?_)
    have hl : lv_has ls 8 [(5, .int (nI (j + 1))), (2, .long (lN c1)), (6, .long (lN sm)), (0, .ref a), (1, .int (nI d)), (4, .int (nI K))] := hl
    refine lv_goto (tgt := 12) hx hb dM_times_51 rfl ?_
    exact ih12 (j + 1, c1, upd g j (nI v1)) (show (j + 1) ≤ K ∧ c1 < 2147483648 ∧ dok 268435456 (upd g j (nI v1)) (j + 1) ∧ (∀ q, (j + 1) ≤ q → (upd g j (nI v1)) q = f q) ∧ hv 268435456 (dg (upd g j (nI v1))) 0 (j + 1) + 268435456 ^ (j + 1) * c1 = hv 268435456 (dg f) 0 (j + 1) * d from ⟨by omega, by omega, dok_s ig hv1b (by decide), fun q h => (pk_un (by omega)).trans (if0 q (by omega)), by rw [hv_us (v := v1) (by omega), hv_snoc, Nat.zero_add, Nat.pow_succ, hv1, hc1, ← hwd]; exact mul_s iv hsm⟩) (show K - (j + 1) < K - j from (by omega)) ls H locs (lv_sub hl [3, 4, 1, 5, 0] rfl) hP hD hS
set_option maxHeartbeats 4000000 in
set_option maxRecDepth 100000 in
theorem k_rangeCheck (l : Launch) (D : va_G) (cT : Nat → ClassId) (n0 : Nat) (k : Nat) (hk : k ≤ n0) (hn : n0 < 2 ^ 31) : Met l yAr_rangeCheck WAr_rangeCheck ({ frames := 0, cells := 0, slots := 0, locals := 0 } : Room) (RO D vwCl [.int (nI n0), .int 0, .int (nI k)] [] (TY cT)) (QcReadV) 0 0 (fun _ => False) := by
  refine Met.ofW (cc := cAr_rangeCheck) (maxL := 3) (ret := none) (by decide) rfl ?_
  intro p e s m args below meth c s₁ B hml hv
  obtain ⟨rfl, hZ, hP, hK⟩ := hv
  have hx := B.exec
  have hb := B.bytes
  have hr := B.returns
  have hts := atoms_spec (ws := WAr_rangeCheck) B.pre
  have hT : ∀ w ∈ TB, w.before _ s = true := fun w h => hts w (List.mem_cons_of_mem _ h)
  have hown : s.vm.findClass R_Ar = some m.cls := findClass_of_methodNamed B.named
  have hlocks := B.notSynchronized
  have hS : va_S (fun _ => False) s.heap s.heap [] := va_S.rf
  have hl := lv_entry ([.int (nI n0), .int 0, .int (nI k)]) (n := 3) (Nat.le_of_ble_eq_true rfl)
  rw [lg_entry_eq]
  generalize (lg_sl ([.int (nI n0), .int 0, .int (nI k)]) ++ List.replicate (3 - (lg_sl ([.int (nI n0), .int 0, .int (nI k)])).length) Slot.unset).toArray = ls at hl ⊢
  have hl : lv_has ls 3 [(0, .int (nI n0)), (1, .int 0), (2, .int (nI k))] := hl
  refine lv_iload_n hx hb dAr_rangeCheck_0 rfl (lv_at hl 1 rfl) ?_
  refine lv_iload_n hx hb dAr_rangeCheck_1 rfl (lv_at hl 2 rfl) ?_
  refine lv_icmp_le (tgt := 46) hx hb dAr_rangeCheck_2 rfl (fun _ => ?_) (fun h1 => absurd (nI_pos' (by omega)) h1)
  refine lv_iload_n hx hb dAr_rangeCheck_46 rfl (lv_at hl 1 rfl) ?_
  refine lv_if_ge (tgt := 59) hx hb dAr_rangeCheck_47 rfl (fun _ => ?_) (fun h2 => absurd (by decide) h2)
  refine lv_iload_n hx hb dAr_rangeCheck_59 rfl (lv_at hl 2 rfl) ?_
  refine lv_iload_n hx hb dAr_rangeCheck_60 rfl (lv_at hl 0 rfl) ?_
  refine lv_icmp_le (tgt := 73) hx hb dAr_rangeCheck_61 rfl (fun _ => ?_) (fun h3 => absurd (nI_le hk (by omega)) h3)
  exact W.vret hx hb hr (fun t ht hW => ⟨rfl, ht⟩) (fun q h => nomatch h) dAr_rangeCheck_73
set_option maxHeartbeats 4000000 in
set_option maxRecDepth 100000 in
theorem k_fill (l : Launch) (D : va_G) (cT : Nat → ClassId) (a : Nat) (R : Nat) (f : Nat → Int32) (k : Nat) (hk : k ≤ R) (hR : R ≤ 48) (sz : Nat) : Met l yAr_fill WAr_fill ({ frames := 1, cells := 0, slots := 0, locals := 22 } : Room) (RW D vwCl [.ref a, .int 0, .int (nI k), .int 0] [(a, .inl (cT 0, R, .inl f))] (TY cT) sz) (va_Qv (fun u9 : (Nat → Int32) => (∀ q8, q8 < k → u9 q8 = 0) ∧ (∀ q8, k ≤ q8 → u9 q8 = f q8)) (BW D vwCl (va_A [(a, .inl (cT 0, R, .inl f))] sz) (fun u9 : (Nat → Int32) => [(a, .inl (cT 0, R, .inl u9))])) (va_A [(a, .inl (cT 0, R, .inl f))] sz)) 0 0 (va_A [(a, .inl (cT 0, R, .inl f))] sz) := by
  refine Met.ofW (cc := cAr_fill) (maxL := 5) (ret := none) (by decide) rfl ?_
  intro p e s m args below meth c s₁ B hml hv
  obtain ⟨rfl, hsz, hZ, hP, hK, hD0⟩ := hv
  have hx := B.exec
  have hb := B.bytes
  have hr := B.returns
  have hts := atoms_spec (ws := WAr_fill) B.pre
  have hT : ∀ w ∈ TB, w.before _ s = true := fun w h => hts w (List.mem_cons_of_mem _ h)
  have hown : s.vm.findClass R_Ar = some m.cls := findClass_of_methodNamed B.named
  have hlocks := B.notSynchronized
  subst hsz
  have hD := hD0.self (sz := s.heap.size)
  generalize hAe : va_A [(a, .inl (cT 0, R, .inl f))] s.heap.size = A at hD hZ ⊢
  have hA : ∀ q : Nat, s.heap.size ≤ q → A q := fun q h => by rw [← hAe]; exact Or.inr h
  have hS : va_S A s.heap s.heap [] := va_S.rf
  have hl := lv_entry ([.ref a, .int 0, .int (nI k), .int 0]) (n := 5) (Nat.le_of_ble_eq_true rfl)
  rw [lg_entry_eq]
  generalize (lg_sl ([.ref a, .int 0, .int (nI k), .int 0]) ++ List.replicate (5 - (lg_sl ([.ref a, .int 0, .int (nI k), .int 0])).length) Slot.unset).toArray = ls at hl ⊢
  have hl : lv_has ls 5 [(0, .ref a), (1, .int 0), (2, .int (nI k)), (3, .int 0)] := hl
  refine lv_aload_n hx hb dAr_fill_0 rfl (lv_at hl 0 rfl) ?_
  refine va_alen (v := nI R) hx hb hK hP 0 0 rfl rfl rfl dAr_fill_1 ?_
  refine lv_iload_n hx hb dAr_fill_2 rfl (lv_at hl 1 rfl) ?_
  refine lv_iload_n hx hb dAr_fill_3 rfl (lv_at hl 2 rfl) ?_
  refine ro_v (va_Run.run (va_runS (As := [.int (nI R), .int 0, .int (nI k)]) (rest := []) ⟨hx, hb, hml, hown, hT⟩ (k_rangeCheck l D cT R k hk (by omega)) ⟨callB_of 3 hT (tb_gd w480) rfl rfl rfl (hT _ w26) (hT _ w478) hAr_rangeCheck ⟨Nat.le_of_ble_eq_true rfl, Nat.le_of_ble_eq_true rfl⟩, (hT _ w479)⟩ (RO.preS hZ hS ((show va_P D vwCl [] _ from fun _ _ h => nomatch h)) hK) rfl rfl hl.1 rfl (lv_room (Nat.le_of_ble_eq_true rfl)) dAr_fill_4 ⟨Nat.le_of_ble_eq_true rfl, Nat.le_of_ble_eq_true rfl⟩)) ?_
  refine lv_iload_n hx hb dAr_fill_7 rfl (lv_at hl 1 rfl) ?_
  refine lv_istore hx hb dAr_fill_8 hl (by decide) rfl (fun ls hl => ?_)
  have hl : lv_has ls 5 [(4, .int 0), (0, .ref a), (1, .int 0), (2, .int (nI k)), (3, .int 0)] := hl
  refine lp_w (α := Nat × (Nat → Int32)) (fun a9 => a9.1 ≤ k ∧ (∀ q, q < a9.1 → a9.2 q = 0) ∧ (∀ q, a9.1 ≤ q → a9.2 q = f q)) (fun a9 => k - a9.1) (fun a9 => [(0, .ref a), (2, .int (nI k)), (3, .int 0), (4, .int (nI a9.1))]) (fun a9 => [(a, .inl (cT 0, R, .inl a9.2))]) 10 ?_ (0, f) (show 0 ≤ k ∧ (∀ q, q < 0 → f q = 0) ∧ (∀ q, 0 ≤ q → f q = f q) from ⟨by omega, fun q h => absurd h (by omega), fun _ _ => rfl⟩) (lv_sub hl [1, 3, 4, 0] rfl) hP hD hS
  intro a9 hI10 ih10 ls H locs hl hP hD hS
  obtain ⟨j, g⟩ := a9
  have hI10 : j ≤ k ∧ (∀ q, q < j → g q = 0) ∧ (∀ q, j ≤ q → g q = f q) := hI10
  obtain ⟨ij, iz, ig⟩ := hI10
  have hl : lv_has ls 5 [(0, .ref a), (2, .int (nI k)), (3, .int 0), (4, .int (nI j))] := hl
  have hP : va_P D vwCl [(a, .inl (cT 0, R, .inl g))] _ := hP
  have hD : va_D A [(a, .inl (cT 0, R, .inl g))] := hD
  refine lv_iload hx hb dAr_fill_10 (lv_at hl 3 rfl) ?_
  refine lv_iload_n hx hb dAr_fill_12 rfl (lv_at hl 1 rfl) ?_
  refine lv_icmp_ge (tgt := 27) hx hb dAr_fill_13 rfl (fun h1 => ?_) (fun h1 => ?_)
  · have gh1 : k ≤ j := (nI_leI (a := k) (b := j) (by omega) (by omega)).mp h1
    have hP9 := hP.sub (ws' := [(a, .inl (cT 0, R, .inl g))]) [0] rfl
    have hD9 := hD.sub (ws' := [(a, .inl (cT 0, R, .inl g))]) [0] (by decide) rfl
    refine W.widen (k := 0) (n := 0) (Nat.le_of_ble_eq_true rfl) (Nat.le_of_ble_eq_true rfl) ?_
    exact W.vret hx hb hr (fun t ht hW => ⟨⟨g, rfl, (show (∀ q8, q8 < k → g q8 = 0) ∧ (∀ q8, k ≤ q8 → g q8 = f q8) from ⟨fun q h => iz q (by omega), fun q h => ig q (by omega)⟩), by rw [ht]; exact hP9, hD9⟩, hS.F ht⟩) hS.2.2 dAr_fill_27
  · have gh1 : j < k := Nat.not_le.mp (fun q => h1 ((nI_leI (a := k) (b := j) (by omega) (by omega)).mpr q))
    refine lv_aload_n hx hb dAr_fill_16 rfl (lv_at hl 0 rfl) ?_
    refine lv_iload hx hb dAr_fill_17 (lv_at hl 3 rfl) ?_
    refine lv_iload_n hx hb dAr_fill_19 rfl (lv_at hl 2 rfl) ?_
    refine lq_iast (j := j) hx hb hK hP hD hS 0 0 rfl rfl rfl (by omega) (by omega) dAr_fill_20 (fun H locs hP hD hS => ?_)
    have hP : va_P D vwCl [(a, .inl (cT 0, R, .inl (upd g j 0)))] _ := hP
    have hD : va_D A [(a, .inl (cT 0, R, .inl (upd g j 0)))] := hD
    refine lv_iinc (k := 3) (v := nI (j + 1)) hx hb dAr_fill_21 hl rfl (nI_1 j) (by decide) rfl (fun ls hl => ?_)
    have hl : lv_has ls 5 [(4, .int (nI (j + 1))), (0, .ref a), (2, .int (nI k)), (3, .int 0)] := hl
    refine lv_goto (tgt := 10) hx hb dAr_fill_24 rfl ?_
    exact ih10 (j + 1, upd g j 0) (show (j + 1) ≤ k ∧ (∀ q, q < (j + 1) → (upd g j 0) q = 0) ∧ (∀ q, (j + 1) ≤ q → (upd g j 0) q = f q) from ⟨by omega, fun q h => (by by_cases r : q = j; (subst r; exact pk_us); (exact (pk_un r).trans (iz q (by omega)))), fun q h => (pk_un (by omega)).trans (ig q (by omega))⟩) (show k - (j + 1) < k - j from (by omega)) ls H locs (lv_sub hl [1, 2, 3, 0] rfl) hP hD hS
set_option maxHeartbeats 4000000 in
set_option maxRecDepth 100000 in
theorem k_square (l : Launch) (D : va_G) (cT : Nat → ClassId) (h : Nat) (w : Nat) (R : Nat) (n : Int32) (b : Int32) (f : Nat → Int32) (x2 : Nat) (w2 : Nat) (R2 : Nat) (n2 : Int32) (b2 : Int32) (f2 : Nat → Int32) (z2 : Int) (hR : R ≤ 48) (hR2 : R2 ≤ 48) (hN2 : WN R2 n2 b2 f2 z2) (hfit : z2.natAbs * z2.natAbs < 1000000000 ^ R) (sz : Nat) : Met l yW_setProduct WW_setProduct ({ frames := 2, cells := 0, slots := 0, locals := 46 } : Room) (RW D vwCl [.ref h, .ref x2, .ref x2] [(h, .inr (4, [.ref w, .int n, .int b])), (w, .inl (cT 0, R, .inl f)), (x2, .inr (4, [.ref w2, .int n2, .int b2])), (w2, .inl (cT 0, R2, .inl f2))] (TY cT) sz) (va_Qv (fun u9 : Int32 × Int32 × (Nat → Int32) => WN R u9.1 u9.2.1 u9.2.2 (z2 * z2)) (BW D vwCl (va_A [(h, .inr (4, [.ref w, .int n, .int b])), (w, .inl (cT 0, R, .inl f)), (x2, .inr (4, [.ref w2, .int n2, .int b2])), (w2, .inl (cT 0, R2, .inl f2))] sz) (fun u9 : Int32 × Int32 × (Nat → Int32) => [(h, .inr (4, [.ref w, .int u9.1, .int u9.2.1])), (w, .inl (cT 0, R, .inl u9.2.2)), (x2, .inr (4, [.ref w2, .int n2, .int b2])), (w2, .inl (cT 0, R2, .inl f2))])) (va_A [(h, .inr (4, [.ref w, .int n, .int b])), (w, .inl (cT 0, R, .inl f)), (x2, .inr (4, [.ref w2, .int n2, .int b2])), (w2, .inl (cT 0, R2, .inl f2))] sz)) 0 0 (va_A [(h, .inr (4, [.ref w, .int n, .int b])), (w, .inl (cT 0, R, .inl f)), (x2, .inr (4, [.ref w2, .int n2, .int b2])), (w2, .inl (cT 0, R2, .inl f2))] sz) := by
  refine Met.ofW (cc := cW_setProduct) (maxL := 12) (ret := none) (by decide) rfl ?_
  intro p e s m args below meth c s₁ B hml hv
  obtain ⟨rfl, hsz, hZ, hP, hK, hD0⟩ := hv
  have hx := B.exec
  have hb := B.bytes
  have hr := B.returns
  have hts := atoms_spec (ws := WW_setProduct) B.pre
  have hT : ∀ w ∈ TB, w.before _ s = true := fun w h => hts w (List.mem_cons_of_mem _ h)
  have hown : s.vm.findClass R_W = some m.cls := findClass_of_methodNamed B.named
  have hlocks := B.notSynchronized
  subst hsz
  have hD := hD0.self (sz := s.heap.size)
  generalize hAe : va_A [(h, .inr (4, [.ref w, .int n, .int b])), (w, .inl (cT 0, R, .inl f)), (x2, .inr (4, [.ref w2, .int n2, .int b2])), (w2, .inl (cT 0, R2, .inl f2))] s.heap.size = A at hD hZ ⊢
  have hA : ∀ q : Nat, s.heap.size ≤ q → A q := fun q h => by rw [← hAe]; exact Or.inr h
  have hS : va_S A s.heap s.heap [] := va_S.rf
  have hl := lv_entry ([.ref h, .ref x2, .ref x2]) (n := 12) (Nat.le_of_ble_eq_true rfl)
  rw [lg_entry_eq]
  generalize (lg_sl ([.ref h, .ref x2, .ref x2]) ++ List.replicate (12 - (lg_sl ([.ref h, .ref x2, .ref x2])).length) Slot.unset).toArray = ls at hl ⊢
  have hl : lv_has ls 12 [(0, .ref h), (1, .ref x2), (2, .ref x2)] := hl
  obtain ⟨K, rfl, hk, hd, htop, hb01, hz⟩ := hN2
  have hP : va_P D vwCl [(h, .inr (4, [.ref w, .int n, .int b])), (w, .inl (cT 0, R, .inl f)), (x2, .inr (4, [.ref w2, .int (nI K), .int b2])), (w2, .inl (cT 0, R2, .inl f2))] _ := hP
  have hD : va_D A [(h, .inr (4, [.ref w, .int n, .int b])), (w, .inl (cT 0, R, .inl f)), (x2, .inr (4, [.ref w2, .int (nI K), .int b2])), (w2, .inl (cT 0, R2, .inl f2))] := hD
  rw [hz, wz_abs] at hfit
  have h2K := sq_len htop hfit
  refine lv_aload_n hx hb dW_setProduct_0 rfl (lv_at hl 1 rfl) ?_
  refine va_get (D := D) (ci := 4) (v := .int (nI K)) (C := R_W) (T := T_W) (N := 3) hx hb hT in_W hown hK hP 2 rfl rfl 1 (by decide) (hT _ w148) (fun _ h9 => h9) rfl dW_setProduct_1 ?_
  refine lv_aload_n hx hb dW_setProduct_4 rfl (lv_at hl 2 rfl) ?_
  refine va_get (D := D) (ci := 4) (v := .int (nI K)) (C := R_W) (T := T_W) (N := 3) hx hb hT in_W hown hK hP 2 rfl rfl 1 (by decide) (hT _ w148) (fun _ h9 => h9) rfl dW_setProduct_5 ?_
  refine lv_iadd hx hb dW_setProduct_8 ?_
  refine lv_topi (fun y9 e9 => ?_)
  cases (show y9 = nI (K + K) from e9.trans (nI_add K K))
  refine lv_aload_n hx hb dW_setProduct_9 rfl (lv_at hl 0 rfl) ?_
  refine va_get (D := D) (ci := 4) (v := .ref w) (C := R_W) (T := T_W) (N := 3) hx hb hT in_W hown hK hP 0 rfl rfl 0 (by decide) (hT _ w145) (fun _ h9 => h9) rfl dW_setProduct_10 ?_
  refine va_alen (v := nI R) hx hb hK hP 1 0 rfl rfl rfl dW_setProduct_13 ?_
  refine va_mmin hx hb (hml.trans hl.1.symm) hown (hT _ w447) (hT _ w448) (hT _ w22) (hT _ w449) (Nat.le_of_ble_eq_true rfl) (Nat.le_of_ble_eq_true rfl) (Nat.le_of_ble_eq_true rfl) (Nat.le_of_ble_eq_true rfl) dW_setProduct_14 ?_
  refine lv_topi (fun y9 e9 => ?_)
  cases (show y9 = nI (min (K + K) R) from e9.trans (mmin_nI (a := K + K) (b := R) (by omega) (by omega)))
  obtain ⟨mo, hmo⟩ : ∃ q9 : Nat, q9 = min (K + K) R := ⟨_, rfl⟩
  refine lv_topi (fun y9 e9 => ?_)
  cases (show y9 = nI mo from e9.trans (congrArg nI hmo.symm))
  have hmo1 : mo ≤ R ∧ mo ≤ K + K ∧ K + K ≤ mo + 1 := by omega
  refine lv_istore_n hx hb dW_setProduct_17 rfl hl (by decide) rfl (fun ls hl => ?_)
  have hl : lv_has ls 12 [(3, .int (nI mo)), (0, .ref h), (1, .ref x2), (2, .ref x2)] := hl
  refine lv_aload_n hx hb dW_setProduct_18 rfl (lv_at hl 1 rfl) ?_
  refine va_get (D := D) (ci := 4) (v := .ref w) (C := R_W) (T := T_W) (N := 3) hx hb hT in_W hown hK hP 0 rfl rfl 0 (by decide) (hT _ w145) (fun _ h9 => h9) rfl dW_setProduct_19 ?_
  refine lv_iconst (v := 0) hx hb dW_setProduct_22 (by decide) ?_
  refine lv_iload_n hx hb dW_setProduct_23 rfl (lv_at hl 0 rfl) ?_
  refine lv_iconst (v := 0) hx hb dW_setProduct_24 (by decide) ?_
  refine rw_v (wc := [(w, .inl (cT 0, R, .inl f))]) (wr := [(h, .inr (4, [.ref w, .int n, .int b])), (x2, .inr (4, [.ref w2, .int (nI K), .int b2])), (w2, .inl (cT 0, R2, .inl f2))]) hP hD hS hA [1] [0, 2, 3] rfl rfl (by decide) (by decide) (va_runS (As := [.ref w, .int 0, .int (nI mo), .int 0]) (rest := []) ⟨hx, hb, hml, hown, hT⟩ (k_fill l D cT w R f mo hmo1.1 hR _) ⟨callB_of 4 hT (tb_gd w477) rfl rfl rfl (hT _ w26) (hT _ w475) hAr_fill ⟨Nat.le_of_ble_eq_true rfl, Nat.le_of_ble_eq_true rfl⟩, (hT _ w476)⟩ (RW.preS hZ hS (va_free (wc := [(w, .inl (cT 0, R, .inl f))]) hD hS hA [1] rfl) (hP.sub (ws' := [(w, .inl (cT 0, R, .inl f))]) [1] rfl) hK (hD.sub (ws' := [(w, .inl (cT 0, R, .inl f))]) [1] (by decide) rfl)) rfl rfl hl.1 rfl (lv_room (Nat.le_of_ble_eq_true rfl)) dW_setProduct_25 ⟨Nat.le_of_ble_eq_true rfl, Nat.le_of_ble_eq_true rfl⟩) (fun u9 H locs hpu1 hP hD hS => ?_)
  obtain ⟨f1u1, rfl⟩ : ∃ q9, q9 = u9 := ⟨_, rfl⟩
  have hpu1 : (∀ q8, q8 < mo → f1u1 q8 = 0) ∧ (∀ q8, mo ≤ q8 → f1u1 q8 = f q8) := hpu1
  have hP : va_P D vwCl [(h, .inr (4, [.ref w, .int n, .int b])), (x2, .inr (4, [.ref w2, .int (nI K), .int b2])), (w2, .inl (cT 0, R2, .inl f2)), (w, .inl (cT 0, R, .inl f1u1))] _ := hP
  have hD : va_D A [(h, .inr (4, [.ref w, .int n, .int b])), (x2, .inr (4, [.ref w2, .int (nI K), .int b2])), (w2, .inl (cT 0, R2, .inl f2)), (w, .inl (cT 0, R, .inl f1u1))] := hD
  refine lv_iconst (v := 0) hx hb dW_setProduct_28 (by decide) ?_
  refine lv_istore hx hb dW_setProduct_29 hl (by decide) rfl (fun ls hl => ?_)
  have hl : lv_has ls 12 [(4, .int 0), (3, .int (nI mo)), (0, .ref h), (1, .ref x2), (2, .ref x2)] := hl
  refine lp_w (α := Nat × (Nat → Int32)) (fun a9 => a9.1 ≤ K ∧ dok 1000000000 a9.2 mo ∧ (∀ q, a9.1 + K ≤ q → q < mo → dg a9.2 q = 0) ∧ hv 1000000000 (dg a9.2) 0 mo = hv 1000000000 (dg f2) 0 a9.1 * vW f2 K) (fun a9 => K - a9.1) (fun a9 => [(0, .ref h), (1, .ref x2), (2, .ref x2), (3, .int (nI mo)), (4, .int (nI a9.1))]) (fun a9 => [(h, .inr (4, [.ref w, .int n, .int b])), (x2, .inr (4, [.ref w2, .int (nI K), .int b2])), (w2, .inl (cT 0, R2, .inl f2)), (w, .inl (cT 0, R, .inl a9.2))]) 31 ?_ (0, f1u1) (show 0 ≤ K ∧ dok 1000000000 f1u1 mo ∧ (∀ q, 0 + K ≤ q → q < mo → dg f1u1 q = 0) ∧ hv 1000000000 (dg f1u1) 0 mo = hv 1000000000 (dg f2) 0 0 * vW f2 K from ⟨by omega, fun q h => (by rw [dg_eq0 (hpu1.1 q h), hpu1.1 q h]; exact ⟨rfl, by decide⟩), fun q _ h => dg_eq0 (hpu1.1 q h), by rw [hv_0, Nat.zero_mul]; exact hv_zero (fun q _ h => dg_eq0 (hpu1.1 q (by omega)))⟩) (lv_sub hl [2, 3, 4, 1, 0] rfl) hP hD hS
  intro a9 hI31 ih31 ls H locs hl hP hD hS
  obtain ⟨i, g⟩ := a9
  have hI31 : i ≤ K ∧ dok 1000000000 g mo ∧ (∀ q, i + K ≤ q → q < mo → dg g q = 0) ∧ hv 1000000000 (dg g) 0 mo = hv 1000000000 (dg f2) 0 i * vW f2 K := hI31
  obtain ⟨ii, ig, iz, iv⟩ := hI31
  have hl : lv_has ls 12 [(0, .ref h), (1, .ref x2), (2, .ref x2), (3, .int (nI mo)), (4, .int (nI i))] := hl
  have hP : va_P D vwCl [(h, .inr (4, [.ref w, .int n, .int b])), (x2, .inr (4, [.ref w2, .int (nI K), .int b2])), (w2, .inl (cT 0, R2, .inl f2)), (w, .inl (cT 0, R, .inl g))] _ := hP
  have hD : va_D A [(h, .inr (4, [.ref w, .int n, .int b])), (x2, .inr (4, [.ref w2, .int (nI K), .int b2])), (w2, .inl (cT 0, R2, .inl f2)), (w, .inl (cT 0, R, .inl g))] := hD
  refine lv_iload hx hb dW_setProduct_31 (lv_at hl 4 rfl) ?_
  refine lv_aload_n hx hb dW_setProduct_33 rfl (lv_at hl 1 rfl) ?_
  refine va_get (D := D) (ci := 4) (v := .int (nI K)) (C := R_W) (T := T_W) (N := 3) hx hb hT in_W hown hK hP 1 rfl rfl 1 (by decide) (hT _ w148) (fun _ h9 => h9) rfl dW_setProduct_34 ?_
  refine lv_icmp_ge (tgt := 168) hx hb dW_setProduct_37 rfl (fun h2 => ?_) (fun h2 => ?_)
  · have gh2 : K ≤ i := (nI_leI (a := K) (b := i) (by omega) (by omega)).mp h2
    have ei : i = K := by omega
    rw [ei] at iv
    refine lv_aload_n hx hb dW_setProduct_168 rfl (lv_at hl 0 rfl) ?_
    refine lv_aload_n hx hb dW_setProduct_169 rfl (lv_at hl 1 rfl) ?_
    refine va_get (D := D) (ci := 4) (v := .int b2) (C := R_W) (T := T_W) (N := 3) hx hb hT in_W hown hK hP 1 rfl rfl 2 (by decide) (hT _ w149) (fun _ h9 => h9) rfl dW_setProduct_170 ?_
    refine lv_aload_n hx hb dW_setProduct_173 rfl (lv_at hl 2 rfl) ?_
    refine va_get (D := D) (ci := 4) (v := .int b2) (C := R_W) (T := T_W) (N := 3) hx hb hT in_W hown hK hP 1 rfl rfl 2 (by decide) (hT _ w149) (fun _ h9 => h9) rfl dW_setProduct_174 ?_
    refine lv_icmp_eq (tgt := 184) hx hb dW_setProduct_177 rfl (fun _ => ?_) (fun h3 => absurd rfl h3)
    refine lv_iconst (v := 0) hx hb dW_setProduct_184 (by decide) ?_
    refine va_put (D := D) (ci := 4) (v := .int 0) (ty := .boolean) (C := R_W) (T := T_W) (N := 3) hx hb hT in_W ty_W ty_W_ok m_W hown hK hP hD hS 0 rfl rfl 2 (by decide) (hT _ w149) (fun _ h9 => h9) rfl (by decide +kernel) rfl rfl (Nat.le_of_ble_eq_true rfl) dW_setProduct_185 (fun H locs hP hD hS => ?_)
    have hP : va_P D vwCl [(h, .inr (4, [.ref w, .int n, .int 0])), (x2, .inr (4, [.ref w2, .int (nI K), .int b2])), (w2, .inl (cT 0, R2, .inl f2)), (w, .inl (cT 0, R, .inl g))] _ := hP
    have hD : va_D A [(h, .inr (4, [.ref w, .int n, .int 0])), (x2, .inr (4, [.ref w2, .int (nI K), .int b2])), (w2, .inl (cT 0, R2, .inl f2)), (w, .inl (cT 0, R, .inl g))] := hD
    refine lv_aload_n hx hb dW_setProduct_188 rfl (lv_at hl 0 rfl) ?_
    refine lv_iload_n hx hb dW_setProduct_189 rfl (lv_at hl 3 rfl) ?_
    refine rw_v (wc := [(h, .inr (4, [.ref w, .int n, .int 0])), (w, .inl (cT 0, R, .inl g))]) (wr := [(x2, .inr (4, [.ref w2, .int (nI K), .int b2])), (w2, .inl (cT 0, R2, .inl f2))]) hP hD hS hA [0, 3] [1, 2] rfl rfl (by decide) (by decide) (va_runV (As := [.int (nI mo)]) (rest := []) ⟨hx, hb, hml, hown, hT⟩ (k_trim l D cT h w R n 0 g mo hR hmo1.1 ig _) ⟨callB_of 1 hT (tb_gd w397) rfl rfl rfl (hT _ w5) (hT _ w394) hW_trim ⟨Nat.le_of_ble_eq_true rfl, Nat.le_of_ble_eq_true rfl⟩, (hT _ w396), (hT _ wp3)⟩ (RW.preV (ci := 4) (q0 := 0) hZ hS (va_free (wc := [(h, .inr (4, [.ref w, .int n, .int 0])), (w, .inl (cT 0, R, .inl g))]) hD hS hA [0, 3] rfl) (hP.sub (ws' := [(h, .inr (4, [.ref w, .int n, .int 0])), (w, .inl (cT 0, R, .inl g))]) [0, 3] rfl) hK (hD.sub (ws' := [(h, .inr (4, [.ref w, .int n, .int 0])), (w, .inl (cT 0, R, .inl g))]) [0, 3] (by decide) rfl) rfl rfl) rfl rfl hl.1 rfl (lv_room (Nat.le_of_ble_eq_true rfl)) dW_setProduct_190 ⟨Nat.le_of_ble_eq_true rfl, Nat.le_of_ble_eq_true rfl⟩) (fun u9 H locs hpu4 hP hD hS => ?_)
    obtain ⟨ku4, rfl⟩ : ∃ q9, q9 = u9 := ⟨_, rfl⟩
    have hpu4 : ku4 ≤ mo ∧ top0 g ku4 ∧ vW g ku4 = vW g mo := hpu4
    have hP : va_P D vwCl [(x2, .inr (4, [.ref w2, .int (nI K), .int b2])), (w2, .inl (cT 0, R2, .inl f2)), (h, .inr (4, [.ref w, .int (nI ku4), .int 0])), (w, .inl (cT 0, R, .inl g))] _ := hP
    have hD : va_D A [(x2, .inr (4, [.ref w2, .int (nI K), .int b2])), (w2, .inl (cT 0, R2, .inl f2)), (h, .inr (4, [.ref w, .int (nI ku4), .int 0])), (w, .inl (cT 0, R, .inl g))] := hD
    have hP9 := hP.sub (ws' := [(h, .inr (4, [.ref w, .int (nI ku4), .int 0])), (w, .inl (cT 0, R, .inl g)), (x2, .inr (4, [.ref w2, .int (nI K), .int b2])), (w2, .inl (cT 0, R2, .inl f2))]) [2, 3, 0, 1] rfl
    have hD9 := hD.sub (ws' := [(h, .inr (4, [.ref w, .int (nI ku4), .int 0])), (w, .inl (cT 0, R, .inl g)), (x2, .inr (4, [.ref w2, .int (nI K), .int b2])), (w2, .inl (cT 0, R2, .inl f2))]) [2, 3, 0, 1] (by decide) rfl
    refine W.widen (k := 0) (n := 0) (Nat.le_of_ble_eq_true rfl) (Nat.le_of_ble_eq_true rfl) ?_
    exact W.vret hx hb hr (fun t ht hW => ⟨⟨(nI ku4, 0, g), rfl, (show WN R (nI ku4) 0 g (z2 * z2) from by have q0 := wn_trim (R := R) (b := 0) hmo1.1 ig (Or.inl rfl) hpu4; rw [show vW g mo = vW f2 K * vW f2 K from iv, wz_0] at q0; rw [hz, wz_sq]; exact q0), by rw [ht]; exact hP9, hD9⟩, hS.F ht⟩) hS.2.2 dW_setProduct_193
  · have gh2 : i < K := Nat.not_le.mp (fun q => h2 ((nI_leI (a := K) (b := i) (by omega) (by omega)).mpr q))
    have hw := hd i (by omega)
    obtain ⟨ai, hai⟩ : ∃ q9 : Nat, q9 = dg f2 i := ⟨_, rfl⟩
    have haib : ai < 1000000000 := by rw [hai]; exact hw.2
    rw [← hai] at hw
    refine lv_aload_n hx hb dW_setProduct_40 rfl (lv_at hl 1 rfl) ?_
    refine va_get (D := D) (ci := 4) (v := .ref w2) (C := R_W) (T := T_W) (N := 3) hx hb hT in_W hown hK hP 1 rfl rfl 0 (by decide) (hT _ w145) (fun _ h9 => h9) rfl dW_setProduct_41 ?_
    refine lv_iload hx hb dW_setProduct_44 (lv_at hl 4 rfl) ?_
    refine lq_iald (j := i) hx hb hK hP 2 0 rfl rfl rfl (by omega) (by omega) dW_setProduct_46 ?_
    refine lv_topi (fun y9 e9 => ?_)
    cases (show y9 = nI ai from e9.trans hw.1)
    refine lv_i2l hx hb dW_setProduct_47 rfl ?_
    refine lv_topl (fun y9 e9 => ?_)
    cases (show y9 = lN ai from e9.trans (nI_l (n := ai) (by omega)))
    refine lv_lstore hx hb dW_setProduct_48 hl (by decide) rfl (fun ls hl => ?_)
    have hl : lv_has ls 12 [(5, .long (lN ai)), (0, .ref h), (1, .ref x2), (2, .ref x2), (3, .int (nI mo)), (4, .int (nI i))] := hl
    refine lv_lconst (v := 0) hx hb dW_setProduct_50 (by decide) ?_
    refine lv_lstore hx hb dW_setProduct_51 hl (by decide) rfl (fun ls hl => ?_)
    have hl : lv_has ls 12 [(7, .long 0), (5, .long (lN ai)), (0, .ref h), (1, .ref x2), (2, .ref x2), (3, .int (nI mo)), (4, .int (nI i))] := hl
    refine lv_iconst (v := 0) hx hb dW_setProduct_53 (by decide) ?_
    refine lv_istore hx hb dW_setProduct_54 hl (by decide) rfl (fun ls hl => ?_)
    have hl : lv_has ls 12 [(9, .int 0), (7, .long 0), (5, .long (lN ai)), (0, .ref h), (1, .ref x2), (2, .ref x2), (3, .int (nI mo)), (4, .int (nI i))] := hl
    refine lp_w (α := Nat × Nat × (Nat → Int32)) (fun a9 => a9.1 ≤ K ∧ a9.2.1 < 1000000000 ∧ dok 1000000000 a9.2.2 mo ∧ (∀ q, i + K ≤ q → q < mo → dg a9.2.2 q = 0) ∧ hv 1000000000 (dg a9.2.2) 0 mo + 1000000000 ^ i * 1000000000 ^ a9.1 * a9.2.1 = hv 1000000000 (dg f2) 0 i * vW f2 K + 1000000000 ^ i * ai * hv 1000000000 (dg f2) 0 a9.1) (fun a9 => K - a9.1) (fun a9 => [(0, .ref h), (1, .ref x2), (2, .ref x2), (3, .int (nI mo)), (4, .int (nI i)), (5, .long (lN ai)), (7, .long (lN a9.2.1)), (9, .int (nI a9.1))]) (fun a9 => [(h, .inr (4, [.ref w, .int n, .int b])), (x2, .inr (4, [.ref w2, .int (nI K), .int b2])), (w2, .inl (cT 0, R2, .inl f2)), (w, .inl (cT 0, R, .inl a9.2.2))]) 56 ?_ (0, 0, g) (show 0 ≤ K ∧ 0 < 1000000000 ∧ dok 1000000000 g mo ∧ (∀ q, i + K ≤ q → q < mo → dg g q = 0) ∧ hv 1000000000 (dg g) 0 mo + 1000000000 ^ i * 1000000000 ^ 0 * 0 = hv 1000000000 (dg f2) 0 i * vW f2 K + 1000000000 ^ i * ai * hv 1000000000 (dg f2) 0 0 from ⟨by omega, by decide, ig, iz, by rw [hv_0, Nat.mul_zero, Nat.mul_zero, Nat.add_zero, Nat.add_zero]; exact iv⟩) (lv_sub hl [3, 4, 5, 6, 7, 2, 1, 0] rfl) hP hD hS
    intro a9 hI56 ih56 ls H locs hl hP hD hS
    obtain ⟨k, ca, g1⟩ := a9
    have hI56 : k ≤ K ∧ ca < 1000000000 ∧ dok 1000000000 g1 mo ∧ (∀ q, i + K ≤ q → q < mo → dg g1 q = 0) ∧ hv 1000000000 (dg g1) 0 mo + 1000000000 ^ i * 1000000000 ^ k * ca = hv 1000000000 (dg f2) 0 i * vW f2 K + 1000000000 ^ i * ai * hv 1000000000 (dg f2) 0 k := hI56
    obtain ⟨jk, jc, jg, jz, jv⟩ := hI56
    have hl : lv_has ls 12 [(0, .ref h), (1, .ref x2), (2, .ref x2), (3, .int (nI mo)), (4, .int (nI i)), (5, .long (lN ai)), (7, .long (lN ca)), (9, .int (nI k))] := hl
    have hP : va_P D vwCl [(h, .inr (4, [.ref w, .int n, .int b])), (x2, .inr (4, [.ref w2, .int (nI K), .int b2])), (w2, .inl (cT 0, R2, .inl f2)), (w, .inl (cT 0, R, .inl g1))] _ := hP
    have hD : va_D A [(h, .inr (4, [.ref w, .int n, .int b])), (x2, .inr (4, [.ref w2, .int (nI K), .int b2])), (w2, .inl (cT 0, R2, .inl f2)), (w, .inl (cT 0, R, .inl g1))] := hD
    refine lv_iload hx hb dW_setProduct_56 (lv_at hl 7 rfl) ?_
    refine lv_aload_n hx hb dW_setProduct_58 rfl (lv_at hl 2 rfl) ?_
    refine va_get (D := D) (ci := 4) (v := .int (nI K)) (C := R_W) (T := T_W) (N := 3) hx hb hT in_W hown hK hP 1 rfl rfl 1 (by decide) (hT _ w148) (fun _ h9 => h9) rfl dW_setProduct_59 ?_
    refine lv_icmp_ge (tgt := 136) hx hb dW_setProduct_62 rfl (fun h5 => ?_) (fun h5 => ?_)
    · have gh5 : K ≤ k := (nI_leI (a := K) (b := k) (by omega) (by omega)).mp h5
      have ek : k = K := by omega
      rw [ek] at jv
      have jv : hv 1000000000 (dg g1) 0 mo + 1000000000 ^ (i + K) * ca = hv 1000000000 (dg f2) 0 (i + 1) * vW f2 K := by rw [hv_snoc, Nat.zero_add, ← hai, Nat.add_mul, Nat.pow_add]; exact jv
      refine lv_iload hx hb dW_setProduct_136 (lv_at hl 4 rfl) ?_
      refine lv_aload_n hx hb dW_setProduct_138 rfl (lv_at hl 2 rfl) ?_
      refine va_get (D := D) (ci := 4) (v := .int (nI K)) (C := R_W) (T := T_W) (N := 3) hx hb hT in_W hown hK hP 1 rfl rfl 1 (by decide) (hT _ w148) (fun _ h9 => h9) rfl dW_setProduct_139 ?_
      refine lv_iadd hx hb dW_setProduct_142 ?_
      refine lv_topi (fun y9 e9 => ?_)
      cases (show y9 = nI (i + K) from e9.trans (nI_add i K))
      refine lv_iload_n hx hb dW_setProduct_143 rfl (lv_at hl 3 rfl) ?_
      refine lv_icmp_ge (tgt := 162) hx hb dW_setProduct_144 rfl (fun h6 => ?_) (fun h6 => ?_)
      · have gh6 : mo ≤ i + K := (nI_leI (a := mo) (b := i + K) (by omega) (by omega)).mp h6
        refine lv_iinc (k := 4) (v := nI (i + 1)) hx hb dW_setProduct_162 hl rfl (nI_1 i) (by decide) rfl (fun ls hl => ?_)
        have hl : lv_has ls 12 [(4, .int (nI (i + 1))), (0, .ref h), (1, .ref x2), (2, .ref x2), (3, .int (nI mo)), (5, .long (lN ai)), (7, .long (lN ca)), (9, .int (nI k))] := hl
        refine lv_goto (tgt := 31) hx hb dW_setProduct_165 rfl ?_
        exact ih31 (i + 1, g1) (show (i + 1) ≤ K ∧ dok 1000000000 g1 mo ∧ (∀ q, (i + 1) + K ≤ q → q < mo → dg g1 q = 0) ∧ hv 1000000000 (dg g1) 0 mo = hv 1000000000 (dg f2) 0 (i + 1) * vW f2 K from ⟨by omega, jg, fun q h1 h2 => jz q (by omega) h2, (by have e4 : i + K = R := (by omega); have hle := sq_le (i := i + 1) (K := K) (f := f2) (by omega); rw [← jv, e4] at hle; rcases Nat.eq_zero_or_pos ca with r | r; (rw [r, Nat.mul_zero, Nat.add_zero] at jv; exact jv); (have := Nat.mul_le_mul_left (1000000000 ^ R) (show 1 ≤ ca from r); omega))⟩) (show K - (i + 1) < K - i from (by omega)) ls H locs (lv_sub hl [1, 2, 3, 4, 0] rfl) hP hD hS
      · have gh6 : i + K < mo := Nat.not_le.mp (fun q => h6 ((nI_leI (a := mo) (b := i + K) (by omega) (by omega)).mpr q))
        refine lv_aload_n hx hb dW_setProduct_147 rfl (lv_at hl 0 rfl) ?_
        refine va_get (D := D) (ci := 4) (v := .ref w) (C := R_W) (T := T_W) (N := 3) hx hb hT in_W hown hK hP 0 rfl rfl 0 (by decide) (hT _ w145) (fun _ h9 => h9) rfl dW_setProduct_148 ?_
        refine lv_iload hx hb dW_setProduct_151 (lv_at hl 4 rfl) ?_
        refine lv_aload_n hx hb dW_setProduct_153 rfl (lv_at hl 2 rfl) ?_
        refine va_get (D := D) (ci := 4) (v := .int (nI K)) (C := R_W) (T := T_W) (N := 3) hx hb hT in_W hown hK hP 1 rfl rfl 1 (by decide) (hT _ w148) (fun _ h9 => h9) rfl dW_setProduct_154 ?_
        refine lv_iadd hx hb dW_setProduct_157 ?_
        refine lv_topi (fun y9 e9 => ?_)
        cases (show y9 = nI (i + K) from e9.trans (nI_add i K))
        refine lv_lload hx hb dW_setProduct_158 (lv_at hl 6 rfl) ?_
        refine lv_l2i hx hb dW_setProduct_160 rfl ?_
        refine lv_topi (fun y9 e9 => ?_)
        cases (show y9 = nI ca from e9.trans (lN_i ca))
        refine lq_iast (j := i + K) hx hb hK hP hD hS 3 0 rfl rfl rfl (by omega) (by omega) dW_setProduct_161 (fun H locs hP hD hS => ?_)
        have hP : va_P D vwCl [(h, .inr (4, [.ref w, .int n, .int b])), (x2, .inr (4, [.ref w2, .int (nI K), .int b2])), (w2, .inl (cT 0, R2, .inl f2)), (w, .inl (cT 0, R, .inl (upd g1 (i + K) (nI ca))))] _ := hP
        have hD : va_D A [(h, .inr (4, [.ref w, .int n, .int b])), (x2, .inr (4, [.ref w2, .int (nI K), .int b2])), (w2, .inl (cT 0, R2, .inl f2)), (w, .inl (cT 0, R, .inl (upd g1 (i + K) (nI ca))))] := hD
        refine lv_iinc (k := 4) (v := nI (i + 1)) hx hb dW_setProduct_162 hl rfl (nI_1 i) (by decide) rfl (fun ls hl => ?_)
        have hl : lv_has ls 12 [(4, .int (nI (i + 1))), (0, .ref h), (1, .ref x2), (2, .ref x2), (3, .int (nI mo)), (5, .long (lN ai)), (7, .long (lN ca)), (9, .int (nI k))] := hl
        refine lv_goto (tgt := 31) hx hb dW_setProduct_165 rfl ?_
        exact ih31 (i + 1, upd g1 (i + K) (nI ca)) (show (i + 1) ≤ K ∧ dok 1000000000 (upd g1 (i + K) (nI ca)) mo ∧ (∀ q, (i + 1) + K ≤ q → q < mo → dg (upd g1 (i + K) (nI ca)) q = 0) ∧ hv 1000000000 (dg (upd g1 (i + K) (nI ca))) 0 mo = hv 1000000000 (dg f2) 0 (i + 1) * vW f2 K from ⟨by omega, dok_u jg jc (by decide), fun q h1 h2 => (dg_un (by omega)).trans (jz q (by omega) h2), (by have q0 := hv_upd (B := 1000000000) (p := i + K) (n := mo) (v := ca) (g := g1) (by omega) (by omega); rw [jz (i + K) (Nat.le_refl _) (by omega), Nat.mul_zero, Nat.add_zero] at q0; rw [q0]; exact jv)⟩) (show K - (i + 1) < K - i from (by omega)) ls H locs (lv_sub hl [1, 2, 3, 4, 0] rfl) hP hD hS
    · have gh5 : k < K := Nat.not_le.mp (fun q => h5 ((nI_leI (a := K) (b := k) (by omega) (by omega)).mpr q))
      refine lv_iload hx hb dW_setProduct_65 (lv_at hl 4 rfl) ?_
      refine lv_iload hx hb dW_setProduct_67 (lv_at hl 7 rfl) ?_
      refine lv_iadd hx hb dW_setProduct_69 ?_
      refine lv_topi (fun y9 e9 => ?_)
      cases (show y9 = nI (i + k) from e9.trans (nI_add i k))
      refine lv_iload_n hx hb dW_setProduct_70 rfl (lv_at hl 3 rfl) ?_
      refine lv_icmp_ge (tgt := 136) hx hb dW_setProduct_71 rfl (fun h7 => absurd h7 (nI_ge (by omega) (by omega))) (fun _ => ?_)
      have hu := hd k (by omega)
      obtain ⟨bk, hbk⟩ : ∃ q9 : Nat, q9 = dg f2 k := ⟨_, rfl⟩
      have hbkb : bk < 1000000000 := by rw [hbk]; exact hu.2
      rw [← hbk] at hu
      have hy := jg (i + k) (by omega)
      obtain ⟨wk, hwk⟩ : ∃ q9 : Nat, q9 = dg g1 (i + k) := ⟨_, rfl⟩
      have hwkb : wk < 1000000000 := by rw [hwk]; exact hy.2
      rw [← hwk] at hy
      have hab := mulb haib hbkb
      refine lv_lload hx hb dW_setProduct_74 (lv_at hl 5 rfl) ?_
      refine lv_aload_n hx hb dW_setProduct_76 rfl (lv_at hl 2 rfl) ?_
      refine va_get (D := D) (ci := 4) (v := .ref w2) (C := R_W) (T := T_W) (N := 3) hx hb hT in_W hown hK hP 1 rfl rfl 0 (by decide) (hT _ w145) (fun _ h9 => h9) rfl dW_setProduct_77 ?_
      refine lv_iload hx hb dW_setProduct_80 (lv_at hl 7 rfl) ?_
      refine lq_iald (j := k) hx hb hK hP 2 0 rfl rfl rfl (by omega) (by omega) dW_setProduct_82 ?_
      refine lv_topi (fun y9 e9 => ?_)
      cases (show y9 = nI bk from e9.trans hu.1)
      refine lv_i2l hx hb dW_setProduct_83 rfl ?_
      refine lv_topl (fun y9 e9 => ?_)
      cases (show y9 = lN bk from e9.trans (nI_l (n := bk) (by omega)))
      refine lv_lmul hx hb dW_setProduct_84 ?_
      refine lv_topl (fun y9 e9 => ?_)
      cases (show y9 = lN (ai * bk) from e9.trans (lN_mul ai bk))
      refine lv_aload_n hx hb dW_setProduct_85 rfl (lv_at hl 0 rfl) ?_
      refine va_get (D := D) (ci := 4) (v := .ref w) (C := R_W) (T := T_W) (N := 3) hx hb hT in_W hown hK hP 0 rfl rfl 0 (by decide) (hT _ w145) (fun _ h9 => h9) rfl dW_setProduct_86 ?_
      refine lv_iload hx hb dW_setProduct_89 (lv_at hl 4 rfl) ?_
      refine lv_iload hx hb dW_setProduct_91 (lv_at hl 7 rfl) ?_
      refine lv_iadd hx hb dW_setProduct_93 ?_
      refine lv_topi (fun y9 e9 => ?_)
      cases (show y9 = nI (i + k) from e9.trans (nI_add i k))
      refine lq_iald (j := i + k) hx hb hK hP 3 0 rfl rfl rfl (by omega) (by omega) dW_setProduct_94 ?_
      refine lv_topi (fun y9 e9 => ?_)
      cases (show y9 = nI wk from e9.trans hy.1)
      refine lv_i2l hx hb dW_setProduct_95 rfl ?_
      refine lv_topl (fun y9 e9 => ?_)
      cases (show y9 = lN wk from e9.trans (nI_l (n := wk) (by omega)))
      refine lv_ladd hx hb dW_setProduct_96 ?_
      refine lv_topl (fun y9 e9 => ?_)
      cases (show y9 = lN ((ai * bk) + wk) from e9.trans (lN_add (ai * bk) wk))
      refine lv_lload hx hb dW_setProduct_97 (lv_at hl 6 rfl) ?_
      refine lv_ladd hx hb dW_setProduct_99 ?_
      refine lv_topl (fun y9 e9 => ?_)
      cases (show y9 = lN (((ai * bk) + wk) + ca) from e9.trans (lN_add ((ai * bk) + wk) ca))
      obtain ⟨sm, hsm⟩ : ∃ q9 : Nat, q9 = ((ai * bk) + wk) + ca := ⟨_, rfl⟩
      refine lv_topl (fun y9 e9 => ?_)
      cases (show y9 = lN sm from e9.trans (congrArg lN hsm.symm))
      refine lv_lstore hx hb dW_setProduct_100 hl (by decide) rfl (fun ls hl => ?_)
      have hl : lv_has ls 12 [(10, .long (lN sm)), (0, .ref h), (1, .ref x2), (2, .ref x2), (3, .int (nI mo)), (4, .int (nI i)), (5, .long (lN ai)), (7, .long (lN ca)), (9, .int (nI k))] := hl
      refine lv_lload hx hb dW_setProduct_102 (lv_at hl 0 rfl) ?_
      refine lv_ldc2 (v := 1000000000) hx hb hown (hT _ w421) dW_setProduct_104 ?_
      refine lv_ldiv hx hb dW_setProduct_107 (by decide) ?_
      refine lv_topl (fun y9 e9 => ?_)
      cases (show y9 = lN (sm / 1000000000) from e9.trans (pk_lDiv (a := sm) (b := 1000000000) (by omega) (by omega) (by decide)))
      obtain ⟨c1, hc1⟩ : ∃ q9 : Nat, q9 = sm / 1000000000 := ⟨_, rfl⟩
      refine lv_topl (fun y9 e9 => ?_)
      cases (show y9 = lN c1 from e9.trans (congrArg lN hc1.symm))
      refine lv_lstore hx hb dW_setProduct_108 hl (by decide) rfl (fun ls hl => ?_)
      have hl : lv_has ls 12 [(7, .long (lN c1)), (10, .long (lN sm)), (0, .ref h), (1, .ref x2), (2, .ref x2), (3, .int (nI mo)), (4, .int (nI i)), (5, .long (lN ai)), (9, .int (nI k))] := hl
      refine lv_aload_n hx hb dW_setProduct_110 rfl (lv_at hl 2 rfl) ?_
      refine va_get (D := D) (ci := 4) (v := .ref w) (C := R_W) (T := T_W) (N := 3) hx hb hT in_W hown hK hP 0 rfl rfl 0 (by decide) (hT _ w145) (fun _ h9 => h9) rfl dW_setProduct_111 ?_
      refine lv_iload hx hb dW_setProduct_114 (lv_at hl 6 rfl) ?_
      refine lv_iload hx hb dW_setProduct_116 (lv_at hl 8 rfl) ?_
      refine lv_iadd hx hb dW_setProduct_118 ?_
      refine lv_topi (fun y9 e9 => ?_)
      cases (show y9 = nI (i + k) from e9.trans (nI_add i k))
      refine lv_lload hx hb dW_setProduct_119 (lv_at hl 1 rfl) ?_
      refine lv_lload hx hb dW_setProduct_121 (lv_at hl 0 rfl) ?_
      refine lv_ldc2 (v := 1000000000) hx hb hown (hT _ w421) dW_setProduct_123 ?_
      refine lv_lmul hx hb dW_setProduct_126 ?_
      refine lv_topl (fun y9 e9 => ?_)
      cases (show y9 = lN (c1 * 1000000000) from e9.trans (lN_mul c1 1000000000))
      refine lv_lsub hx hb dW_setProduct_127 ?_
      refine lv_topl (fun y9 e9 => ?_)
      cases (show y9 = lN (sm - (c1 * 1000000000)) from e9.trans (lN_sub (a := sm) (b := c1 * 1000000000) (by omega)))
      obtain ⟨v1, hv1⟩ : ∃ q9 : Nat, q9 = sm % 1000000000 := ⟨_, rfl⟩
      have hv1b : v1 < 1000000000 := by omega
      refine lv_topl (fun y9 e9 => ?_)
      cases (show y9 = lN v1 from e9.trans (congrArg lN (show sm - (c1 * 1000000000) = v1 by omega)))
      refine lv_l2i hx hb dW_setProduct_128 rfl ?_
      refine lv_topi (fun y9 e9 => ?_)
      cases (show y9 = nI v1 from e9.trans (lN_i v1))
      refine lq_iast (j := i + k) hx hb hK hP hD hS 3 0 rfl rfl rfl (by omega) (by omega) dW_setProduct_129 (fun H locs hP hD hS => ?_)
      have hP : va_P D vwCl [(h, .inr (4, [.ref w, .int n, .int b])), (x2, .inr (4, [.ref w2, .int (nI K), .int b2])), (w2, .inl (cT 0, R2, .inl f2)), (w, .inl (cT 0, R, .inl (upd g1 (i + k) (nI v1))))] _ := hP
      have hD : va_D A [(h, .inr (4, [.ref w, .int n, .int b])), (x2, .inr (4, [.ref w2, .int (nI K), .int b2])), (w2, .inl (cT 0, R2, .inl f2)), (w, .inl (cT 0, R, .inl (upd g1 (i + k) (nI v1))))] := hD
      refine lv_iinc (k := 8) (v := nI (k + 1)) hx hb dW_setProduct_130 hl rfl (nI_1 k) (by decide) rfl (fun ls hl => ?_)
      have hl : lv_has ls 12 [(9, .int (nI (k + 1))), (7, .long (lN c1)), (10, .long (lN sm)), (0, .ref h), (1, .ref x2), (2, .ref x2), (3, .int (nI mo)), (4, .int (nI i)), (5, .long (lN ai))] := hl
      refine lv_goto (tgt := 56) hx hb dW_setProduct_133 rfl ?_
      exact ih56 (k + 1, c1, upd g1 (i + k) (nI v1)) (show (k + 1) ≤ K ∧ c1 < 1000000000 ∧ dok 1000000000 (upd g1 (i + k) (nI v1)) mo ∧ (∀ q, i + K ≤ q → q < mo → dg (upd g1 (i + k) (nI v1)) q = 0) ∧ hv 1000000000 (dg (upd g1 (i + k) (nI v1))) 0 mo + 1000000000 ^ i * 1000000000 ^ (k + 1) * c1 = hv 1000000000 (dg f2) 0 i * vW f2 K + 1000000000 ^ i * ai * hv 1000000000 (dg f2) 0 (k + 1) from ⟨by omega, by rw [hc1]; exact sq_b haib hbkb hwkb jc hsm, dok_u jg (by omega) (by decide), fun q h1 h2 => (dg_un (by omega)).trans (jz q h1 h2), by rw [hv_snoc, Nat.zero_add, ← hbk, hc1, Nat.pow_succ, ← Nat.mul_assoc]; exact sq_s jv hsm (by have q0 := hv_upd (B := 1000000000) (p := i + k) (n := mo) (v := v1) (g := g1) (by omega) (by omega); rw [Nat.pow_add, ← hwk] at q0; rw [← hv1]; exact q0)⟩) (show K - (k + 1) < K - k from (by omega)) ls H locs (lv_sub hl [3, 4, 5, 6, 7, 8, 1, 0] rfl) hP hD hS
set_option maxHeartbeats 4000000 in
set_option maxRecDepth 100000 in
theorem k_halveAway (l : Launch) (D : va_G) (cT : Nat → ClassId) (h : Nat) (w : Nat) (R : Nat) (n : Int32) (b : Int32) (f : Nat → Int32) (z : Int) (hR : R ≤ 48) (hN : WN R n b f z) (sz : Nat) : Met l yW_halveAway WW_halveAway ({ frames := 2, cells := 0, slots := 0, locals := 47 } : Room) (RW D vwCl [.ref h] [(h, .inr (4, [.ref w, .int n, .int b])), (w, .inl (cT 0, R, .inl f))] (TY cT) sz) (va_Qi (fun (r9 : Int32) (u9 : Int32 × (Nat → Int32)) => r9 = nI (bl z.natAbs) ∧ WN R u9.1 b u9.2 0) (BW D vwCl (va_A [(h, .inr (4, [.ref w, .int n, .int b])), (w, .inl (cT 0, R, .inl f))] sz) (fun u9 : Int32 × (Nat → Int32) => [(h, .inr (4, [.ref w, .int u9.1, .int b])), (w, .inl (cT 0, R, .inl u9.2))])) (va_A [(h, .inr (4, [.ref w, .int n, .int b])), (w, .inl (cT 0, R, .inl f))] sz)) 0 0 (va_A [(h, .inr (4, [.ref w, .int n, .int b])), (w, .inl (cT 0, R, .inl f))] sz) := by
  refine Met.ofW (cc := cW_halveAway) (maxL := 2) (ret := (some .int)) (by decide) rfl ?_
  intro p e s m args below meth c s₁ B hml hv
  obtain ⟨rfl, hsz, hZ, hP, hK, hD0⟩ := hv
  have hx := B.exec
  have hb := B.bytes
  have hr := B.returns
  have hts := atoms_spec (ws := WW_halveAway) B.pre
  have hT : ∀ w ∈ TB, w.before _ s = true := fun w h => hts w (List.mem_cons_of_mem _ h)
  have hown : s.vm.findClass R_W = some m.cls := findClass_of_methodNamed B.named
  have hlocks := B.notSynchronized
  subst hsz
  have hD := hD0.self (sz := s.heap.size)
  generalize hAe : va_A [(h, .inr (4, [.ref w, .int n, .int b])), (w, .inl (cT 0, R, .inl f))] s.heap.size = A at hD hZ ⊢
  have hA : ∀ q : Nat, s.heap.size ≤ q → A q := fun q h => by rw [← hAe]; exact Or.inr h
  have hS : va_S A s.heap s.heap [] := va_S.rf
  have hl := lv_entry ([.ref h]) (n := 2) (Nat.le_of_ble_eq_true rfl)
  rw [lg_entry_eq]
  generalize (lg_sl ([.ref h]) ++ List.replicate (2 - (lg_sl ([.ref h])).length) Slot.unset).toArray = ls at hl ⊢
  have hl : lv_has ls 2 [(0, .ref h)] := hl
  refine lv_iconst (v := 0) hx hb dW_halveAway_0 (by decide) ?_
  refine lv_istore_n hx hb dW_halveAway_1 rfl hl (by decide) rfl (fun ls hl => ?_)
  have hl : lv_has ls 2 [(1, .int 0), (0, .ref h)] := hl
  refine lp_w (α := Nat × Int × Int32 × (Nat → Int32)) (fun a9 => WN R a9.2.2.1 b a9.2.2.2 a9.2.1 ∧ bl z.natAbs = a9.1 + bl a9.2.1.natAbs ∧ a9.1 ≤ R * 30) (fun a9 => a9.2.1.natAbs) (fun a9 => [(0, .ref h), (1, .int (nI a9.1))]) (fun a9 => [(h, .inr (4, [.ref w, .int a9.2.2.1, .int b])), (w, .inl (cT 0, R, .inl a9.2.2.2))]) 2 ?_ (0, z, n, f) (show WN R n b f z ∧ bl z.natAbs = 0 + bl z.natAbs ∧ 0 ≤ R * 30 from ⟨hN, (Nat.zero_add _).symm, by omega⟩) (lv_sub hl [1, 0] rfl) hP hD hS
  intro a9 hI2 ih2 ls H locs hl hP hD hS
  obtain ⟨j, zz, n1, f1⟩ := a9
  have hI2 : WN R n1 b f1 zz ∧ bl z.natAbs = j + bl zz.natAbs ∧ j ≤ R * 30 := hI2
  obtain ⟨iN, ib, ij⟩ := hI2
  have hl : lv_has ls 2 [(0, .ref h), (1, .int (nI j))] := hl
  have hP : va_P D vwCl [(h, .inr (4, [.ref w, .int n1, .int b])), (w, .inl (cT 0, R, .inl f1))] _ := hP
  have hD : va_D A [(h, .inr (4, [.ref w, .int n1, .int b])), (w, .inl (cT 0, R, .inl f1))] := hD
  have hN1 := iN
  obtain ⟨K, rfl, hk, hd, htop, hb01, hz⟩ := iN
  have hP : va_P D vwCl [(h, .inr (4, [.ref w, .int (nI K), .int b])), (w, .inl (cT 0, R, .inl f1))] _ := hP
  have hD : va_D A [(h, .inr (4, [.ref w, .int (nI K), .int b])), (w, .inl (cT 0, R, .inl f1))] := hD
  refine lv_iload_n hx hb dW_halveAway_2 rfl (lv_at hl 1 rfl) ?_
  refine lv_aload_n hx hb dW_halveAway_3 rfl (lv_at hl 0 rfl) ?_
  refine ro_i (va_Run.run (va_runV (As := []) (rest := [.int (nI j)]) ⟨hx, hb, hml, hown, hT⟩ (k_mostBits l D cT h w R (nI K) b f1) ⟨callB_of 0 hT (tb_gd w975) rfl rfl rfl (hT _ w5) (hT _ w985) hW_mostBits ⟨Nat.le_of_ble_eq_true rfl, Nat.le_of_ble_eq_true rfl⟩, (hT _ w973), (hT _ w974)⟩ (RO.preV (ci := 4) (q0 := 0) hZ hS (hP.sub (ws' := [(h, .inr (4, [.ref w, .int (nI K), .int b])), (w, .inl (cT 0, R, .inl f1))]) [0, 1] rfl) hK rfl rfl) rfl rfl hl.1 rfl (lv_room (Nat.le_of_ble_eq_true rfl)) dW_halveAway_4 ⟨Nat.le_of_ble_eq_true rfl, Nat.le_of_ble_eq_true rfl⟩)) ?_
  refine lv_icmp_ge (tgt := 28) hx hb dW_halveAway_7 rfl (fun h1 => ?_) (fun h1 => ?_)
  · have gh1 : R * 30 ≤ j := (nI_leI (a := R * 30) (b := j) (by omega) (by omega)).mp h1
    have hz0 : zz.natAbs = 0 := by
      obtain ⟨K0, rfl, qhk, qhd, -, -, qhz⟩ := hN
      have := bl_R qhd qhk
      rw [qhz, wz_abs] at ib
      exact bl_0.mp (by omega)
    rw [hz0, show bl 0 = 0 from rfl, Nat.add_zero] at ib
    refine lv_iload_n hx hb dW_halveAway_28 rfl (lv_at hl 1 rfl) ?_
    have hP9 := hP.sub (ws' := [(h, .inr (4, [.ref w, .int (nI K), .int b])), (w, .inl (cT 0, R, .inl f1))]) [0, 1] rfl
    have hD9 := hD.sub (ws' := [(h, .inr (4, [.ref w, .int (nI K), .int b])), (w, .inl (cT 0, R, .inl f1))]) [0, 1] (by decide) rfl
    refine W.widen (k := 0) (n := 0) (Nat.le_of_ble_eq_true rfl) (Nat.le_of_ble_eq_true rfl) ?_
    exact W.iret (v := nI j) hx hb hr (fun t ht hW => ⟨⟨nI j, (nI K, f1), rfl, (show (nI j) = nI (bl z.natAbs) ∧ WN R (nI K) b f1 0 from ⟨by rw [ib], by rw [← Int.natAbs_eq_zero.mp hz0]; exact hN1⟩), by rw [ht]; exact hP9, hD9⟩, hS.F ht⟩) hS.2.2 dW_halveAway_29
  · have gh1 : j < R * 30 := Nat.not_le.mp (fun q => h1 ((nI_leI (a := R * 30) (b := j) (by omega) (by omega)).mpr q))
    refine lv_aload_n hx hb dW_halveAway_10 rfl (lv_at hl 0 rfl) ?_
    refine va_get (D := D) (ci := 4) (v := .int (nI K)) (C := R_W) (T := T_W) (N := 3) hx hb hT in_W hown hK hP 0 rfl rfl 1 (by decide) (hT _ w148) (fun _ h9 => h9) rfl dW_halveAway_11 ?_
    refine lv_if_le (tgt := 28) hx hb dW_halveAway_14 rfl (fun h2 => ?_) (fun h2 => ?_)
    · have gh2 : K ≤ 0 := (nI_leI (a := K) (b := 0) (by omega) (by omega)).mp h2
      have hz0 : zz.natAbs = 0 := by rw [hz, wz_abs, show K = 0 by omega]; rfl
      rw [hz0, show bl 0 = 0 from rfl, Nat.add_zero] at ib
      refine lv_iload_n hx hb dW_halveAway_28 rfl (lv_at hl 1 rfl) ?_
      have hP9 := hP.sub (ws' := [(h, .inr (4, [.ref w, .int (nI K), .int b])), (w, .inl (cT 0, R, .inl f1))]) [0, 1] rfl
      have hD9 := hD.sub (ws' := [(h, .inr (4, [.ref w, .int (nI K), .int b])), (w, .inl (cT 0, R, .inl f1))]) [0, 1] (by decide) rfl
      refine W.widen (k := 0) (n := 0) (Nat.le_of_ble_eq_true rfl) (Nat.le_of_ble_eq_true rfl) ?_
      exact W.iret (v := nI j) hx hb hr (fun t ht hW => ⟨⟨nI j, (nI K, f1), rfl, (show (nI j) = nI (bl z.natAbs) ∧ WN R (nI K) b f1 0 from ⟨by rw [ib], by rw [← Int.natAbs_eq_zero.mp hz0]; exact hN1⟩), by rw [ht]; exact hP9, hD9⟩, hS.F ht⟩) hS.2.2 dW_halveAway_29
    · have gh2 : 0 < K := Nat.not_le.mp (fun q => h2 ((nI_leI (a := K) (b := 0) (by omega) (by omega)).mpr q))
      have hzp : 0 < zz.natAbs := by rw [hz, wz_abs]; exact vW_pos htop (by omega)
      refine lv_aload_n hx hb dW_halveAway_17 rfl (lv_at hl 0 rfl) ?_
      refine lv_iconst (v := 2) hx hb dW_halveAway_18 (by decide) ?_
      refine rw_v (wc := [(h, .inr (4, [.ref w, .int (nI K), .int b])), (w, .inl (cT 0, R, .inl f1))]) (wr := []) hP hD hS hA [0, 1] [] rfl rfl (by decide) (by decide) (va_runV (As := [.int 2]) (rest := []) ⟨hx, hb, hml, hown, hT⟩ (k_divide l D cT h w R (nI K) b f1 zz 2 hR hN1 (by decide) (by decide) _) ⟨callB_of 1 hT (tb_gd w457) rfl rfl rfl (hT _ w5) (hT _ w986) hW_divide ⟨Nat.le_of_ble_eq_true rfl, Nat.le_of_ble_eq_true rfl⟩, (hT _ w455), (hT _ w456)⟩ (RW.preV (ci := 4) (q0 := 0) hZ hS (va_free (wc := [(h, .inr (4, [.ref w, .int (nI K), .int b])), (w, .inl (cT 0, R, .inl f1))]) hD hS hA [0, 1] rfl) (hP.sub (ws' := [(h, .inr (4, [.ref w, .int (nI K), .int b])), (w, .inl (cT 0, R, .inl f1))]) [0, 1] rfl) hK (hD.sub (ws' := [(h, .inr (4, [.ref w, .int (nI K), .int b])), (w, .inl (cT 0, R, .inl f1))]) [0, 1] (by decide) rfl) rfl rfl) rfl rfl hl.1 rfl (lv_room (Nat.le_of_ble_eq_true rfl)) dW_halveAway_19 ⟨Nat.le_of_ble_eq_true rfl, Nat.le_of_ble_eq_true rfl⟩) (fun u9 H locs hpu3 hP hD hS => ?_)
      obtain ⟨n1u3, f1u3⟩ := u9
      have hpu3 : WN R n1u3 b f1u3 (zz.tdiv 2) := hpu3
      have hP : va_P D vwCl [(h, .inr (4, [.ref w, .int n1u3, .int b])), (w, .inl (cT 0, R, .inl f1u3))] _ := hP
      have hD : va_D A [(h, .inr (4, [.ref w, .int n1u3, .int b])), (w, .inl (cT 0, R, .inl f1u3))] := hD
      refine lv_iinc (k := 1) (v := nI (j + 1)) hx hb dW_halveAway_22 hl rfl (nI_1 j) (by decide) rfl (fun ls hl => ?_)
      have hl : lv_has ls 2 [(1, .int (nI (j + 1))), (0, .ref h)] := hl
      refine lv_goto (tgt := 2) hx hb dW_halveAway_25 rfl ?_
      exact ih2 (j + 1, zz.tdiv (2 : Nat), n1u3, f1u3) (show WN R n1u3 b f1u3 (zz.tdiv (2 : Nat)) ∧ bl z.natAbs = (j + 1) + bl (zz.tdiv (2 : Nat)).natAbs ∧ (j + 1) ≤ R * 30 from ⟨hpu3, by rw [Int.natAbs_tdiv]; show _ = j + 1 + bl (zz.natAbs / 2); have := bl_half hzp; omega, by omega⟩) (show (zz.tdiv (2 : Nat)).natAbs < zz.natAbs from (by rw [Int.natAbs_tdiv]; show zz.natAbs / 2 < _; omega)) ls H locs (lv_sub hl [1, 0] rfl) hP hD hS
set_option maxHeartbeats 4000000 in
set_option maxRecDepth 100000 in
theorem m_copy (l : Launch) (D : va_G) (cT : Nat → ClassId) (a : Nat) (f : Nat → Int32) (z : Int) (c2 : Nat) (f2 : Nat → Int32) (hN : MN f z) (sz : Nat) : Met l yM_copy WM_copy ({ frames := 0, cells := 0, slots := 0, locals := 0 } : Room) (RW D vwCl [.ref a, .ref c2] [(a, .inl (cT 0, 302, .inl f)), (c2, .inl (cT 0, 302, .inl f2))] (TY cT) sz) (va_Qv (fun u9 : (Nat → Int32) => MN u9 z) (BW D vwCl (va_A [(a, .inl (cT 0, 302, .inl f)), (c2, .inl (cT 0, 302, .inl f2))] sz) (fun u9 : (Nat → Int32) => [(a, .inl (cT 0, 302, .inl f)), (c2, .inl (cT 0, 302, .inl u9))])) (va_A [(a, .inl (cT 0, 302, .inl f)), (c2, .inl (cT 0, 302, .inl f2))] sz)) 0 0 (va_A [(a, .inl (cT 0, 302, .inl f)), (c2, .inl (cT 0, 302, .inl f2))] sz) := by
  refine Met.ofW (cc := cM_copy) (maxL := 3) (ret := none) (by decide) rfl ?_
  intro p e s m args below meth c s₁ B hml hv
  obtain ⟨rfl, hsz, hZ, hP, hK, hD0⟩ := hv
  have hx := B.exec
  have hb := B.bytes
  have hr := B.returns
  have hts := atoms_spec (ws := WM_copy) B.pre
  have hT : ∀ w ∈ TB, w.before _ s = true := fun w h => hts w (List.mem_cons_of_mem _ h)
  have hown : s.vm.findClass R_M = some m.cls := findClass_of_methodNamed B.named
  have hlocks := B.notSynchronized
  subst hsz
  have hD := hD0.self (sz := s.heap.size)
  generalize hAe : va_A [(a, .inl (cT 0, 302, .inl f)), (c2, .inl (cT 0, 302, .inl f2))] s.heap.size = A at hD hZ ⊢
  have hA : ∀ q : Nat, s.heap.size ≤ q → A q := fun q h => by rw [← hAe]; exact Or.inr h
  have hS : va_S A s.heap s.heap [] := va_S.rf
  have hl := lv_entry ([.ref a, .ref c2]) (n := 3) (Nat.le_of_ble_eq_true rfl)
  rw [lg_entry_eq]
  generalize (lg_sl ([.ref a, .ref c2]) ++ List.replicate (3 - (lg_sl ([.ref a, .ref c2])).length) Slot.unset).toArray = ls at hl ⊢
  have hl : lv_has ls 3 [(0, .ref a), (1, .ref c2)] := hl
  obtain ⟨K, h300, hk, hd, htop, hs, hva⟩ := hN
  refine lv_iconst (v := 0) hx hb dM_copy_0 (by decide) ?_
  refine lv_istore_n hx hb dM_copy_1 rfl hl (by decide) rfl (fun ls hl => ?_)
  have hl : lv_has ls 3 [(2, .int 0), (0, .ref a), (1, .ref c2)] := hl
  refine lp_w (α := Nat × (Nat → Int32)) (fun a9 => a9.1 ≤ K ∧ (∀ q, q < a9.1 → a9.2 q = f q)) (fun a9 => K - a9.1) (fun a9 => [(0, .ref a), (1, .ref c2), (2, .int (nI a9.1))]) (fun a9 => [(a, .inl (cT 0, 302, .inl f)), (c2, .inl (cT 0, 302, .inl a9.2))]) 2 ?_ (0, f2) (show 0 ≤ K ∧ (∀ q, q < 0 → f2 q = f q) from ⟨by omega, fun q h => absurd h (by omega)⟩) (lv_sub hl [1, 2, 0] rfl) hP hD hS
  intro a9 hI2 ih2 ls H locs hl hP hD hS
  obtain ⟨j, g⟩ := a9
  have hI2 : j ≤ K ∧ (∀ q, q < j → g q = f q) := hI2
  obtain ⟨ij, ig⟩ := hI2
  have hl : lv_has ls 3 [(0, .ref a), (1, .ref c2), (2, .int (nI j))] := hl
  have hP : va_P D vwCl [(a, .inl (cT 0, 302, .inl f)), (c2, .inl (cT 0, 302, .inl g))] _ := hP
  have hD : va_D A [(a, .inl (cT 0, 302, .inl f)), (c2, .inl (cT 0, 302, .inl g))] := hD
  refine lv_iload_n hx hb dM_copy_2 rfl (lv_at hl 2 rfl) ?_
  refine lv_aload_n hx hb dM_copy_3 rfl (lv_at hl 0 rfl) ?_
  refine lv_sipush (v := 300) hx hb dM_copy_4 (by decide) ?_
  refine lq_iald (j := 300) hx hb hK hP 0 0 rfl rfl rfl (by decide) (by decide) dM_copy_7 ?_
  refine lv_topi (fun y9 e9 => ?_)
  cases (show y9 = nI K from e9.trans h300)
  refine lv_icmp_ge (tgt := 23) hx hb dM_copy_8 rfl (fun h1 => ?_) (fun h1 => ?_)
  · have gh1 : K ≤ j := (nI_leI (a := K) (b := j) (by omega) (by omega)).mp h1
    refine lv_aload_n hx hb dM_copy_23 rfl (lv_at hl 1 rfl) ?_
    refine lv_sipush (v := 300) hx hb dM_copy_24 (by decide) ?_
    refine lv_aload_n hx hb dM_copy_27 rfl (lv_at hl 0 rfl) ?_
    refine lv_sipush (v := 300) hx hb dM_copy_28 (by decide) ?_
    refine lq_iald (j := 300) hx hb hK hP 0 0 rfl rfl rfl (by decide) (by decide) dM_copy_31 ?_
    refine lv_topi (fun y9 e9 => ?_)
    cases (show y9 = nI K from e9.trans h300)
    refine lq_iast (j := 300) hx hb hK hP hD hS 1 0 rfl rfl rfl (by decide) (by decide) dM_copy_32 (fun H locs hP hD hS => ?_)
    have hP : va_P D vwCl [(a, .inl (cT 0, 302, .inl f)), (c2, .inl (cT 0, 302, .inl (upd g 300 (nI K))))] _ := hP
    have hD : va_D A [(a, .inl (cT 0, 302, .inl f)), (c2, .inl (cT 0, 302, .inl (upd g 300 (nI K))))] := hD
    refine lv_aload_n hx hb dM_copy_33 rfl (lv_at hl 1 rfl) ?_
    refine lv_sipush (v := 301) hx hb dM_copy_34 (by decide) ?_
    refine lv_aload_n hx hb dM_copy_37 rfl (lv_at hl 0 rfl) ?_
    refine lv_sipush (v := 301) hx hb dM_copy_38 (by decide) ?_
    refine lq_iald (j := 301) hx hb hK hP 0 0 rfl rfl rfl (by decide) (by decide) dM_copy_41 ?_
    refine lq_iast (j := 301) hx hb hK hP hD hS 1 0 rfl rfl rfl (by decide) (by decide) dM_copy_42 (fun H locs hP hD hS => ?_)
    have hP : va_P D vwCl [(a, .inl (cT 0, 302, .inl f)), (c2, .inl (cT 0, 302, .inl (upd (upd g 300 (nI K)) 301 (f 301))))] _ := hP
    have hD : va_D A [(a, .inl (cT 0, 302, .inl f)), (c2, .inl (cT 0, 302, .inl (upd (upd g 300 (nI K)) 301 (f 301))))] := hD
    have hP9 := hP.sub (ws' := [(a, .inl (cT 0, 302, .inl f)), (c2, .inl (cT 0, 302, .inl (upd (upd g 300 (nI K)) 301 (f 301))))]) [0, 1] rfl
    have hD9 := hD.sub (ws' := [(a, .inl (cT 0, 302, .inl f)), (c2, .inl (cT 0, 302, .inl (upd (upd g 300 (nI K)) 301 (f 301))))]) [0, 1] (by decide) rfl
    refine W.widen (k := 0) (n := 0) (Nat.le_of_ble_eq_true rfl) (Nat.le_of_ble_eq_true rfl) ?_
    exact W.vret hx hb hr (fun t ht hW => ⟨⟨(upd (upd g 300 (nI K)) 301 (f 301)), rfl, (show MN (upd (upd g 300 (nI K)) 301 (f 301)) z from mn_cpy h300 hk hd htop hs hva (fun q h => ig q (by omega)) hs rfl), by rw [ht]; exact hP9, hD9⟩, hS.F ht⟩) hS.2.2 dM_copy_43
  · have gh1 : j < K := Nat.not_le.mp (fun q => h1 ((nI_leI (a := K) (b := j) (by omega) (by omega)).mpr q))
    refine lv_aload_n hx hb dM_copy_11 rfl (lv_at hl 1 rfl) ?_
    refine lv_iload_n hx hb dM_copy_12 rfl (lv_at hl 2 rfl) ?_
    refine lv_aload_n hx hb dM_copy_13 rfl (lv_at hl 0 rfl) ?_
    refine lv_iload_n hx hb dM_copy_14 rfl (lv_at hl 2 rfl) ?_
    refine lq_iald (j := j) hx hb hK hP 0 0 rfl rfl rfl (by omega) (by omega) dM_copy_15 ?_
    refine lq_iast (j := j) hx hb hK hP hD hS 1 0 rfl rfl rfl (by omega) (by omega) dM_copy_16 (fun H locs hP hD hS => ?_)
    have hP : va_P D vwCl [(a, .inl (cT 0, 302, .inl f)), (c2, .inl (cT 0, 302, .inl (upd g j (f j))))] _ := hP
    have hD : va_D A [(a, .inl (cT 0, 302, .inl f)), (c2, .inl (cT 0, 302, .inl (upd g j (f j))))] := hD
    refine lv_iinc (k := 2) (v := nI (j + 1)) hx hb dM_copy_17 hl rfl (nI_1 j) (by decide) rfl (fun ls hl => ?_)
    have hl : lv_has ls 3 [(2, .int (nI (j + 1))), (0, .ref a), (1, .ref c2)] := hl
    refine lv_goto (tgt := 2) hx hb dM_copy_20 rfl ?_
    exact ih2 (j + 1, upd g j (f j)) (show (j + 1) ≤ K ∧ (∀ q, q < (j + 1) → (upd g j (f j)) q = f q) from ⟨by omega, fun q h => (by by_cases r : q = j; (subst r; exact pk_us); (exact (pk_un r).trans (ig q (by omega))))⟩) (show K - (j + 1) < K - j from (by omega)) ls H locs (lv_sub hl [1, 2, 0] rfl) hP hD hS
set_option maxHeartbeats 4000000 in
set_option maxRecDepth 100000 in
theorem m_cmps (l : Launch) (D : va_G) (cT : Nat → ClassId) (a : Nat) (f : Nat → Int32) (z : Int) (c2 : Nat) (f2 : Nat → Int32) (z2 : Int) (hN : MN f z) (hN2 : MN f2 z2) : Met l yM_compareSizes WM_compareSizes ({ frames := 0, cells := 0, slots := 0, locals := 0 } : Room) (RO D vwCl [.ref a, .ref c2] [(a, .inl (cT 0, 302, .inl f)), (c2, .inl (cT 0, 302, .inl f2))] (TY cT)) (QcRead (cn z.natAbs z2.natAbs)) 0 0 (fun _ => False) := by
  refine Met.ofW (cc := cM_compareSizes) (maxL := 3) (ret := (some .int)) (by decide) rfl ?_
  intro p e s m args below meth c s₁ B hml hv
  obtain ⟨rfl, hZ, hP, hK⟩ := hv
  have hx := B.exec
  have hb := B.bytes
  have hr := B.returns
  have hts := atoms_spec (ws := WM_compareSizes) B.pre
  have hT : ∀ w ∈ TB, w.before _ s = true := fun w h => hts w (List.mem_cons_of_mem _ h)
  have hown : s.vm.findClass R_M = some m.cls := findClass_of_methodNamed B.named
  have hlocks := B.notSynchronized
  have hS : va_S (fun _ => False) s.heap s.heap [] := va_S.rf
  have hl := lv_entry ([.ref a, .ref c2]) (n := 3) (Nat.le_of_ble_eq_true rfl)
  rw [lg_entry_eq]
  generalize (lg_sl ([.ref a, .ref c2]) ++ List.replicate (3 - (lg_sl ([.ref a, .ref c2])).length) Slot.unset).toArray = ls at hl ⊢
  have hl : lv_has ls 3 [(0, .ref a), (1, .ref c2)] := hl
  obtain ⟨K, h300, hk, hd, htop, hs, hva⟩ := hN
  obtain ⟨K2, qh300, qhk, qhd, qhtop, qhs, qhva⟩ := hN2
  refine lv_aload_n hx hb dM_compareSizes_0 rfl (lv_at hl 0 rfl) ?_
  refine lv_sipush (v := 300) hx hb dM_compareSizes_1 (by decide) ?_
  refine lq_iald (j := 300) hx hb hK hP 0 0 rfl rfl rfl (by decide) (by decide) dM_compareSizes_4 ?_
  refine lv_topi (fun y9 e9 => ?_)
  cases (show y9 = nI K from e9.trans h300)
  refine lv_aload_n hx hb dM_compareSizes_5 rfl (lv_at hl 1 rfl) ?_
  refine lv_sipush (v := 300) hx hb dM_compareSizes_6 (by decide) ?_
  refine lq_iald (j := 300) hx hb hK hP 1 0 rfl rfl rfl (by decide) (by decide) dM_compareSizes_9 ?_
  refine lv_topi (fun y9 e9 => ?_)
  cases (show y9 = nI K2 from e9.trans qh300)
  refine lv_icmp_eq (tgt := 32) hx hb dM_compareSizes_10 rfl (fun h1 => ?_) (fun h1 => ?_)
  · have gh1 : K = K2 := (nI_eq (a := K) (b := K2) (by omega) (by omega)).mp h1
    refine lv_aload_n hx hb dM_compareSizes_32 rfl (lv_at hl 0 rfl) ?_
    refine lv_sipush (v := 300) hx hb dM_compareSizes_33 (by decide) ?_
    refine lq_iald (j := 300) hx hb hK hP 0 0 rfl rfl rfl (by decide) (by decide) dM_compareSizes_36 ?_
    refine lv_topi (fun y9 e9 => ?_)
    cases (show y9 = nI K from e9.trans h300)
    refine lv_iconst (v := 1) hx hb dM_compareSizes_37 (by decide) ?_
    refine lv_isub hx hb dM_compareSizes_38 ?_
    refine lv_istore_n hx hb dM_compareSizes_39 rfl hl (by decide) rfl (fun ls hl => ?_)
    have hl : lv_has ls 3 [(2, .int ((nI K) - 1)), (0, .ref a), (1, .ref c2)] := hl
    refine lp_r (α := Nat) (fun a9 => a9 ≤ K ∧ hv 268435456 (dg f) a9 (K - a9) = hv 268435456 (dg f2) a9 (K - a9)) (fun a9 => a9) (fun a9 => [(0, .ref a), (1, .ref c2), (2, .int (nI a9 - 1))]) 40 ?_ K (show K ≤ K ∧ hv 268435456 (dg f) K (K - K) = hv 268435456 (dg f2) K (K - K) from ⟨Nat.le_refl _, by rw [Nat.sub_self, hv_0, hv_0]⟩) (lv_sub hl [1, 2, 0] rfl)
    intro a9 hI40 ih40 ls hl
    obtain ⟨k, rfl⟩ : ∃ q9, q9 = a9 := ⟨_, rfl⟩
    have hI40 : k ≤ K ∧ hv 268435456 (dg f) k (K - k) = hv 268435456 (dg f2) k (K - k) := hI40
    obtain ⟨ik, iv⟩ := hI40
    have hl : lv_has ls 3 [(0, .ref a), (1, .ref c2), (2, .int (nI k - 1))] := hl
    refine lv_iload_n hx hb dM_compareSizes_40 rfl (lv_at hl 2 rfl) ?_
    refine lv_if_lt (tgt := 59) hx hb dM_compareSizes_41 rfl (fun h2 => ?_) (fun h2 => ?_)
    · have gh2 : k = 0 := (dn_lt (by omega)).mp h2
      refine lv_iload_n hx hb dM_compareSizes_59 rfl (lv_at hl 2 rfl) ?_
      refine lv_if_ge (tgt := 67) hx hb dM_compareSizes_60 rfl (fun h3 => absurd h3 (Int32.not_le.mpr h2)) (fun _ => ?_)
      refine lv_iconst (v := 0) hx hb dM_compareSizes_63 (by decide) ?_
      refine lv_goto (tgt := 81) hx hb dM_compareSizes_64 rfl ?_
      exact W.iret (v := 0) hx hb hr (fun t ht hW => ⟨by rw [hva, qhva, cn_rf (by rw [show k = 0 by omega] at iv; rw [← (show K = K2 by omega)]; exact iv)], ht⟩) (fun q h => nomatch h) dM_compareSizes_81
    · have gh2 : 0 < k := Nat.pos_of_ne_zero (fun q => h2 ((dn_lt (by omega)).mpr q))
      refine lv_aload_n hx hb dM_compareSizes_44 rfl (lv_at hl 0 rfl) ?_
      refine lv_iload_n hx hb dM_compareSizes_45 rfl (lv_at hl 2 rfl) ?_
      refine lq_iald (j := k - 1) hx hb hK hP 0 0 rfl rfl (nI_sub1 (by omega)) (by omega) (by decide) dM_compareSizes_46 ?_
      refine lv_aload_n hx hb dM_compareSizes_47 rfl (lv_at hl 1 rfl) ?_
      refine lv_iload_n hx hb dM_compareSizes_48 rfl (lv_at hl 2 rfl) ?_
      refine lq_iald (j := k - 1) hx hb hK hP 1 0 rfl rfl (nI_sub1 (by omega)) (by omega) (by decide) dM_compareSizes_49 ?_
      refine lv_icmp_ne (tgt := 59) hx hb dM_compareSizes_50 rfl (fun h4 => ?_) (fun h4 => ?_)
      · refine lv_iload_n hx hb dM_compareSizes_59 rfl (lv_at hl 2 rfl) ?_
        refine lv_if_ge (tgt := 67) hx hb dM_compareSizes_60 rfl (fun _ => ?_) (fun h5 => absurd (Int32.not_lt.mp h2) h5)
        refine lv_aload_n hx hb dM_compareSizes_67 rfl (lv_at hl 0 rfl) ?_
        refine lv_iload_n hx hb dM_compareSizes_68 rfl (lv_at hl 2 rfl) ?_
        refine lq_iald (j := k - 1) hx hb hK hP 0 0 rfl rfl (nI_sub1 (by omega)) (by omega) (by decide) dM_compareSizes_69 ?_
        refine lv_aload_n hx hb dM_compareSizes_70 rfl (lv_at hl 1 rfl) ?_
        refine lv_iload_n hx hb dM_compareSizes_71 rfl (lv_at hl 2 rfl) ?_
        refine lq_iald (j := k - 1) hx hb hK hP 1 0 rfl rfl (nI_sub1 (by omega)) (by omega) (by decide) dM_compareSizes_72 ?_
        refine lv_icmp_ge (tgt := 80) hx hb dM_compareSizes_73 rfl (fun h6 => ?_) (fun h6 => ?_)
        · refine lv_iconst (v := 1) hx hb dM_compareSizes_80 (by decide) ?_
          exact W.iret (v := 1) hx hb hr (fun t ht hW => ⟨by rw [hva, qhva, cn_gt (mc_lt (show K = K2 by omega).symm (by omega) (by omega) qhd hd (by rw [← (show K = K2 by omega)]; exact iv.symm) (lt_of_ne h6 h4))], ht⟩) (fun q h => nomatch h) dM_compareSizes_81
        · refine lv_iconst (v := (-1)) hx hb dM_compareSizes_76 (by decide) ?_
          refine lv_goto (tgt := 81) hx hb dM_compareSizes_77 rfl ?_
          exact W.iret (v := (-1)) hx hb hr (fun t ht hW => ⟨by rw [hva, qhva, cn_lt (mc_lt (show K = K2 by omega) (by omega) ik hd qhd iv (Int32.not_le.mp h6))], ht⟩) (fun q h => nomatch h) dM_compareSizes_81
      · refine lv_iinc (k := 2) (v := nI (k - 1) - 1) hx hb dM_compareSizes_53 hl rfl (dn_m1 (by omega)) (by decide) rfl (fun ls hl => ?_)
        have hl : lv_has ls 3 [(2, .int (nI (k - 1) - 1)), (0, .ref a), (1, .ref c2)] := hl
        refine lv_goto (tgt := 40) hx hb dM_compareSizes_56 rfl ?_
        exact ih40 (k - 1) (show (k - 1) ≤ K ∧ hv 268435456 (dg f) (k - 1) (K - (k - 1)) = hv 268435456 (dg f2) (k - 1) (K - (k - 1)) from ⟨by omega, mc_s (by omega) ik iv h4⟩) (show (k - 1) < k from (by omega)) ls (lv_sub hl [1, 2, 0] rfl)
  · have gh1 : ¬ (K = K2) := fun q => h1 (congrArg nI q)
    refine lv_aload_n hx hb dM_compareSizes_13 rfl (lv_at hl 0 rfl) ?_
    refine lv_sipush (v := 300) hx hb dM_compareSizes_14 (by decide) ?_
    refine lq_iald (j := 300) hx hb hK hP 0 0 rfl rfl rfl (by decide) (by decide) dM_compareSizes_17 ?_
    refine lv_topi (fun y9 e9 => ?_)
    cases (show y9 = nI K from e9.trans h300)
    refine lv_aload_n hx hb dM_compareSizes_18 rfl (lv_at hl 1 rfl) ?_
    refine lv_sipush (v := 300) hx hb dM_compareSizes_19 (by decide) ?_
    refine lq_iald (j := 300) hx hb hK hP 1 0 rfl rfl rfl (by decide) (by decide) dM_compareSizes_22 ?_
    refine lv_topi (fun y9 e9 => ?_)
    cases (show y9 = nI K2 from e9.trans qh300)
    refine lv_icmp_ge (tgt := 30) hx hb dM_compareSizes_23 rfl (fun h7 => ?_) (fun h7 => ?_)
    · have gh7 : K2 ≤ K := (nI_leI (a := K2) (b := K) (by omega) (by omega)).mp h7
      refine lv_iconst (v := 1) hx hb dM_compareSizes_30 (by decide) ?_
      exact W.iret (v := 1) hx hb hr (fun t ht hW => ⟨by rw [hva, qhva, cn_gt (vM_lt qhd htop (by omega))], ht⟩) (fun q h => nomatch h) dM_compareSizes_31
    · have gh7 : K < K2 := Nat.not_le.mp (fun q => h7 ((nI_leI (a := K2) (b := K) (by omega) (by omega)).mpr q))
      refine lv_iconst (v := (-1)) hx hb dM_compareSizes_26 (by decide) ?_
      refine lv_goto (tgt := 31) hx hb dM_compareSizes_27 rfl ?_
      exact W.iret (v := (-1)) hx hb hr (fun t ht hW => ⟨by rw [hva, qhva, cn_lt (vM_lt hd qhtop (by omega))], ht⟩) (fun q h => nomatch h) dM_compareSizes_31
set_option maxHeartbeats 4000000 in
set_option maxRecDepth 100000 in
theorem m_cmp (l : Launch) (D : va_G) (cT : Nat → ClassId) (a : Nat) (f : Nat → Int32) (z : Int) (c2 : Nat) (f2 : Nat → Int32) (z2 : Int) (hN : MN f z) (hN2 : MN f2 z2) : Met l yM_compare WM_compare ({ frames := 1, cells := 0, slots := 0, locals := 22 } : Room) (RO D vwCl [.ref a, .ref c2] [(a, .inl (cT 0, 302, .inl f)), (c2, .inl (cT 0, 302, .inl f2))] (TY cT)) (QcRead (cz z z2)) 0 0 (fun _ => False) := by
  refine Met.ofW (cc := cM_compare) (maxL := 2) (ret := (some .int)) (by decide) rfl ?_
  intro p e s m args below meth c s₁ B hml hv
  obtain ⟨rfl, hZ, hP, hK⟩ := hv
  have hx := B.exec
  have hb := B.bytes
  have hr := B.returns
  have hts := atoms_spec (ws := WM_compare) B.pre
  have hT : ∀ w ∈ TB, w.before _ s = true := fun w h => hts w (List.mem_cons_of_mem _ h)
  have hown : s.vm.findClass R_M = some m.cls := findClass_of_methodNamed B.named
  have hlocks := B.notSynchronized
  have hS : va_S (fun _ => False) s.heap s.heap [] := va_S.rf
  have hl := lv_entry ([.ref a, .ref c2]) (n := 2) (Nat.le_of_ble_eq_true rfl)
  rw [lg_entry_eq]
  generalize (lg_sl ([.ref a, .ref c2]) ++ List.replicate (2 - (lg_sl ([.ref a, .ref c2])).length) Slot.unset).toArray = ls at hl ⊢
  have hl : lv_has ls 2 [(0, .ref a), (1, .ref c2)] := hl
  have hs : f 301 = sg z := by obtain ⟨_, _, _, _, _, q, _⟩ := hN; exact q
  have qhs : f2 301 = sg z2 := by obtain ⟨_, _, _, _, _, q, _⟩ := hN2; exact q
  refine lv_aload_n hx hb dM_compare_0 rfl (lv_at hl 0 rfl) ?_
  refine lv_sipush (v := 301) hx hb dM_compare_1 (by decide) ?_
  refine lq_iald (j := 301) hx hb hK hP 0 0 rfl rfl rfl (by decide) (by decide) dM_compare_4 ?_
  refine lv_topi (fun y9 e9 => ?_)
  cases (show y9 = sg z from e9.trans hs)
  refine lv_aload_n hx hb dM_compare_5 rfl (lv_at hl 1 rfl) ?_
  refine lv_sipush (v := 301) hx hb dM_compare_6 (by decide) ?_
  refine lq_iald (j := 301) hx hb hK hP 1 0 rfl rfl rfl (by decide) (by decide) dM_compare_9 ?_
  refine lv_topi (fun y9 e9 => ?_)
  cases (show y9 = sg z2 from e9.trans qhs)
  refine lv_icmp_eq (tgt := 32) hx hb dM_compare_10 rfl (fun h1 => ?_) (fun h1 => ?_)
  · refine lv_aload_n hx hb dM_compare_32 rfl (lv_at hl 0 rfl) ?_
    refine lv_sipush (v := 301) hx hb dM_compare_33 (by decide) ?_
    refine lq_iald (j := 301) hx hb hK hP 0 0 rfl rfl rfl (by decide) (by decide) dM_compare_36 ?_
    refine lv_topi (fun y9 e9 => ?_)
    cases (show y9 = sg z from e9.trans hs)
    refine lv_aload_n hx hb dM_compare_37 rfl (lv_at hl 0 rfl) ?_
    refine lv_aload_n hx hb dM_compare_38 rfl (lv_at hl 1 rfl) ?_
    refine ro_i (va_Run.run (va_runS (As := [.ref a, .ref c2]) (rest := [.int (sg z)]) ⟨hx, hb, hml, hown, hT⟩ (m_cmps l D cT a f z c2 f2 z2 hN hN2) ⟨callB_of 2 hT (tb_gd w1436) rfl rfl rfl (hT _ w13) (hT _ w1434) hM_compareSizes ⟨Nat.le_of_ble_eq_true rfl, Nat.le_of_ble_eq_true rfl⟩, (hT _ w1435)⟩ (RO.preS hZ hS (hP.sub (ws' := [(a, .inl (cT 0, 302, .inl f)), (c2, .inl (cT 0, 302, .inl f2))]) [0, 1] rfl) hK) rfl rfl hl.1 rfl (lv_room (Nat.le_of_ble_eq_true rfl)) dM_compare_39 ⟨Nat.le_of_ble_eq_true rfl, Nat.le_of_ble_eq_true rfl⟩)) ?_
    refine lv_imul hx hb dM_compare_42 ?_
    exact W.iret (v := (sg z) * (cn z.natAbs z2.natAbs)) hx hb hr (fun t ht hW => ⟨by rw [cz_mul h1], ht⟩) (fun q h => nomatch h) dM_compare_43
  · refine lv_aload_n hx hb dM_compare_13 rfl (lv_at hl 0 rfl) ?_
    refine lv_sipush (v := 301) hx hb dM_compare_14 (by decide) ?_
    refine lq_iald (j := 301) hx hb hK hP 0 0 rfl rfl rfl (by decide) (by decide) dM_compare_17 ?_
    refine lv_topi (fun y9 e9 => ?_)
    cases (show y9 = sg z from e9.trans hs)
    refine lv_aload_n hx hb dM_compare_18 rfl (lv_at hl 1 rfl) ?_
    refine lv_sipush (v := 301) hx hb dM_compare_19 (by decide) ?_
    refine lq_iald (j := 301) hx hb hK hP 1 0 rfl rfl rfl (by decide) (by decide) dM_compare_22 ?_
    refine lv_topi (fun y9 e9 => ?_)
    cases (show y9 = sg z2 from e9.trans qhs)
    refine lv_icmp_ge (tgt := 30) hx hb dM_compare_23 rfl (fun h2 => ?_) (fun h2 => ?_)
    · refine lv_iconst (v := 1) hx hb dM_compare_30 (by decide) ?_
      exact W.iret (v := 1) hx hb hr (fun t ht hW => ⟨by rw [cz_gt (sg_ne_lt h2 h1)], ht⟩) (fun q h => nomatch h) dM_compare_31
    · refine lv_iconst (v := (-1)) hx hb dM_compare_26 (by decide) ?_
      refine lv_goto (tgt := 31) hx hb dM_compare_27 rfl ?_
      exact W.iret (v := (-1)) hx hb hr (fun t ht hW => ⟨by rw [cz_lt (sg_lt (Int32.not_le.mp h2))], ht⟩) (fun q h => nomatch h) dM_compare_31
set_option maxHeartbeats 4000000 in
set_option maxRecDepth 100000 in
theorem m_addS (l : Launch) (D : va_G) (cT : Nat → ClassId) (a : Nat) (f : Nat → Int32) (z : Int) (c2 : Nat) (f2 : Nat → Int32) (z2 : Int) (wv : Int) (hN : MN f z) (hN2 : MN f2 z2) (hw : wv.natAbs = z.natAbs + z2.natAbs) (hws : sg wv = sg z) (hfit : z.natAbs + z2.natAbs < 268435456 ^ 250) (sz : Nat) : Met l yM_addSizes WM_addSizes ({ frames := 1, cells := 0, slots := 0, locals := 22 } : Room) (RW D vwCl [.ref a, .ref c2] [(a, .inl (cT 0, 302, .inl f)), (c2, .inl (cT 0, 302, .inl f2))] (TY cT) sz) (va_Qv (fun u9 : (Nat → Int32) => MN u9 wv) (BW D vwCl (va_A [(a, .inl (cT 0, 302, .inl f)), (c2, .inl (cT 0, 302, .inl f2))] sz) (fun u9 : (Nat → Int32) => [(a, .inl (cT 0, 302, .inl u9)), (c2, .inl (cT 0, 302, .inl f2))])) (va_A [(a, .inl (cT 0, 302, .inl f)), (c2, .inl (cT 0, 302, .inl f2))] sz)) 0 0 (va_A [(a, .inl (cT 0, 302, .inl f)), (c2, .inl (cT 0, 302, .inl f2))] sz) := by
  refine Met.ofW (cc := cM_addSizes) (maxL := 6) (ret := none) (by decide) rfl ?_
  intro p e s m args below meth c s₁ B hml hv
  obtain ⟨rfl, hsz, hZ, hP, hK, hD0⟩ := hv
  have hx := B.exec
  have hb := B.bytes
  have hr := B.returns
  have hts := atoms_spec (ws := WM_addSizes) B.pre
  have hT : ∀ w ∈ TB, w.before _ s = true := fun w h => hts w (List.mem_cons_of_mem _ h)
  have hown : s.vm.findClass R_M = some m.cls := findClass_of_methodNamed B.named
  have hlocks := B.notSynchronized
  subst hsz
  have hD := hD0.self (sz := s.heap.size)
  generalize hAe : va_A [(a, .inl (cT 0, 302, .inl f)), (c2, .inl (cT 0, 302, .inl f2))] s.heap.size = A at hD hZ ⊢
  have hA : ∀ q : Nat, s.heap.size ≤ q → A q := fun q h => by rw [← hAe]; exact Or.inr h
  have hS : va_S A s.heap s.heap [] := va_S.rf
  have hl := lv_entry ([.ref a, .ref c2]) (n := 6) (Nat.le_of_ble_eq_true rfl)
  rw [lg_entry_eq]
  generalize (lg_sl ([.ref a, .ref c2]) ++ List.replicate (6 - (lg_sl ([.ref a, .ref c2])).length) Slot.unset).toArray = ls at hl ⊢
  have hl : lv_has ls 6 [(0, .ref a), (1, .ref c2)] := hl
  obtain ⟨K, h300, hk, hd, htop, hs, hva⟩ := hN
  obtain ⟨K2, qh300, qhk, qhd, qhtop, qhs, qhva⟩ := hN2
  obtain ⟨nn, hnn⟩ : ∃ q9 : Nat, q9 = max K K2 := ⟨_, rfl⟩
  have hKb : K ≤ 250 := M_le htop (by omega)
  have hK2b : K2 ≤ 250 := M_le qhtop (by omega)
  have hnn1 : K ≤ nn ∧ K2 ≤ nn ∧ nn ≤ 250 := by omega
  refine lp_cut (fun x9 : Int32 => x9 = nI nn) (fun x9 => [.int x9]) 26 ls (fun x9 e9 => ?_) (fun hct1 => ?_)
  · cases (show x9 = nI nn from e9)
    refine lv_istore_n hx hb dM_addSizes_26 rfl hl (by decide) rfl (fun ls hl => ?_)
    have hl : lv_has ls 6 [(2, .int (nI nn)), (0, .ref a), (1, .ref c2)] := hl
    refine lv_iconst (v := 0) hx hb dM_addSizes_27 (by decide) ?_
    refine lv_istore_n hx hb dM_addSizes_28 rfl hl (by decide) rfl (fun ls hl => ?_)
    have hl : lv_has ls 6 [(3, .int 0), (2, .int (nI nn)), (0, .ref a), (1, .ref c2)] := hl
    refine lv_iconst (v := 0) hx hb dM_addSizes_29 (by decide) ?_
    refine lv_istore hx hb dM_addSizes_30 hl (by decide) rfl (fun ls hl => ?_)
    have hl : lv_has ls 6 [(4, .int 0), (3, .int 0), (2, .int (nI nn)), (0, .ref a), (1, .ref c2)] := hl
    refine lp_w (α := Nat × Nat × (Nat → Int32)) (fun a9 => a9.1 ≤ nn ∧ a9.2.1 ≤ 1 ∧ dok 268435456 a9.2.2 a9.1 ∧ (∀ q, a9.1 ≤ q → a9.2.2 q = f q) ∧ hv 268435456 (dg a9.2.2) 0 a9.1 + 268435456 ^ a9.1 * a9.2.1 = hv 268435456 (ct K (dg f)) 0 a9.1 + hv 268435456 (ct K2 (dg f2)) 0 a9.1) (fun a9 => nn - a9.1) (fun a9 => [(0, .ref a), (1, .ref c2), (2, .int (nI nn)), (3, .int (nI a9.2.1)), (4, .int (nI a9.1))]) (fun a9 => [(a, .inl (cT 0, 302, .inl a9.2.2)), (c2, .inl (cT 0, 302, .inl f2))]) 32 ?_ (0, 0, f) (show 0 ≤ nn ∧ 0 ≤ 1 ∧ dok 268435456 f 0 ∧ (∀ q, 0 ≤ q → f q = f q) ∧ hv 268435456 (dg f) 0 0 + 268435456 ^ 0 * 0 = hv 268435456 (ct K (dg f)) 0 0 + hv 268435456 (ct K2 (dg f2)) 0 0 from ⟨by omega, by omega, fun q h => absurd h (by omega), fun _ _ => rfl, by simp [hv]⟩) (lv_sub hl [3, 4, 2, 1, 0] rfl) hP hD hS
    intro a9 hI32 ih32 ls H locs hl hP hD hS
    obtain ⟨j, o, g⟩ := a9
    have hI32 : j ≤ nn ∧ o ≤ 1 ∧ dok 268435456 g j ∧ (∀ q, j ≤ q → g q = f q) ∧ hv 268435456 (dg g) 0 j + 268435456 ^ j * o = hv 268435456 (ct K (dg f)) 0 j + hv 268435456 (ct K2 (dg f2)) 0 j := hI32
    obtain ⟨ij, io, idk, ig, iv⟩ := hI32
    have hl : lv_has ls 6 [(0, .ref a), (1, .ref c2), (2, .int (nI nn)), (3, .int (nI o)), (4, .int (nI j))] := hl
    have hP : va_P D vwCl [(a, .inl (cT 0, 302, .inl g)), (c2, .inl (cT 0, 302, .inl f2))] _ := hP
    have hD : va_D A [(a, .inl (cT 0, 302, .inl g)), (c2, .inl (cT 0, 302, .inl f2))] := hD
    refine lv_iload hx hb dM_addSizes_32 (lv_at hl 4 rfl) ?_
    refine lv_iload_n hx hb dM_addSizes_34 rfl (lv_at hl 2 rfl) ?_
    refine lv_icmp_ge (tgt := 100) hx hb dM_addSizes_35 rfl (fun h2 => ?_) (fun h2 => ?_)
    · have gh2 : nn ≤ j := (nI_leI (a := nn) (b := j) (by omega) (by omega)).mp h2
      have ej : j = nn := by omega
      subst ej
      have hl : lv_has ls 6 [(0, .ref a), (1, .ref c2), (2, .int (nI j)), (3, .int (nI o)), (4, .int (nI j))] := hl
      have hP : va_P D vwCl [(a, .inl (cT 0, 302, .inl g)), (c2, .inl (cT 0, 302, .inl f2))] _ := hP
      have hD : va_D A [(a, .inl (cT 0, 302, .inl g)), (c2, .inl (cT 0, 302, .inl f2))] := hD
      refine lv_aload_n hx hb dM_addSizes_100 rfl (lv_at hl 0 rfl) ?_
      refine lv_iload_n hx hb dM_addSizes_101 rfl (lv_at hl 2 rfl) ?_
      refine lv_iload_n hx hb dM_addSizes_102 rfl (lv_at hl 3 rfl) ?_
      refine lq_iast (j := j) hx hb hK hP hD hS 0 0 rfl rfl rfl (by omega) (by omega) dM_addSizes_103 (fun H locs hP hD hS => ?_)
      have hP : va_P D vwCl [(a, .inl (cT 0, 302, .inl (upd g j (nI o)))), (c2, .inl (cT 0, 302, .inl f2))] _ := hP
      have hD : va_D A [(a, .inl (cT 0, 302, .inl (upd g j (nI o)))), (c2, .inl (cT 0, 302, .inl f2))] := hD
      refine lv_aload_n hx hb dM_addSizes_104 rfl (lv_at hl 0 rfl) ?_
      refine lv_iload_n hx hb dM_addSizes_105 rfl (lv_at hl 2 rfl) ?_
      refine lv_iconst (v := 1) hx hb dM_addSizes_106 (by decide) ?_
      refine lv_iadd hx hb dM_addSizes_107 ?_
      refine lv_topi (fun y9 e9 => ?_)
      cases (show y9 = nI (j + 1) from e9.trans (nI_add j 1))
      refine rw_v (wc := [(a, .inl (cT 0, 302, .inl (upd g j (nI o))))]) (wr := [(c2, .inl (cT 0, 302, .inl f2))]) hP hD hS hA [0] [1] rfl rfl (by decide) (by decide) (va_runS (As := [.ref a, .int (nI (j + 1))]) (rest := []) ⟨hx, hb, hml, hown, hT⟩ (m_trim l D cT a (upd g j (nI o)) (j + 1) (by omega) (dok_s idk (by omega) (by decide)) _) ⟨callB_of 2 hT (tb_gd w1420) rfl rfl rfl (hT _ w13) (hT _ w1418) hM_trim ⟨Nat.le_of_ble_eq_true rfl, Nat.le_of_ble_eq_true rfl⟩, (hT _ w1419)⟩ (RW.preS hZ hS (va_free (wc := [(a, .inl (cT 0, 302, .inl (upd g j (nI o))))]) hD hS hA [0] rfl) (hP.sub (ws' := [(a, .inl (cT 0, 302, .inl (upd g j (nI o))))]) [0] rfl) hK (hD.sub (ws' := [(a, .inl (cT 0, 302, .inl (upd g j (nI o))))]) [0] (by decide) rfl)) rfl rfl hl.1 rfl (lv_room (Nat.le_of_ble_eq_true rfl)) dM_addSizes_108 ⟨Nat.le_of_ble_eq_true rfl, Nat.le_of_ble_eq_true rfl⟩) (fun u9 H locs hpu3 hP hD hS => ?_)
      obtain ⟨ku3, f1u3⟩ := u9
      have hpu3 : ku3 ≤ (j + 1) ∧ top0 (upd g j (nI o)) ku3 ∧ vM (upd g j (nI o)) ku3 = vM (upd g j (nI o)) (j + 1) ∧ f1u3 300 = nI ku3 ∧ f1u3 301 = (if ku3 = 0 then 0 else (upd g j (nI o)) 301) ∧ ∀ q8, q8 < 300 → f1u3 q8 = (upd g j (nI o)) q8 := hpu3
      have hP : va_P D vwCl [(c2, .inl (cT 0, 302, .inl f2)), (a, .inl (cT 0, 302, .inl f1u3))] _ := hP
      have hD : va_D A [(c2, .inl (cT 0, 302, .inl f2)), (a, .inl (cT 0, 302, .inl f1u3))] := hD
      have hP9 := hP.sub (ws' := [(a, .inl (cT 0, 302, .inl f1u3)), (c2, .inl (cT 0, 302, .inl f2))]) [1, 0] rfl
      have hD9 := hD.sub (ws' := [(a, .inl (cT 0, 302, .inl f1u3)), (c2, .inl (cT 0, 302, .inl f2))]) [1, 0] (by decide) rfl
      refine W.widen (k := 0) (n := 0) (Nat.le_of_ble_eq_true rfl) (Nat.le_of_ble_eq_true rfl) ?_
      exact W.vret hx hb hr (fun t ht hW => ⟨⟨f1u3, rfl, (show MN f1u3 wv from mn_trim (by omega) (dok_s idk (by omega) (by decide)) hpu3 (by rw [hw, hva, qhva]; show _ = hv _ _ _ _; rw [hv_us (v := o) (by omega), iv, hv_ct (by omega), hv_ct (by omega)]) (fun _ => (pk_un (by omega)).trans ((ig 301 (by omega)).trans (hs.trans hws.symm)))), by rw [ht]; exact hP9, hD9⟩, hS.F ht⟩) hS.2.2 dM_addSizes_111
    · have gh2 : j < nn := Nat.not_le.mp (fun q => h2 ((nI_leI (a := nn) (b := j) (by omega) (by omega)).mpr q))
      obtain ⟨x1, hx1⟩ : ∃ q9 : Nat, q9 = ct K (dg f) j := ⟨_, rfl⟩
      have hx1b : x1 < 268435456 := by
        rw [hx1]
        by_cases q : j < K
        · rw [ct_lt q]; exact (hd j q).2
        · rw [ct_ge (show K ≤ j by omega)]; decide
      obtain ⟨y1, hy1⟩ : ∃ q9 : Nat, q9 = ct K2 (dg f2) j := ⟨_, rfl⟩
      have hy1b : y1 < 268435456 := by
        rw [hy1]
        by_cases q : j < K2
        · rw [ct_lt q]; exact (qhd j q).2
        · rw [ct_ge (show K2 ≤ j by omega)]; decide
      refine lp_cut (fun x9 : Int32 => x9 = nI x1) (fun x9 => [.int x9]) 56 ls (fun x9 e9 => ?_) (fun hct4 => ?_)
      · cases (show x9 = nI x1 from e9)
        refine lp_cut (fun x9 : Int32 => x9 = nI y1) (fun x9 => [.int x9, .int (nI x1)]) 74 ls (fun x9 e9 => ?_) (fun hct5 => ?_)
        · cases (show x9 = nI y1 from e9)
          refine lv_iadd hx hb dM_addSizes_74 ?_
          refine lv_topi (fun y9 e9 => ?_)
          cases (show y9 = nI (x1 + y1) from e9.trans (nI_add x1 y1))
          refine lv_iload_n hx hb dM_addSizes_75 rfl (lv_at hl 3 rfl) ?_
          refine lv_iadd hx hb dM_addSizes_76 ?_
          refine lv_topi (fun y9 e9 => ?_)
          cases (show y9 = nI ((x1 + y1) + o) from e9.trans (nI_add (x1 + y1) o))
          obtain ⟨sm, hsm⟩ : ∃ q9 : Nat, q9 = (x1 + y1) + o := ⟨_, rfl⟩
          refine lv_topi (fun y9 e9 => ?_)
          cases (show y9 = nI sm from e9.trans (congrArg nI hsm.symm))
          refine lv_istore hx hb dM_addSizes_77 hl (by decide) rfl (fun ls hl => ?_)
          have hl : lv_has ls 6 [(5, .int (nI sm)), (0, .ref a), (1, .ref c2), (2, .int (nI nn)), (3, .int (nI o)), (4, .int (nI j))] := hl
          refine lv_aload_n hx hb dM_addSizes_79 rfl (lv_at hl 1 rfl) ?_
          refine lv_iload hx hb dM_addSizes_80 (lv_at hl 5 rfl) ?_
          refine lv_iload hx hb dM_addSizes_82 (lv_at hl 0 rfl) ?_
          refine lv_ldc (v := 268435455) hx hb hown (hT _ w1430) dM_addSizes_84 ?_
          refine lv_iand hx hb dM_addSizes_86 ?_
          obtain ⟨e1, he1⟩ : ∃ q9 : Nat, q9 = sm % 268435456 := ⟨_, rfl⟩
          have he1b : e1 < 268435456 := by omega
          refine lv_topi (fun y9 e9 => ?_)
          cases (show y9 = nI e1 from e9.trans (by rw [he1]; exact pk_andN (by omega) 28 (by decide)))
          refine lq_iast (j := j) hx hb hK hP hD hS 0 0 rfl rfl rfl (by omega) (by omega) dM_addSizes_87 (fun H locs hP hD hS => ?_)
          have hP : va_P D vwCl [(a, .inl (cT 0, 302, .inl (upd g j (nI e1)))), (c2, .inl (cT 0, 302, .inl f2))] _ := hP
          have hD : va_D A [(a, .inl (cT 0, 302, .inl (upd g j (nI e1)))), (c2, .inl (cT 0, 302, .inl f2))] := hD
          refine lv_iload hx hb dM_addSizes_88 (lv_at hl 0 rfl) ?_
          refine lv_bipush (v := 28) hx hb dM_addSizes_90 (by decide) ?_
          refine lv_ishr hx hb dM_addSizes_92 ?_
          obtain ⟨c1, hc1⟩ : ∃ q9 : Nat, q9 = sm / 268435456 := ⟨_, rfl⟩
          refine lv_topi (fun y9 e9 => ?_)
          cases (show y9 = nI c1 from e9.trans (by rw [hc1]; exact pk_shrN (by omega) _ 28 (by decide)))
          refine lv_istore_n hx hb dM_addSizes_93 rfl hl (by decide) rfl (fun ls hl => ?_)
          have hl : lv_has ls 6 [(3, .int (nI c1)), (5, .int (nI sm)), (0, .ref a), (1, .ref c2), (2, .int (nI nn)), (4, .int (nI j))] := hl
          refine lv_iinc (k := 5) (v := nI (j + 1)) hx hb dM_addSizes_94 hl rfl (nI_1 j) (by decide) rfl (fun ls hl => ?_)
          have hl : lv_has ls 6 [(4, .int (nI (j + 1))), (3, .int (nI c1)), (5, .int (nI sm)), (0, .ref a), (1, .ref c2), (2, .int (nI nn))] := hl
          refine lv_goto (tgt := 32) hx hb dM_addSizes_97 rfl ?_
          exact ih32 (j + 1, c1, upd g j (nI e1)) (show (j + 1) ≤ nn ∧ c1 ≤ 1 ∧ dok 268435456 (upd g j (nI e1)) (j + 1) ∧ (∀ q, (j + 1) ≤ q → (upd g j (nI e1)) q = f q) ∧ hv 268435456 (dg (upd g j (nI e1))) 0 (j + 1) + 268435456 ^ (j + 1) * c1 = hv 268435456 (ct K (dg f)) 0 (j + 1) + hv 268435456 (ct K2 (dg f2)) 0 (j + 1) from ⟨by omega, by omega, dok_s idk he1b (by decide), fun q h => (pk_un (by omega)).trans (ig q (by omega)), by rw [hv_us (v := e1) (by omega), hv_snoc, hv_snoc, Nat.zero_add, Nat.pow_succ, ← hx1, ← hy1]; exact add_s iv (by omega)⟩) (show nn - (j + 1) < nn - j from (by omega)) ls H locs (lv_sub hl [3, 4, 5, 1, 0] rfl) hP hD hS
        · refine lv_iload hx hb dM_addSizes_56 (lv_at hl 4 rfl) ?_
          refine lv_aload_n hx hb dM_addSizes_58 rfl (lv_at hl 1 rfl) ?_
          refine lv_sipush (v := 300) hx hb dM_addSizes_59 (by decide) ?_
          refine lq_iald (j := 300) hx hb hK hP 1 0 rfl rfl rfl (by decide) (by decide) dM_addSizes_62 ?_
          refine lv_topi (fun y9 e9 => ?_)
          cases (show y9 = nI K2 from e9.trans qh300)
          refine lv_icmp_ge (tgt := 73) hx hb dM_addSizes_63 rfl (fun h6 => ?_) (fun h6 => ?_)
          · have gh6 : K2 ≤ j := (nI_leI (a := K2) (b := j) (by omega) (by omega)).mp h6
            refine lv_iconst (v := 0) hx hb dM_addSizes_73 (by decide) ?_
            exact hct5 _ (by rw [hy1, ct_ge (show K2 ≤ j by omega)]; rfl)
          · have gh6 : j < K2 := Nat.not_le.mp (fun q => h6 ((nI_leI (a := K2) (b := j) (by omega) (by omega)).mpr q))
            refine lv_aload_n hx hb dM_addSizes_66 rfl (lv_at hl 1 rfl) ?_
            refine lv_iload hx hb dM_addSizes_67 (lv_at hl 4 rfl) ?_
            refine lq_iald (j := j) hx hb hK hP 1 0 rfl rfl rfl (by omega) (by omega) dM_addSizes_69 ?_
            refine lv_goto (tgt := 74) hx hb dM_addSizes_70 rfl ?_
            exact hct5 _ (by rw [hy1, ct_lt (show j < K2 by omega)]; exact (qhd j (by omega)).1)
      · refine lv_iload hx hb dM_addSizes_38 (lv_at hl 4 rfl) ?_
        refine lv_aload_n hx hb dM_addSizes_40 rfl (lv_at hl 0 rfl) ?_
        refine lv_sipush (v := 300) hx hb dM_addSizes_41 (by decide) ?_
        refine lq_iald (j := 300) hx hb hK hP 0 0 rfl rfl rfl (by decide) (by decide) dM_addSizes_44 ?_
        refine lv_topi (fun y9 e9 => ?_)
        cases (show y9 = nI K from e9.trans ((ig 300 (by omega)).trans h300))
        refine lv_icmp_ge (tgt := 55) hx hb dM_addSizes_45 rfl (fun h7 => ?_) (fun h7 => ?_)
        · have gh7 : K ≤ j := (nI_leI (a := K) (b := j) (by omega) (by omega)).mp h7
          refine lv_iconst (v := 0) hx hb dM_addSizes_55 (by decide) ?_
          exact hct4 _ (by rw [hx1, ct_ge (show K ≤ j by omega)]; rfl)
        · have gh7 : j < K := Nat.not_le.mp (fun q => h7 ((nI_leI (a := K) (b := j) (by omega) (by omega)).mpr q))
          refine lv_aload_n hx hb dM_addSizes_48 rfl (lv_at hl 0 rfl) ?_
          refine lv_iload hx hb dM_addSizes_49 (lv_at hl 4 rfl) ?_
          refine lq_iald (j := j) hx hb hK hP 0 0 rfl rfl rfl (by omega) (by omega) dM_addSizes_51 ?_
          refine lv_goto (tgt := 56) hx hb dM_addSizes_52 rfl ?_
          exact hct4 _ (by rw [ig j (Nat.le_refl _), hx1, ct_lt (show j < K by omega)]; exact (hd j (by omega)).1)
  · refine lv_aload_n hx hb dM_addSizes_0 rfl (lv_at hl 0 rfl) ?_
    refine lv_sipush (v := 300) hx hb dM_addSizes_1 (by decide) ?_
    refine lq_iald (j := 300) hx hb hK hP 0 0 rfl rfl rfl (by decide) (by decide) dM_addSizes_4 ?_
    refine lv_topi (fun y9 e9 => ?_)
    cases (show y9 = nI K from e9.trans h300)
    refine lv_aload_n hx hb dM_addSizes_5 rfl (lv_at hl 1 rfl) ?_
    refine lv_sipush (v := 300) hx hb dM_addSizes_6 (by decide) ?_
    refine lq_iald (j := 300) hx hb hK hP 1 0 rfl rfl rfl (by decide) (by decide) dM_addSizes_9 ?_
    refine lv_topi (fun y9 e9 => ?_)
    cases (show y9 = nI K2 from e9.trans qh300)
    refine lv_icmp_le (tgt := 21) hx hb dM_addSizes_10 rfl (fun h8 => ?_) (fun h8 => ?_)
    · have gh8 : K ≤ K2 := (nI_leI (a := K) (b := K2) (by omega) (by omega)).mp h8
      refine lv_aload_n hx hb dM_addSizes_21 rfl (lv_at hl 1 rfl) ?_
      refine lv_sipush (v := 300) hx hb dM_addSizes_22 (by decide) ?_
      refine lq_iald (j := 300) hx hb hK hP 1 0 rfl rfl rfl (by decide) (by decide) dM_addSizes_25 ?_
      exact hct1 _ (by rw [qh300, hnn, Nat.max_eq_right (by omega)])
    · have gh8 : K2 < K := Nat.not_le.mp (fun q => h8 ((nI_leI (a := K) (b := K2) (by omega) (by omega)).mpr q))
      refine lv_aload_n hx hb dM_addSizes_13 rfl (lv_at hl 0 rfl) ?_
      refine lv_sipush (v := 300) hx hb dM_addSizes_14 (by decide) ?_
      refine lq_iald (j := 300) hx hb hK hP 0 0 rfl rfl rfl (by decide) (by decide) dM_addSizes_17 ?_
      refine lv_topi (fun y9 e9 => ?_)
      cases (show y9 = nI K from e9.trans h300)
      refine lv_goto (tgt := 26) hx hb dM_addSizes_18 rfl ?_
      exact hct1 _ (by rw [hnn, Nat.max_eq_left (by omega)])
set_option maxHeartbeats 4000000 in
set_option maxRecDepth 100000 in
theorem m_takeS (l : Launch) (D : va_G) (cT : Nat → ClassId) (a : Nat) (f : Nat → Int32) (z : Int) (c2 : Nat) (f2 : Nat → Int32) (z2 : Int) (wv : Int) (s9 : Int32) (hN : MN f z) (hN2 : MN f2 z2) (hw : wv.natAbs = (z.natAbs - z2.natAbs) + (z2.natAbs - z.natAbs)) (hws : z.natAbs < z2.natAbs → s9 = sg wv) (hws2 : z2.natAbs < z.natAbs → sg z = sg wv) (sz : Nat) : Met l yM_takeSizes WM_takeSizes ({ frames := 1, cells := 0, slots := 0, locals := 22 } : Room) (RW D vwCl [.ref a, .ref c2, .int s9] [(a, .inl (cT 0, 302, .inl f)), (c2, .inl (cT 0, 302, .inl f2))] (TY cT) sz) (va_Qv (fun u9 : (Nat → Int32) => MN u9 wv) (BW D vwCl (va_A [(a, .inl (cT 0, 302, .inl f)), (c2, .inl (cT 0, 302, .inl f2))] sz) (fun u9 : (Nat → Int32) => [(a, .inl (cT 0, 302, .inl u9)), (c2, .inl (cT 0, 302, .inl f2))])) (va_A [(a, .inl (cT 0, 302, .inl f)), (c2, .inl (cT 0, 302, .inl f2))] sz)) 0 0 (va_A [(a, .inl (cT 0, 302, .inl f)), (c2, .inl (cT 0, 302, .inl f2))] sz) := by
  refine Met.ofW (cc := cM_takeSizes) (maxL := 10) (ret := none) (by decide) rfl ?_
  intro p e s m args below meth c s₁ B hml hv
  obtain ⟨rfl, hsz, hZ, hP, hK, hD0⟩ := hv
  have hx := B.exec
  have hb := B.bytes
  have hr := B.returns
  have hts := atoms_spec (ws := WM_takeSizes) B.pre
  have hT : ∀ w ∈ TB, w.before _ s = true := fun w h => hts w (List.mem_cons_of_mem _ h)
  have hown : s.vm.findClass R_M = some m.cls := findClass_of_methodNamed B.named
  have hlocks := B.notSynchronized
  subst hsz
  have hD := hD0.self (sz := s.heap.size)
  generalize hAe : va_A [(a, .inl (cT 0, 302, .inl f)), (c2, .inl (cT 0, 302, .inl f2))] s.heap.size = A at hD hZ ⊢
  have hA : ∀ q : Nat, s.heap.size ≤ q → A q := fun q h => by rw [← hAe]; exact Or.inr h
  have hS : va_S A s.heap s.heap [] := va_S.rf
  have hl := lv_entry ([.ref a, .ref c2, .int s9]) (n := 10) (Nat.le_of_ble_eq_true rfl)
  rw [lg_entry_eq]
  generalize (lg_sl ([.ref a, .ref c2, .int s9]) ++ List.replicate (10 - (lg_sl ([.ref a, .ref c2, .int s9])).length) Slot.unset).toArray = ls at hl ⊢
  have hl : lv_has ls 10 [(0, .ref a), (1, .ref c2), (2, .int s9)] := hl
  have hN0 := hN
  have hN20 := hN2
  obtain ⟨K, h300, hk, hd, htop, hs, hva⟩ := hN
  obtain ⟨K2, qh300, qhk, qhd, qhtop, qhs, qhva⟩ := hN2
  obtain ⟨nn, hnn⟩ : ∃ q9 : Nat, q9 = max K K2 := ⟨_, rfl⟩
  have hnn1 : K ≤ nn ∧ K2 ≤ nn ∧ nn ≤ 300 := by omega
  refine lv_aload_n hx hb dM_takeSizes_0 rfl (lv_at hl 0 rfl) ?_
  refine lv_aload_n hx hb dM_takeSizes_1 rfl (lv_at hl 1 rfl) ?_
  refine ro_i (va_Run.run (va_runS (As := [.ref a, .ref c2]) (rest := []) ⟨hx, hb, hml, hown, hT⟩ (m_cmps l D cT a f z c2 f2 z2 hN0 hN20) ⟨callB_of 2 hT (tb_gd w1436) rfl rfl rfl (hT _ w13) (hT _ w1434) hM_compareSizes ⟨Nat.le_of_ble_eq_true rfl, Nat.le_of_ble_eq_true rfl⟩, (hT _ w1435)⟩ (RO.preS hZ hS (hP.sub (ws' := [(a, .inl (cT 0, 302, .inl f)), (c2, .inl (cT 0, 302, .inl f2))]) [0, 1] rfl) hK) rfl rfl hl.1 rfl (lv_room (Nat.le_of_ble_eq_true rfl)) dM_takeSizes_2 ⟨Nat.le_of_ble_eq_true rfl, Nat.le_of_ble_eq_true rfl⟩)) ?_
  refine lv_if_ge (tgt := 12) hx hb dM_takeSizes_5 rfl (fun h1 => ?_) (fun h1 => ?_)
  · have hls : z2.natAbs ≤ z.natAbs := cn_ge.mp h1
    refine lv_iconst (v := 0) hx hb dM_takeSizes_12 (by decide) ?_
    refine lv_istore_n hx hb dM_takeSizes_13 rfl hl (by decide) rfl (fun ls hl => ?_)
    have hl : lv_has ls 10 [(3, .int 0), (0, .ref a), (1, .ref c2), (2, .int s9)] := hl
    refine lp_cut (fun x9 : Int32 => x9 = nI nn) (fun x9 => [.int x9]) 40 ls (fun x9 e9 => ?_) (fun hct2 => ?_)
    · cases (show x9 = nI nn from e9)
      refine lv_istore hx hb dM_takeSizes_40 hl (by decide) rfl (fun ls hl => ?_)
      have hl : lv_has ls 10 [(4, .int (nI nn)), (3, .int 0), (0, .ref a), (1, .ref c2), (2, .int s9)] := hl
      refine lv_iconst (v := 0) hx hb dM_takeSizes_42 (by decide) ?_
      refine lv_istore hx hb dM_takeSizes_43 hl (by decide) rfl (fun ls hl => ?_)
      have hl : lv_has ls 10 [(5, .int 0), (4, .int (nI nn)), (3, .int 0), (0, .ref a), (1, .ref c2), (2, .int s9)] := hl
      refine lv_iconst (v := 0) hx hb dM_takeSizes_45 (by decide) ?_
      refine lv_istore hx hb dM_takeSizes_46 hl (by decide) rfl (fun ls hl => ?_)
      have hl : lv_has ls 10 [(6, .int 0), (5, .int 0), (4, .int (nI nn)), (3, .int 0), (0, .ref a), (1, .ref c2), (2, .int s9)] := hl
      refine lp_w (α := Nat × Nat × (Nat → Int32)) (fun a9 => a9.1 ≤ nn ∧ a9.2.1 ≤ 1 ∧ dok 268435456 a9.2.2 a9.1 ∧ (∀ q, a9.1 ≤ q → a9.2.2 q = f q) ∧ hv 268435456 (dg a9.2.2) 0 a9.1 + hv 268435456 (ct K2 (dg f2)) 0 a9.1 = hv 268435456 (ct K (dg f)) 0 a9.1 + 268435456 ^ a9.1 * a9.2.1) (fun a9 => nn - a9.1) (fun a9 => [(0, .ref a), (1, .ref c2), (2, .int s9), (3, .int 0), (4, .int (nI nn)), (5, .int (nI a9.2.1)), (6, .int (nI a9.1))]) (fun a9 => [(a, .inl (cT 0, 302, .inl a9.2.2)), (c2, .inl (cT 0, 302, .inl f2))]) 48 ?_ (0, 0, f) (show 0 ≤ nn ∧ 0 ≤ 1 ∧ dok 268435456 f 0 ∧ (∀ q, 0 ≤ q → f q = f q) ∧ hv 268435456 (dg f) 0 0 + hv 268435456 (ct K2 (dg f2)) 0 0 = hv 268435456 (ct K (dg f)) 0 0 + 268435456 ^ 0 * 0 from ⟨by omega, by omega, fun q h => absurd h (by omega), fun _ _ => rfl, by simp [hv]⟩) (lv_sub hl [4, 5, 6, 3, 2, 1, 0] rfl) hP hD hS
      intro a9 hI48 ih48 ls H locs hl hP hD hS
      obtain ⟨j, o, g⟩ := a9
      have hI48 : j ≤ nn ∧ o ≤ 1 ∧ dok 268435456 g j ∧ (∀ q, j ≤ q → g q = f q) ∧ hv 268435456 (dg g) 0 j + hv 268435456 (ct K2 (dg f2)) 0 j = hv 268435456 (ct K (dg f)) 0 j + 268435456 ^ j * o := hI48
      obtain ⟨ij, io, idk, ig, iv⟩ := hI48
      have hl : lv_has ls 10 [(0, .ref a), (1, .ref c2), (2, .int s9), (3, .int 0), (4, .int (nI nn)), (5, .int (nI o)), (6, .int (nI j))] := hl
      have hP : va_P D vwCl [(a, .inl (cT 0, 302, .inl g)), (c2, .inl (cT 0, 302, .inl f2))] _ := hP
      have hD : va_D A [(a, .inl (cT 0, 302, .inl g)), (c2, .inl (cT 0, 302, .inl f2))] := hD
      refine lv_iload hx hb dM_takeSizes_48 (lv_at hl 6 rfl) ?_
      refine lv_iload hx hb dM_takeSizes_50 (lv_at hl 4 rfl) ?_
      refine lv_icmp_ge (tgt := 144) hx hb dM_takeSizes_52 rfl (fun h3 => ?_) (fun h3 => ?_)
      · have gh3 : nn ≤ j := (nI_leI (a := nn) (b := j) (by omega) (by omega)).mp h3
        have ej : j = nn := by omega
        subst ej
        have hl : lv_has ls 10 [(0, .ref a), (1, .ref c2), (2, .int s9), (3, .int 0), (4, .int (nI j)), (5, .int (nI o)), (6, .int (nI j))] := hl
        have hP : va_P D vwCl [(a, .inl (cT 0, 302, .inl g)), (c2, .inl (cT 0, 302, .inl f2))] _ := hP
        have hD : va_D A [(a, .inl (cT 0, 302, .inl g)), (c2, .inl (cT 0, 302, .inl f2))] := hD
        rw [hv_ct (show K ≤ j by omega), hv_ct (show K2 ≤ j by omega)] at iv
        have iv : vM g j + vM f2 K2 = vM f K + 268435456 ^ j * o := iv
        have ho : o = 0 := by
          have hb9 := vM_b idk
          rcases (show o = 0 ∨ o = 1 by omega) with r | r
          · exact r
          · rw [r, Nat.mul_one] at iv; omega
        rw [ho, Nat.mul_zero, Nat.add_zero] at iv
        refine lv_aload_n hx hb dM_takeSizes_144 rfl (lv_at hl 0 rfl) ?_
        refine lv_sipush (v := 301) hx hb dM_takeSizes_145 (by decide) ?_
        refine lv_iload_n hx hb dM_takeSizes_148 rfl (lv_at hl 3 rfl) ?_
        refine lv_if_eq (tgt := 156) hx hb dM_takeSizes_149 rfl (fun _ => ?_) (fun h4 => absurd (by decide) h4)
        refine lv_aload_n hx hb dM_takeSizes_156 rfl (lv_at hl 0 rfl) ?_
        refine lv_sipush (v := 301) hx hb dM_takeSizes_157 (by decide) ?_
        refine lq_iald (j := 301) hx hb hK hP 0 0 rfl rfl rfl (by decide) (by decide) dM_takeSizes_160 ?_
        refine lv_topi (fun y9 e9 => ?_)
        cases (show y9 = f 301 from e9.trans (ig 301 (by omega)))
        refine lq_iast (j := 301) hx hb hK hP hD hS 0 0 rfl rfl rfl (by decide) (by decide) dM_takeSizes_161 (fun H locs hP hD hS => ?_)
        have hP : va_P D vwCl [(a, .inl (cT 0, 302, .inl (upd g 301 (f 301)))), (c2, .inl (cT 0, 302, .inl f2))] _ := hP
        have hD : va_D A [(a, .inl (cT 0, 302, .inl (upd g 301 (f 301)))), (c2, .inl (cT 0, 302, .inl f2))] := hD
        refine lv_aload_n hx hb dM_takeSizes_162 rfl (lv_at hl 0 rfl) ?_
        refine lv_iload hx hb dM_takeSizes_163 (lv_at hl 4 rfl) ?_
        refine rw_v (wc := [(a, .inl (cT 0, 302, .inl (upd g 301 (f 301))))]) (wr := [(c2, .inl (cT 0, 302, .inl f2))]) hP hD hS hA [0] [1] rfl rfl (by decide) (by decide) (va_runS (As := [.ref a, .int (nI j)]) (rest := []) ⟨hx, hb, hml, hown, hT⟩ (m_trim l D cT a (upd g 301 (f 301)) j (by omega) (dok_cg idk (fun q hq => pk_un (by omega))) _) ⟨callB_of 2 hT (tb_gd w1420) rfl rfl rfl (hT _ w13) (hT _ w1418) hM_trim ⟨Nat.le_of_ble_eq_true rfl, Nat.le_of_ble_eq_true rfl⟩, (hT _ w1419)⟩ (RW.preS hZ hS (va_free (wc := [(a, .inl (cT 0, 302, .inl (upd g 301 (f 301))))]) hD hS hA [0] rfl) (hP.sub (ws' := [(a, .inl (cT 0, 302, .inl (upd g 301 (f 301))))]) [0] rfl) hK (hD.sub (ws' := [(a, .inl (cT 0, 302, .inl (upd g 301 (f 301))))]) [0] (by decide) rfl)) rfl rfl hl.1 rfl (lv_room (Nat.le_of_ble_eq_true rfl)) dM_takeSizes_165 ⟨Nat.le_of_ble_eq_true rfl, Nat.le_of_ble_eq_true rfl⟩) (fun u9 H locs hpu5 hP hD hS => ?_)
        obtain ⟨ku5, f1u5⟩ := u9
        have hpu5 : ku5 ≤ j ∧ top0 (upd g 301 (f 301)) ku5 ∧ vM (upd g 301 (f 301)) ku5 = vM (upd g 301 (f 301)) j ∧ f1u5 300 = nI ku5 ∧ f1u5 301 = (if ku5 = 0 then 0 else (upd g 301 (f 301)) 301) ∧ ∀ q8, q8 < 300 → f1u5 q8 = (upd g 301 (f 301)) q8 := hpu5
        have hP : va_P D vwCl [(c2, .inl (cT 0, 302, .inl f2)), (a, .inl (cT 0, 302, .inl f1u5))] _ := hP
        have hD : va_D A [(c2, .inl (cT 0, 302, .inl f2)), (a, .inl (cT 0, 302, .inl f1u5))] := hD
        have hP9 := hP.sub (ws' := [(a, .inl (cT 0, 302, .inl f1u5)), (c2, .inl (cT 0, 302, .inl f2))]) [1, 0] rfl
        have hD9 := hD.sub (ws' := [(a, .inl (cT 0, 302, .inl f1u5)), (c2, .inl (cT 0, 302, .inl f2))]) [1, 0] (by decide) rfl
        refine W.widen (k := 0) (n := 0) (Nat.le_of_ble_eq_true rfl) (Nat.le_of_ble_eq_true rfl) ?_
        exact W.vret hx hb hr (fun t ht hW => ⟨⟨f1u5, rfl, (show MN f1u5 wv from mn_trim (by omega) (dok_cg idk (fun q hq => pk_un (by omega))) hpu5 (by rw [hw, show vM (upd g 301 (f 301)) j = vM g j from hv_cg (fun q hq => pk_un (by omega))]; omega) (fun q => pk_us.trans (hs.trans (hws2 (by omega))))), by rw [ht]; exact hP9, hD9⟩, hS.F ht⟩) hS.2.2 dM_takeSizes_168
      · have gh3 : j < nn := Nat.not_le.mp (fun q => h3 ((nI_leI (a := nn) (b := j) (by omega) (by omega)).mpr q))
        obtain ⟨x1, hx1⟩ : ∃ q9 : Nat, q9 = ct K (dg f) j := ⟨_, rfl⟩
        have hx1b : x1 < 268435456 := by
          rw [hx1]
          by_cases q : j < K
          · rw [ct_lt q]; exact (hd j q).2
          · rw [ct_ge (show K ≤ j by omega)]; decide
        obtain ⟨y1, hy1⟩ : ∃ q9 : Nat, q9 = ct K2 (dg f2) j := ⟨_, rfl⟩
        have hy1b : y1 < 268435456 := by
          rw [hy1]
          by_cases q : j < K2
          · rw [ct_lt q]; exact (qhd j q).2
          · rw [ct_ge (show K2 ≤ j by omega)]; decide
        refine lp_cut (fun x9 : Int32 => x9 = nI x1) (fun x9 => [.int x9]) 73 ls (fun x9 e9 => ?_) (fun hct6 => ?_)
        · cases (show x9 = nI x1 from e9)
          refine lv_istore hx hb dM_takeSizes_73 hl (by decide) rfl (fun ls hl => ?_)
          have hl : lv_has ls 10 [(7, .int (nI x1)), (0, .ref a), (1, .ref c2), (2, .int s9), (3, .int 0), (4, .int (nI nn)), (5, .int (nI o)), (6, .int (nI j))] := hl
          refine lp_cut (fun x9 : Int32 => x9 = nI y1) (fun x9 => [.int x9]) 93 ls (fun x9 e9 => ?_) (fun hct7 => ?_)
          · cases (show x9 = nI y1 from e9)
            refine lv_istore hx hb dM_takeSizes_93 hl (by decide) rfl (fun ls hl => ?_)
            have hl : lv_has ls 10 [(8, .int (nI y1)), (7, .int (nI x1)), (0, .ref a), (1, .ref c2), (2, .int s9), (3, .int 0), (4, .int (nI nn)), (5, .int (nI o)), (6, .int (nI j))] := hl
            refine lv_iload_n hx hb dM_takeSizes_95 rfl (lv_at hl 5 rfl) ?_
            refine lv_if_eq (tgt := 107) hx hb dM_takeSizes_96 rfl (fun _ => ?_) (fun h8 => absurd (by decide) h8)
            refine lv_iload hx hb dM_takeSizes_107 (lv_at hl 1 rfl) ?_
            refine lv_iload hx hb dM_takeSizes_109 (lv_at hl 0 rfl) ?_
            refine lv_isub hx hb dM_takeSizes_111 ?_
            refine lv_iload hx hb dM_takeSizes_112 (lv_at hl 7 rfl) ?_
            refine lv_isub hx hb dM_takeSizes_114 ?_
            obtain ⟨s1, hs1⟩ : ∃ q9 : Int32, q9 = nI x1 - nI y1 - nI o := ⟨_, rfl⟩
            refine lv_topi (fun y9 e9 => ?_)
            cases (show y9 = s1 from e9.trans hs1.symm)
            have hs1i : s1.toInt = (x1 : Int) - y1 - o := by rw [hs1]; exact sb_ti2 (by omega) (by omega) io
            refine lv_istore hx hb dM_takeSizes_115 hl (by decide) rfl (fun ls hl => ?_)
            have hl : lv_has ls 10 [(9, .int s1), (8, .int (nI y1)), (7, .int (nI x1)), (0, .ref a), (1, .ref c2), (2, .int s9), (3, .int 0), (4, .int (nI nn)), (5, .int (nI o)), (6, .int (nI j))] := hl
            refine lv_iload hx hb dM_takeSizes_117 (lv_at hl 0 rfl) ?_
            refine lv_if_ge (tgt := 126) hx hb dM_takeSizes_119 rfl (fun h9 => ?_) (fun h9 => ?_)
            · have hng : 0 ≤ (x1 : Int) - y1 - o := by have q := Int32.le_iff_toInt_le.mp h9; rw [hs1i] at q; exact q
              obtain ⟨e1, he1⟩ : ∃ q9 : Nat, q9 = x1 - y1 - o := ⟨_, rfl⟩
              have he1b : e1 < 268435456 := by omega
              refine lv_iconst (v := 0) hx hb dM_takeSizes_126 (by decide) ?_
              refine lv_istore hx hb dM_takeSizes_127 hl (by decide) rfl (fun ls hl => ?_)
              have hl : lv_has ls 10 [(5, .int 0), (9, .int s1), (8, .int (nI y1)), (7, .int (nI x1)), (0, .ref a), (1, .ref c2), (2, .int s9), (3, .int 0), (4, .int (nI nn)), (6, .int (nI j))] := hl
              refine lv_aload_n hx hb dM_takeSizes_129 rfl (lv_at hl 4 rfl) ?_
              refine lv_iload hx hb dM_takeSizes_130 (lv_at hl 9 rfl) ?_
              refine lv_iload hx hb dM_takeSizes_132 (lv_at hl 1 rfl) ?_
              refine lv_ldc (v := 268435455) hx hb hown (hT _ w1430) dM_takeSizes_134 ?_
              refine lv_iand hx hb dM_takeSizes_136 ?_
              refine lv_topi (fun y9 e9 => ?_)
              cases (show y9 = nI e1 from e9.trans (an_z hs1i hng (by omega) (by omega)))
              refine lq_iast (j := j) hx hb hK hP hD hS 0 0 rfl rfl rfl (by omega) (by omega) dM_takeSizes_137 (fun H locs hP hD hS => ?_)
              have hP : va_P D vwCl [(a, .inl (cT 0, 302, .inl (upd g j (nI e1)))), (c2, .inl (cT 0, 302, .inl f2))] _ := hP
              have hD : va_D A [(a, .inl (cT 0, 302, .inl (upd g j (nI e1)))), (c2, .inl (cT 0, 302, .inl f2))] := hD
              refine lv_iinc (k := 9) (v := nI (j + 1)) hx hb dM_takeSizes_138 hl rfl (nI_1 j) (by decide) rfl (fun ls hl => ?_)
              have hl : lv_has ls 10 [(6, .int (nI (j + 1))), (5, .int 0), (9, .int s1), (8, .int (nI y1)), (7, .int (nI x1)), (0, .ref a), (1, .ref c2), (2, .int s9), (3, .int 0), (4, .int (nI nn))] := hl
              refine lv_goto (tgt := 48) hx hb dM_takeSizes_141 rfl ?_
              exact ih48 (j + 1, 0, upd g j (nI e1)) (show (j + 1) ≤ nn ∧ 0 ≤ 1 ∧ dok 268435456 (upd g j (nI e1)) (j + 1) ∧ (∀ q, (j + 1) ≤ q → (upd g j (nI e1)) q = f q) ∧ hv 268435456 (dg (upd g j (nI e1))) 0 (j + 1) + hv 268435456 (ct K2 (dg f2)) 0 (j + 1) = hv 268435456 (ct K (dg f)) 0 (j + 1) + 268435456 ^ (j + 1) * 0 from ⟨by omega, by omega, dok_s idk he1b (by decide), fun q h => (pk_un (by omega)).trans (ig q (by omega)), by rw [hv_us (v := e1) (by omega), hv_snoc, hv_snoc, Nat.zero_add, Nat.pow_succ, ← hx1, ← hy1]; exact sub_s iv (by omega)⟩) (show nn - (j + 1) < nn - j from (by omega)) ls H locs (lv_sub hl [5, 6, 7, 8, 9, 1, 0] rfl) hP hD hS
            · have hng : (x1 : Int) - y1 - o < 0 := by have q := Int32.lt_iff_toInt_lt.mp (Int32.not_le.mp h9); rw [hs1i] at q; exact q
              obtain ⟨e1, he1⟩ : ∃ q9 : Nat, q9 = x1 + 268435456 - y1 - o := ⟨_, rfl⟩
              have he1b : e1 < 268435456 := by omega
              refine lv_iconst (v := 1) hx hb dM_takeSizes_122 (by decide) ?_
              refine lv_goto (tgt := 127) hx hb dM_takeSizes_123 rfl ?_
              refine lv_istore hx hb dM_takeSizes_127 hl (by decide) rfl (fun ls hl => ?_)
              have hl : lv_has ls 10 [(5, .int 1), (9, .int s1), (8, .int (nI y1)), (7, .int (nI x1)), (0, .ref a), (1, .ref c2), (2, .int s9), (3, .int 0), (4, .int (nI nn)), (6, .int (nI j))] := hl
              refine lv_aload_n hx hb dM_takeSizes_129 rfl (lv_at hl 4 rfl) ?_
              refine lv_iload hx hb dM_takeSizes_130 (lv_at hl 9 rfl) ?_
              refine lv_iload hx hb dM_takeSizes_132 (lv_at hl 1 rfl) ?_
              refine lv_ldc (v := 268435455) hx hb hown (hT _ w1430) dM_takeSizes_134 ?_
              refine lv_iand hx hb dM_takeSizes_136 ?_
              refine lv_topi (fun y9 e9 => ?_)
              cases (show y9 = nI e1 from e9.trans (an_m hs1i (by omega) hng (by omega)))
              refine lq_iast (j := j) hx hb hK hP hD hS 0 0 rfl rfl rfl (by omega) (by omega) dM_takeSizes_137 (fun H locs hP hD hS => ?_)
              have hP : va_P D vwCl [(a, .inl (cT 0, 302, .inl (upd g j (nI e1)))), (c2, .inl (cT 0, 302, .inl f2))] _ := hP
              have hD : va_D A [(a, .inl (cT 0, 302, .inl (upd g j (nI e1)))), (c2, .inl (cT 0, 302, .inl f2))] := hD
              refine lv_iinc (k := 9) (v := nI (j + 1)) hx hb dM_takeSizes_138 hl rfl (nI_1 j) (by decide) rfl (fun ls hl => ?_)
              have hl : lv_has ls 10 [(6, .int (nI (j + 1))), (5, .int 1), (9, .int s1), (8, .int (nI y1)), (7, .int (nI x1)), (0, .ref a), (1, .ref c2), (2, .int s9), (3, .int 0), (4, .int (nI nn))] := hl
              refine lv_goto (tgt := 48) hx hb dM_takeSizes_141 rfl ?_
              exact ih48 (j + 1, 1, upd g j (nI e1)) (show (j + 1) ≤ nn ∧ 1 ≤ 1 ∧ dok 268435456 (upd g j (nI e1)) (j + 1) ∧ (∀ q, (j + 1) ≤ q → (upd g j (nI e1)) q = f q) ∧ hv 268435456 (dg (upd g j (nI e1))) 0 (j + 1) + hv 268435456 (ct K2 (dg f2)) 0 (j + 1) = hv 268435456 (ct K (dg f)) 0 (j + 1) + 268435456 ^ (j + 1) * 1 from ⟨by omega, by omega, dok_s idk he1b (by decide), fun q h => (pk_un (by omega)).trans (ig q (by omega)), by rw [hv_us (v := e1) (by omega), hv_snoc, hv_snoc, Nat.zero_add, Nat.pow_succ, ← hx1, ← hy1]; exact sub_s iv (by omega)⟩) (show nn - (j + 1) < nn - j from (by omega)) ls H locs (lv_sub hl [5, 6, 7, 8, 9, 1, 0] rfl) hP hD hS
          · refine lv_iload hx hb dM_takeSizes_75 (lv_at hl 7 rfl) ?_
            refine lv_aload_n hx hb dM_takeSizes_77 rfl (lv_at hl 2 rfl) ?_
            refine lv_sipush (v := 300) hx hb dM_takeSizes_78 (by decide) ?_
            refine lq_iald (j := 300) hx hb hK hP 1 0 rfl rfl rfl (by decide) (by decide) dM_takeSizes_81 ?_
            refine lv_topi (fun y9 e9 => ?_)
            cases (show y9 = nI K2 from e9.trans qh300)
            refine lv_icmp_ge (tgt := 92) hx hb dM_takeSizes_82 rfl (fun h10 => ?_) (fun h10 => ?_)
            · have gh10 : K2 ≤ j := (nI_leI (a := K2) (b := j) (by omega) (by omega)).mp h10
              refine lv_iconst (v := 0) hx hb dM_takeSizes_92 (by decide) ?_
              exact hct7 _ (by rw [hy1, ct_ge (show K2 ≤ j by omega)]; rfl)
            · have gh10 : j < K2 := Nat.not_le.mp (fun q => h10 ((nI_leI (a := K2) (b := j) (by omega) (by omega)).mpr q))
              refine lv_aload_n hx hb dM_takeSizes_85 rfl (lv_at hl 2 rfl) ?_
              refine lv_iload hx hb dM_takeSizes_86 (lv_at hl 7 rfl) ?_
              refine lq_iald (j := j) hx hb hK hP 1 0 rfl rfl rfl (by omega) (by omega) dM_takeSizes_88 ?_
              refine lv_goto (tgt := 93) hx hb dM_takeSizes_89 rfl ?_
              exact hct7 _ (by rw [hy1, ct_lt (show j < K2 by omega)]; exact (qhd j (by omega)).1)
        · refine lv_iload hx hb dM_takeSizes_55 (lv_at hl 6 rfl) ?_
          refine lv_aload_n hx hb dM_takeSizes_57 rfl (lv_at hl 0 rfl) ?_
          refine lv_sipush (v := 300) hx hb dM_takeSizes_58 (by decide) ?_
          refine lq_iald (j := 300) hx hb hK hP 0 0 rfl rfl rfl (by decide) (by decide) dM_takeSizes_61 ?_
          refine lv_topi (fun y9 e9 => ?_)
          cases (show y9 = nI K from e9.trans ((ig 300 (by omega)).trans h300))
          refine lv_icmp_ge (tgt := 72) hx hb dM_takeSizes_62 rfl (fun h11 => ?_) (fun h11 => ?_)
          · have gh11 : K ≤ j := (nI_leI (a := K) (b := j) (by omega) (by omega)).mp h11
            refine lv_iconst (v := 0) hx hb dM_takeSizes_72 (by decide) ?_
            exact hct6 _ (by rw [hx1, ct_ge (show K ≤ j by omega)]; rfl)
          · have gh11 : j < K := Nat.not_le.mp (fun q => h11 ((nI_leI (a := K) (b := j) (by omega) (by omega)).mpr q))
            refine lv_aload_n hx hb dM_takeSizes_65 rfl (lv_at hl 0 rfl) ?_
            refine lv_iload hx hb dM_takeSizes_66 (lv_at hl 6 rfl) ?_
            refine lq_iald (j := j) hx hb hK hP 0 0 rfl rfl rfl (by omega) (by omega) dM_takeSizes_68 ?_
            refine lv_goto (tgt := 73) hx hb dM_takeSizes_69 rfl ?_
            exact hct6 _ (by rw [ig j (Nat.le_refl _), hx1, ct_lt (show j < K by omega)]; exact (hd j (by omega)).1)
    · refine lv_aload_n hx hb dM_takeSizes_14 rfl (lv_at hl 1 rfl) ?_
      refine lv_sipush (v := 300) hx hb dM_takeSizes_15 (by decide) ?_
      refine lq_iald (j := 300) hx hb hK hP 0 0 rfl rfl rfl (by decide) (by decide) dM_takeSizes_18 ?_
      refine lv_topi (fun y9 e9 => ?_)
      cases (show y9 = nI K from e9.trans h300)
      refine lv_aload_n hx hb dM_takeSizes_19 rfl (lv_at hl 2 rfl) ?_
      refine lv_sipush (v := 300) hx hb dM_takeSizes_20 (by decide) ?_
      refine lq_iald (j := 300) hx hb hK hP 1 0 rfl rfl rfl (by decide) (by decide) dM_takeSizes_23 ?_
      refine lv_topi (fun y9 e9 => ?_)
      cases (show y9 = nI K2 from e9.trans qh300)
      refine lv_icmp_le (tgt := 35) hx hb dM_takeSizes_24 rfl (fun h12 => ?_) (fun h12 => ?_)
      · have gh12 : K ≤ K2 := (nI_leI (a := K) (b := K2) (by omega) (by omega)).mp h12
        refine lv_aload_n hx hb dM_takeSizes_35 rfl (lv_at hl 2 rfl) ?_
        refine lv_sipush (v := 300) hx hb dM_takeSizes_36 (by decide) ?_
        refine lq_iald (j := 300) hx hb hK hP 1 0 rfl rfl rfl (by decide) (by decide) dM_takeSizes_39 ?_
        exact hct2 _ (by rw [qh300, hnn, Nat.max_eq_right (by omega)])
      · have gh12 : K2 < K := Nat.not_le.mp (fun q => h12 ((nI_leI (a := K) (b := K2) (by omega) (by omega)).mpr q))
        refine lv_aload_n hx hb dM_takeSizes_27 rfl (lv_at hl 1 rfl) ?_
        refine lv_sipush (v := 300) hx hb dM_takeSizes_28 (by decide) ?_
        refine lq_iald (j := 300) hx hb hK hP 0 0 rfl rfl rfl (by decide) (by decide) dM_takeSizes_31 ?_
        refine lv_topi (fun y9 e9 => ?_)
        cases (show y9 = nI K from e9.trans h300)
        refine lv_goto (tgt := 40) hx hb dM_takeSizes_32 rfl ?_
        exact hct2 _ (by rw [hnn, Nat.max_eq_left (by omega)])
  · have hls : z.natAbs < z2.natAbs := Nat.not_le.mp (fun q => h1 (cn_ge.mpr q))
    refine lv_iconst (v := 1) hx hb dM_takeSizes_8 (by decide) ?_
    refine lv_goto (tgt := 13) hx hb dM_takeSizes_9 rfl ?_
    refine lv_istore_n hx hb dM_takeSizes_13 rfl hl (by decide) rfl (fun ls hl => ?_)
    have hl : lv_has ls 10 [(3, .int 1), (0, .ref a), (1, .ref c2), (2, .int s9)] := hl
    refine lp_cut (fun x9 : Int32 => x9 = nI nn) (fun x9 => [.int x9]) 40 ls (fun x9 e9 => ?_) (fun hct13 => ?_)
    · cases (show x9 = nI nn from e9)
      refine lv_istore hx hb dM_takeSizes_40 hl (by decide) rfl (fun ls hl => ?_)
      have hl : lv_has ls 10 [(4, .int (nI nn)), (3, .int 1), (0, .ref a), (1, .ref c2), (2, .int s9)] := hl
      refine lv_iconst (v := 0) hx hb dM_takeSizes_42 (by decide) ?_
      refine lv_istore hx hb dM_takeSizes_43 hl (by decide) rfl (fun ls hl => ?_)
      have hl : lv_has ls 10 [(5, .int 0), (4, .int (nI nn)), (3, .int 1), (0, .ref a), (1, .ref c2), (2, .int s9)] := hl
      refine lv_iconst (v := 0) hx hb dM_takeSizes_45 (by decide) ?_
      refine lv_istore hx hb dM_takeSizes_46 hl (by decide) rfl (fun ls hl => ?_)
      have hl : lv_has ls 10 [(6, .int 0), (5, .int 0), (4, .int (nI nn)), (3, .int 1), (0, .ref a), (1, .ref c2), (2, .int s9)] := hl
      refine lp_w (α := Nat × Nat × (Nat → Int32)) (fun a9 => a9.1 ≤ nn ∧ a9.2.1 ≤ 1 ∧ dok 268435456 a9.2.2 a9.1 ∧ (∀ q, a9.1 ≤ q → a9.2.2 q = f q) ∧ hv 268435456 (dg a9.2.2) 0 a9.1 + hv 268435456 (ct K (dg f)) 0 a9.1 = hv 268435456 (ct K2 (dg f2)) 0 a9.1 + 268435456 ^ a9.1 * a9.2.1) (fun a9 => nn - a9.1) (fun a9 => [(0, .ref a), (1, .ref c2), (2, .int s9), (3, .int 1), (4, .int (nI nn)), (5, .int (nI a9.2.1)), (6, .int (nI a9.1))]) (fun a9 => [(a, .inl (cT 0, 302, .inl a9.2.2)), (c2, .inl (cT 0, 302, .inl f2))]) 48 ?_ (0, 0, f) (show 0 ≤ nn ∧ 0 ≤ 1 ∧ dok 268435456 f 0 ∧ (∀ q, 0 ≤ q → f q = f q) ∧ hv 268435456 (dg f) 0 0 + hv 268435456 (ct K (dg f)) 0 0 = hv 268435456 (ct K2 (dg f2)) 0 0 + 268435456 ^ 0 * 0 from ⟨by omega, by omega, fun q h => absurd h (by omega), fun _ _ => rfl, by simp [hv]⟩) (lv_sub hl [4, 5, 6, 3, 2, 1, 0] rfl) hP hD hS
      intro a9 hI48 ih48 ls H locs hl hP hD hS
      obtain ⟨j, o, g⟩ := a9
      have hI48 : j ≤ nn ∧ o ≤ 1 ∧ dok 268435456 g j ∧ (∀ q, j ≤ q → g q = f q) ∧ hv 268435456 (dg g) 0 j + hv 268435456 (ct K (dg f)) 0 j = hv 268435456 (ct K2 (dg f2)) 0 j + 268435456 ^ j * o := hI48
      obtain ⟨ij, io, idk, ig, iv⟩ := hI48
      have hl : lv_has ls 10 [(0, .ref a), (1, .ref c2), (2, .int s9), (3, .int 1), (4, .int (nI nn)), (5, .int (nI o)), (6, .int (nI j))] := hl
      have hP : va_P D vwCl [(a, .inl (cT 0, 302, .inl g)), (c2, .inl (cT 0, 302, .inl f2))] _ := hP
      have hD : va_D A [(a, .inl (cT 0, 302, .inl g)), (c2, .inl (cT 0, 302, .inl f2))] := hD
      refine lv_iload hx hb dM_takeSizes_48 (lv_at hl 6 rfl) ?_
      refine lv_iload hx hb dM_takeSizes_50 (lv_at hl 4 rfl) ?_
      refine lv_icmp_ge (tgt := 144) hx hb dM_takeSizes_52 rfl (fun h14 => ?_) (fun h14 => ?_)
      · have gh14 : nn ≤ j := (nI_leI (a := nn) (b := j) (by omega) (by omega)).mp h14
        have ej : j = nn := by omega
        subst ej
        have hl : lv_has ls 10 [(0, .ref a), (1, .ref c2), (2, .int s9), (3, .int 1), (4, .int (nI j)), (5, .int (nI o)), (6, .int (nI j))] := hl
        have hP : va_P D vwCl [(a, .inl (cT 0, 302, .inl g)), (c2, .inl (cT 0, 302, .inl f2))] _ := hP
        have hD : va_D A [(a, .inl (cT 0, 302, .inl g)), (c2, .inl (cT 0, 302, .inl f2))] := hD
        rw [hv_ct (show K ≤ j by omega), hv_ct (show K2 ≤ j by omega)] at iv
        have iv : vM g j + vM f K = vM f2 K2 + 268435456 ^ j * o := iv
        have ho : o = 0 := by
          have hb9 := vM_b idk
          rcases (show o = 0 ∨ o = 1 by omega) with r | r
          · exact r
          · rw [r, Nat.mul_one] at iv; omega
        rw [ho, Nat.mul_zero, Nat.add_zero] at iv
        refine lv_aload_n hx hb dM_takeSizes_144 rfl (lv_at hl 0 rfl) ?_
        refine lv_sipush (v := 301) hx hb dM_takeSizes_145 (by decide) ?_
        refine lv_iload_n hx hb dM_takeSizes_148 rfl (lv_at hl 3 rfl) ?_
        refine lv_if_eq (tgt := 156) hx hb dM_takeSizes_149 rfl (fun h15 => absurd h15 (by decide)) (fun _ => ?_)
        refine lv_iload_n hx hb dM_takeSizes_152 rfl (lv_at hl 2 rfl) ?_
        refine lv_goto (tgt := 161) hx hb dM_takeSizes_153 rfl ?_
        refine lq_iast (j := 301) hx hb hK hP hD hS 0 0 rfl rfl rfl (by decide) (by decide) dM_takeSizes_161 (fun H locs hP hD hS => ?_)
        have hP : va_P D vwCl [(a, .inl (cT 0, 302, .inl (upd g 301 s9))), (c2, .inl (cT 0, 302, .inl f2))] _ := hP
        have hD : va_D A [(a, .inl (cT 0, 302, .inl (upd g 301 s9))), (c2, .inl (cT 0, 302, .inl f2))] := hD
        refine lv_aload_n hx hb dM_takeSizes_162 rfl (lv_at hl 0 rfl) ?_
        refine lv_iload hx hb dM_takeSizes_163 (lv_at hl 4 rfl) ?_
        refine rw_v (wc := [(a, .inl (cT 0, 302, .inl (upd g 301 s9)))]) (wr := [(c2, .inl (cT 0, 302, .inl f2))]) hP hD hS hA [0] [1] rfl rfl (by decide) (by decide) (va_runS (As := [.ref a, .int (nI j)]) (rest := []) ⟨hx, hb, hml, hown, hT⟩ (m_trim l D cT a (upd g 301 s9) j (by omega) (dok_cg idk (fun q hq => pk_un (by omega))) _) ⟨callB_of 2 hT (tb_gd w1420) rfl rfl rfl (hT _ w13) (hT _ w1418) hM_trim ⟨Nat.le_of_ble_eq_true rfl, Nat.le_of_ble_eq_true rfl⟩, (hT _ w1419)⟩ (RW.preS hZ hS (va_free (wc := [(a, .inl (cT 0, 302, .inl (upd g 301 s9)))]) hD hS hA [0] rfl) (hP.sub (ws' := [(a, .inl (cT 0, 302, .inl (upd g 301 s9)))]) [0] rfl) hK (hD.sub (ws' := [(a, .inl (cT 0, 302, .inl (upd g 301 s9)))]) [0] (by decide) rfl)) rfl rfl hl.1 rfl (lv_room (Nat.le_of_ble_eq_true rfl)) dM_takeSizes_165 ⟨Nat.le_of_ble_eq_true rfl, Nat.le_of_ble_eq_true rfl⟩) (fun u9 H locs hpu16 hP hD hS => ?_)
        obtain ⟨ku16, f1u16⟩ := u9
        have hpu16 : ku16 ≤ j ∧ top0 (upd g 301 s9) ku16 ∧ vM (upd g 301 s9) ku16 = vM (upd g 301 s9) j ∧ f1u16 300 = nI ku16 ∧ f1u16 301 = (if ku16 = 0 then 0 else (upd g 301 s9) 301) ∧ ∀ q8, q8 < 300 → f1u16 q8 = (upd g 301 s9) q8 := hpu16
        have hP : va_P D vwCl [(c2, .inl (cT 0, 302, .inl f2)), (a, .inl (cT 0, 302, .inl f1u16))] _ := hP
        have hD : va_D A [(c2, .inl (cT 0, 302, .inl f2)), (a, .inl (cT 0, 302, .inl f1u16))] := hD
        have hP9 := hP.sub (ws' := [(a, .inl (cT 0, 302, .inl f1u16)), (c2, .inl (cT 0, 302, .inl f2))]) [1, 0] rfl
        have hD9 := hD.sub (ws' := [(a, .inl (cT 0, 302, .inl f1u16)), (c2, .inl (cT 0, 302, .inl f2))]) [1, 0] (by decide) rfl
        refine W.widen (k := 0) (n := 0) (Nat.le_of_ble_eq_true rfl) (Nat.le_of_ble_eq_true rfl) ?_
        exact W.vret hx hb hr (fun t ht hW => ⟨⟨f1u16, rfl, (show MN f1u16 wv from mn_trim (by omega) (dok_cg idk (fun q hq => pk_un (by omega))) hpu16 (by rw [hw, show vM (upd g 301 s9) j = vM g j from hv_cg (fun q hq => pk_un (by omega))]; omega) (fun q => pk_us.trans (hws (by omega)))), by rw [ht]; exact hP9, hD9⟩, hS.F ht⟩) hS.2.2 dM_takeSizes_168
      · have gh14 : j < nn := Nat.not_le.mp (fun q => h14 ((nI_leI (a := nn) (b := j) (by omega) (by omega)).mpr q))
        obtain ⟨x1, hx1⟩ : ∃ q9 : Nat, q9 = ct K (dg f) j := ⟨_, rfl⟩
        have hx1b : x1 < 268435456 := by
          rw [hx1]
          by_cases q : j < K
          · rw [ct_lt q]; exact (hd j q).2
          · rw [ct_ge (show K ≤ j by omega)]; decide
        obtain ⟨y1, hy1⟩ : ∃ q9 : Nat, q9 = ct K2 (dg f2) j := ⟨_, rfl⟩
        have hy1b : y1 < 268435456 := by
          rw [hy1]
          by_cases q : j < K2
          · rw [ct_lt q]; exact (qhd j q).2
          · rw [ct_ge (show K2 ≤ j by omega)]; decide
        refine lp_cut (fun x9 : Int32 => x9 = nI x1) (fun x9 => [.int x9]) 73 ls (fun x9 e9 => ?_) (fun hct17 => ?_)
        · cases (show x9 = nI x1 from e9)
          refine lv_istore hx hb dM_takeSizes_73 hl (by decide) rfl (fun ls hl => ?_)
          have hl : lv_has ls 10 [(7, .int (nI x1)), (0, .ref a), (1, .ref c2), (2, .int s9), (3, .int 1), (4, .int (nI nn)), (5, .int (nI o)), (6, .int (nI j))] := hl
          refine lp_cut (fun x9 : Int32 => x9 = nI y1) (fun x9 => [.int x9]) 93 ls (fun x9 e9 => ?_) (fun hct18 => ?_)
          · cases (show x9 = nI y1 from e9)
            refine lv_istore hx hb dM_takeSizes_93 hl (by decide) rfl (fun ls hl => ?_)
            have hl : lv_has ls 10 [(8, .int (nI y1)), (7, .int (nI x1)), (0, .ref a), (1, .ref c2), (2, .int s9), (3, .int 1), (4, .int (nI nn)), (5, .int (nI o)), (6, .int (nI j))] := hl
            refine lv_iload_n hx hb dM_takeSizes_95 rfl (lv_at hl 5 rfl) ?_
            refine lv_if_eq (tgt := 107) hx hb dM_takeSizes_96 rfl (fun h19 => absurd h19 (by decide)) (fun _ => ?_)
            refine lv_iload hx hb dM_takeSizes_99 (lv_at hl 0 rfl) ?_
            refine lv_iload hx hb dM_takeSizes_101 (lv_at hl 1 rfl) ?_
            refine lv_isub hx hb dM_takeSizes_103 ?_
            refine lv_goto (tgt := 112) hx hb dM_takeSizes_104 rfl ?_
            refine lv_iload hx hb dM_takeSizes_112 (lv_at hl 7 rfl) ?_
            refine lv_isub hx hb dM_takeSizes_114 ?_
            obtain ⟨s1, hs1⟩ : ∃ q9 : Int32, q9 = nI y1 - nI x1 - nI o := ⟨_, rfl⟩
            refine lv_topi (fun y9 e9 => ?_)
            cases (show y9 = s1 from e9.trans hs1.symm)
            have hs1i : s1.toInt = (y1 : Int) - x1 - o := by rw [hs1]; exact sb_ti2 (by omega) (by omega) io
            refine lv_istore hx hb dM_takeSizes_115 hl (by decide) rfl (fun ls hl => ?_)
            have hl : lv_has ls 10 [(9, .int s1), (8, .int (nI y1)), (7, .int (nI x1)), (0, .ref a), (1, .ref c2), (2, .int s9), (3, .int 1), (4, .int (nI nn)), (5, .int (nI o)), (6, .int (nI j))] := hl
            refine lv_iload hx hb dM_takeSizes_117 (lv_at hl 0 rfl) ?_
            refine lv_if_ge (tgt := 126) hx hb dM_takeSizes_119 rfl (fun h20 => ?_) (fun h20 => ?_)
            · have hng : 0 ≤ (y1 : Int) - x1 - o := by have q := Int32.le_iff_toInt_le.mp h20; rw [hs1i] at q; exact q
              obtain ⟨e1, he1⟩ : ∃ q9 : Nat, q9 = y1 - x1 - o := ⟨_, rfl⟩
              have he1b : e1 < 268435456 := by omega
              refine lv_iconst (v := 0) hx hb dM_takeSizes_126 (by decide) ?_
              refine lv_istore hx hb dM_takeSizes_127 hl (by decide) rfl (fun ls hl => ?_)
              have hl : lv_has ls 10 [(5, .int 0), (9, .int s1), (8, .int (nI y1)), (7, .int (nI x1)), (0, .ref a), (1, .ref c2), (2, .int s9), (3, .int 1), (4, .int (nI nn)), (6, .int (nI j))] := hl
              refine lv_aload_n hx hb dM_takeSizes_129 rfl (lv_at hl 4 rfl) ?_
              refine lv_iload hx hb dM_takeSizes_130 (lv_at hl 9 rfl) ?_
              refine lv_iload hx hb dM_takeSizes_132 (lv_at hl 1 rfl) ?_
              refine lv_ldc (v := 268435455) hx hb hown (hT _ w1430) dM_takeSizes_134 ?_
              refine lv_iand hx hb dM_takeSizes_136 ?_
              refine lv_topi (fun y9 e9 => ?_)
              cases (show y9 = nI e1 from e9.trans (an_z hs1i hng (by omega) (by omega)))
              refine lq_iast (j := j) hx hb hK hP hD hS 0 0 rfl rfl rfl (by omega) (by omega) dM_takeSizes_137 (fun H locs hP hD hS => ?_)
              have hP : va_P D vwCl [(a, .inl (cT 0, 302, .inl (upd g j (nI e1)))), (c2, .inl (cT 0, 302, .inl f2))] _ := hP
              have hD : va_D A [(a, .inl (cT 0, 302, .inl (upd g j (nI e1)))), (c2, .inl (cT 0, 302, .inl f2))] := hD
              refine lv_iinc (k := 9) (v := nI (j + 1)) hx hb dM_takeSizes_138 hl rfl (nI_1 j) (by decide) rfl (fun ls hl => ?_)
              have hl : lv_has ls 10 [(6, .int (nI (j + 1))), (5, .int 0), (9, .int s1), (8, .int (nI y1)), (7, .int (nI x1)), (0, .ref a), (1, .ref c2), (2, .int s9), (3, .int 1), (4, .int (nI nn))] := hl
              refine lv_goto (tgt := 48) hx hb dM_takeSizes_141 rfl ?_
              exact ih48 (j + 1, 0, upd g j (nI e1)) (show (j + 1) ≤ nn ∧ 0 ≤ 1 ∧ dok 268435456 (upd g j (nI e1)) (j + 1) ∧ (∀ q, (j + 1) ≤ q → (upd g j (nI e1)) q = f q) ∧ hv 268435456 (dg (upd g j (nI e1))) 0 (j + 1) + hv 268435456 (ct K (dg f)) 0 (j + 1) = hv 268435456 (ct K2 (dg f2)) 0 (j + 1) + 268435456 ^ (j + 1) * 0 from ⟨by omega, by omega, dok_s idk he1b (by decide), fun q h => (pk_un (by omega)).trans (ig q (by omega)), by rw [hv_us (v := e1) (by omega), hv_snoc, hv_snoc, Nat.zero_add, Nat.pow_succ, ← hx1, ← hy1]; exact sub_s iv (by omega)⟩) (show nn - (j + 1) < nn - j from (by omega)) ls H locs (lv_sub hl [5, 6, 7, 8, 9, 1, 0] rfl) hP hD hS
            · have hng : (y1 : Int) - x1 - o < 0 := by have q := Int32.lt_iff_toInt_lt.mp (Int32.not_le.mp h20); rw [hs1i] at q; exact q
              obtain ⟨e1, he1⟩ : ∃ q9 : Nat, q9 = y1 + 268435456 - x1 - o := ⟨_, rfl⟩
              have he1b : e1 < 268435456 := by omega
              refine lv_iconst (v := 1) hx hb dM_takeSizes_122 (by decide) ?_
              refine lv_goto (tgt := 127) hx hb dM_takeSizes_123 rfl ?_
              refine lv_istore hx hb dM_takeSizes_127 hl (by decide) rfl (fun ls hl => ?_)
              have hl : lv_has ls 10 [(5, .int 1), (9, .int s1), (8, .int (nI y1)), (7, .int (nI x1)), (0, .ref a), (1, .ref c2), (2, .int s9), (3, .int 1), (4, .int (nI nn)), (6, .int (nI j))] := hl
              refine lv_aload_n hx hb dM_takeSizes_129 rfl (lv_at hl 4 rfl) ?_
              refine lv_iload hx hb dM_takeSizes_130 (lv_at hl 9 rfl) ?_
              refine lv_iload hx hb dM_takeSizes_132 (lv_at hl 1 rfl) ?_
              refine lv_ldc (v := 268435455) hx hb hown (hT _ w1430) dM_takeSizes_134 ?_
              refine lv_iand hx hb dM_takeSizes_136 ?_
              refine lv_topi (fun y9 e9 => ?_)
              cases (show y9 = nI e1 from e9.trans (an_m hs1i (by omega) hng (by omega)))
              refine lq_iast (j := j) hx hb hK hP hD hS 0 0 rfl rfl rfl (by omega) (by omega) dM_takeSizes_137 (fun H locs hP hD hS => ?_)
              have hP : va_P D vwCl [(a, .inl (cT 0, 302, .inl (upd g j (nI e1)))), (c2, .inl (cT 0, 302, .inl f2))] _ := hP
              have hD : va_D A [(a, .inl (cT 0, 302, .inl (upd g j (nI e1)))), (c2, .inl (cT 0, 302, .inl f2))] := hD
              refine lv_iinc (k := 9) (v := nI (j + 1)) hx hb dM_takeSizes_138 hl rfl (nI_1 j) (by decide) rfl (fun ls hl => ?_)
              have hl : lv_has ls 10 [(6, .int (nI (j + 1))), (5, .int 1), (9, .int s1), (8, .int (nI y1)), (7, .int (nI x1)), (0, .ref a), (1, .ref c2), (2, .int s9), (3, .int 1), (4, .int (nI nn))] := hl
              refine lv_goto (tgt := 48) hx hb dM_takeSizes_141 rfl ?_
              exact ih48 (j + 1, 1, upd g j (nI e1)) (show (j + 1) ≤ nn ∧ 1 ≤ 1 ∧ dok 268435456 (upd g j (nI e1)) (j + 1) ∧ (∀ q, (j + 1) ≤ q → (upd g j (nI e1)) q = f q) ∧ hv 268435456 (dg (upd g j (nI e1))) 0 (j + 1) + hv 268435456 (ct K (dg f)) 0 (j + 1) = hv 268435456 (ct K2 (dg f2)) 0 (j + 1) + 268435456 ^ (j + 1) * 1 from ⟨by omega, by omega, dok_s idk he1b (by decide), fun q h => (pk_un (by omega)).trans (ig q (by omega)), by rw [hv_us (v := e1) (by omega), hv_snoc, hv_snoc, Nat.zero_add, Nat.pow_succ, ← hx1, ← hy1]; exact sub_s iv (by omega)⟩) (show nn - (j + 1) < nn - j from (by omega)) ls H locs (lv_sub hl [5, 6, 7, 8, 9, 1, 0] rfl) hP hD hS
          · refine lv_iload hx hb dM_takeSizes_75 (lv_at hl 7 rfl) ?_
            refine lv_aload_n hx hb dM_takeSizes_77 rfl (lv_at hl 2 rfl) ?_
            refine lv_sipush (v := 300) hx hb dM_takeSizes_78 (by decide) ?_
            refine lq_iald (j := 300) hx hb hK hP 1 0 rfl rfl rfl (by decide) (by decide) dM_takeSizes_81 ?_
            refine lv_topi (fun y9 e9 => ?_)
            cases (show y9 = nI K2 from e9.trans qh300)
            refine lv_icmp_ge (tgt := 92) hx hb dM_takeSizes_82 rfl (fun h21 => ?_) (fun h21 => ?_)
            · have gh21 : K2 ≤ j := (nI_leI (a := K2) (b := j) (by omega) (by omega)).mp h21
              refine lv_iconst (v := 0) hx hb dM_takeSizes_92 (by decide) ?_
              exact hct18 _ (by rw [hy1, ct_ge (show K2 ≤ j by omega)]; rfl)
            · have gh21 : j < K2 := Nat.not_le.mp (fun q => h21 ((nI_leI (a := K2) (b := j) (by omega) (by omega)).mpr q))
              refine lv_aload_n hx hb dM_takeSizes_85 rfl (lv_at hl 2 rfl) ?_
              refine lv_iload hx hb dM_takeSizes_86 (lv_at hl 7 rfl) ?_
              refine lq_iald (j := j) hx hb hK hP 1 0 rfl rfl rfl (by omega) (by omega) dM_takeSizes_88 ?_
              refine lv_goto (tgt := 93) hx hb dM_takeSizes_89 rfl ?_
              exact hct18 _ (by rw [hy1, ct_lt (show j < K2 by omega)]; exact (qhd j (by omega)).1)
        · refine lv_iload hx hb dM_takeSizes_55 (lv_at hl 6 rfl) ?_
          refine lv_aload_n hx hb dM_takeSizes_57 rfl (lv_at hl 0 rfl) ?_
          refine lv_sipush (v := 300) hx hb dM_takeSizes_58 (by decide) ?_
          refine lq_iald (j := 300) hx hb hK hP 0 0 rfl rfl rfl (by decide) (by decide) dM_takeSizes_61 ?_
          refine lv_topi (fun y9 e9 => ?_)
          cases (show y9 = nI K from e9.trans ((ig 300 (by omega)).trans h300))
          refine lv_icmp_ge (tgt := 72) hx hb dM_takeSizes_62 rfl (fun h22 => ?_) (fun h22 => ?_)
          · have gh22 : K ≤ j := (nI_leI (a := K) (b := j) (by omega) (by omega)).mp h22
            refine lv_iconst (v := 0) hx hb dM_takeSizes_72 (by decide) ?_
            exact hct17 _ (by rw [hx1, ct_ge (show K ≤ j by omega)]; rfl)
          · have gh22 : j < K := Nat.not_le.mp (fun q => h22 ((nI_leI (a := K) (b := j) (by omega) (by omega)).mpr q))
            refine lv_aload_n hx hb dM_takeSizes_65 rfl (lv_at hl 0 rfl) ?_
            refine lv_iload hx hb dM_takeSizes_66 (lv_at hl 6 rfl) ?_
            refine lq_iald (j := j) hx hb hK hP 0 0 rfl rfl rfl (by omega) (by omega) dM_takeSizes_68 ?_
            refine lv_goto (tgt := 73) hx hb dM_takeSizes_69 rfl ?_
            exact hct17 _ (by rw [ig j (Nat.le_refl _), hx1, ct_lt (show j < K by omega)]; exact (hd j (by omega)).1)
    · refine lv_aload_n hx hb dM_takeSizes_14 rfl (lv_at hl 1 rfl) ?_
      refine lv_sipush (v := 300) hx hb dM_takeSizes_15 (by decide) ?_
      refine lq_iald (j := 300) hx hb hK hP 0 0 rfl rfl rfl (by decide) (by decide) dM_takeSizes_18 ?_
      refine lv_topi (fun y9 e9 => ?_)
      cases (show y9 = nI K from e9.trans h300)
      refine lv_aload_n hx hb dM_takeSizes_19 rfl (lv_at hl 2 rfl) ?_
      refine lv_sipush (v := 300) hx hb dM_takeSizes_20 (by decide) ?_
      refine lq_iald (j := 300) hx hb hK hP 1 0 rfl rfl rfl (by decide) (by decide) dM_takeSizes_23 ?_
      refine lv_topi (fun y9 e9 => ?_)
      cases (show y9 = nI K2 from e9.trans qh300)
      refine lv_icmp_le (tgt := 35) hx hb dM_takeSizes_24 rfl (fun h23 => ?_) (fun h23 => ?_)
      · have gh23 : K ≤ K2 := (nI_leI (a := K) (b := K2) (by omega) (by omega)).mp h23
        refine lv_aload_n hx hb dM_takeSizes_35 rfl (lv_at hl 2 rfl) ?_
        refine lv_sipush (v := 300) hx hb dM_takeSizes_36 (by decide) ?_
        refine lq_iald (j := 300) hx hb hK hP 1 0 rfl rfl rfl (by decide) (by decide) dM_takeSizes_39 ?_
        exact hct13 _ (by rw [qh300, hnn, Nat.max_eq_right (by omega)])
      · have gh23 : K2 < K := Nat.not_le.mp (fun q => h23 ((nI_leI (a := K) (b := K2) (by omega) (by omega)).mpr q))
        refine lv_aload_n hx hb dM_takeSizes_27 rfl (lv_at hl 1 rfl) ?_
        refine lv_sipush (v := 300) hx hb dM_takeSizes_28 (by decide) ?_
        refine lq_iald (j := 300) hx hb hK hP 0 0 rfl rfl rfl (by decide) (by decide) dM_takeSizes_31 ?_
        refine lv_topi (fun y9 e9 => ?_)
        cases (show y9 = nI K from e9.trans h300)
        refine lv_goto (tgt := 40) hx hb dM_takeSizes_32 rfl ?_
        exact hct13 _ (by rw [hnn, Nat.max_eq_left (by omega)])
set_option maxHeartbeats 4000000 in
set_option maxRecDepth 100000 in
theorem m_add0 (l : Launch) (D : va_G) (cT : Nat → ClassId) (a : Nat) (f : Nat → Int32) (z : Int) (c2 : Nat) (f2 : Nat → Int32) (z2 : Int) (hN : MN f z) (hN2 : MN f2 z2) (hfit : z.natAbs + z2.natAbs < 268435456 ^ 250) (sz : Nat) : Met l yM_add WM_add ({ frames := 2, cells := 0, slots := 0, locals := 51 } : Room) (RW D vwCl [.ref a, .ref c2, .int 1] [(a, .inl (cT 0, 302, .inl f)), (c2, .inl (cT 0, 302, .inl f2))] (TY cT) sz) (va_Qv (fun u9 : (Nat → Int32) => MN u9 (z + z2)) (BW D vwCl (va_A [(a, .inl (cT 0, 302, .inl f)), (c2, .inl (cT 0, 302, .inl f2))] sz) (fun u9 : (Nat → Int32) => [(a, .inl (cT 0, 302, .inl u9)), (c2, .inl (cT 0, 302, .inl f2))])) (va_A [(a, .inl (cT 0, 302, .inl f)), (c2, .inl (cT 0, 302, .inl f2))] sz)) 0 0 (va_A [(a, .inl (cT 0, 302, .inl f)), (c2, .inl (cT 0, 302, .inl f2))] sz) := by
  refine Met.ofW (cc := cM_add) (maxL := 4) (ret := none) (by decide) rfl ?_
  intro p e s m args below meth c s₁ B hml hv
  obtain ⟨rfl, hsz, hZ, hP, hK, hD0⟩ := hv
  have hx := B.exec
  have hb := B.bytes
  have hr := B.returns
  have hts := atoms_spec (ws := WM_add) B.pre
  have hT : ∀ w ∈ TB, w.before _ s = true := fun w h => hts w (List.mem_cons_of_mem _ h)
  have hown : s.vm.findClass R_M = some m.cls := findClass_of_methodNamed B.named
  have hlocks := B.notSynchronized
  subst hsz
  have hD := hD0.self (sz := s.heap.size)
  generalize hAe : va_A [(a, .inl (cT 0, 302, .inl f)), (c2, .inl (cT 0, 302, .inl f2))] s.heap.size = A at hD hZ ⊢
  have hA : ∀ q : Nat, s.heap.size ≤ q → A q := fun q h => by rw [← hAe]; exact Or.inr h
  have hS : va_S A s.heap s.heap [] := va_S.rf
  have hl := lv_entry ([.ref a, .ref c2, .int 1]) (n := 4) (Nat.le_of_ble_eq_true rfl)
  rw [lg_entry_eq]
  generalize (lg_sl ([.ref a, .ref c2, .int 1]) ++ List.replicate (4 - (lg_sl ([.ref a, .ref c2, .int 1])).length) Slot.unset).toArray = ls at hl ⊢
  have hl : lv_has ls 4 [(0, .ref a), (1, .ref c2), (2, .int 1)] := hl
  have hN0 := hN
  have hN20 := hN2
  obtain ⟨K, h300, hk, hd, htop, hs, hva⟩ := hN
  obtain ⟨K2, qh300, qhk, qhd, qhtop, qhs, qhva⟩ := hN2
  refine lv_iload_n hx hb dM_add_0 rfl (lv_at hl 2 rfl) ?_
  refine lv_aload_n hx hb dM_add_1 rfl (lv_at hl 1 rfl) ?_
  refine lv_sipush (v := 301) hx hb dM_add_2 (by decide) ?_
  refine lq_iald (j := 301) hx hb hK hP 1 0 rfl rfl rfl (by decide) (by decide) dM_add_5 ?_
  refine lv_topi (fun y9 e9 => ?_)
  cases (show y9 = sg z2 from e9.trans qhs)
  refine lv_imul hx hb dM_add_6 ?_
  refine lv_topi (fun y9 e9 => ?_)
  cases (show y9 = sg z2 from e9.trans sg_one)
  refine lv_istore_n hx hb dM_add_7 rfl hl (by decide) rfl (fun ls hl => ?_)
  have hl : lv_has ls 4 [(3, .int (sg z2)), (0, .ref a), (1, .ref c2), (2, .int 1)] := hl
  refine lv_iload_n hx hb dM_add_8 rfl (lv_at hl 0 rfl) ?_
  refine lv_if_ne (tgt := 13) hx hb dM_add_9 rfl (fun h1 => ?_) (fun h1 => ?_)
  · refine lv_aload_n hx hb dM_add_13 rfl (lv_at hl 1 rfl) ?_
    refine lv_sipush (v := 301) hx hb dM_add_14 (by decide) ?_
    refine lq_iald (j := 301) hx hb hK hP 0 0 rfl rfl rfl (by decide) (by decide) dM_add_17 ?_
    refine lv_topi (fun y9 e9 => ?_)
    cases (show y9 = sg z from e9.trans hs)
    refine lv_if_ne (tgt := 35) hx hb dM_add_18 rfl (fun h2 => ?_) (fun h2 => ?_)
    · refine lv_aload_n hx hb dM_add_35 rfl (lv_at hl 1 rfl) ?_
      refine lv_sipush (v := 301) hx hb dM_add_36 (by decide) ?_
      refine lq_iald (j := 301) hx hb hK hP 0 0 rfl rfl rfl (by decide) (by decide) dM_add_39 ?_
      refine lv_topi (fun y9 e9 => ?_)
      cases (show y9 = sg z from e9.trans hs)
      refine lv_iload_n hx hb dM_add_40 rfl (lv_at hl 0 rfl) ?_
      refine lv_icmp_ne (tgt := 52) hx hb dM_add_41 rfl (fun h3 => ?_) (fun h3 => ?_)
      · refine lv_aload_n hx hb dM_add_52 rfl (lv_at hl 1 rfl) ?_
        refine lv_aload_n hx hb dM_add_53 rfl (lv_at hl 2 rfl) ?_
        refine lv_iload_n hx hb dM_add_54 rfl (lv_at hl 0 rfl) ?_
        refine rw_v (wc := [(a, .inl (cT 0, 302, .inl f)), (c2, .inl (cT 0, 302, .inl f2))]) (wr := []) hP hD hS hA [0, 1] [] rfl rfl (by decide) (by decide) (va_runS (As := [.ref a, .ref c2, .int (sg z2)]) (rest := []) ⟨hx, hb, hml, hown, hT⟩ (m_takeS l D cT a f z c2 f2 z2 (z + z2) (sg z2) hN0 hN20 (by have q := (sg_diff h2 h1 h3).1; omega) (fun r => by have q := (sg_diff h2 h1 h3).2.1 (by omega); rw [q]) (fun r => by have q := (sg_diff h2 h1 h3).2.2 (by omega); rw [q]) _) ⟨callB_of 3 hT (tb_gd w1433) rfl rfl rfl (hT _ w13) (hT _ w1431) hM_takeSizes ⟨Nat.le_of_ble_eq_true rfl, Nat.le_of_ble_eq_true rfl⟩, (hT _ w1432)⟩ (RW.preS hZ hS (va_free (wc := [(a, .inl (cT 0, 302, .inl f)), (c2, .inl (cT 0, 302, .inl f2))]) hD hS hA [0, 1] rfl) (hP.sub (ws' := [(a, .inl (cT 0, 302, .inl f)), (c2, .inl (cT 0, 302, .inl f2))]) [0, 1] rfl) hK (hD.sub (ws' := [(a, .inl (cT 0, 302, .inl f)), (c2, .inl (cT 0, 302, .inl f2))]) [0, 1] (by decide) rfl)) rfl rfl hl.1 rfl (lv_room (Nat.le_of_ble_eq_true rfl)) dM_add_55 ⟨Nat.le_of_ble_eq_true rfl, Nat.le_of_ble_eq_true rfl⟩) (fun u9 H locs hpu4 hP hD hS => ?_)
        obtain ⟨f1u4, rfl⟩ : ∃ q9, q9 = u9 := ⟨_, rfl⟩
        have hpu4 : MN f1u4 (z + z2) := hpu4
        have hP : va_P D vwCl [(a, .inl (cT 0, 302, .inl f1u4)), (c2, .inl (cT 0, 302, .inl f2))] _ := hP
        have hD : va_D A [(a, .inl (cT 0, 302, .inl f1u4)), (c2, .inl (cT 0, 302, .inl f2))] := hD
        have hP9 := hP.sub (ws' := [(a, .inl (cT 0, 302, .inl f1u4)), (c2, .inl (cT 0, 302, .inl f2))]) [0, 1] rfl
        have hD9 := hD.sub (ws' := [(a, .inl (cT 0, 302, .inl f1u4)), (c2, .inl (cT 0, 302, .inl f2))]) [0, 1] (by decide) rfl
        refine W.widen (k := 0) (n := 0) (Nat.le_of_ble_eq_true rfl) (Nat.le_of_ble_eq_true rfl) ?_
        exact W.vret hx hb hr (fun t ht hW => ⟨⟨f1u4, rfl, (show MN f1u4 (z + z2) from hpu4), by rw [ht]; exact hP9, hD9⟩, hS.F ht⟩) hS.2.2 dM_add_58
      · refine lv_aload_n hx hb dM_add_44 rfl (lv_at hl 1 rfl) ?_
        refine lv_aload_n hx hb dM_add_45 rfl (lv_at hl 2 rfl) ?_
        refine rw_v (wc := [(a, .inl (cT 0, 302, .inl f)), (c2, .inl (cT 0, 302, .inl f2))]) (wr := []) hP hD hS hA [0, 1] [] rfl rfl (by decide) (by decide) (va_runS (As := [.ref a, .ref c2]) (rest := []) ⟨hx, hb, hml, hown, hT⟩ (m_addS l D cT a f z c2 f2 z2 (z + z2) hN0 hN20 (by have q := (sg_same h1 h3).1; omega) (by have q := (sg_same h1 h3).2; rw [q]) hfit _) ⟨callB_of 2 hT (tb_gd w1429) rfl rfl rfl (hT _ w13) (hT _ w1427) hM_addSizes ⟨Nat.le_of_ble_eq_true rfl, Nat.le_of_ble_eq_true rfl⟩, (hT _ w1428)⟩ (RW.preS hZ hS (va_free (wc := [(a, .inl (cT 0, 302, .inl f)), (c2, .inl (cT 0, 302, .inl f2))]) hD hS hA [0, 1] rfl) (hP.sub (ws' := [(a, .inl (cT 0, 302, .inl f)), (c2, .inl (cT 0, 302, .inl f2))]) [0, 1] rfl) hK (hD.sub (ws' := [(a, .inl (cT 0, 302, .inl f)), (c2, .inl (cT 0, 302, .inl f2))]) [0, 1] (by decide) rfl)) rfl rfl hl.1 rfl (lv_room (Nat.le_of_ble_eq_true rfl)) dM_add_46 ⟨Nat.le_of_ble_eq_true rfl, Nat.le_of_ble_eq_true rfl⟩) (fun u9 H locs hpu5 hP hD hS => ?_)
        obtain ⟨f1u5, rfl⟩ : ∃ q9, q9 = u9 := ⟨_, rfl⟩
        have hpu5 : MN f1u5 (z + z2) := hpu5
        have hP : va_P D vwCl [(a, .inl (cT 0, 302, .inl f1u5)), (c2, .inl (cT 0, 302, .inl f2))] _ := hP
        have hD : va_D A [(a, .inl (cT 0, 302, .inl f1u5)), (c2, .inl (cT 0, 302, .inl f2))] := hD
        refine lv_goto (tgt := 58) hx hb dM_add_49 rfl ?_
        have hP9 := hP.sub (ws' := [(a, .inl (cT 0, 302, .inl f1u5)), (c2, .inl (cT 0, 302, .inl f2))]) [0, 1] rfl
        have hD9 := hD.sub (ws' := [(a, .inl (cT 0, 302, .inl f1u5)), (c2, .inl (cT 0, 302, .inl f2))]) [0, 1] (by decide) rfl
        refine W.widen (k := 0) (n := 0) (Nat.le_of_ble_eq_true rfl) (Nat.le_of_ble_eq_true rfl) ?_
        exact W.vret hx hb hr (fun t ht hW => ⟨⟨f1u5, rfl, (show MN f1u5 (z + z2) from hpu5), by rw [ht]; exact hP9, hD9⟩, hS.F ht⟩) hS.2.2 dM_add_58
    · refine lv_aload_n hx hb dM_add_21 rfl (lv_at hl 2 rfl) ?_
      refine lv_aload_n hx hb dM_add_22 rfl (lv_at hl 1 rfl) ?_
      refine rw_v (wc := [(c2, .inl (cT 0, 302, .inl f2)), (a, .inl (cT 0, 302, .inl f))]) (wr := []) hP hD hS hA [1, 0] [] rfl rfl (by decide) (by decide) (va_runS (As := [.ref c2, .ref a]) (rest := []) ⟨hx, hb, hml, hown, hT⟩ (m_copy l D cT c2 f2 z2 a f hN20 _) ⟨callB_of 2 hT (tb_gd w1426) rfl rfl rfl (hT _ w13) (hT _ w1424) hM_copy ⟨Nat.le_of_ble_eq_true rfl, Nat.le_of_ble_eq_true rfl⟩, (hT _ w1425)⟩ (RW.preS hZ hS (va_free (wc := [(c2, .inl (cT 0, 302, .inl f2)), (a, .inl (cT 0, 302, .inl f))]) hD hS hA [1, 0] rfl) (hP.sub (ws' := [(c2, .inl (cT 0, 302, .inl f2)), (a, .inl (cT 0, 302, .inl f))]) [1, 0] rfl) hK (hD.sub (ws' := [(c2, .inl (cT 0, 302, .inl f2)), (a, .inl (cT 0, 302, .inl f))]) [1, 0] (by decide) rfl)) rfl rfl hl.1 rfl (lv_room (Nat.le_of_ble_eq_true rfl)) dM_add_23 ⟨Nat.le_of_ble_eq_true rfl, Nat.le_of_ble_eq_true rfl⟩) (fun u9 H locs hpu6 hP hD hS => ?_)
      obtain ⟨f1u6, rfl⟩ : ∃ q9, q9 = u9 := ⟨_, rfl⟩
      have hpu6 : MN f1u6 z2 := hpu6
      have hP : va_P D vwCl [(c2, .inl (cT 0, 302, .inl f2)), (a, .inl (cT 0, 302, .inl f1u6))] _ := hP
      have hD : va_D A [(c2, .inl (cT 0, 302, .inl f2)), (a, .inl (cT 0, 302, .inl f1u6))] := hD
      refine lv_aload_n hx hb dM_add_26 rfl (lv_at hl 1 rfl) ?_
      refine lv_sipush (v := 301) hx hb dM_add_27 (by decide) ?_
      refine lv_iload_n hx hb dM_add_30 rfl (lv_at hl 0 rfl) ?_
      refine lq_iast (j := 301) hx hb hK hP hD hS 1 0 rfl rfl rfl (by decide) (by decide) dM_add_31 (fun H locs hP hD hS => ?_)
      have hP : va_P D vwCl [(c2, .inl (cT 0, 302, .inl f2)), (a, .inl (cT 0, 302, .inl (upd f1u6 301 (sg z2))))] _ := hP
      have hD : va_D A [(c2, .inl (cT 0, 302, .inl f2)), (a, .inl (cT 0, 302, .inl (upd f1u6 301 (sg z2))))] := hD
      refine lv_goto (tgt := 58) hx hb dM_add_32 rfl ?_
      have hP9 := hP.sub (ws' := [(a, .inl (cT 0, 302, .inl (upd f1u6 301 (sg z2)))), (c2, .inl (cT 0, 302, .inl f2))]) [1, 0] rfl
      have hD9 := hD.sub (ws' := [(a, .inl (cT 0, 302, .inl (upd f1u6 301 (sg z2)))), (c2, .inl (cT 0, 302, .inl f2))]) [1, 0] (by decide) rfl
      refine W.widen (k := 0) (n := 0) (Nat.le_of_ble_eq_true rfl) (Nat.le_of_ble_eq_true rfl) ?_
      exact W.vret hx hb hr (fun t ht hW => ⟨⟨(upd f1u6 301 (sg z2)), rfl, (show MN (upd f1u6 301 (sg z2)) (z + z2) from by obtain ⟨K3, g1, g2, g3, g4, g5, g6⟩ := hpu6; have ez := sg_z h2; exact mn_mk g2 g3 g4 (by rw [← g6]; omega) (fun q hq => pk_un (by omega)) ((pk_un (by decide)).trans g1) (pk_us.trans (congrArg sg (show z2 = z + z2 by omega)))), by rw [ht]; exact hP9, hD9⟩, hS.F ht⟩) hS.2.2 dM_add_58
  · have hP9 := hP.sub (ws' := [(a, .inl (cT 0, 302, .inl f)), (c2, .inl (cT 0, 302, .inl f2))]) [0, 1] rfl
    have hD9 := hD.sub (ws' := [(a, .inl (cT 0, 302, .inl f)), (c2, .inl (cT 0, 302, .inl f2))]) [0, 1] (by decide) rfl
    refine W.widen (k := 0) (n := 0) (Nat.le_of_ble_eq_true rfl) (Nat.le_of_ble_eq_true rfl) ?_
    exact W.vret hx hb hr (fun t ht hW => ⟨⟨f, rfl, (show MN f (z + z2) from by rw [show z + z2 = z by have := sg_z h1; omega]; exact hN0), by rw [ht]; exact hP9, hD9⟩, hS.F ht⟩) hS.2.2 dM_add_12
set_option maxHeartbeats 4000000 in
set_option maxRecDepth 100000 in
theorem m_add1 (l : Launch) (D : va_G) (cT : Nat → ClassId) (a : Nat) (f : Nat → Int32) (z : Int) (c2 : Nat) (f2 : Nat → Int32) (z2 : Int) (hN : MN f z) (hN2 : MN f2 z2) (hfit : z.natAbs + z2.natAbs < 268435456 ^ 250) (sz : Nat) : Met l yM_add WM_add ({ frames := 2, cells := 0, slots := 0, locals := 51 } : Room) (RW D vwCl [.ref a, .ref c2, .int (-1)] [(a, .inl (cT 0, 302, .inl f)), (c2, .inl (cT 0, 302, .inl f2))] (TY cT) sz) (va_Qv (fun u9 : (Nat → Int32) => MN u9 (z - z2)) (BW D vwCl (va_A [(a, .inl (cT 0, 302, .inl f)), (c2, .inl (cT 0, 302, .inl f2))] sz) (fun u9 : (Nat → Int32) => [(a, .inl (cT 0, 302, .inl u9)), (c2, .inl (cT 0, 302, .inl f2))])) (va_A [(a, .inl (cT 0, 302, .inl f)), (c2, .inl (cT 0, 302, .inl f2))] sz)) 0 0 (va_A [(a, .inl (cT 0, 302, .inl f)), (c2, .inl (cT 0, 302, .inl f2))] sz) := by
  refine Met.ofW (cc := cM_add) (maxL := 4) (ret := none) (by decide) rfl ?_
  intro p e s m args below meth c s₁ B hml hv
  obtain ⟨rfl, hsz, hZ, hP, hK, hD0⟩ := hv
  have hx := B.exec
  have hb := B.bytes
  have hr := B.returns
  have hts := atoms_spec (ws := WM_add) B.pre
  have hT : ∀ w ∈ TB, w.before _ s = true := fun w h => hts w (List.mem_cons_of_mem _ h)
  have hown : s.vm.findClass R_M = some m.cls := findClass_of_methodNamed B.named
  have hlocks := B.notSynchronized
  subst hsz
  have hD := hD0.self (sz := s.heap.size)
  generalize hAe : va_A [(a, .inl (cT 0, 302, .inl f)), (c2, .inl (cT 0, 302, .inl f2))] s.heap.size = A at hD hZ ⊢
  have hA : ∀ q : Nat, s.heap.size ≤ q → A q := fun q h => by rw [← hAe]; exact Or.inr h
  have hS : va_S A s.heap s.heap [] := va_S.rf
  have hl := lv_entry ([.ref a, .ref c2, .int (-1)]) (n := 4) (Nat.le_of_ble_eq_true rfl)
  rw [lg_entry_eq]
  generalize (lg_sl ([.ref a, .ref c2, .int (-1)]) ++ List.replicate (4 - (lg_sl ([.ref a, .ref c2, .int (-1)])).length) Slot.unset).toArray = ls at hl ⊢
  have hl : lv_has ls 4 [(0, .ref a), (1, .ref c2), (2, .int (-1))] := hl
  have hN0 := hN
  have hN20 := hN2
  obtain ⟨K, h300, hk, hd, htop, hs, hva⟩ := hN
  obtain ⟨K2, qh300, qhk, qhd, qhtop, qhs, qhva⟩ := hN2
  refine lv_iload_n hx hb dM_add_0 rfl (lv_at hl 2 rfl) ?_
  refine lv_aload_n hx hb dM_add_1 rfl (lv_at hl 1 rfl) ?_
  refine lv_sipush (v := 301) hx hb dM_add_2 (by decide) ?_
  refine lq_iald (j := 301) hx hb hK hP 1 0 rfl rfl rfl (by decide) (by decide) dM_add_5 ?_
  refine lv_topi (fun y9 e9 => ?_)
  cases (show y9 = sg z2 from e9.trans qhs)
  refine lv_imul hx hb dM_add_6 ?_
  refine lv_topi (fun y9 e9 => ?_)
  cases (show y9 = sg (-z2) from e9.trans sg_neg)
  refine lv_istore_n hx hb dM_add_7 rfl hl (by decide) rfl (fun ls hl => ?_)
  have hl : lv_has ls 4 [(3, .int (sg (-z2))), (0, .ref a), (1, .ref c2), (2, .int (-1))] := hl
  refine lv_iload_n hx hb dM_add_8 rfl (lv_at hl 0 rfl) ?_
  refine lv_if_ne (tgt := 13) hx hb dM_add_9 rfl (fun h1 => ?_) (fun h1 => ?_)
  · refine lv_aload_n hx hb dM_add_13 rfl (lv_at hl 1 rfl) ?_
    refine lv_sipush (v := 301) hx hb dM_add_14 (by decide) ?_
    refine lq_iald (j := 301) hx hb hK hP 0 0 rfl rfl rfl (by decide) (by decide) dM_add_17 ?_
    refine lv_topi (fun y9 e9 => ?_)
    cases (show y9 = sg z from e9.trans hs)
    refine lv_if_ne (tgt := 35) hx hb dM_add_18 rfl (fun h2 => ?_) (fun h2 => ?_)
    · refine lv_aload_n hx hb dM_add_35 rfl (lv_at hl 1 rfl) ?_
      refine lv_sipush (v := 301) hx hb dM_add_36 (by decide) ?_
      refine lq_iald (j := 301) hx hb hK hP 0 0 rfl rfl rfl (by decide) (by decide) dM_add_39 ?_
      refine lv_topi (fun y9 e9 => ?_)
      cases (show y9 = sg z from e9.trans hs)
      refine lv_iload_n hx hb dM_add_40 rfl (lv_at hl 0 rfl) ?_
      refine lv_icmp_ne (tgt := 52) hx hb dM_add_41 rfl (fun h3 => ?_) (fun h3 => ?_)
      · refine lv_aload_n hx hb dM_add_52 rfl (lv_at hl 1 rfl) ?_
        refine lv_aload_n hx hb dM_add_53 rfl (lv_at hl 2 rfl) ?_
        refine lv_iload_n hx hb dM_add_54 rfl (lv_at hl 0 rfl) ?_
        refine rw_v (wc := [(a, .inl (cT 0, 302, .inl f)), (c2, .inl (cT 0, 302, .inl f2))]) (wr := []) hP hD hS hA [0, 1] [] rfl rfl (by decide) (by decide) (va_runS (As := [.ref a, .ref c2, .int (sg (-z2))]) (rest := []) ⟨hx, hb, hml, hown, hT⟩ (m_takeS l D cT a f z c2 f2 z2 (z - z2) (sg (-z2)) hN0 hN20 (by have q := (sg_diff h2 h1 h3).1; omega) (fun r => by have q := (sg_diff h2 h1 h3).2.1 (by omega); rw [Int.sub_eq_add_neg, q]) (fun r => by have q := (sg_diff h2 h1 h3).2.2 (by omega); rw [Int.sub_eq_add_neg, q]) _) ⟨callB_of 3 hT (tb_gd w1433) rfl rfl rfl (hT _ w13) (hT _ w1431) hM_takeSizes ⟨Nat.le_of_ble_eq_true rfl, Nat.le_of_ble_eq_true rfl⟩, (hT _ w1432)⟩ (RW.preS hZ hS (va_free (wc := [(a, .inl (cT 0, 302, .inl f)), (c2, .inl (cT 0, 302, .inl f2))]) hD hS hA [0, 1] rfl) (hP.sub (ws' := [(a, .inl (cT 0, 302, .inl f)), (c2, .inl (cT 0, 302, .inl f2))]) [0, 1] rfl) hK (hD.sub (ws' := [(a, .inl (cT 0, 302, .inl f)), (c2, .inl (cT 0, 302, .inl f2))]) [0, 1] (by decide) rfl)) rfl rfl hl.1 rfl (lv_room (Nat.le_of_ble_eq_true rfl)) dM_add_55 ⟨Nat.le_of_ble_eq_true rfl, Nat.le_of_ble_eq_true rfl⟩) (fun u9 H locs hpu4 hP hD hS => ?_)
        obtain ⟨f1u4, rfl⟩ : ∃ q9, q9 = u9 := ⟨_, rfl⟩
        have hpu4 : MN f1u4 (z - z2) := hpu4
        have hP : va_P D vwCl [(a, .inl (cT 0, 302, .inl f1u4)), (c2, .inl (cT 0, 302, .inl f2))] _ := hP
        have hD : va_D A [(a, .inl (cT 0, 302, .inl f1u4)), (c2, .inl (cT 0, 302, .inl f2))] := hD
        have hP9 := hP.sub (ws' := [(a, .inl (cT 0, 302, .inl f1u4)), (c2, .inl (cT 0, 302, .inl f2))]) [0, 1] rfl
        have hD9 := hD.sub (ws' := [(a, .inl (cT 0, 302, .inl f1u4)), (c2, .inl (cT 0, 302, .inl f2))]) [0, 1] (by decide) rfl
        refine W.widen (k := 0) (n := 0) (Nat.le_of_ble_eq_true rfl) (Nat.le_of_ble_eq_true rfl) ?_
        exact W.vret hx hb hr (fun t ht hW => ⟨⟨f1u4, rfl, (show MN f1u4 (z - z2) from hpu4), by rw [ht]; exact hP9, hD9⟩, hS.F ht⟩) hS.2.2 dM_add_58
      · refine lv_aload_n hx hb dM_add_44 rfl (lv_at hl 1 rfl) ?_
        refine lv_aload_n hx hb dM_add_45 rfl (lv_at hl 2 rfl) ?_
        refine rw_v (wc := [(a, .inl (cT 0, 302, .inl f)), (c2, .inl (cT 0, 302, .inl f2))]) (wr := []) hP hD hS hA [0, 1] [] rfl rfl (by decide) (by decide) (va_runS (As := [.ref a, .ref c2]) (rest := []) ⟨hx, hb, hml, hown, hT⟩ (m_addS l D cT a f z c2 f2 z2 (z - z2) hN0 hN20 (by have q := (sg_same h1 h3).1; omega) (by have q := (sg_same h1 h3).2; rw [Int.sub_eq_add_neg, q]) hfit _) ⟨callB_of 2 hT (tb_gd w1429) rfl rfl rfl (hT _ w13) (hT _ w1427) hM_addSizes ⟨Nat.le_of_ble_eq_true rfl, Nat.le_of_ble_eq_true rfl⟩, (hT _ w1428)⟩ (RW.preS hZ hS (va_free (wc := [(a, .inl (cT 0, 302, .inl f)), (c2, .inl (cT 0, 302, .inl f2))]) hD hS hA [0, 1] rfl) (hP.sub (ws' := [(a, .inl (cT 0, 302, .inl f)), (c2, .inl (cT 0, 302, .inl f2))]) [0, 1] rfl) hK (hD.sub (ws' := [(a, .inl (cT 0, 302, .inl f)), (c2, .inl (cT 0, 302, .inl f2))]) [0, 1] (by decide) rfl)) rfl rfl hl.1 rfl (lv_room (Nat.le_of_ble_eq_true rfl)) dM_add_46 ⟨Nat.le_of_ble_eq_true rfl, Nat.le_of_ble_eq_true rfl⟩) (fun u9 H locs hpu5 hP hD hS => ?_)
        obtain ⟨f1u5, rfl⟩ : ∃ q9, q9 = u9 := ⟨_, rfl⟩
        have hpu5 : MN f1u5 (z - z2) := hpu5
        have hP : va_P D vwCl [(a, .inl (cT 0, 302, .inl f1u5)), (c2, .inl (cT 0, 302, .inl f2))] _ := hP
        have hD : va_D A [(a, .inl (cT 0, 302, .inl f1u5)), (c2, .inl (cT 0, 302, .inl f2))] := hD
        refine lv_goto (tgt := 58) hx hb dM_add_49 rfl ?_
        have hP9 := hP.sub (ws' := [(a, .inl (cT 0, 302, .inl f1u5)), (c2, .inl (cT 0, 302, .inl f2))]) [0, 1] rfl
        have hD9 := hD.sub (ws' := [(a, .inl (cT 0, 302, .inl f1u5)), (c2, .inl (cT 0, 302, .inl f2))]) [0, 1] (by decide) rfl
        refine W.widen (k := 0) (n := 0) (Nat.le_of_ble_eq_true rfl) (Nat.le_of_ble_eq_true rfl) ?_
        exact W.vret hx hb hr (fun t ht hW => ⟨⟨f1u5, rfl, (show MN f1u5 (z - z2) from hpu5), by rw [ht]; exact hP9, hD9⟩, hS.F ht⟩) hS.2.2 dM_add_58
    · refine lv_aload_n hx hb dM_add_21 rfl (lv_at hl 2 rfl) ?_
      refine lv_aload_n hx hb dM_add_22 rfl (lv_at hl 1 rfl) ?_
      refine rw_v (wc := [(c2, .inl (cT 0, 302, .inl f2)), (a, .inl (cT 0, 302, .inl f))]) (wr := []) hP hD hS hA [1, 0] [] rfl rfl (by decide) (by decide) (va_runS (As := [.ref c2, .ref a]) (rest := []) ⟨hx, hb, hml, hown, hT⟩ (m_copy l D cT c2 f2 z2 a f hN20 _) ⟨callB_of 2 hT (tb_gd w1426) rfl rfl rfl (hT _ w13) (hT _ w1424) hM_copy ⟨Nat.le_of_ble_eq_true rfl, Nat.le_of_ble_eq_true rfl⟩, (hT _ w1425)⟩ (RW.preS hZ hS (va_free (wc := [(c2, .inl (cT 0, 302, .inl f2)), (a, .inl (cT 0, 302, .inl f))]) hD hS hA [1, 0] rfl) (hP.sub (ws' := [(c2, .inl (cT 0, 302, .inl f2)), (a, .inl (cT 0, 302, .inl f))]) [1, 0] rfl) hK (hD.sub (ws' := [(c2, .inl (cT 0, 302, .inl f2)), (a, .inl (cT 0, 302, .inl f))]) [1, 0] (by decide) rfl)) rfl rfl hl.1 rfl (lv_room (Nat.le_of_ble_eq_true rfl)) dM_add_23 ⟨Nat.le_of_ble_eq_true rfl, Nat.le_of_ble_eq_true rfl⟩) (fun u9 H locs hpu6 hP hD hS => ?_)
      obtain ⟨f1u6, rfl⟩ : ∃ q9, q9 = u9 := ⟨_, rfl⟩
      have hpu6 : MN f1u6 z2 := hpu6
      have hP : va_P D vwCl [(c2, .inl (cT 0, 302, .inl f2)), (a, .inl (cT 0, 302, .inl f1u6))] _ := hP
      have hD : va_D A [(c2, .inl (cT 0, 302, .inl f2)), (a, .inl (cT 0, 302, .inl f1u6))] := hD
      refine lv_aload_n hx hb dM_add_26 rfl (lv_at hl 1 rfl) ?_
      refine lv_sipush (v := 301) hx hb dM_add_27 (by decide) ?_
      refine lv_iload_n hx hb dM_add_30 rfl (lv_at hl 0 rfl) ?_
      refine lq_iast (j := 301) hx hb hK hP hD hS 1 0 rfl rfl rfl (by decide) (by decide) dM_add_31 (fun H locs hP hD hS => ?_)
      have hP : va_P D vwCl [(c2, .inl (cT 0, 302, .inl f2)), (a, .inl (cT 0, 302, .inl (upd f1u6 301 (sg (-z2)))))] _ := hP
      have hD : va_D A [(c2, .inl (cT 0, 302, .inl f2)), (a, .inl (cT 0, 302, .inl (upd f1u6 301 (sg (-z2)))))] := hD
      refine lv_goto (tgt := 58) hx hb dM_add_32 rfl ?_
      have hP9 := hP.sub (ws' := [(a, .inl (cT 0, 302, .inl (upd f1u6 301 (sg (-z2))))), (c2, .inl (cT 0, 302, .inl f2))]) [1, 0] rfl
      have hD9 := hD.sub (ws' := [(a, .inl (cT 0, 302, .inl (upd f1u6 301 (sg (-z2))))), (c2, .inl (cT 0, 302, .inl f2))]) [1, 0] (by decide) rfl
      refine W.widen (k := 0) (n := 0) (Nat.le_of_ble_eq_true rfl) (Nat.le_of_ble_eq_true rfl) ?_
      exact W.vret hx hb hr (fun t ht hW => ⟨⟨(upd f1u6 301 (sg (-z2))), rfl, (show MN (upd f1u6 301 (sg (-z2))) (z - z2) from by obtain ⟨K3, g1, g2, g3, g4, g5, g6⟩ := hpu6; have ez := sg_z h2; exact mn_mk g2 g3 g4 (by rw [← g6]; omega) (fun q hq => pk_un (by omega)) ((pk_un (by decide)).trans g1) (pk_us.trans (congrArg sg (show (-z2) = z - z2 by omega)))), by rw [ht]; exact hP9, hD9⟩, hS.F ht⟩) hS.2.2 dM_add_58
  · have hP9 := hP.sub (ws' := [(a, .inl (cT 0, 302, .inl f)), (c2, .inl (cT 0, 302, .inl f2))]) [0, 1] rfl
    have hD9 := hD.sub (ws' := [(a, .inl (cT 0, 302, .inl f)), (c2, .inl (cT 0, 302, .inl f2))]) [0, 1] (by decide) rfl
    refine W.widen (k := 0) (n := 0) (Nat.le_of_ble_eq_true rfl) (Nat.le_of_ble_eq_true rfl) ?_
    exact W.vret hx hb hr (fun t ht hW => ⟨⟨f, rfl, (show MN f (z - z2) from by rw [show z - z2 = z by have := sg_z h1; omega]; exact hN0), by rw [ht]; exact hP9, hD9⟩, hS.F ht⟩) hS.2.2 dM_add_12
set_option maxHeartbeats 4000000 in
set_option maxRecDepth 100000 in
theorem m_setInt (l : Launch) (D : va_G) (cT : Nat → ClassId) (a : Nat) (f : Nat → Int32) (v : Int64) (hv0 : -4611686018427387904 < v.toInt ∧ v.toInt < 4611686018427387904) (sz : Nat) : Met l yM_setInt WM_setInt ({ frames := 0, cells := 0, slots := 0, locals := 0 } : Room) (RW D vwCl [.ref a, .long v] [(a, .inl (cT 0, 302, .inl f))] (TY cT) sz) (va_Qv (fun u9 : (Nat → Int32) => MN u9 v.toInt) (BW D vwCl (va_A [(a, .inl (cT 0, 302, .inl f))] sz) (fun u9 : (Nat → Int32) => [(a, .inl (cT 0, 302, .inl u9))])) (va_A [(a, .inl (cT 0, 302, .inl f))] sz)) 0 0 (va_A [(a, .inl (cT 0, 302, .inl f))] sz) := by
  refine Met.ofW (cc := cM_setInt) (maxL := 6) (ret := none) (by decide) rfl ?_
  intro p e s m args below meth c s₁ B hml hv
  obtain ⟨rfl, hsz, hZ, hP, hK, hD0⟩ := hv
  have hx := B.exec
  have hb := B.bytes
  have hr := B.returns
  have hts := atoms_spec (ws := WM_setInt) B.pre
  have hT : ∀ w ∈ TB, w.before _ s = true := fun w h => hts w (List.mem_cons_of_mem _ h)
  have hown : s.vm.findClass R_M = some m.cls := findClass_of_methodNamed B.named
  have hlocks := B.notSynchronized
  subst hsz
  have hD := hD0.self (sz := s.heap.size)
  generalize hAe : va_A [(a, .inl (cT 0, 302, .inl f))] s.heap.size = A at hD hZ ⊢
  have hA : ∀ q : Nat, s.heap.size ≤ q → A q := fun q h => by rw [← hAe]; exact Or.inr h
  have hS : va_S A s.heap s.heap [] := va_S.rf
  have hl := lv_entry ([.ref a, .long v]) (n := 6) (Nat.le_of_ble_eq_true rfl)
  rw [lg_entry_eq]
  generalize (lg_sl ([.ref a, .long v]) ++ List.replicate (6 - (lg_sl ([.ref a, .long v])).length) Slot.unset).toArray = ls at hl ⊢
  have hl : lv_has ls 6 [(0, .ref a), (1, .long v)] := hl
  refine lv_lload_n hx hb dM_setInt_0 rfl (lv_at hl 1 rfl) ?_
  refine lv_lconst (v := 0) hx hb dM_setInt_1 (by decide) ?_
  refine W.lcmp hx hb dM_setInt_2 ?_
  refine lv_if_ge (tgt := 11) hx hb dM_setInt_3 rfl (fun h1 => ?_) (fun h1 => ?_)
  · obtain ⟨r0, hr0, hrx, hrz⟩ := lj_pos (Int64.not_lt.mpr ((lg_cmp_ge v 0).mp h1)) hv0.2
    refine lv_lload_n hx hb dM_setInt_11 rfl (lv_at hl 1 rfl) ?_
    refine lv_topl (fun y9 e9 => ?_)
    cases (show y9 = lN r0 from e9.trans hrx)
    refine lv_lstore_n hx hb dM_setInt_12 rfl hl (by decide) rfl (fun ls hl => ?_)
    have hl : lv_has ls 6 [(3, .long (lN r0)), (0, .ref a), (1, .long v)] := hl
    refine lv_iconst (v := 0) hx hb dM_setInt_13 (by decide) ?_
    refine lv_istore hx hb dM_setInt_14 hl (by decide) rfl (fun ls hl => ?_)
    have hl : lv_has ls 6 [(5, .int 0), (3, .long (lN r0)), (0, .ref a), (1, .long v)] := hl
    refine lp_w (α := Nat × Nat × (Nat → Int32)) (fun a9 => a9.2.1 < 4611686018427387904 ∧ a9.1 ≤ 3 ∧ dok 268435456 a9.2.2 a9.1 ∧ (∀ q, a9.1 ≤ q → a9.2.2 q = f q) ∧ hv 268435456 (dg a9.2.2) 0 a9.1 + 268435456 ^ a9.1 * a9.2.1 = r0 ∧ (a9.2.1 = 0 → top0 a9.2.2 a9.1)) (fun a9 => a9.2.1) (fun a9 => [(0, .ref a), (1, .long v), (3, .long (lN a9.2.1)), (5, .int (nI a9.1))]) (fun a9 => [(a, .inl (cT 0, 302, .inl a9.2.2))]) 16 ?_ (0, r0, f) (show r0 < 4611686018427387904 ∧ 0 ≤ 3 ∧ dok 268435456 f 0 ∧ (∀ q, 0 ≤ q → f q = f q) ∧ hv 268435456 (dg f) 0 0 + 268435456 ^ 0 * r0 = r0 ∧ (r0 = 0 → top0 f 0) from ⟨hr0, by omega, fun q h => absurd h (by omega), fun _ _ => rfl, by simp [hv], fun _ q => absurd q (by omega)⟩) (lv_sub hl [2, 3, 1, 0] rfl) hP hD hS
    intro a9 hI16 ih16 ls H locs hl hP hD hS
    obtain ⟨j, r, g⟩ := a9
    have hI16 : r < 4611686018427387904 ∧ j ≤ 3 ∧ dok 268435456 g j ∧ (∀ q, j ≤ q → g q = f q) ∧ hv 268435456 (dg g) 0 j + 268435456 ^ j * r = r0 ∧ (r = 0 → top0 g j) := hI16
    obtain ⟨ir, ij, idk, ig, iv, it⟩ := hI16
    have hl : lv_has ls 6 [(0, .ref a), (1, .long v), (3, .long (lN r)), (5, .int (nI j))] := hl
    have hP : va_P D vwCl [(a, .inl (cT 0, 302, .inl g))] _ := hP
    have hD : va_D A [(a, .inl (cT 0, 302, .inl g))] := hD
    refine lv_lload_n hx hb dM_setInt_16 rfl (lv_at hl 2 rfl) ?_
    refine lv_lconst (v := 0) hx hb dM_setInt_17 (by decide) ?_
    refine W.lcmp hx hb dM_setInt_18 ?_
    refine lv_if_le (tgt := 43) hx hb dM_setInt_19 rfl (fun h2 => ?_) (fun h2 => ?_)
    · have gh2 : r ≤ 0 := ((lg_cmp_le (lN r) 0).trans (pk_lLE (a := r) (b := 0) (by omega) (by decide))).mp h2
      have hrz0 : r = 0 := by omega
      rw [hrz0, Nat.mul_zero, Nat.add_zero] at iv
      refine lv_aload_n hx hb dM_setInt_43 rfl (lv_at hl 0 rfl) ?_
      refine lv_sipush (v := 300) hx hb dM_setInt_44 (by decide) ?_
      refine lv_iload hx hb dM_setInt_47 (lv_at hl 3 rfl) ?_
      refine lq_iast (j := 300) hx hb hK hP hD hS 0 0 rfl rfl rfl (by decide) (by decide) dM_setInt_49 (fun H locs hP hD hS => ?_)
      have hP : va_P D vwCl [(a, .inl (cT 0, 302, .inl (upd g 300 (nI j))))] _ := hP
      have hD : va_D A [(a, .inl (cT 0, 302, .inl (upd g 300 (nI j))))] := hD
      refine lv_aload_n hx hb dM_setInt_50 rfl (lv_at hl 0 rfl) ?_
      refine lv_sipush (v := 301) hx hb dM_setInt_51 (by decide) ?_
      refine lv_lload_n hx hb dM_setInt_54 rfl (lv_at hl 1 rfl) ?_
      refine lv_lconst (v := 0) hx hb dM_setInt_55 (by decide) ?_
      refine W.lcmp hx hb dM_setInt_56 ?_
      refine lv_if_ge (tgt := 64) hx hb dM_setInt_57 rfl (fun _ => ?_) (fun h3 => absurd h1 h3)
      refine lv_lload_n hx hb dM_setInt_64 rfl (lv_at hl 1 rfl) ?_
      refine lv_lconst (v := 0) hx hb dM_setInt_65 (by decide) ?_
      refine W.lcmp hx hb dM_setInt_66 ?_
      refine lv_if_le (tgt := 74) hx hb dM_setInt_67 rfl (fun h4 => ?_) (fun h4 => ?_)
      · refine lv_iconst (v := 0) hx hb dM_setInt_74 (by decide) ?_
        refine lq_iast (j := 301) hx hb hK hP hD hS 0 0 rfl rfl rfl (by decide) (by decide) dM_setInt_75 (fun H locs hP hD hS => ?_)
        have hP : va_P D vwCl [(a, .inl (cT 0, 302, .inl (upd (upd g 300 (nI j)) 301 0)))] _ := hP
        have hD : va_D A [(a, .inl (cT 0, 302, .inl (upd (upd g 300 (nI j)) 301 0)))] := hD
        have hP9 := hP.sub (ws' := [(a, .inl (cT 0, 302, .inl (upd (upd g 300 (nI j)) 301 0)))]) [0] rfl
        have hD9 := hD.sub (ws' := [(a, .inl (cT 0, 302, .inl (upd (upd g 300 (nI j)) 301 0)))]) [0] (by decide) rfl
        refine W.widen (k := 0) (n := 0) (Nat.le_of_ble_eq_true rfl) (Nat.le_of_ble_eq_true rfl) ?_
        exact W.vret hx hb hr (fun t ht hW => ⟨⟨(upd (upd g 300 (nI j)) 301 0), rfl, (show MN (upd (upd g 300 (nI j)) 301 0) v.toInt from mn_mk (f := g) (K := j) (by omega) idk (it hrz0) (by rw [hrz]; show _ = hv _ _ _ _; rw [iv]; omega) (fun q hq => (pk_un (by omega)).trans (pk_un (by omega))) ((pk_un (by decide)).trans pk_us) (pk_us.trans (sgZ (by have q1 := Int64.le_iff_toInt_le.mp ((lg_cmp_le v 0).mp h4); have q2 : (0 : Int64).toInt = 0 := rfl; rw [q2] at q1; omega)).symm)), by rw [ht]; exact hP9, hD9⟩, hS.F ht⟩) hS.2.2 dM_setInt_76
      · refine lv_iconst (v := 1) hx hb dM_setInt_70 (by decide) ?_
        refine lv_goto (tgt := 75) hx hb dM_setInt_71 rfl ?_
        refine lq_iast (j := 301) hx hb hK hP hD hS 0 0 rfl rfl rfl (by decide) (by decide) dM_setInt_75 (fun H locs hP hD hS => ?_)
        have hP : va_P D vwCl [(a, .inl (cT 0, 302, .inl (upd (upd g 300 (nI j)) 301 1)))] _ := hP
        have hD : va_D A [(a, .inl (cT 0, 302, .inl (upd (upd g 300 (nI j)) 301 1)))] := hD
        have hP9 := hP.sub (ws' := [(a, .inl (cT 0, 302, .inl (upd (upd g 300 (nI j)) 301 1)))]) [0] rfl
        have hD9 := hD.sub (ws' := [(a, .inl (cT 0, 302, .inl (upd (upd g 300 (nI j)) 301 1)))]) [0] (by decide) rfl
        refine W.widen (k := 0) (n := 0) (Nat.le_of_ble_eq_true rfl) (Nat.le_of_ble_eq_true rfl) ?_
        exact W.vret hx hb hr (fun t ht hW => ⟨⟨(upd (upd g 300 (nI j)) 301 1), rfl, (show MN (upd (upd g 300 (nI j)) 301 1) v.toInt from mn_mk (f := g) (K := j) (by omega) idk (it hrz0) (by rw [hrz]; show _ = hv _ _ _ _; rw [iv]; omega) (fun q hq => (pk_un (by omega)).trans (pk_un (by omega))) ((pk_un (by decide)).trans pk_us) (pk_us.trans (sgP (by have q1 := Int64.lt_iff_toInt_lt.mp (Int64.not_le.mp (fun q => h4 ((lg_cmp_le v 0).mpr q))); have q2 : (0 : Int64).toInt = 0 := rfl; rw [q2] at q1; omega)).symm)), by rw [ht]; exact hP9, hD9⟩, hS.F ht⟩) hS.2.2 dM_setInt_76
    · have gh2 : ¬ (r ≤ 0) := fun q => h2 (((lg_cmp_le (lN r) 0).trans (pk_lLE (a := r) (b := 0) (by omega) (by decide))).mpr q)
      have hj3 : j < 3 := by
        rcases (show j < 3 ∨ j = 3 by omega) with q | q
        · exact q
        · rw [q] at iv; omega
      refine lv_aload_n hx hb dM_setInt_22 rfl (lv_at hl 0 rfl) ?_
      refine lv_iload hx hb dM_setInt_23 (lv_at hl 3 rfl) ?_
      refine lv_lload_n hx hb dM_setInt_25 rfl (lv_at hl 2 rfl) ?_
      refine lv_ldc2 (v := 268435455) hx hb hown (hT _ w1388) dM_setInt_26 ?_
      refine lv_land hx hb dM_setInt_29 ?_
      obtain ⟨e1, he1⟩ : ∃ q9 : Nat, q9 = r % 268435456 := ⟨_, rfl⟩
      have he1b : e1 < 268435456 := by omega
      refine lv_topl (fun y9 e9 => ?_)
      cases (show y9 = lN e1 from e9.trans (by rw [he1]; exact msk (by omega)))
      refine lv_l2i hx hb dM_setInt_30 rfl ?_
      refine lv_topi (fun y9 e9 => ?_)
      cases (show y9 = nI e1 from e9.trans (lN_i e1))
      refine lq_iast (j := j) hx hb hK hP hD hS 0 0 rfl rfl rfl (by omega) (by omega) dM_setInt_31 (fun H locs hP hD hS => ?_)
      have hP : va_P D vwCl [(a, .inl (cT 0, 302, .inl (upd g j (nI e1))))] _ := hP
      have hD : va_D A [(a, .inl (cT 0, 302, .inl (upd g j (nI e1))))] := hD
      refine lv_lload_n hx hb dM_setInt_32 rfl (lv_at hl 2 rfl) ?_
      refine lv_bipush (v := 28) hx hb dM_setInt_33 (by decide) ?_
      refine lv_lshr hx hb dM_setInt_35 rfl ?_
      obtain ⟨r1, hr1⟩ : ∃ q9 : Nat, q9 = r / 268435456 := ⟨_, rfl⟩
      refine lv_topl (fun y9 e9 => ?_)
      cases (show y9 = lN r1 from e9.trans (by rw [hr1]; exact msh (by omega)))
      refine lv_lstore_n hx hb dM_setInt_36 rfl hl (by decide) rfl (fun ls hl => ?_)
      have hl : lv_has ls 6 [(3, .long (lN r1)), (0, .ref a), (1, .long v), (5, .int (nI j))] := hl
      refine lv_iinc (k := 3) (v := nI (j + 1)) hx hb dM_setInt_37 hl rfl (nI_1 j) (by decide) rfl (fun ls hl => ?_)
      have hl : lv_has ls 6 [(5, .int (nI (j + 1))), (3, .long (lN r1)), (0, .ref a), (1, .long v)] := hl
      refine lv_goto (tgt := 16) hx hb dM_setInt_40 rfl ?_
      exact ih16 (j + 1, r1, upd g j (nI e1)) (show r1 < 4611686018427387904 ∧ (j + 1) ≤ 3 ∧ dok 268435456 (upd g j (nI e1)) (j + 1) ∧ (∀ q, (j + 1) ≤ q → (upd g j (nI e1)) q = f q) ∧ hv 268435456 (dg (upd g j (nI e1))) 0 (j + 1) + 268435456 ^ (j + 1) * r1 = r0 ∧ (r1 = 0 → top0 (upd g j (nI e1)) (j + 1)) from ⟨by omega, by omega, dok_s idk he1b (by decide), fun q h => (pk_un (by omega)).trans (ig q (by omega)), by rw [hv_us (v := e1) (by omega), Nat.pow_succ, he1, hr1, car_s]; exact iv, fun q _ => by rw [Nat.add_sub_cancel, dg_us (by omega)]; omega⟩) (show r1 < r from (by omega)) ls H locs (lv_sub hl [2, 3, 1, 0] rfl) hP hD hS
  · obtain ⟨r0, hr0, hrx, hrz⟩ := lj_neg (Int64.not_le.mp (fun q => h1 ((lg_cmp_ge v 0).mpr q))) hv0.1
    refine lv_lload_n hx hb dM_setInt_6 rfl (lv_at hl 1 rfl) ?_
    refine lv_lneg hx hb dM_setInt_7 ?_
    refine lv_topl (fun y9 e9 => ?_)
    cases (show y9 = lN r0 from e9.trans hrx)
    refine lv_goto (tgt := 12) hx hb dM_setInt_8 rfl ?_
    refine lv_lstore_n hx hb dM_setInt_12 rfl hl (by decide) rfl (fun ls hl => ?_)
    have hl : lv_has ls 6 [(3, .long (lN r0)), (0, .ref a), (1, .long v)] := hl
    refine lv_iconst (v := 0) hx hb dM_setInt_13 (by decide) ?_
    refine lv_istore hx hb dM_setInt_14 hl (by decide) rfl (fun ls hl => ?_)
    have hl : lv_has ls 6 [(5, .int 0), (3, .long (lN r0)), (0, .ref a), (1, .long v)] := hl
    refine lp_w (α := Nat × Nat × (Nat → Int32)) (fun a9 => a9.2.1 < 4611686018427387904 ∧ a9.1 ≤ 3 ∧ dok 268435456 a9.2.2 a9.1 ∧ (∀ q, a9.1 ≤ q → a9.2.2 q = f q) ∧ hv 268435456 (dg a9.2.2) 0 a9.1 + 268435456 ^ a9.1 * a9.2.1 = r0 ∧ (a9.2.1 = 0 → top0 a9.2.2 a9.1)) (fun a9 => a9.2.1) (fun a9 => [(0, .ref a), (1, .long v), (3, .long (lN a9.2.1)), (5, .int (nI a9.1))]) (fun a9 => [(a, .inl (cT 0, 302, .inl a9.2.2))]) 16 ?_ (0, r0, f) (show r0 < 4611686018427387904 ∧ 0 ≤ 3 ∧ dok 268435456 f 0 ∧ (∀ q, 0 ≤ q → f q = f q) ∧ hv 268435456 (dg f) 0 0 + 268435456 ^ 0 * r0 = r0 ∧ (r0 = 0 → top0 f 0) from ⟨hr0, by omega, fun q h => absurd h (by omega), fun _ _ => rfl, by simp [hv], fun _ q => absurd q (by omega)⟩) (lv_sub hl [2, 3, 1, 0] rfl) hP hD hS
    intro a9 hI16 ih16 ls H locs hl hP hD hS
    obtain ⟨j, r, g⟩ := a9
    have hI16 : r < 4611686018427387904 ∧ j ≤ 3 ∧ dok 268435456 g j ∧ (∀ q, j ≤ q → g q = f q) ∧ hv 268435456 (dg g) 0 j + 268435456 ^ j * r = r0 ∧ (r = 0 → top0 g j) := hI16
    obtain ⟨ir, ij, idk, ig, iv, it⟩ := hI16
    have hl : lv_has ls 6 [(0, .ref a), (1, .long v), (3, .long (lN r)), (5, .int (nI j))] := hl
    have hP : va_P D vwCl [(a, .inl (cT 0, 302, .inl g))] _ := hP
    have hD : va_D A [(a, .inl (cT 0, 302, .inl g))] := hD
    refine lv_lload_n hx hb dM_setInt_16 rfl (lv_at hl 2 rfl) ?_
    refine lv_lconst (v := 0) hx hb dM_setInt_17 (by decide) ?_
    refine W.lcmp hx hb dM_setInt_18 ?_
    refine lv_if_le (tgt := 43) hx hb dM_setInt_19 rfl (fun h5 => ?_) (fun h5 => ?_)
    · have gh5 : r ≤ 0 := ((lg_cmp_le (lN r) 0).trans (pk_lLE (a := r) (b := 0) (by omega) (by decide))).mp h5
      have hrz0 : r = 0 := by omega
      rw [hrz0, Nat.mul_zero, Nat.add_zero] at iv
      refine lv_aload_n hx hb dM_setInt_43 rfl (lv_at hl 0 rfl) ?_
      refine lv_sipush (v := 300) hx hb dM_setInt_44 (by decide) ?_
      refine lv_iload hx hb dM_setInt_47 (lv_at hl 3 rfl) ?_
      refine lq_iast (j := 300) hx hb hK hP hD hS 0 0 rfl rfl rfl (by decide) (by decide) dM_setInt_49 (fun H locs hP hD hS => ?_)
      have hP : va_P D vwCl [(a, .inl (cT 0, 302, .inl (upd g 300 (nI j))))] _ := hP
      have hD : va_D A [(a, .inl (cT 0, 302, .inl (upd g 300 (nI j))))] := hD
      refine lv_aload_n hx hb dM_setInt_50 rfl (lv_at hl 0 rfl) ?_
      refine lv_sipush (v := 301) hx hb dM_setInt_51 (by decide) ?_
      refine lv_lload_n hx hb dM_setInt_54 rfl (lv_at hl 1 rfl) ?_
      refine lv_lconst (v := 0) hx hb dM_setInt_55 (by decide) ?_
      refine W.lcmp hx hb dM_setInt_56 ?_
      refine lv_if_ge (tgt := 64) hx hb dM_setInt_57 rfl (fun h6 => absurd h6 h1) (fun _ => ?_)
      refine lv_iconst (v := (-1)) hx hb dM_setInt_60 (by decide) ?_
      refine lv_goto (tgt := 75) hx hb dM_setInt_61 rfl ?_
      refine lq_iast (j := 301) hx hb hK hP hD hS 0 0 rfl rfl rfl (by decide) (by decide) dM_setInt_75 (fun H locs hP hD hS => ?_)
      have hP : va_P D vwCl [(a, .inl (cT 0, 302, .inl (upd (upd g 300 (nI j)) 301 (-1))))] _ := hP
      have hD : va_D A [(a, .inl (cT 0, 302, .inl (upd (upd g 300 (nI j)) 301 (-1))))] := hD
      have hP9 := hP.sub (ws' := [(a, .inl (cT 0, 302, .inl (upd (upd g 300 (nI j)) 301 (-1))))]) [0] rfl
      have hD9 := hD.sub (ws' := [(a, .inl (cT 0, 302, .inl (upd (upd g 300 (nI j)) 301 (-1))))]) [0] (by decide) rfl
      refine W.widen (k := 0) (n := 0) (Nat.le_of_ble_eq_true rfl) (Nat.le_of_ble_eq_true rfl) ?_
      exact W.vret hx hb hr (fun t ht hW => ⟨⟨(upd (upd g 300 (nI j)) 301 (-1)), rfl, (show MN (upd (upd g 300 (nI j)) 301 (-1)) v.toInt from mn_mk (f := g) (K := j) (by omega) idk (it hrz0) (by rw [hrz]; show _ = hv _ _ _ _; rw [iv]; omega) (fun q hq => (pk_un (by omega)).trans (pk_un (by omega))) ((pk_un (by decide)).trans pk_us) (pk_us.trans (sgN (Int64.lt_iff_toInt_lt.mp (Int64.not_le.mp (fun q => h1 ((lg_cmp_ge v 0).mpr q))))).symm)), by rw [ht]; exact hP9, hD9⟩, hS.F ht⟩) hS.2.2 dM_setInt_76
    · have gh5 : ¬ (r ≤ 0) := fun q => h5 (((lg_cmp_le (lN r) 0).trans (pk_lLE (a := r) (b := 0) (by omega) (by decide))).mpr q)
      have hj3 : j < 3 := by
        rcases (show j < 3 ∨ j = 3 by omega) with q | q
        · exact q
        · rw [q] at iv; omega
      refine lv_aload_n hx hb dM_setInt_22 rfl (lv_at hl 0 rfl) ?_
      refine lv_iload hx hb dM_setInt_23 (lv_at hl 3 rfl) ?_
      refine lv_lload_n hx hb dM_setInt_25 rfl (lv_at hl 2 rfl) ?_
      refine lv_ldc2 (v := 268435455) hx hb hown (hT _ w1388) dM_setInt_26 ?_
      refine lv_land hx hb dM_setInt_29 ?_
      obtain ⟨e1, he1⟩ : ∃ q9 : Nat, q9 = r % 268435456 := ⟨_, rfl⟩
      have he1b : e1 < 268435456 := by omega
      refine lv_topl (fun y9 e9 => ?_)
      cases (show y9 = lN e1 from e9.trans (by rw [he1]; exact msk (by omega)))
      refine lv_l2i hx hb dM_setInt_30 rfl ?_
      refine lv_topi (fun y9 e9 => ?_)
      cases (show y9 = nI e1 from e9.trans (lN_i e1))
      refine lq_iast (j := j) hx hb hK hP hD hS 0 0 rfl rfl rfl (by omega) (by omega) dM_setInt_31 (fun H locs hP hD hS => ?_)
      have hP : va_P D vwCl [(a, .inl (cT 0, 302, .inl (upd g j (nI e1))))] _ := hP
      have hD : va_D A [(a, .inl (cT 0, 302, .inl (upd g j (nI e1))))] := hD
      refine lv_lload_n hx hb dM_setInt_32 rfl (lv_at hl 2 rfl) ?_
      refine lv_bipush (v := 28) hx hb dM_setInt_33 (by decide) ?_
      refine lv_lshr hx hb dM_setInt_35 rfl ?_
      obtain ⟨r1, hr1⟩ : ∃ q9 : Nat, q9 = r / 268435456 := ⟨_, rfl⟩
      refine lv_topl (fun y9 e9 => ?_)
      cases (show y9 = lN r1 from e9.trans (by rw [hr1]; exact msh (by omega)))
      refine lv_lstore_n hx hb dM_setInt_36 rfl hl (by decide) rfl (fun ls hl => ?_)
      have hl : lv_has ls 6 [(3, .long (lN r1)), (0, .ref a), (1, .long v), (5, .int (nI j))] := hl
      refine lv_iinc (k := 3) (v := nI (j + 1)) hx hb dM_setInt_37 hl rfl (nI_1 j) (by decide) rfl (fun ls hl => ?_)
      have hl : lv_has ls 6 [(5, .int (nI (j + 1))), (3, .long (lN r1)), (0, .ref a), (1, .long v)] := hl
      refine lv_goto (tgt := 16) hx hb dM_setInt_40 rfl ?_
      exact ih16 (j + 1, r1, upd g j (nI e1)) (show r1 < 4611686018427387904 ∧ (j + 1) ≤ 3 ∧ dok 268435456 (upd g j (nI e1)) (j + 1) ∧ (∀ q, (j + 1) ≤ q → (upd g j (nI e1)) q = f q) ∧ hv 268435456 (dg (upd g j (nI e1))) 0 (j + 1) + 268435456 ^ (j + 1) * r1 = r0 ∧ (r1 = 0 → top0 (upd g j (nI e1)) (j + 1)) from ⟨by omega, by omega, dok_s idk he1b (by decide), fun q h => (pk_un (by omega)).trans (ig q (by omega)), by rw [hv_us (v := e1) (by omega), Nat.pow_succ, he1, hr1, car_s]; exact iv, fun q _ => by rw [Nat.add_sub_cancel, dg_us (by omega)]; omega⟩) (show r1 < r from (by omega)) ls H locs (lv_sub hl [2, 3, 1, 0] rfl) hP hD hS
set_option maxHeartbeats 4000000 in
set_option maxRecDepth 100000 in
theorem m_store (l : Launch) (D : va_G) (cT : Nat → ClassId) (a : Nat) (f : Nat → Int32) (z : Int) (c2 : Nat) (N : Nat) (f2 : Nat → Int32) (p0 : Nat) (hN : MN f z) (hfit : z.natAbs < 268435456 ^ 130) (hp0 : p0 + 132 ≤ N) (hN9 : N < 2 ^ 31) (sz : Nat) : Met l yM_store WM_store ({ frames := 0, cells := 0, slots := 0, locals := 0 } : Room) (RW D vwCl [.ref a, .ref c2, .int (nI p0)] [(a, .inl (cT 0, 302, .inl f)), (c2, .inl (cT 0, N, .inl f2))] (TY cT) sz) (va_Qv (fun u9 : (Nat → Int32) => MR u9 p0 z ∧ ∀ q8, q8 < p0 ∨ p0 + 132 ≤ q8 → u9 q8 = f2 q8) (BW D vwCl (va_A [(a, .inl (cT 0, 302, .inl f)), (c2, .inl (cT 0, N, .inl f2))] sz) (fun u9 : (Nat → Int32) => [(a, .inl (cT 0, 302, .inl f)), (c2, .inl (cT 0, N, .inl u9))])) (va_A [(a, .inl (cT 0, 302, .inl f)), (c2, .inl (cT 0, N, .inl f2))] sz)) 0 0 (va_A [(a, .inl (cT 0, 302, .inl f)), (c2, .inl (cT 0, N, .inl f2))] sz) := by
  refine Met.ofW (cc := cM_store) (maxL := 4) (ret := none) (by decide) rfl ?_
  intro p e s m args below meth c s₁ B hml hv
  obtain ⟨rfl, hsz, hZ, hP, hK, hD0⟩ := hv
  have hx := B.exec
  have hb := B.bytes
  have hr := B.returns
  have hts := atoms_spec (ws := WM_store) B.pre
  have hT : ∀ w ∈ TB, w.before _ s = true := fun w h => hts w (List.mem_cons_of_mem _ h)
  have hown : s.vm.findClass R_M = some m.cls := findClass_of_methodNamed B.named
  have hlocks := B.notSynchronized
  subst hsz
  have hD := hD0.self (sz := s.heap.size)
  generalize hAe : va_A [(a, .inl (cT 0, 302, .inl f)), (c2, .inl (cT 0, N, .inl f2))] s.heap.size = A at hD hZ ⊢
  have hA : ∀ q : Nat, s.heap.size ≤ q → A q := fun q h => by rw [← hAe]; exact Or.inr h
  have hS : va_S A s.heap s.heap [] := va_S.rf
  have hl := lv_entry ([.ref a, .ref c2, .int (nI p0)]) (n := 4) (Nat.le_of_ble_eq_true rfl)
  rw [lg_entry_eq]
  generalize (lg_sl ([.ref a, .ref c2, .int (nI p0)]) ++ List.replicate (4 - (lg_sl ([.ref a, .ref c2, .int (nI p0)])).length) Slot.unset).toArray = ls at hl ⊢
  have hl : lv_has ls 4 [(0, .ref a), (1, .ref c2), (2, .int (nI p0))] := hl
  obtain ⟨K, h300, hk, hd, htop, hs, hva⟩ := hN
  have hK130 : K ≤ 130 := M_le htop (by rw [← hva]; exact hfit)
  refine lv_iconst (v := 0) hx hb dM_store_0 (by decide) ?_
  refine lv_istore_n hx hb dM_store_1 rfl hl (by decide) rfl (fun ls hl => ?_)
  have hl : lv_has ls 4 [(3, .int 0), (0, .ref a), (1, .ref c2), (2, .int (nI p0))] := hl
  refine lp_w (α := Nat × (Nat → Int32)) (fun a9 => a9.1 ≤ K ∧ (∀ q, q < a9.1 → a9.2 (p0 + q) = f q) ∧ (∀ q, q < p0 ∨ p0 + 132 ≤ q → a9.2 q = f2 q)) (fun a9 => K - a9.1) (fun a9 => [(0, .ref a), (1, .ref c2), (2, .int (nI p0)), (3, .int (nI a9.1))]) (fun a9 => [(a, .inl (cT 0, 302, .inl f)), (c2, .inl (cT 0, N, .inl a9.2))]) 2 ?_ (0, f2) (show 0 ≤ K ∧ (∀ q, q < 0 → f2 (p0 + q) = f q) ∧ (∀ q, q < p0 ∨ p0 + 132 ≤ q → f2 q = f2 q) from ⟨by omega, fun q h => absurd h (by omega), fun _ _ => rfl⟩) (lv_sub hl [1, 2, 3, 0] rfl) hP hD hS
  intro a9 hI2 ih2 ls H locs hl hP hD hS
  obtain ⟨j, g⟩ := a9
  have hI2 : j ≤ K ∧ (∀ q, q < j → g (p0 + q) = f q) ∧ (∀ q, q < p0 ∨ p0 + 132 ≤ q → g q = f2 q) := hI2
  obtain ⟨ij, ig, io⟩ := hI2
  have hl : lv_has ls 4 [(0, .ref a), (1, .ref c2), (2, .int (nI p0)), (3, .int (nI j))] := hl
  have hP : va_P D vwCl [(a, .inl (cT 0, 302, .inl f)), (c2, .inl (cT 0, N, .inl g))] _ := hP
  have hD : va_D A [(a, .inl (cT 0, 302, .inl f)), (c2, .inl (cT 0, N, .inl g))] := hD
  refine lv_iload_n hx hb dM_store_2 rfl (lv_at hl 3 rfl) ?_
  refine lv_aload_n hx hb dM_store_3 rfl (lv_at hl 0 rfl) ?_
  refine lv_sipush (v := 300) hx hb dM_store_4 (by decide) ?_
  refine lq_iald (j := 300) hx hb hK hP 0 0 rfl rfl rfl (by decide) (by decide) dM_store_7 ?_
  refine lv_topi (fun y9 e9 => ?_)
  cases (show y9 = nI K from e9.trans h300)
  refine lv_icmp_ge (tgt := 25) hx hb dM_store_8 rfl (fun h1 => ?_) (fun h1 => ?_)
  · have gh1 : K ≤ j := (nI_leI (a := K) (b := j) (by omega) (by omega)).mp h1
    refine lv_aload_n hx hb dM_store_25 rfl (lv_at hl 1 rfl) ?_
    refine lv_iload_n hx hb dM_store_26 rfl (lv_at hl 2 rfl) ?_
    refine lv_sipush (v := 130) hx hb dM_store_27 (by decide) ?_
    refine lv_iadd hx hb dM_store_30 ?_
    refine lv_topi (fun y9 e9 => ?_)
    cases (show y9 = nI (p0 + 130) from e9.trans (nI_add p0 130))
    refine lv_aload_n hx hb dM_store_31 rfl (lv_at hl 0 rfl) ?_
    refine lv_sipush (v := 300) hx hb dM_store_32 (by decide) ?_
    refine lq_iald (j := 300) hx hb hK hP 0 0 rfl rfl rfl (by decide) (by decide) dM_store_35 ?_
    refine lv_topi (fun y9 e9 => ?_)
    cases (show y9 = nI K from e9.trans h300)
    refine lq_iast (j := p0 + 130) hx hb hK hP hD hS 1 0 rfl rfl rfl (by omega) (by omega) dM_store_36 (fun H locs hP hD hS => ?_)
    have hP : va_P D vwCl [(a, .inl (cT 0, 302, .inl f)), (c2, .inl (cT 0, N, .inl (upd g (p0 + 130) (nI K))))] _ := hP
    have hD : va_D A [(a, .inl (cT 0, 302, .inl f)), (c2, .inl (cT 0, N, .inl (upd g (p0 + 130) (nI K))))] := hD
    refine lv_aload_n hx hb dM_store_37 rfl (lv_at hl 1 rfl) ?_
    refine lv_iload_n hx hb dM_store_38 rfl (lv_at hl 2 rfl) ?_
    refine lv_sipush (v := 130) hx hb dM_store_39 (by decide) ?_
    refine lv_iadd hx hb dM_store_42 ?_
    refine lv_topi (fun y9 e9 => ?_)
    cases (show y9 = nI (p0 + 130) from e9.trans (nI_add p0 130))
    refine lv_iconst (v := 1) hx hb dM_store_43 (by decide) ?_
    refine lv_iadd hx hb dM_store_44 ?_
    refine lv_topi (fun y9 e9 => ?_)
    cases (show y9 = nI ((p0 + 130) + 1) from e9.trans (nI_add (p0 + 130) 1))
    refine lv_aload_n hx hb dM_store_45 rfl (lv_at hl 0 rfl) ?_
    refine lv_sipush (v := 301) hx hb dM_store_46 (by decide) ?_
    refine lq_iald (j := 301) hx hb hK hP 0 0 rfl rfl rfl (by decide) (by decide) dM_store_49 ?_
    refine lv_topi (fun y9 e9 => ?_)
    cases (show y9 = sg z from e9.trans hs)
    refine lq_iast (j := (p0 + 130) + 1) hx hb hK hP hD hS 1 0 rfl rfl rfl (by omega) (by omega) dM_store_50 (fun H locs hP hD hS => ?_)
    have hP : va_P D vwCl [(a, .inl (cT 0, 302, .inl f)), (c2, .inl (cT 0, N, .inl (upd (upd g (p0 + 130) (nI K)) ((p0 + 130) + 1) (sg z))))] _ := hP
    have hD : va_D A [(a, .inl (cT 0, 302, .inl f)), (c2, .inl (cT 0, N, .inl (upd (upd g (p0 + 130) (nI K)) ((p0 + 130) + 1) (sg z))))] := hD
    have hP9 := hP.sub (ws' := [(a, .inl (cT 0, 302, .inl f)), (c2, .inl (cT 0, N, .inl (upd (upd g (p0 + 130) (nI K)) (p0 + 130 + 1) (sg z))))]) [0, 1] rfl
    have hD9 := hD.sub (ws' := [(a, .inl (cT 0, 302, .inl f)), (c2, .inl (cT 0, N, .inl (upd (upd g (p0 + 130) (nI K)) (p0 + 130 + 1) (sg z))))]) [0, 1] (by decide) rfl
    refine W.widen (k := 0) (n := 0) (Nat.le_of_ble_eq_true rfl) (Nat.le_of_ble_eq_true rfl) ?_
    exact W.vret hx hb hr (fun t ht hW => ⟨⟨(upd (upd g (p0 + 130) (nI K)) (p0 + 130 + 1) (sg z)), rfl, (show MR (upd (upd g (p0 + 130) (nI K)) (p0 + 130 + 1) (sg z)) p0 z ∧ ∀ q8, q8 < p0 ∨ p0 + 132 ≤ q8 → (upd (upd g (p0 + 130) (nI K)) (p0 + 130 + 1) (sg z)) q8 = f2 q8 from ⟨mr_mk hK130 hd htop hva (fun q hq => (pk_un (by omega)).trans ((pk_un (by omega)).trans (ig q (by omega)))) ((pk_un (by omega)).trans pk_us) pk_us, fun q hq => (pk_un (by omega)).trans ((pk_un (by omega)).trans (io q hq))⟩), by rw [ht]; exact hP9, hD9⟩, hS.F ht⟩) hS.2.2 dM_store_51
  · have gh1 : j < K := Nat.not_le.mp (fun q => h1 ((nI_leI (a := K) (b := j) (by omega) (by omega)).mpr q))
    refine lv_aload_n hx hb dM_store_11 rfl (lv_at hl 1 rfl) ?_
    refine lv_iload_n hx hb dM_store_12 rfl (lv_at hl 2 rfl) ?_
    refine lv_iload_n hx hb dM_store_13 rfl (lv_at hl 3 rfl) ?_
    refine lv_iadd hx hb dM_store_14 ?_
    refine lv_topi (fun y9 e9 => ?_)
    cases (show y9 = nI (p0 + j) from e9.trans (nI_add p0 j))
    refine lv_aload_n hx hb dM_store_15 rfl (lv_at hl 0 rfl) ?_
    refine lv_iload_n hx hb dM_store_16 rfl (lv_at hl 3 rfl) ?_
    refine lq_iald (j := j) hx hb hK hP 0 0 rfl rfl rfl (by omega) (by omega) dM_store_17 ?_
    refine lq_iast (j := p0 + j) hx hb hK hP hD hS 1 0 rfl rfl rfl (by omega) (by omega) dM_store_18 (fun H locs hP hD hS => ?_)
    have hP : va_P D vwCl [(a, .inl (cT 0, 302, .inl f)), (c2, .inl (cT 0, N, .inl (upd g (p0 + j) (f j))))] _ := hP
    have hD : va_D A [(a, .inl (cT 0, 302, .inl f)), (c2, .inl (cT 0, N, .inl (upd g (p0 + j) (f j))))] := hD
    refine lv_iinc (k := 3) (v := nI (j + 1)) hx hb dM_store_19 hl rfl (nI_1 j) (by decide) rfl (fun ls hl => ?_)
    have hl : lv_has ls 4 [(3, .int (nI (j + 1))), (0, .ref a), (1, .ref c2), (2, .int (nI p0))] := hl
    refine lv_goto (tgt := 2) hx hb dM_store_22 rfl ?_
    exact ih2 (j + 1, upd g (p0 + j) (f j)) (show (j + 1) ≤ K ∧ (∀ q, q < (j + 1) → (upd g (p0 + j) (f j)) (p0 + q) = f q) ∧ (∀ q, q < p0 ∨ p0 + 132 ≤ q → (upd g (p0 + j) (f j)) q = f2 q) from ⟨by omega, fun q h => (by by_cases r : q = j; (subst r; exact pk_us); (exact (pk_un (by omega)).trans (ig q (by omega)))), fun q h => (pk_un (by omega)).trans (io q h)⟩) (show K - (j + 1) < K - j from (by omega)) ls H locs (lv_sub hl [1, 2, 3, 0] rfl) hP hD hS
set_option maxHeartbeats 4000000 in
set_option maxRecDepth 100000 in
theorem m_load (l : Launch) (D : va_G) (cT : Nat → ClassId) (c2 : Nat) (N : Nat) (f2 : Nat → Int32) (p0 : Nat) (z : Int) (a : Nat) (f : Nat → Int32) (hM : MR f2 p0 z) (hp0 : p0 + 132 ≤ N) (hN9 : N < 2 ^ 31) (sz : Nat) : Met l yM_load WM_load ({ frames := 0, cells := 0, slots := 0, locals := 0 } : Room) (RW D vwCl [.ref c2, .int (nI p0), .ref a] [(c2, .inl (cT 0, N, .inl f2)), (a, .inl (cT 0, 302, .inl f))] (TY cT) sz) (va_Qv (fun u9 : (Nat → Int32) => MN u9 z) (BW D vwCl (va_A [(c2, .inl (cT 0, N, .inl f2)), (a, .inl (cT 0, 302, .inl f))] sz) (fun u9 : (Nat → Int32) => [(c2, .inl (cT 0, N, .inl f2)), (a, .inl (cT 0, 302, .inl u9))])) (va_A [(c2, .inl (cT 0, N, .inl f2)), (a, .inl (cT 0, 302, .inl f))] sz)) 0 0 (va_A [(c2, .inl (cT 0, N, .inl f2)), (a, .inl (cT 0, 302, .inl f))] sz) := by
  refine Met.ofW (cc := cM_load) (maxL := 4) (ret := none) (by decide) rfl ?_
  intro p e s m args below meth c s₁ B hml hv
  obtain ⟨rfl, hsz, hZ, hP, hK, hD0⟩ := hv
  have hx := B.exec
  have hb := B.bytes
  have hr := B.returns
  have hts := atoms_spec (ws := WM_load) B.pre
  have hT : ∀ w ∈ TB, w.before _ s = true := fun w h => hts w (List.mem_cons_of_mem _ h)
  have hown : s.vm.findClass R_M = some m.cls := findClass_of_methodNamed B.named
  have hlocks := B.notSynchronized
  subst hsz
  have hD := hD0.self (sz := s.heap.size)
  generalize hAe : va_A [(c2, .inl (cT 0, N, .inl f2)), (a, .inl (cT 0, 302, .inl f))] s.heap.size = A at hD hZ ⊢
  have hA : ∀ q : Nat, s.heap.size ≤ q → A q := fun q h => by rw [← hAe]; exact Or.inr h
  have hS : va_S A s.heap s.heap [] := va_S.rf
  have hl := lv_entry ([.ref c2, .int (nI p0), .ref a]) (n := 4) (Nat.le_of_ble_eq_true rfl)
  rw [lg_entry_eq]
  generalize (lg_sl ([.ref c2, .int (nI p0), .ref a]) ++ List.replicate (4 - (lg_sl ([.ref c2, .int (nI p0), .ref a])).length) Slot.unset).toArray = ls at hl ⊢
  have hl : lv_has ls 4 [(0, .ref c2), (1, .int (nI p0)), (2, .ref a)] := hl
  obtain ⟨K, h300, hk, hd, htop, hs, hva⟩ := hM
  refine lv_iconst (v := 0) hx hb dM_load_0 (by decide) ?_
  refine lv_istore_n hx hb dM_load_1 rfl hl (by decide) rfl (fun ls hl => ?_)
  have hl : lv_has ls 4 [(3, .int 0), (0, .ref c2), (1, .int (nI p0)), (2, .ref a)] := hl
  refine lp_w (α := Nat × (Nat → Int32)) (fun a9 => a9.1 ≤ K ∧ (∀ q, q < a9.1 → a9.2 q = f2 (p0 + q))) (fun a9 => K - a9.1) (fun a9 => [(0, .ref c2), (1, .int (nI p0)), (2, .ref a), (3, .int (nI a9.1))]) (fun a9 => [(c2, .inl (cT 0, N, .inl f2)), (a, .inl (cT 0, 302, .inl a9.2))]) 2 ?_ (0, f) (show 0 ≤ K ∧ (∀ q, q < 0 → f q = f2 (p0 + q)) from ⟨by omega, fun q h => absurd h (by omega)⟩) (lv_sub hl [1, 2, 3, 0] rfl) hP hD hS
  intro a9 hI2 ih2 ls H locs hl hP hD hS
  obtain ⟨j, g⟩ := a9
  have hI2 : j ≤ K ∧ (∀ q, q < j → g q = f2 (p0 + q)) := hI2
  obtain ⟨ij, ig⟩ := hI2
  have hl : lv_has ls 4 [(0, .ref c2), (1, .int (nI p0)), (2, .ref a), (3, .int (nI j))] := hl
  have hP : va_P D vwCl [(c2, .inl (cT 0, N, .inl f2)), (a, .inl (cT 0, 302, .inl g))] _ := hP
  have hD : va_D A [(c2, .inl (cT 0, N, .inl f2)), (a, .inl (cT 0, 302, .inl g))] := hD
  refine lv_iload_n hx hb dM_load_2 rfl (lv_at hl 3 rfl) ?_
  refine lv_aload_n hx hb dM_load_3 rfl (lv_at hl 0 rfl) ?_
  refine lv_iload_n hx hb dM_load_4 rfl (lv_at hl 1 rfl) ?_
  refine lv_sipush (v := 130) hx hb dM_load_5 (by decide) ?_
  refine lv_iadd hx hb dM_load_8 ?_
  refine lv_topi (fun y9 e9 => ?_)
  cases (show y9 = nI (p0 + 130) from e9.trans (nI_add p0 130))
  refine lq_iald (j := p0 + 130) hx hb hK hP 0 0 rfl rfl rfl (by omega) (by omega) dM_load_9 ?_
  refine lv_topi (fun y9 e9 => ?_)
  cases (show y9 = nI K from e9.trans h300)
  refine lv_icmp_ge (tgt := 27) hx hb dM_load_10 rfl (fun h1 => ?_) (fun h1 => ?_)
  · have gh1 : K ≤ j := (nI_leI (a := K) (b := j) (by omega) (by omega)).mp h1
    refine lv_aload_n hx hb dM_load_27 rfl (lv_at hl 2 rfl) ?_
    refine lv_sipush (v := 300) hx hb dM_load_28 (by decide) ?_
    refine lv_aload_n hx hb dM_load_31 rfl (lv_at hl 0 rfl) ?_
    refine lv_iload_n hx hb dM_load_32 rfl (lv_at hl 1 rfl) ?_
    refine lv_sipush (v := 130) hx hb dM_load_33 (by decide) ?_
    refine lv_iadd hx hb dM_load_36 ?_
    refine lv_topi (fun y9 e9 => ?_)
    cases (show y9 = nI (p0 + 130) from e9.trans (nI_add p0 130))
    refine lq_iald (j := p0 + 130) hx hb hK hP 0 0 rfl rfl rfl (by omega) (by omega) dM_load_37 ?_
    refine lv_topi (fun y9 e9 => ?_)
    cases (show y9 = nI K from e9.trans h300)
    refine lq_iast (j := 300) hx hb hK hP hD hS 1 0 rfl rfl rfl (by decide) (by decide) dM_load_38 (fun H locs hP hD hS => ?_)
    have hP : va_P D vwCl [(c2, .inl (cT 0, N, .inl f2)), (a, .inl (cT 0, 302, .inl (upd g 300 (nI K))))] _ := hP
    have hD : va_D A [(c2, .inl (cT 0, N, .inl f2)), (a, .inl (cT 0, 302, .inl (upd g 300 (nI K))))] := hD
    refine lv_aload_n hx hb dM_load_39 rfl (lv_at hl 2 rfl) ?_
    refine lv_sipush (v := 301) hx hb dM_load_40 (by decide) ?_
    refine lv_aload_n hx hb dM_load_43 rfl (lv_at hl 0 rfl) ?_
    refine lv_iload_n hx hb dM_load_44 rfl (lv_at hl 1 rfl) ?_
    refine lv_sipush (v := 130) hx hb dM_load_45 (by decide) ?_
    refine lv_iadd hx hb dM_load_48 ?_
    refine lv_topi (fun y9 e9 => ?_)
    cases (show y9 = nI (p0 + 130) from e9.trans (nI_add p0 130))
    refine lv_iconst (v := 1) hx hb dM_load_49 (by decide) ?_
    refine lv_iadd hx hb dM_load_50 ?_
    refine lv_topi (fun y9 e9 => ?_)
    cases (show y9 = nI ((p0 + 130) + 1) from e9.trans (nI_add (p0 + 130) 1))
    refine lq_iald (j := (p0 + 130) + 1) hx hb hK hP 0 0 rfl rfl rfl (by omega) (by omega) dM_load_51 ?_
    refine lv_topi (fun y9 e9 => ?_)
    cases (show y9 = sg z from e9.trans hs)
    refine lq_iast (j := 301) hx hb hK hP hD hS 1 0 rfl rfl rfl (by decide) (by decide) dM_load_52 (fun H locs hP hD hS => ?_)
    have hP : va_P D vwCl [(c2, .inl (cT 0, N, .inl f2)), (a, .inl (cT 0, 302, .inl (upd (upd g 300 (nI K)) 301 (sg z))))] _ := hP
    have hD : va_D A [(c2, .inl (cT 0, N, .inl f2)), (a, .inl (cT 0, 302, .inl (upd (upd g 300 (nI K)) 301 (sg z))))] := hD
    have hP9 := hP.sub (ws' := [(c2, .inl (cT 0, N, .inl f2)), (a, .inl (cT 0, 302, .inl (upd (upd g 300 (nI K)) 301 (sg z))))]) [0, 1] rfl
    have hD9 := hD.sub (ws' := [(c2, .inl (cT 0, N, .inl f2)), (a, .inl (cT 0, 302, .inl (upd (upd g 300 (nI K)) 301 (sg z))))]) [0, 1] (by decide) rfl
    refine W.widen (k := 0) (n := 0) (Nat.le_of_ble_eq_true rfl) (Nat.le_of_ble_eq_true rfl) ?_
    exact W.vret hx hb hr (fun t ht hW => ⟨⟨(upd (upd g 300 (nI K)) 301 (sg z)), rfl, (show MN (upd (upd g 300 (nI K)) 301 (sg z)) z from mn_mk (f := sh p0 f2) (by omega) hd htop hva (fun q hq => (pk_un (by omega)).trans ((pk_un (by omega)).trans (ig q (by omega)))) ((pk_un (by decide)).trans pk_us) pk_us), by rw [ht]; exact hP9, hD9⟩, hS.F ht⟩) hS.2.2 dM_load_53
  · have gh1 : j < K := Nat.not_le.mp (fun q => h1 ((nI_leI (a := K) (b := j) (by omega) (by omega)).mpr q))
    refine lv_aload_n hx hb dM_load_13 rfl (lv_at hl 2 rfl) ?_
    refine lv_iload_n hx hb dM_load_14 rfl (lv_at hl 3 rfl) ?_
    refine lv_aload_n hx hb dM_load_15 rfl (lv_at hl 0 rfl) ?_
    refine lv_iload_n hx hb dM_load_16 rfl (lv_at hl 1 rfl) ?_
    refine lv_iload_n hx hb dM_load_17 rfl (lv_at hl 3 rfl) ?_
    refine lv_iadd hx hb dM_load_18 ?_
    refine lv_topi (fun y9 e9 => ?_)
    cases (show y9 = nI (p0 + j) from e9.trans (nI_add p0 j))
    refine lq_iald (j := p0 + j) hx hb hK hP 0 0 rfl rfl rfl (by omega) (by omega) dM_load_19 ?_
    refine lq_iast (j := j) hx hb hK hP hD hS 1 0 rfl rfl rfl (by omega) (by omega) dM_load_20 (fun H locs hP hD hS => ?_)
    have hP : va_P D vwCl [(c2, .inl (cT 0, N, .inl f2)), (a, .inl (cT 0, 302, .inl (upd g j (f2 (p0 + j)))))] _ := hP
    have hD : va_D A [(c2, .inl (cT 0, N, .inl f2)), (a, .inl (cT 0, 302, .inl (upd g j (f2 (p0 + j)))))] := hD
    refine lv_iinc (k := 3) (v := nI (j + 1)) hx hb dM_load_21 hl rfl (nI_1 j) (by decide) rfl (fun ls hl => ?_)
    have hl : lv_has ls 4 [(3, .int (nI (j + 1))), (0, .ref c2), (1, .int (nI p0)), (2, .ref a)] := hl
    refine lv_goto (tgt := 2) hx hb dM_load_24 rfl ?_
    exact ih2 (j + 1, upd g j (f2 (p0 + j))) (show (j + 1) ≤ K ∧ (∀ q, q < (j + 1) → (upd g j (f2 (p0 + j))) q = f2 (p0 + q)) from ⟨by omega, fun q h => (by by_cases r : q = j; (subst r; exact pk_us); (exact (pk_un r).trans (ig q (by omega))))⟩) (show K - (j + 1) < K - j from (by omega)) ls H locs (lv_sub hl [1, 2, 3, 0] rfl) hP hD hS
set_option maxHeartbeats 4000000 in
set_option maxRecDepth 100000 in
theorem m_storeL (l : Launch) (D : va_G) (cT : Nat → ClassId) (a : Nat) (f : Nat → Int32) (c2 : Nat) (N : Nat) (f2 : Nat → Int32) (p0 : Nat) (hp0 : p0 + 19 ≤ N) (hN9 : N < 2 ^ 31) (sz : Nat) : Met l yM_storeLows WM_storeLows ({ frames := 0, cells := 0, slots := 0, locals := 0 } : Room) (RW D vwCl [.ref a, .ref c2, .int (nI p0)] [(a, .inl (cT 0, 19, .inl f)), (c2, .inl (cT 0, N, .inl f2))] (TY cT) sz) (va_Qv (fun u9 : (Nat → Int32) => (∀ q8, q8 < 19 → u9 (p0 + q8) = f q8) ∧ ∀ q8, q8 < p0 ∨ p0 + 19 ≤ q8 → u9 q8 = f2 q8) (BW D vwCl (va_A [(a, .inl (cT 0, 19, .inl f)), (c2, .inl (cT 0, N, .inl f2))] sz) (fun u9 : (Nat → Int32) => [(a, .inl (cT 0, 19, .inl f)), (c2, .inl (cT 0, N, .inl u9))])) (va_A [(a, .inl (cT 0, 19, .inl f)), (c2, .inl (cT 0, N, .inl f2))] sz)) 0 0 (va_A [(a, .inl (cT 0, 19, .inl f)), (c2, .inl (cT 0, N, .inl f2))] sz) := by
  refine Met.ofW (cc := cM_storeLows) (maxL := 4) (ret := none) (by decide) rfl ?_
  intro p e s m args below meth c s₁ B hml hv
  obtain ⟨rfl, hsz, hZ, hP, hK, hD0⟩ := hv
  have hx := B.exec
  have hb := B.bytes
  have hr := B.returns
  have hts := atoms_spec (ws := WM_storeLows) B.pre
  have hT : ∀ w ∈ TB, w.before _ s = true := fun w h => hts w (List.mem_cons_of_mem _ h)
  have hown : s.vm.findClass R_M = some m.cls := findClass_of_methodNamed B.named
  have hlocks := B.notSynchronized
  subst hsz
  have hD := hD0.self (sz := s.heap.size)
  generalize hAe : va_A [(a, .inl (cT 0, 19, .inl f)), (c2, .inl (cT 0, N, .inl f2))] s.heap.size = A at hD hZ ⊢
  have hA : ∀ q : Nat, s.heap.size ≤ q → A q := fun q h => by rw [← hAe]; exact Or.inr h
  have hS : va_S A s.heap s.heap [] := va_S.rf
  have hl := lv_entry ([.ref a, .ref c2, .int (nI p0)]) (n := 4) (Nat.le_of_ble_eq_true rfl)
  rw [lg_entry_eq]
  generalize (lg_sl ([.ref a, .ref c2, .int (nI p0)]) ++ List.replicate (4 - (lg_sl ([.ref a, .ref c2, .int (nI p0)])).length) Slot.unset).toArray = ls at hl ⊢
  have hl : lv_has ls 4 [(0, .ref a), (1, .ref c2), (2, .int (nI p0))] := hl
  refine lv_iconst (v := 0) hx hb dM_storeLows_0 (by decide) ?_
  refine lv_istore_n hx hb dM_storeLows_1 rfl hl (by decide) rfl (fun ls hl => ?_)
  have hl : lv_has ls 4 [(3, .int 0), (0, .ref a), (1, .ref c2), (2, .int (nI p0))] := hl
  refine lp_w (α := Nat × (Nat → Int32)) (fun a9 => a9.1 ≤ 19 ∧ (∀ q, q < a9.1 → a9.2 (p0 + q) = f q) ∧ (∀ q, q < p0 ∨ p0 + 19 ≤ q → a9.2 q = f2 q)) (fun a9 => 19 - a9.1) (fun a9 => [(0, .ref a), (1, .ref c2), (2, .int (nI p0)), (3, .int (nI a9.1))]) (fun a9 => [(a, .inl (cT 0, 19, .inl f)), (c2, .inl (cT 0, N, .inl a9.2))]) 2 ?_ (0, f2) (show 0 ≤ 19 ∧ (∀ q, q < 0 → f2 (p0 + q) = f q) ∧ (∀ q, q < p0 ∨ p0 + 19 ≤ q → f2 q = f2 q) from ⟨by omega, fun q h => absurd h (by omega), fun _ _ => rfl⟩) (lv_sub hl [1, 2, 3, 0] rfl) hP hD hS
  intro a9 hI2 ih2 ls H locs hl hP hD hS
  obtain ⟨j, g⟩ := a9
  have hI2 : j ≤ 19 ∧ (∀ q, q < j → g (p0 + q) = f q) ∧ (∀ q, q < p0 ∨ p0 + 19 ≤ q → g q = f2 q) := hI2
  obtain ⟨ij, ig, io⟩ := hI2
  have hl : lv_has ls 4 [(0, .ref a), (1, .ref c2), (2, .int (nI p0)), (3, .int (nI j))] := hl
  have hP : va_P D vwCl [(a, .inl (cT 0, 19, .inl f)), (c2, .inl (cT 0, N, .inl g))] _ := hP
  have hD : va_D A [(a, .inl (cT 0, 19, .inl f)), (c2, .inl (cT 0, N, .inl g))] := hD
  refine lv_iload_n hx hb dM_storeLows_2 rfl (lv_at hl 3 rfl) ?_
  refine lv_bipush (v := 19) hx hb dM_storeLows_3 (by decide) ?_
  refine lv_icmp_ge (tgt := 22) hx hb dM_storeLows_5 rfl (fun h1 => ?_) (fun h1 => ?_)
  · have gh1 : 19 ≤ j := (nI_leI (a := 19) (b := j) (by omega) (by omega)).mp h1
    have hP9 := hP.sub (ws' := [(a, .inl (cT 0, 19, .inl f)), (c2, .inl (cT 0, N, .inl g))]) [0, 1] rfl
    have hD9 := hD.sub (ws' := [(a, .inl (cT 0, 19, .inl f)), (c2, .inl (cT 0, N, .inl g))]) [0, 1] (by decide) rfl
    refine W.widen (k := 0) (n := 0) (Nat.le_of_ble_eq_true rfl) (Nat.le_of_ble_eq_true rfl) ?_
    exact W.vret hx hb hr (fun t ht hW => ⟨⟨g, rfl, (show (∀ q8, q8 < 19 → g (p0 + q8) = f q8) ∧ ∀ q8, q8 < p0 ∨ p0 + 19 ≤ q8 → g q8 = f2 q8 from ⟨fun q hq => ig q (by omega), io⟩), by rw [ht]; exact hP9, hD9⟩, hS.F ht⟩) hS.2.2 dM_storeLows_22
  · have gh1 : j < 19 := Nat.not_le.mp (fun q => h1 ((nI_leI (a := 19) (b := j) (by omega) (by omega)).mpr q))
    refine lv_aload_n hx hb dM_storeLows_8 rfl (lv_at hl 1 rfl) ?_
    refine lv_iload_n hx hb dM_storeLows_9 rfl (lv_at hl 2 rfl) ?_
    refine lv_iload_n hx hb dM_storeLows_10 rfl (lv_at hl 3 rfl) ?_
    refine lv_iadd hx hb dM_storeLows_11 ?_
    refine lv_topi (fun y9 e9 => ?_)
    cases (show y9 = nI (p0 + j) from e9.trans (nI_add p0 j))
    refine lv_aload_n hx hb dM_storeLows_12 rfl (lv_at hl 0 rfl) ?_
    refine lv_iload_n hx hb dM_storeLows_13 rfl (lv_at hl 3 rfl) ?_
    refine lq_iald (j := j) hx hb hK hP 0 0 rfl rfl rfl (by omega) (by omega) dM_storeLows_14 ?_
    refine lq_iast (j := p0 + j) hx hb hK hP hD hS 1 0 rfl rfl rfl (by omega) (by omega) dM_storeLows_15 (fun H locs hP hD hS => ?_)
    have hP : va_P D vwCl [(a, .inl (cT 0, 19, .inl f)), (c2, .inl (cT 0, N, .inl (upd g (p0 + j) (f j))))] _ := hP
    have hD : va_D A [(a, .inl (cT 0, 19, .inl f)), (c2, .inl (cT 0, N, .inl (upd g (p0 + j) (f j))))] := hD
    refine lv_iinc (k := 3) (v := nI (j + 1)) hx hb dM_storeLows_16 hl rfl (nI_1 j) (by decide) rfl (fun ls hl => ?_)
    have hl : lv_has ls 4 [(3, .int (nI (j + 1))), (0, .ref a), (1, .ref c2), (2, .int (nI p0))] := hl
    refine lv_goto (tgt := 2) hx hb dM_storeLows_19 rfl ?_
    exact ih2 (j + 1, upd g (p0 + j) (f j)) (show (j + 1) ≤ 19 ∧ (∀ q, q < (j + 1) → (upd g (p0 + j) (f j)) (p0 + q) = f q) ∧ (∀ q, q < p0 ∨ p0 + 19 ≤ q → (upd g (p0 + j) (f j)) q = f2 q) from ⟨by omega, fun q h => (by by_cases r : q = j; (subst r; exact pk_us); (exact (pk_un (by omega)).trans (ig q (by omega)))), fun q h => (pk_un (by omega)).trans (io q h)⟩) (show 19 - (j + 1) < 19 - j from (by omega)) ls H locs (lv_sub hl [1, 2, 3, 0] rfl) hP hD hS
set_option maxHeartbeats 4000000 in
set_option maxRecDepth 100000 in
theorem m_loadL (l : Launch) (D : va_G) (cT : Nat → ClassId) (c2 : Nat) (N : Nat) (f2 : Nat → Int32) (p0 : Nat) (a : Nat) (f : Nat → Int32) (hp0 : p0 + 19 ≤ N) (hN9 : N < 2 ^ 31) (sz : Nat) : Met l yM_loadLows WM_loadLows ({ frames := 0, cells := 0, slots := 0, locals := 0 } : Room) (RW D vwCl [.ref c2, .int (nI p0), .ref a] [(c2, .inl (cT 0, N, .inl f2)), (a, .inl (cT 0, 19, .inl f))] (TY cT) sz) (va_Qv (fun u9 : (Nat → Int32) => ∀ q8, q8 < 19 → u9 q8 = f2 (p0 + q8)) (BW D vwCl (va_A [(c2, .inl (cT 0, N, .inl f2)), (a, .inl (cT 0, 19, .inl f))] sz) (fun u9 : (Nat → Int32) => [(c2, .inl (cT 0, N, .inl f2)), (a, .inl (cT 0, 19, .inl u9))])) (va_A [(c2, .inl (cT 0, N, .inl f2)), (a, .inl (cT 0, 19, .inl f))] sz)) 0 0 (va_A [(c2, .inl (cT 0, N, .inl f2)), (a, .inl (cT 0, 19, .inl f))] sz) := by
  refine Met.ofW (cc := cM_loadLows) (maxL := 4) (ret := none) (by decide) rfl ?_
  intro p e s m args below meth c s₁ B hml hv
  obtain ⟨rfl, hsz, hZ, hP, hK, hD0⟩ := hv
  have hx := B.exec
  have hb := B.bytes
  have hr := B.returns
  have hts := atoms_spec (ws := WM_loadLows) B.pre
  have hT : ∀ w ∈ TB, w.before _ s = true := fun w h => hts w (List.mem_cons_of_mem _ h)
  have hown : s.vm.findClass R_M = some m.cls := findClass_of_methodNamed B.named
  have hlocks := B.notSynchronized
  subst hsz
  have hD := hD0.self (sz := s.heap.size)
  generalize hAe : va_A [(c2, .inl (cT 0, N, .inl f2)), (a, .inl (cT 0, 19, .inl f))] s.heap.size = A at hD hZ ⊢
  have hA : ∀ q : Nat, s.heap.size ≤ q → A q := fun q h => by rw [← hAe]; exact Or.inr h
  have hS : va_S A s.heap s.heap [] := va_S.rf
  have hl := lv_entry ([.ref c2, .int (nI p0), .ref a]) (n := 4) (Nat.le_of_ble_eq_true rfl)
  rw [lg_entry_eq]
  generalize (lg_sl ([.ref c2, .int (nI p0), .ref a]) ++ List.replicate (4 - (lg_sl ([.ref c2, .int (nI p0), .ref a])).length) Slot.unset).toArray = ls at hl ⊢
  have hl : lv_has ls 4 [(0, .ref c2), (1, .int (nI p0)), (2, .ref a)] := hl
  refine lv_iconst (v := 0) hx hb dM_loadLows_0 (by decide) ?_
  refine lv_istore_n hx hb dM_loadLows_1 rfl hl (by decide) rfl (fun ls hl => ?_)
  have hl : lv_has ls 4 [(3, .int 0), (0, .ref c2), (1, .int (nI p0)), (2, .ref a)] := hl
  refine lp_w (α := Nat × (Nat → Int32)) (fun a9 => a9.1 ≤ 19 ∧ (∀ q, q < a9.1 → a9.2 q = f2 (p0 + q))) (fun a9 => 19 - a9.1) (fun a9 => [(0, .ref c2), (1, .int (nI p0)), (2, .ref a), (3, .int (nI a9.1))]) (fun a9 => [(c2, .inl (cT 0, N, .inl f2)), (a, .inl (cT 0, 19, .inl a9.2))]) 2 ?_ (0, f) (show 0 ≤ 19 ∧ (∀ q, q < 0 → f q = f2 (p0 + q)) from ⟨by omega, fun q h => absurd h (by omega)⟩) (lv_sub hl [1, 2, 3, 0] rfl) hP hD hS
  intro a9 hI2 ih2 ls H locs hl hP hD hS
  obtain ⟨j, g⟩ := a9
  have hI2 : j ≤ 19 ∧ (∀ q, q < j → g q = f2 (p0 + q)) := hI2
  obtain ⟨ij, ig⟩ := hI2
  have hl : lv_has ls 4 [(0, .ref c2), (1, .int (nI p0)), (2, .ref a), (3, .int (nI j))] := hl
  have hP : va_P D vwCl [(c2, .inl (cT 0, N, .inl f2)), (a, .inl (cT 0, 19, .inl g))] _ := hP
  have hD : va_D A [(c2, .inl (cT 0, N, .inl f2)), (a, .inl (cT 0, 19, .inl g))] := hD
  refine lv_iload_n hx hb dM_loadLows_2 rfl (lv_at hl 3 rfl) ?_
  refine lv_bipush (v := 19) hx hb dM_loadLows_3 (by decide) ?_
  refine lv_icmp_ge (tgt := 22) hx hb dM_loadLows_5 rfl (fun h1 => ?_) (fun h1 => ?_)
  · have gh1 : 19 ≤ j := (nI_leI (a := 19) (b := j) (by omega) (by omega)).mp h1
    have hP9 := hP.sub (ws' := [(c2, .inl (cT 0, N, .inl f2)), (a, .inl (cT 0, 19, .inl g))]) [0, 1] rfl
    have hD9 := hD.sub (ws' := [(c2, .inl (cT 0, N, .inl f2)), (a, .inl (cT 0, 19, .inl g))]) [0, 1] (by decide) rfl
    refine W.widen (k := 0) (n := 0) (Nat.le_of_ble_eq_true rfl) (Nat.le_of_ble_eq_true rfl) ?_
    exact W.vret hx hb hr (fun t ht hW => ⟨⟨g, rfl, (show ∀ q8, q8 < 19 → g q8 = f2 (p0 + q8) from fun q hq => ig q (by omega)), by rw [ht]; exact hP9, hD9⟩, hS.F ht⟩) hS.2.2 dM_loadLows_22
  · have gh1 : j < 19 := Nat.not_le.mp (fun q => h1 ((nI_leI (a := 19) (b := j) (by omega) (by omega)).mpr q))
    refine lv_aload_n hx hb dM_loadLows_8 rfl (lv_at hl 2 rfl) ?_
    refine lv_iload_n hx hb dM_loadLows_9 rfl (lv_at hl 3 rfl) ?_
    refine lv_aload_n hx hb dM_loadLows_10 rfl (lv_at hl 0 rfl) ?_
    refine lv_iload_n hx hb dM_loadLows_11 rfl (lv_at hl 1 rfl) ?_
    refine lv_iload_n hx hb dM_loadLows_12 rfl (lv_at hl 3 rfl) ?_
    refine lv_iadd hx hb dM_loadLows_13 ?_
    refine lv_topi (fun y9 e9 => ?_)
    cases (show y9 = nI (p0 + j) from e9.trans (nI_add p0 j))
    refine lq_iald (j := p0 + j) hx hb hK hP 0 0 rfl rfl rfl (by omega) (by omega) dM_loadLows_14 ?_
    refine lq_iast (j := j) hx hb hK hP hD hS 1 0 rfl rfl rfl (by omega) (by omega) dM_loadLows_15 (fun H locs hP hD hS => ?_)
    have hP : va_P D vwCl [(c2, .inl (cT 0, N, .inl f2)), (a, .inl (cT 0, 19, .inl (upd g j (f2 (p0 + j)))))] _ := hP
    have hD : va_D A [(c2, .inl (cT 0, N, .inl f2)), (a, .inl (cT 0, 19, .inl (upd g j (f2 (p0 + j)))))] := hD
    refine lv_iinc (k := 3) (v := nI (j + 1)) hx hb dM_loadLows_16 hl rfl (nI_1 j) (by decide) rfl (fun ls hl => ?_)
    have hl : lv_has ls 4 [(3, .int (nI (j + 1))), (0, .ref c2), (1, .int (nI p0)), (2, .ref a)] := hl
    refine lv_goto (tgt := 2) hx hb dM_loadLows_19 rfl ?_
    exact ih2 (j + 1, upd g j (f2 (p0 + j))) (show (j + 1) ≤ 19 ∧ (∀ q, q < (j + 1) → (upd g j (f2 (p0 + j))) q = f2 (p0 + q)) from ⟨by omega, fun q h => (by by_cases r : q = j; (subst r; exact pk_us); (exact (pk_un r).trans (ig q (by omega))))⟩) (show 19 - (j + 1) < 19 - j from (by omega)) ls H locs (lv_sub hl [1, 2, 3, 0] rfl) hP hD hS
set_option maxHeartbeats 4000000 in
set_option maxRecDepth 100000 in
theorem m_zero (l : Launch) (D : va_G) (cT : Nat → ClassId) (a : Nat) (f : Nat → Int32) (sz : Nat) : Met l yM_zero WM_zero ({ frames := 0, cells := 0, slots := 0, locals := 0 } : Room) (RW D vwCl [.ref a] [(a, .inl (cT 0, 19, .inl f))] (TY cT) sz) (va_Qv (fun u9 : (Nat → Int32) => ∀ q8, q8 < 19 → u9 q8 = 0) (BW D vwCl (va_A [(a, .inl (cT 0, 19, .inl f))] sz) (fun u9 : (Nat → Int32) => [(a, .inl (cT 0, 19, .inl u9))])) (va_A [(a, .inl (cT 0, 19, .inl f))] sz)) 0 0 (va_A [(a, .inl (cT 0, 19, .inl f))] sz) := by
  refine Met.ofW (cc := cM_zero) (maxL := 2) (ret := none) (by decide) rfl ?_
  intro p e s m args below meth c s₁ B hml hv
  obtain ⟨rfl, hsz, hZ, hP, hK, hD0⟩ := hv
  have hx := B.exec
  have hb := B.bytes
  have hr := B.returns
  have hts := atoms_spec (ws := WM_zero) B.pre
  have hT : ∀ w ∈ TB, w.before _ s = true := fun w h => hts w (List.mem_cons_of_mem _ h)
  have hown : s.vm.findClass R_M = some m.cls := findClass_of_methodNamed B.named
  have hlocks := B.notSynchronized
  subst hsz
  have hD := hD0.self (sz := s.heap.size)
  generalize hAe : va_A [(a, .inl (cT 0, 19, .inl f))] s.heap.size = A at hD hZ ⊢
  have hA : ∀ q : Nat, s.heap.size ≤ q → A q := fun q h => by rw [← hAe]; exact Or.inr h
  have hS : va_S A s.heap s.heap [] := va_S.rf
  have hl := lv_entry ([.ref a]) (n := 2) (Nat.le_of_ble_eq_true rfl)
  rw [lg_entry_eq]
  generalize (lg_sl ([.ref a]) ++ List.replicate (2 - (lg_sl ([.ref a])).length) Slot.unset).toArray = ls at hl ⊢
  have hl : lv_has ls 2 [(0, .ref a)] := hl
  refine lv_iconst (v := 0) hx hb dM_zero_0 (by decide) ?_
  refine lv_istore_n hx hb dM_zero_1 rfl hl (by decide) rfl (fun ls hl => ?_)
  have hl : lv_has ls 2 [(1, .int 0), (0, .ref a)] := hl
  refine lp_w (α := Nat × (Nat → Int32)) (fun a9 => a9.1 ≤ 19 ∧ (∀ q, q < a9.1 → a9.2 q = 0)) (fun a9 => 19 - a9.1) (fun a9 => [(0, .ref a), (1, .int (nI a9.1))]) (fun a9 => [(a, .inl (cT 0, 19, .inl a9.2))]) 2 ?_ (0, f) (show 0 ≤ 19 ∧ (∀ q, q < 0 → f q = 0) from ⟨by omega, fun q h => absurd h (by omega)⟩) (lv_sub hl [1, 0] rfl) hP hD hS
  intro a9 hI2 ih2 ls H locs hl hP hD hS
  obtain ⟨j, g⟩ := a9
  have hI2 : j ≤ 19 ∧ (∀ q, q < j → g q = 0) := hI2
  obtain ⟨ij, ig⟩ := hI2
  have hl : lv_has ls 2 [(0, .ref a), (1, .int (nI j))] := hl
  have hP : va_P D vwCl [(a, .inl (cT 0, 19, .inl g))] _ := hP
  have hD : va_D A [(a, .inl (cT 0, 19, .inl g))] := hD
  refine lv_iload_n hx hb dM_zero_2 rfl (lv_at hl 1 rfl) ?_
  refine lv_bipush (v := 19) hx hb dM_zero_3 (by decide) ?_
  refine lv_icmp_ge (tgt := 18) hx hb dM_zero_5 rfl (fun h1 => ?_) (fun h1 => ?_)
  · have gh1 : 19 ≤ j := (nI_leI (a := 19) (b := j) (by omega) (by omega)).mp h1
    have hP9 := hP.sub (ws' := [(a, .inl (cT 0, 19, .inl g))]) [0] rfl
    have hD9 := hD.sub (ws' := [(a, .inl (cT 0, 19, .inl g))]) [0] (by decide) rfl
    refine W.widen (k := 0) (n := 0) (Nat.le_of_ble_eq_true rfl) (Nat.le_of_ble_eq_true rfl) ?_
    exact W.vret hx hb hr (fun t ht hW => ⟨⟨g, rfl, (show ∀ q8, q8 < 19 → g q8 = 0 from fun q hq => ig q (by omega)), by rw [ht]; exact hP9, hD9⟩, hS.F ht⟩) hS.2.2 dM_zero_18
  · have gh1 : j < 19 := Nat.not_le.mp (fun q => h1 ((nI_leI (a := 19) (b := j) (by omega) (by omega)).mpr q))
    refine lv_aload_n hx hb dM_zero_8 rfl (lv_at hl 0 rfl) ?_
    refine lv_iload_n hx hb dM_zero_9 rfl (lv_at hl 1 rfl) ?_
    refine lv_iconst (v := 0) hx hb dM_zero_10 (by decide) ?_
    refine lq_iast (j := j) hx hb hK hP hD hS 0 0 rfl rfl rfl (by omega) (by omega) dM_zero_11 (fun H locs hP hD hS => ?_)
    have hP : va_P D vwCl [(a, .inl (cT 0, 19, .inl (upd g j 0)))] _ := hP
    have hD : va_D A [(a, .inl (cT 0, 19, .inl (upd g j 0)))] := hD
    refine lv_iinc (k := 1) (v := nI (j + 1)) hx hb dM_zero_12 hl rfl (nI_1 j) (by decide) rfl (fun ls hl => ?_)
    have hl : lv_has ls 2 [(1, .int (nI (j + 1))), (0, .ref a)] := hl
    refine lv_goto (tgt := 2) hx hb dM_zero_15 rfl ?_
    exact ih2 (j + 1, upd g j 0) (show (j + 1) ≤ 19 ∧ (∀ q, q < (j + 1) → (upd g j 0) q = 0) from ⟨by omega, fun q h => (by by_cases r : q = j; (subst r; exact pk_us); (exact (pk_un r).trans (ig q (by omega))))⟩) (show 19 - (j + 1) < 19 - j from (by omega)) ls H locs (lv_sub hl [1, 0] rfl) hP hD hS
