set_option maxHeartbeats 4000000 in
set_option maxRecDepth 100000 in
theorem k_trim (l : Launch) (D : va_G) (cT : Nat → ClassId) (h : Nat) (w : Nat) (R : Nat) (n : Int32) (b : Int32) (f : Nat → Int32) (k0 : Nat) (hR : R ≤ 48) (hk0 : k0 ≤ R) (hd : dok 1000000000 f k0) (sz : Nat) : Met l yW_trim WW_trim ({ frames := 0, cells := 0, slots := 0, locals := 0 } : Room) (RW D vwCl [.ref h, .int (nI k0)] [(h, .inr (4, [.ref w, .int n, .int b])), (w, .inl (cT 0, R, .inl f))] (TY cT) sz) (va_Qv (fun u9 : Nat => u9 ≤ k0 ∧ top0 f u9 ∧ vW f u9 = vW f k0) (BW D vwCl (va_A [(h, .inr (4, [.ref w, .int n, .int b])), (w, .inl (cT 0, R, .inl f))] sz) (fun u9 : Nat => [(h, .inr (4, [.ref w, .int (nI u9), .int b])), (w, .inl (cT 0, R, .inl f))])) (va_A [(h, .inr (4, [.ref w, .int n, .int b])), (w, .inl (cT 0, R, .inl f))] sz)) 0 0 (va_A [(h, .inr (4, [.ref w, .int n, .int b])), (w, .inl (cT 0, R, .inl f))] sz) := by
  refine Met.ofW (cc := cW_trim) (maxL := 2) (ret := none) (by decide) rfl ?_
  intro p e s m args below meth c s₁ B hml hv
  obtain ⟨rfl, hsz, hZ, hP, hK, hD0⟩ := hv
  have hx := B.exec
  have hb := B.bytes
  have hr := B.returns
  have hts := atoms_spec (ws := WW_trim) B.pre
  have hT : ∀ w ∈ TB, w.before _ s = true := fun w h => hts w (List.mem_cons_of_mem _ h)
  have hown : s.vm.findClass R_W = some m.cls := findClass_of_methodNamed B.named
  have hlocks := B.notSynchronized
  subst hsz
  have hD := hD0.self (sz := s.heap.size)
  generalize hAe : va_A [(h, .inr (4, [.ref w, .int n, .int b])), (w, .inl (cT 0, R, .inl f))] s.heap.size = A at hD hZ ⊢
  have hA : ∀ q : Nat, s.heap.size ≤ q → A q := fun q h => by rw [← hAe]; exact Or.inr h
  have hS : va_S A s.heap s.heap [] := va_S.rf
  have hl := lv_entry ([.ref h, .int (nI k0)]) (n := 2) (Nat.le_of_ble_eq_true rfl)
  rw [lg_entry_eq]
  generalize (lg_sl ([.ref h, .int (nI k0)]) ++ List.replicate (2 - (lg_sl ([.ref h, .int (nI k0)])).length) Slot.unset).toArray = ls at hl ⊢
  have hl : lv_has ls 2 [(0, .ref h), (1, .int (nI k0))] := hl
  refine lv_aload_n hx hb dW_trim_0 rfl (lv_at hl 0 rfl) ?_
  refine lv_iload_n hx hb dW_trim_1 rfl (lv_at hl 1 rfl) ?_
  refine va_put (D := D) (ci := 4) (v := .int (nI k0)) (ty := .int) (C := R_W) (T := T_W) (N := 3) hx hb hT in_W ty_W ty_W_ok m_W hown hK hP hD hS 0 rfl rfl 1 (by decide) (hT _ w148) (fun _ h9 => h9) rfl (by decide +kernel) rfl rfl (Nat.le_of_ble_eq_true rfl) dW_trim_2 (fun H locs hP hD hS => ?_)
  have hP : va_P D vwCl [(h, .inr (4, [.ref w, .int (nI k0), .int b])), (w, .inl (cT 0, R, .inl f))] _ := hP
  have hD : va_D A [(h, .inr (4, [.ref w, .int (nI k0), .int b])), (w, .inl (cT 0, R, .inl f))] := hD
  refine lp_w (α := Nat) (fun a9 => a9 ≤ k0 ∧ vW f a9 = vW f k0) (fun a9 => a9) (fun a9 => [(0, .ref h)]) (fun a9 => [(h, .inr (4, [.ref w, .int (nI a9), .int b])), (w, .inl (cT 0, R, .inl f))]) 5 ?_ k0 (show k0 ≤ k0 ∧ vW f k0 = vW f k0 from ⟨Nat.le_refl _, rfl⟩) (lv_sub hl [0] rfl) hP hD hS
  intro a9 hI5 ih5 ls H locs hl hP hD hS
  obtain ⟨k, rfl⟩ : ∃ q9, q9 = a9 := ⟨_, rfl⟩
  have hI5 : k ≤ k0 ∧ vW f k = vW f k0 := hI5
  obtain ⟨ik, iv⟩ := hI5
  have hl : lv_has ls 2 [(0, .ref h)] := hl
  have hP : va_P D vwCl [(h, .inr (4, [.ref w, .int (nI k), .int b])), (w, .inl (cT 0, R, .inl f))] _ := hP
  have hD : va_D A [(h, .inr (4, [.ref w, .int (nI k), .int b])), (w, .inl (cT 0, R, .inl f))] := hD
  refine lv_aload_n hx hb dW_trim_5 rfl (lv_at hl 0 rfl) ?_
  refine va_get (D := D) (ci := 4) (v := .int (nI k)) (C := R_W) (T := T_W) (N := 3) hx hb hT in_W hown hK hP 0 rfl rfl 1 (by decide) (hT _ w148) (fun _ h9 => h9) rfl dW_trim_6 ?_
  refine lv_if_le (tgt := 39) hx hb dW_trim_9 rfl (fun h1 => ?_) (fun h1 => ?_)
  · have gh1 : k ≤ 0 := (nI_leI (a := k) (b := 0) (by omega) (by omega)).mp h1
    have hP9 := hP.sub (ws' := [(h, .inr (4, [.ref w, .int (nI k), .int b])), (w, .inl (cT 0, R, .inl f))]) [0, 1] rfl
    have hD9 := hD.sub (ws' := [(h, .inr (4, [.ref w, .int (nI k), .int b])), (w, .inl (cT 0, R, .inl f))]) [0, 1] (by decide) rfl
    refine W.widen (k := 0) (n := 0) (Nat.le_of_ble_eq_true rfl) (Nat.le_of_ble_eq_true rfl) ?_
    exact W.vret hx hb hr (fun t9 ht9 hW9 => ⟨⟨k, rfl, (show k ≤ k0 ∧ top0 f k ∧ vW f k = vW f k0 from ⟨ik, fun q => absurd q (by omega), iv⟩), by rw [ht9]; exact hP9, hD9⟩, hS.F ht9⟩) hS.2.2 dW_trim_39
  · have gh1 : 0 < k := Nat.not_le.mp (fun q => h1 ((nI_leI (a := k) (b := 0) (by omega) (by omega)).mpr q))
    refine lv_aload_n hx hb dW_trim_12 rfl (lv_at hl 0 rfl) ?_
    refine va_get (D := D) (ci := 4) (v := .ref w) (C := R_W) (T := T_W) (N := 3) hx hb hT in_W hown hK hP 0 rfl rfl 0 (by decide) (hT _ w145) (fun _ h9 => h9) rfl dW_trim_13 ?_
    refine lv_aload_n hx hb dW_trim_16 rfl (lv_at hl 0 rfl) ?_
    refine va_get (D := D) (ci := 4) (v := .int (nI k)) (C := R_W) (T := T_W) (N := 3) hx hb hT in_W hown hK hP 0 rfl rfl 1 (by decide) (hT _ w148) (fun _ h9 => h9) rfl dW_trim_17 ?_
    refine lv_iconst (v := 1) hx hb dW_trim_20 (by decide) ?_
    refine lv_isub hx hb dW_trim_21 ?_
    refine lv_topi (fun y9 e9 => ?_)
    cases (show y9 = nI (k - 1) from e9.trans (pk_sub (a := k) (b := 1) (by omega)))
    refine lq_iald (j := k - 1) hx hb hK hP 1 0 rfl rfl rfl (by omega) (by omega) dW_trim_22 ?_
    refine lv_if_ne (tgt := 39) hx hb dW_trim_23 rfl (fun h2 => ?_) (fun h2 => ?_)
    · have hP9 := hP.sub (ws' := [(h, .inr (4, [.ref w, .int (nI k), .int b])), (w, .inl (cT 0, R, .inl f))]) [0, 1] rfl
      have hD9 := hD.sub (ws' := [(h, .inr (4, [.ref w, .int (nI k), .int b])), (w, .inl (cT 0, R, .inl f))]) [0, 1] (by decide) rfl
      refine W.widen (k := 0) (n := 0) (Nat.le_of_ble_eq_true rfl) (Nat.le_of_ble_eq_true rfl) ?_
      exact W.vret hx hb hr (fun t9 ht9 hW9 => ⟨⟨k, rfl, (show k ≤ k0 ∧ top0 f k ∧ vW f k = vW f k0 from ⟨ik, fun _ => dg_ne hd (by omega) h2, iv⟩), by rw [ht9]; exact hP9, hD9⟩, hS.F ht9⟩) hS.2.2 dW_trim_39
    · refine lv_aload_n hx hb dW_trim_26 rfl (lv_at hl 0 rfl) ?_
      refine lv_dup hx hb dW_trim_27 rfl ?_
      refine va_get (D := D) (ci := 4) (v := .int (nI k)) (C := R_W) (T := T_W) (N := 3) hx hb hT in_W hown hK hP 0 rfl rfl 1 (by decide) (hT _ w148) (fun _ h9 => h9) rfl dW_trim_28 ?_
      refine lv_iconst (v := 1) hx hb dW_trim_31 (by decide) ?_
      refine lv_isub hx hb dW_trim_32 ?_
      refine lv_topi (fun y9 e9 => ?_)
      cases (show y9 = nI (k - 1) from e9.trans (pk_sub (a := k) (b := 1) (by omega)))
      refine va_put (D := D) (ci := 4) (v := .int (nI (k - 1))) (ty := .int) (C := R_W) (T := T_W) (N := 3) hx hb hT in_W ty_W ty_W_ok m_W hown hK hP hD hS 0 rfl rfl 1 (by decide) (hT _ w148) (fun _ h9 => h9) rfl (by decide +kernel) rfl rfl (Nat.le_of_ble_eq_true rfl) dW_trim_33 (fun H locs hP hD hS => ?_)
      have hP : va_P D vwCl [(h, .inr (4, [.ref w, .int (nI (k - 1)), .int b])), (w, .inl (cT 0, R, .inl f))] _ := hP
      have hD : va_D A [(h, .inr (4, [.ref w, .int (nI (k - 1)), .int b])), (w, .inl (cT 0, R, .inl f))] := hD
      refine lv_goto (tgt := 5) hx hb dW_trim_36 rfl ?_
      exact ih5 (k - 1) (show (k - 1) ≤ k0 ∧ vW f (k - 1) = vW f k0 from ⟨by omega, (hv_dec (by omega) (dg_eq0 h2)).trans iv⟩) (show (k - 1) < k from (by omega)) ls H locs (lv_sub hl [0] rfl) hP hD hS
set_option maxHeartbeats 4000000 in
set_option maxRecDepth 100000 in
theorem k_mostBits (l : Launch) (D : va_G) (cT : Nat → ClassId) (h : Nat) (w : Nat) (R : Nat) (n : Int32) (b : Int32) (f : Nat → Int32) : Met l yW_mostBits WW_mostBits ({ frames := 0, cells := 0, slots := 0, locals := 0 } : Room) (RO D vwCl [.ref h] [(h, .inr (4, [.ref w, .int n, .int b])), (w, .inl (cT 0, R, .inl f))] (TY cT)) (QcRead (nI (R * 30))) 0 0 (fun _ => False) := by
  refine Met.ofW (cc := cW_mostBits) (maxL := 1) (ret := (some .int)) (by decide) rfl ?_
  intro p e s m args below meth c s₁ B hml hv
  obtain ⟨rfl, hZ, hP, hK⟩ := hv
  have hx := B.exec
  have hb := B.bytes
  have hr := B.returns
  have hts := atoms_spec (ws := WW_mostBits) B.pre
  have hT : ∀ w ∈ TB, w.before _ s = true := fun w h => hts w (List.mem_cons_of_mem _ h)
  have hown : s.vm.findClass R_W = some m.cls := findClass_of_methodNamed B.named
  have hlocks := B.notSynchronized
  have hS : va_S (fun _ => False) s.heap s.heap [] := va_S.rf
  have hl := lv_entry ([.ref h]) (n := 1) (Nat.le_of_ble_eq_true rfl)
  rw [lg_entry_eq]
  generalize (lg_sl ([.ref h]) ++ List.replicate (1 - (lg_sl ([.ref h])).length) Slot.unset).toArray = ls at hl ⊢
  have hl : lv_has ls 1 [(0, .ref h)] := hl
  refine lv_aload_n hx hb dW_mostBits_0 rfl (lv_at hl 0 rfl) ?_
  refine va_get (D := D) (ci := 4) (v := .ref w) (C := R_W) (T := T_W) (N := 3) hx hb hT in_W hown hK hP 0 rfl rfl 0 (by decide) (hT _ w145) (fun _ h9 => h9) rfl dW_mostBits_1 ?_
  refine va_alen (v := nI R) hx hb hK hP 1 0 rfl rfl rfl dW_mostBits_4 ?_
  refine lv_bipush (v := 30) hx hb dW_mostBits_5 (by decide) ?_
  refine lv_imul hx hb dW_mostBits_7 ?_
  refine lv_topi (fun y9 e9 => ?_)
  cases (show y9 = nI (R * 30) from e9.trans (pk_mul R 30))
  exact W.iret (v := nI (R * 30)) hx hb hr (fun t9 ht9 hW9 => ⟨rfl, ht9⟩) (fun q h => nomatch h) dW_mostBits_8
set_option maxHeartbeats 4000000 in
set_option maxRecDepth 100000 in
theorem k_sign (l : Launch) (D : va_G) (cT : Nat → ClassId) (h : Nat) (w : Nat) (R : Nat) (n : Int32) (b : Int32) (f : Nat → Int32) (z : Int) (hR : R ≤ 48) (hN : WN R n b f z) : Met l yW_sign WW_sign ({ frames := 0, cells := 0, slots := 0, locals := 0 } : Room) (RO D vwCl [.ref h] [(h, .inr (4, [.ref w, .int n, .int b])), (w, .inl (cT 0, R, .inl f))] (TY cT)) (QcRead (sg z)) 0 0 (fun _ => False) := by
  refine Met.ofW (cc := cW_sign) (maxL := 1) (ret := (some .int)) (by decide) rfl ?_
  intro p e s m args below meth c s₁ B hml hv
  obtain ⟨rfl, hZ, hP, hK⟩ := hv
  have hx := B.exec
  have hb := B.bytes
  have hr := B.returns
  have hts := atoms_spec (ws := WW_sign) B.pre
  have hT : ∀ w ∈ TB, w.before _ s = true := fun w h => hts w (List.mem_cons_of_mem _ h)
  have hown : s.vm.findClass R_W = some m.cls := findClass_of_methodNamed B.named
  have hlocks := B.notSynchronized
  have hS : va_S (fun _ => False) s.heap s.heap [] := va_S.rf
  have hl := lv_entry ([.ref h]) (n := 1) (Nat.le_of_ble_eq_true rfl)
  rw [lg_entry_eq]
  generalize (lg_sl ([.ref h]) ++ List.replicate (1 - (lg_sl ([.ref h])).length) Slot.unset).toArray = ls at hl ⊢
  have hl : lv_has ls 1 [(0, .ref h)] := hl
  obtain ⟨k, rfl, hk, hd, htop, hb01, hz⟩ := hN
  have hP : va_P D vwCl [(h, .inr (4, [.ref w, .int (nI k), .int b])), (w, .inl (cT 0, R, .inl f))] _ := hP
  refine lv_aload_n hx hb dW_sign_0 rfl (lv_at hl 0 rfl) ?_
  refine va_get (D := D) (ci := 4) (v := .int (nI k)) (C := R_W) (T := T_W) (N := 3) hx hb hT in_W hown hK hP 0 rfl rfl 1 (by decide) (hT _ w148) (fun _ h9 => h9) rfl dW_sign_1 ?_
  refine lv_if_ne (tgt := 11) hx hb dW_sign_4 rfl (fun h1 => ?_) (fun h1 => ?_)
  · have gh1 : ¬ (k = 0) := fun q => h1 (congrArg nI q)
    refine lv_aload_n hx hb dW_sign_11 rfl (lv_at hl 0 rfl) ?_
    refine va_get (D := D) (ci := 4) (v := .int b) (C := R_W) (T := T_W) (N := 3) hx hb hT in_W hown hK hP 0 rfl rfl 2 (by decide) (hT _ w149) (fun _ h9 => h9) rfl dW_sign_12 ?_
    refine lv_if_eq (tgt := 22) hx hb dW_sign_15 rfl (fun h2 => ?_) (fun h2 => ?_)
    · refine lv_iconst (v := 1) hx hb dW_sign_22 (by decide) ?_
      exact W.iret (v := 1) hx hb hr (fun t9 ht9 hW9 => ⟨by rw [hz, show b = 0 from h2, sg_p (vW_pos htop (by omega))], ht9⟩) (fun q h => nomatch h) dW_sign_23
    · refine lv_iconst (v := (-1)) hx hb dW_sign_18 (by decide) ?_
      refine lv_goto (tgt := 23) hx hb dW_sign_19 rfl ?_
      exact W.iret (v := (-1)) hx hb hr (fun t9 ht9 hW9 => ⟨by rw [hz, sg_n h2 (vW_pos htop (by omega))], ht9⟩) (fun q h => nomatch h) dW_sign_23
  · have gh1 : k = 0 := (nI_eq (a := k) (b := 0) (by omega) (by omega)).mp h1
    refine lv_iconst (v := 0) hx hb dW_sign_7 (by decide) ?_
    refine lv_goto (tgt := 23) hx hb dW_sign_8 rfl ?_
    exact W.iret (v := 0) hx hb hr (fun t9 ht9 hW9 => ⟨by rw [hz, show k = 0 by omega, show vW f 0 = 0 from rfl, sg_0], ht9⟩) (fun q h => nomatch h) dW_sign_23
set_option maxHeartbeats 4000000 in
set_option maxRecDepth 100000 in
theorem k_turn (l : Launch) (D : va_G) (cT : Nat → ClassId) (h : Nat) (w : Nat) (R : Nat) (n : Int32) (b : Int32) (f : Nat → Int32) (z : Int) (hR : R ≤ 48) (hN : WN R n b f z) (sz : Nat) : Met l yW_turn WW_turn ({ frames := 0, cells := 0, slots := 0, locals := 0 } : Room) (RW D vwCl [.ref h] [(h, .inr (4, [.ref w, .int n, .int b])), (w, .inl (cT 0, R, .inl f))] (TY cT) sz) (va_Qv (fun u9 : Int32 => WN R n u9 f (-z)) (BW D vwCl (va_A [(h, .inr (4, [.ref w, .int n, .int b])), (w, .inl (cT 0, R, .inl f))] sz) (fun u9 : Int32 => [(h, .inr (4, [.ref w, .int n, .int u9])), (w, .inl (cT 0, R, .inl f))])) (va_A [(h, .inr (4, [.ref w, .int n, .int b])), (w, .inl (cT 0, R, .inl f))] sz)) 0 0 (va_A [(h, .inr (4, [.ref w, .int n, .int b])), (w, .inl (cT 0, R, .inl f))] sz) := by
  refine Met.ofW (cc := cW_turn) (maxL := 1) (ret := none) (by decide) rfl ?_
  intro p e s m args below meth c s₁ B hml hv
  obtain ⟨rfl, hsz, hZ, hP, hK, hD0⟩ := hv
  have hx := B.exec
  have hb := B.bytes
  have hr := B.returns
  have hts := atoms_spec (ws := WW_turn) B.pre
  have hT : ∀ w ∈ TB, w.before _ s = true := fun w h => hts w (List.mem_cons_of_mem _ h)
  have hown : s.vm.findClass R_W = some m.cls := findClass_of_methodNamed B.named
  have hlocks := B.notSynchronized
  subst hsz
  have hD := hD0.self (sz := s.heap.size)
  generalize hAe : va_A [(h, .inr (4, [.ref w, .int n, .int b])), (w, .inl (cT 0, R, .inl f))] s.heap.size = A at hD hZ ⊢
  have hA : ∀ q : Nat, s.heap.size ≤ q → A q := fun q h => by rw [← hAe]; exact Or.inr h
  have hS : va_S A s.heap s.heap [] := va_S.rf
  have hl := lv_entry ([.ref h]) (n := 1) (Nat.le_of_ble_eq_true rfl)
  rw [lg_entry_eq]
  generalize (lg_sl ([.ref h]) ++ List.replicate (1 - (lg_sl ([.ref h])).length) Slot.unset).toArray = ls at hl ⊢
  have hl : lv_has ls 1 [(0, .ref h)] := hl
  obtain ⟨k, rfl, hk, hd, htop, hb01, hz⟩ := hN
  have hP : va_P D vwCl [(h, .inr (4, [.ref w, .int (nI k), .int b])), (w, .inl (cT 0, R, .inl f))] _ := hP
  have hD : va_D A [(h, .inr (4, [.ref w, .int (nI k), .int b])), (w, .inl (cT 0, R, .inl f))] := hD
  refine lv_aload_n hx hb dW_turn_0 rfl (lv_at hl 0 rfl) ?_
  refine lv_aload_n hx hb dW_turn_1 rfl (lv_at hl 0 rfl) ?_
  refine va_get (D := D) (ci := 4) (v := .int b) (C := R_W) (T := T_W) (N := 3) hx hb hT in_W hown hK hP 0 rfl rfl 2 (by decide) (hT _ w149) (fun _ h9 => h9) rfl dW_turn_2 ?_
  refine lv_if_ne (tgt := 12) hx hb dW_turn_5 rfl (fun h1 => ?_) (fun h1 => ?_)
  · refine lv_iconst (v := 0) hx hb dW_turn_12 (by decide) ?_
    refine va_put (D := D) (ci := 4) (v := .int 0) (ty := .boolean) (C := R_W) (T := T_W) (N := 3) hx hb hT in_W ty_W ty_W_ok m_W hown hK hP hD hS 0 rfl rfl 2 (by decide) (hT _ w149) (fun _ h9 => h9) rfl (by decide +kernel) rfl rfl (Nat.le_of_ble_eq_true rfl) dW_turn_13 (fun H locs hP hD hS => ?_)
    have hP : va_P D vwCl [(h, .inr (4, [.ref w, .int (nI k), .int 0])), (w, .inl (cT 0, R, .inl f))] _ := hP
    have hD : va_D A [(h, .inr (4, [.ref w, .int (nI k), .int 0])), (w, .inl (cT 0, R, .inl f))] := hD
    have hP9 := hP.sub (ws' := [(h, .inr (4, [.ref w, .int (nI k), .int 0])), (w, .inl (cT 0, R, .inl f))]) [0, 1] rfl
    have hD9 := hD.sub (ws' := [(h, .inr (4, [.ref w, .int (nI k), .int 0])), (w, .inl (cT 0, R, .inl f))]) [0, 1] (by decide) rfl
    refine W.widen (k := 0) (n := 0) (Nat.le_of_ble_eq_true rfl) (Nat.le_of_ble_eq_true rfl) ?_
    exact W.vret hx hb hr (fun t9 ht9 hW9 => ⟨⟨0, rfl, (show WN R (nI k) 0 f (-z) from ⟨k, rfl, hk, hd, htop, Or.inl rfl, by rw [hz]; unfold wz; rw [if_neg h1, if_pos rfl, Int.neg_neg]⟩), by rw [ht9]; exact hP9, hD9⟩, hS.F ht9⟩) hS.2.2 dW_turn_16
  · refine lv_iconst (v := 1) hx hb dW_turn_8 (by decide) ?_
    refine lv_goto (tgt := 13) hx hb dW_turn_9 rfl ?_
    refine va_put (D := D) (ci := 4) (v := .int 1) (ty := .boolean) (C := R_W) (T := T_W) (N := 3) hx hb hT in_W ty_W ty_W_ok m_W hown hK hP hD hS 0 rfl rfl 2 (by decide) (hT _ w149) (fun _ h9 => h9) rfl (by decide +kernel) rfl rfl (Nat.le_of_ble_eq_true rfl) dW_turn_13 (fun H locs hP hD hS => ?_)
    have hP : va_P D vwCl [(h, .inr (4, [.ref w, .int (nI k), .int 1])), (w, .inl (cT 0, R, .inl f))] _ := hP
    have hD : va_D A [(h, .inr (4, [.ref w, .int (nI k), .int 1])), (w, .inl (cT 0, R, .inl f))] := hD
    have hP9 := hP.sub (ws' := [(h, .inr (4, [.ref w, .int (nI k), .int 1])), (w, .inl (cT 0, R, .inl f))]) [0, 1] rfl
    have hD9 := hD.sub (ws' := [(h, .inr (4, [.ref w, .int (nI k), .int 1])), (w, .inl (cT 0, R, .inl f))]) [0, 1] (by decide) rfl
    refine W.widen (k := 0) (n := 0) (Nat.le_of_ble_eq_true rfl) (Nat.le_of_ble_eq_true rfl) ?_
    exact W.vret hx hb hr (fun t9 ht9 hW9 => ⟨⟨1, rfl, (show WN R (nI k) 1 f (-z) from ⟨k, rfl, hk, hd, htop, Or.inr rfl, by rw [hz]; unfold wz; rw [if_pos h1, if_neg (by decide)]⟩), by rw [ht9]; exact hP9, hD9⟩, hS.F ht9⟩) hS.2.2 dW_turn_16
set_option maxHeartbeats 4000000 in
set_option maxRecDepth 100000 in
theorem k_setI (l : Launch) (D : va_G) (cT : Nat → ClassId) (h : Nat) (w : Nat) (R : Nat) (n : Int32) (b : Int32) (f : Nat → Int32) (v : Int32) (hR : R ≤ 48) (hR0 : 0 < R) (hv0 : -1000000000 < v.toInt ∧ v.toInt < 1000000000) (sz : Nat) : Met l yW_set WW_set ({ frames := 1, cells := 0, slots := 0, locals := 21 } : Room) (RW D vwCl [.ref h, .int v] [(h, .inr (4, [.ref w, .int n, .int b])), (w, .inl (cT 0, R, .inl f))] (TY cT) sz) (va_Qv (fun u9 : Int32 × Int32 × (Nat → Int32) => WN R u9.1 u9.2.1 u9.2.2 v.toInt) (BW D vwCl (va_A [(h, .inr (4, [.ref w, .int n, .int b])), (w, .inl (cT 0, R, .inl f))] sz) (fun u9 : Int32 × Int32 × (Nat → Int32) => [(h, .inr (4, [.ref w, .int u9.1, .int u9.2.1])), (w, .inl (cT 0, R, .inl u9.2.2))])) (va_A [(h, .inr (4, [.ref w, .int n, .int b])), (w, .inl (cT 0, R, .inl f))] sz)) 0 0 (va_A [(h, .inr (4, [.ref w, .int n, .int b])), (w, .inl (cT 0, R, .inl f))] sz) := by
  refine Met.ofW (cc := cW_set) (maxL := 2) (ret := none) (by decide) rfl ?_
  intro p e s m args below meth c s₁ B hml hv
  obtain ⟨rfl, hsz, hZ, hP, hK, hD0⟩ := hv
  have hx := B.exec
  have hb := B.bytes
  have hr := B.returns
  have hts := atoms_spec (ws := WW_set) B.pre
  have hT : ∀ w ∈ TB, w.before _ s = true := fun w h => hts w (List.mem_cons_of_mem _ h)
  have hown : s.vm.findClass R_W = some m.cls := findClass_of_methodNamed B.named
  have hlocks := B.notSynchronized
  subst hsz
  have hD := hD0.self (sz := s.heap.size)
  generalize hAe : va_A [(h, .inr (4, [.ref w, .int n, .int b])), (w, .inl (cT 0, R, .inl f))] s.heap.size = A at hD hZ ⊢
  have hA : ∀ q : Nat, s.heap.size ≤ q → A q := fun q h => by rw [← hAe]; exact Or.inr h
  have hS : va_S A s.heap s.heap [] := va_S.rf
  have hl := lv_entry ([.ref h, .int v]) (n := 2) (Nat.le_of_ble_eq_true rfl)
  rw [lg_entry_eq]
  generalize (lg_sl ([.ref h, .int v]) ++ List.replicate (2 - (lg_sl ([.ref h, .int v])).length) Slot.unset).toArray = ls at hl ⊢
  have hl : lv_has ls 2 [(0, .ref h), (1, .int v)] := hl
  refine lv_aload_n hx hb dW_set_0 rfl (lv_at hl 0 rfl) ?_
  refine lv_iload_n hx hb dW_set_1 rfl (lv_at hl 1 rfl) ?_
  refine lv_if_ge (tgt := 9) hx hb dW_set_2 rfl (fun h1 => ?_) (fun h1 => ?_)
  · obtain ⟨j, hj, hjx, hjz⟩ := x_pos (Int32.not_lt.mpr h1) hv0.2
    refine lv_iconst (v := 0) hx hb dW_set_9 (by decide) ?_
    refine va_put (D := D) (ci := 4) (v := .int 0) (ty := .boolean) (C := R_W) (T := T_W) (N := 3) hx hb hT in_W ty_W ty_W_ok m_W hown hK hP hD hS 0 rfl rfl 2 (by decide) (hT _ w149) (fun _ h9 => h9) rfl (by decide +kernel) rfl rfl (Nat.le_of_ble_eq_true rfl) dW_set_10 (fun H locs hP hD hS => ?_)
    have hP : va_P D vwCl [(h, .inr (4, [.ref w, .int n, .int 0])), (w, .inl (cT 0, R, .inl f))] _ := hP
    have hD : va_D A [(h, .inr (4, [.ref w, .int n, .int 0])), (w, .inl (cT 0, R, .inl f))] := hD
    refine lv_aload_n hx hb dW_set_13 rfl (lv_at hl 0 rfl) ?_
    refine va_get (D := D) (ci := 4) (v := .ref w) (C := R_W) (T := T_W) (N := 3) hx hb hT in_W hown hK hP 0 rfl rfl 0 (by decide) (hT _ w145) (fun _ h9 => h9) rfl dW_set_14 ?_
    refine lv_iconst (v := 0) hx hb dW_set_17 (by decide) ?_
    refine lv_aload_n hx hb dW_set_18 rfl (lv_at hl 0 rfl) ?_
    refine va_get (D := D) (ci := 4) (v := .int 0) (C := R_W) (T := T_W) (N := 3) hx hb hT in_W hown hK hP 0 rfl rfl 2 (by decide) (hT _ w149) (fun _ h9 => h9) rfl dW_set_19 ?_
    refine lv_if_eq (tgt := 30) hx hb dW_set_22 rfl (fun _ => ?_) (fun h2 => absurd (by decide) h2)
    refine lv_iload_n hx hb dW_set_30 rfl (lv_at hl 1 rfl) ?_
    refine lv_topi (fun y9 e9 => ?_)
    cases (show y9 = nI j from e9.trans hjx)
    refine lq_iast (j := 0) hx hb hK hP hD hS 1 0 rfl rfl nI_0.symm (by omega) (by omega) dW_set_31 (fun H locs hP hD hS => ?_)
    have hP : va_P D vwCl [(h, .inr (4, [.ref w, .int n, .int 0])), (w, .inl (cT 0, R, .inl (upd f 0 (nI j))))] _ := hP
    have hD : va_D A [(h, .inr (4, [.ref w, .int n, .int 0])), (w, .inl (cT 0, R, .inl (upd f 0 (nI j))))] := hD
    refine lv_aload_n hx hb dW_set_32 rfl (lv_at hl 0 rfl) ?_
    refine lv_iconst (v := 1) hx hb dW_set_33 (by decide) ?_
    refine rw_v (wc := [(h, .inr (4, [.ref w, .int n, .int 0])), (w, .inl (cT 0, R, .inl (upd f 0 (nI j))))]) (wr := []) hP hD hS hA [0, 1] [] rfl rfl (by decide) (by decide) (va_runV (As := [.int 1]) (rest := []) ⟨hx, hb, hml, hown, hT⟩ (k_trim l D cT h w R n 0 (upd f 0 (nI j)) 1 hR (by omega) (dok_1 hj (by decide)) _) ⟨callB_of 1 hT (tb_gd w397) rfl rfl rfl (hT _ w5) (hT _ w394) hW_trim ⟨Nat.le_of_ble_eq_true rfl, Nat.le_of_ble_eq_true rfl⟩, (hT _ w396), (hT _ wp3)⟩ (RW.preV (ci := 4) (q0 := 0) hZ hS (va_free (wc := [(h, .inr (4, [.ref w, .int n, .int 0])), (w, .inl (cT 0, R, .inl (upd f 0 (nI j))))]) hD hS hA [0, 1] rfl) (hP.sub (ws' := [(h, .inr (4, [.ref w, .int n, .int 0])), (w, .inl (cT 0, R, .inl (upd f 0 (nI j))))]) [0, 1] rfl) hK (hD.sub (ws' := [(h, .inr (4, [.ref w, .int n, .int 0])), (w, .inl (cT 0, R, .inl (upd f 0 (nI j))))]) [0, 1] (by decide) rfl) rfl rfl) rfl rfl hl.1 rfl (lv_room (Nat.le_of_ble_eq_true rfl)) dW_set_34 ⟨Nat.le_of_ble_eq_true rfl, Nat.le_of_ble_eq_true rfl⟩) (fun u9 H locs hpu3 hP hD hS => ?_)
    obtain ⟨ku3, rfl⟩ : ∃ q9, q9 = u9 := ⟨_, rfl⟩
    have hpu3 : ku3 ≤ 1 ∧ top0 (upd f 0 (nI j)) ku3 ∧ vW (upd f 0 (nI j)) ku3 = vW (upd f 0 (nI j)) 1 := hpu3
    have hP : va_P D vwCl [(h, .inr (4, [.ref w, .int (nI ku3), .int 0])), (w, .inl (cT 0, R, .inl (upd f 0 (nI j))))] _ := hP
    have hD : va_D A [(h, .inr (4, [.ref w, .int (nI ku3), .int 0])), (w, .inl (cT 0, R, .inl (upd f 0 (nI j))))] := hD
    have hP9 := hP.sub (ws' := [(h, .inr (4, [.ref w, .int (nI ku3), .int 0])), (w, .inl (cT 0, R, .inl (upd f 0 (nI j))))]) [0, 1] rfl
    have hD9 := hD.sub (ws' := [(h, .inr (4, [.ref w, .int (nI ku3), .int 0])), (w, .inl (cT 0, R, .inl (upd f 0 (nI j))))]) [0, 1] (by decide) rfl
    refine W.widen (k := 0) (n := 0) (Nat.le_of_ble_eq_true rfl) (Nat.le_of_ble_eq_true rfl) ?_
    exact W.vret hx hb hr (fun t9 ht9 hW9 => ⟨⟨(nI ku3, 0, upd f 0 (nI j)), rfl, (show WN R (nI ku3) 0 (upd f 0 (nI j)) v.toInt from by have q0 := wn_trim (R := R) (b := 0) (by omega) (dok_1 (f := f) hj (by decide)) (by decide) hpu3; rw [vW_1 (by omega), wz_0] at q0; rw [hjz]; exact q0), by rw [ht9]; exact hP9, hD9⟩, hS.F ht9⟩) hS.2.2 dW_set_37
  · obtain ⟨j, hj, hjx, hjz⟩ := x_neg (Int32.not_le.mp h1) hv0.1
    refine lv_iconst (v := 1) hx hb dW_set_5 (by decide) ?_
    refine lv_goto (tgt := 10) hx hb dW_set_6 rfl ?_
    refine va_put (D := D) (ci := 4) (v := .int 1) (ty := .boolean) (C := R_W) (T := T_W) (N := 3) hx hb hT in_W ty_W ty_W_ok m_W hown hK hP hD hS 0 rfl rfl 2 (by decide) (hT _ w149) (fun _ h9 => h9) rfl (by decide +kernel) rfl rfl (Nat.le_of_ble_eq_true rfl) dW_set_10 (fun H locs hP hD hS => ?_)
    have hP : va_P D vwCl [(h, .inr (4, [.ref w, .int n, .int 1])), (w, .inl (cT 0, R, .inl f))] _ := hP
    have hD : va_D A [(h, .inr (4, [.ref w, .int n, .int 1])), (w, .inl (cT 0, R, .inl f))] := hD
    refine lv_aload_n hx hb dW_set_13 rfl (lv_at hl 0 rfl) ?_
    refine va_get (D := D) (ci := 4) (v := .ref w) (C := R_W) (T := T_W) (N := 3) hx hb hT in_W hown hK hP 0 rfl rfl 0 (by decide) (hT _ w145) (fun _ h9 => h9) rfl dW_set_14 ?_
    refine lv_iconst (v := 0) hx hb dW_set_17 (by decide) ?_
    refine lv_aload_n hx hb dW_set_18 rfl (lv_at hl 0 rfl) ?_
    refine va_get (D := D) (ci := 4) (v := .int 1) (C := R_W) (T := T_W) (N := 3) hx hb hT in_W hown hK hP 0 rfl rfl 2 (by decide) (hT _ w149) (fun _ h9 => h9) rfl dW_set_19 ?_
    refine lv_if_eq (tgt := 30) hx hb dW_set_22 rfl (fun h4 => absurd h4 (by decide)) (fun _ => ?_)
    refine lv_iload_n hx hb dW_set_25 rfl (lv_at hl 1 rfl) ?_
    refine lv_ineg hx hb dW_set_26 ?_
    refine lv_topi (fun y9 e9 => ?_)
    cases (show y9 = nI j from e9.trans hjx)
    refine lv_goto (tgt := 31) hx hb dW_set_27 rfl ?_
    refine lq_iast (j := 0) hx hb hK hP hD hS 1 0 rfl rfl nI_0.symm (by omega) (by omega) dW_set_31 (fun H locs hP hD hS => ?_)
    have hP : va_P D vwCl [(h, .inr (4, [.ref w, .int n, .int 1])), (w, .inl (cT 0, R, .inl (upd f 0 (nI j))))] _ := hP
    have hD : va_D A [(h, .inr (4, [.ref w, .int n, .int 1])), (w, .inl (cT 0, R, .inl (upd f 0 (nI j))))] := hD
    refine lv_aload_n hx hb dW_set_32 rfl (lv_at hl 0 rfl) ?_
    refine lv_iconst (v := 1) hx hb dW_set_33 (by decide) ?_
    refine rw_v (wc := [(h, .inr (4, [.ref w, .int n, .int 1])), (w, .inl (cT 0, R, .inl (upd f 0 (nI j))))]) (wr := []) hP hD hS hA [0, 1] [] rfl rfl (by decide) (by decide) (va_runV (As := [.int 1]) (rest := []) ⟨hx, hb, hml, hown, hT⟩ (k_trim l D cT h w R n 1 (upd f 0 (nI j)) 1 hR (by omega) (dok_1 hj (by decide)) _) ⟨callB_of 1 hT (tb_gd w397) rfl rfl rfl (hT _ w5) (hT _ w394) hW_trim ⟨Nat.le_of_ble_eq_true rfl, Nat.le_of_ble_eq_true rfl⟩, (hT _ w396), (hT _ wp3)⟩ (RW.preV (ci := 4) (q0 := 0) hZ hS (va_free (wc := [(h, .inr (4, [.ref w, .int n, .int 1])), (w, .inl (cT 0, R, .inl (upd f 0 (nI j))))]) hD hS hA [0, 1] rfl) (hP.sub (ws' := [(h, .inr (4, [.ref w, .int n, .int 1])), (w, .inl (cT 0, R, .inl (upd f 0 (nI j))))]) [0, 1] rfl) hK (hD.sub (ws' := [(h, .inr (4, [.ref w, .int n, .int 1])), (w, .inl (cT 0, R, .inl (upd f 0 (nI j))))]) [0, 1] (by decide) rfl) rfl rfl) rfl rfl hl.1 rfl (lv_room (Nat.le_of_ble_eq_true rfl)) dW_set_34 ⟨Nat.le_of_ble_eq_true rfl, Nat.le_of_ble_eq_true rfl⟩) (fun u9 H locs hpu5 hP hD hS => ?_)
    obtain ⟨ku5, rfl⟩ : ∃ q9, q9 = u9 := ⟨_, rfl⟩
    have hpu5 : ku5 ≤ 1 ∧ top0 (upd f 0 (nI j)) ku5 ∧ vW (upd f 0 (nI j)) ku5 = vW (upd f 0 (nI j)) 1 := hpu5
    have hP : va_P D vwCl [(h, .inr (4, [.ref w, .int (nI ku5), .int 1])), (w, .inl (cT 0, R, .inl (upd f 0 (nI j))))] _ := hP
    have hD : va_D A [(h, .inr (4, [.ref w, .int (nI ku5), .int 1])), (w, .inl (cT 0, R, .inl (upd f 0 (nI j))))] := hD
    have hP9 := hP.sub (ws' := [(h, .inr (4, [.ref w, .int (nI ku5), .int 1])), (w, .inl (cT 0, R, .inl (upd f 0 (nI j))))]) [0, 1] rfl
    have hD9 := hD.sub (ws' := [(h, .inr (4, [.ref w, .int (nI ku5), .int 1])), (w, .inl (cT 0, R, .inl (upd f 0 (nI j))))]) [0, 1] (by decide) rfl
    refine W.widen (k := 0) (n := 0) (Nat.le_of_ble_eq_true rfl) (Nat.le_of_ble_eq_true rfl) ?_
    exact W.vret hx hb hr (fun t9 ht9 hW9 => ⟨⟨(nI ku5, 1, upd f 0 (nI j)), rfl, (show WN R (nI ku5) 1 (upd f 0 (nI j)) v.toInt from by have q0 := wn_trim (R := R) (b := 1) (by omega) (dok_1 (f := f) hj (by decide)) (by decide) hpu5; rw [vW_1 (by omega), wz_1] at q0; rw [hjz]; exact q0), by rw [ht9]; exact hP9, hD9⟩, hS.F ht9⟩) hS.2.2 dW_set_37
set_option maxHeartbeats 4000000 in
set_option maxRecDepth 100000 in
theorem k_rest (l : Launch) (D : va_G) (cT : Nat → ClassId) (h : Nat) (w : Nat) (R : Nat) (n : Int32) (b : Int32) (f : Nat → Int32) (z : Int) (d : Nat) (hR : R ≤ 48) (hN : WN R n b f z) (hd0 : 0 < d) (hd1 : d < 2 ^ 31) : Met l yW_rest WW_rest ({ frames := 0, cells := 0, slots := 0, locals := 0 } : Room) (RO D vwCl [.ref h, .int (nI d)] [(h, .inr (4, [.ref w, .int n, .int b])), (w, .inl (cT 0, R, .inl f))] (TY cT)) (QcRead (nI (z.natAbs % d))) 0 0 (fun _ => False) := by
  refine Met.ofW (cc := cW_rest) (maxL := 5) (ret := (some .int)) (by decide) rfl ?_
  intro p e s m args below meth c s₁ B hml hv
  obtain ⟨rfl, hZ, hP, hK⟩ := hv
  have hx := B.exec
  have hb := B.bytes
  have hr := B.returns
  have hts := atoms_spec (ws := WW_rest) B.pre
  have hT : ∀ w ∈ TB, w.before _ s = true := fun w h => hts w (List.mem_cons_of_mem _ h)
  have hown : s.vm.findClass R_W = some m.cls := findClass_of_methodNamed B.named
  have hlocks := B.notSynchronized
  have hS : va_S (fun _ => False) s.heap s.heap [] := va_S.rf
  have hl := lv_entry ([.ref h, .int (nI d)]) (n := 5) (Nat.le_of_ble_eq_true rfl)
  rw [lg_entry_eq]
  generalize (lg_sl ([.ref h, .int (nI d)]) ++ List.replicate (5 - (lg_sl ([.ref h, .int (nI d)])).length) Slot.unset).toArray = ls at hl ⊢
  have hl : lv_has ls 5 [(0, .ref h), (1, .int (nI d))] := hl
  obtain ⟨K, rfl, hk, hd, htop, hb01, hz⟩ := hN
  have hP : va_P D vwCl [(h, .inr (4, [.ref w, .int (nI K), .int b])), (w, .inl (cT 0, R, .inl f))] _ := hP
  refine lv_lconst (v := 0) hx hb dW_rest_0 (by decide) ?_
  refine lv_lstore_n hx hb dW_rest_1 rfl hl (by decide) rfl (fun ls hl => ?_)
  have hl : lv_has ls 5 [(2, .long 0), (0, .ref h), (1, .int (nI d))] := hl
  refine lv_aload_n hx hb dW_rest_2 rfl (lv_at hl 1 rfl) ?_
  refine va_get (D := D) (ci := 4) (v := .int (nI K)) (C := R_W) (T := T_W) (N := 3) hx hb hT in_W hown hK hP 0 rfl rfl 1 (by decide) (hT _ w148) (fun _ h9 => h9) rfl dW_rest_3 ?_
  refine lv_iconst (v := 1) hx hb dW_rest_6 (by decide) ?_
  refine lv_isub hx hb dW_rest_7 ?_
  refine lv_istore hx hb dW_rest_8 hl (by decide) rfl (fun ls hl => ?_)
  have hl : lv_has ls 5 [(4, .int ((nI K) - 1)), (2, .long 0), (0, .ref h), (1, .int (nI d))] := hl
  refine lp_r (α := Nat × Nat) (fun a9 => a9.1 ≤ K ∧ a9.2 < d ∧ a9.2 = hv 1000000000 (dg f) a9.1 (K - a9.1) % d) (fun a9 => a9.1) (fun a9 => [(0, .ref h), (1, .int (nI d)), (2, .long (lN a9.2)), (4, .int (nI a9.1 - 1))]) 10 ?_ (K, 0) (show K ≤ K ∧ 0 < d ∧ 0 = hv 1000000000 (dg f) K (K - K) % d from ⟨Nat.le_refl _, hd0, by rw [Nat.sub_self]; exact (Nat.zero_mod d).symm⟩) (lv_sub hl [2, 3, 1, 0] rfl)
  intro a9 hI10 ih10 ls hl
  obtain ⟨k, r⟩ := a9
  have hI10 : k ≤ K ∧ r < d ∧ r = hv 1000000000 (dg f) k (K - k) % d := hI10
  obtain ⟨ik, ir, iv⟩ := hI10
  have hl : lv_has ls 5 [(0, .ref h), (1, .int (nI d)), (2, .long (lN r)), (4, .int (nI k - 1))] := hl
  refine lv_iload hx hb dW_rest_10 (lv_at hl 3 rfl) ?_
  refine lv_if_lt (tgt := 39) hx hb dW_rest_12 rfl (fun h1 => ?_) (fun h1 => ?_)
  · have gh1 : k = 0 := (dn_lt (by omega)).mp h1
    refine lv_lload_n hx hb dW_rest_39 rfl (lv_at hl 2 rfl) ?_
    refine lv_l2i hx hb dW_rest_40 rfl ?_
    refine lv_topi (fun y9 e9 => ?_)
    cases (show y9 = nI r from e9.trans (lN_i r))
    exact W.iret (v := nI r) hx hb hr (fun t9 ht9 hW9 => ⟨by rw [hz, wz_abs, iv, show k = 0 by omega, Nat.sub_zero], ht9⟩) (fun q h => nomatch h) dW_rest_41
  · have gh1 : 0 < k := Nat.pos_of_ne_zero (fun q => h1 ((dn_lt (by omega)).mpr q))
    have hw := hd (k - 1) (by omega)
    refine lv_lload_n hx hb dW_rest_15 rfl (lv_at hl 2 rfl) ?_
    refine lv_ldc2 (v := 1000000000) hx hb hown (hT _ w421) dW_rest_16 ?_
    refine lv_lmul hx hb dW_rest_19 ?_
    refine lv_topl (fun y9 e9 => ?_)
    cases (show y9 = lN (r * 1000000000) from e9.trans (lN_mul r 1000000000))
    refine lv_aload_n hx hb dW_rest_20 rfl (lv_at hl 0 rfl) ?_
    refine va_get (D := D) (ci := 4) (v := .ref w) (C := R_W) (T := T_W) (N := 3) hx hb hT in_W hown hK hP 0 rfl rfl 0 (by decide) (hT _ w145) (fun _ h9 => h9) rfl dW_rest_21 ?_
    refine lv_iload hx hb dW_rest_24 (lv_at hl 3 rfl) ?_
    refine lq_iald (j := k - 1) hx hb hK hP 1 0 rfl rfl (nI_sub1 (by omega)) (by omega) (by omega) dW_rest_26 ?_
    refine lv_topi (fun y9 e9 => ?_)
    cases (show y9 = nI (dg f (k - 1)) from e9.trans hw.1)
    refine lv_i2l hx hb dW_rest_27 rfl ?_
    refine lv_topl (fun y9 e9 => ?_)
    cases (show y9 = lN (dg f (k - 1)) from e9.trans (nI_l (n := dg f (k - 1)) (by have := hw.2; omega)))
    refine lv_ladd hx hb dW_rest_28 ?_
    refine lv_topl (fun y9 e9 => ?_)
    cases (show y9 = lN ((r * 1000000000) + (dg f (k - 1))) from e9.trans (lN_add (r * 1000000000) (dg f (k - 1))))
    refine lv_iload_n hx hb dW_rest_29 rfl (lv_at hl 1 rfl) ?_
    refine lv_i2l hx hb dW_rest_30 rfl ?_
    refine lv_topl (fun y9 e9 => ?_)
    cases (show y9 = lN d from e9.trans (nI_l (n := d) (by omega)))
    have hb31 : r * 1000000000 + dg f (k - 1) < 2 ^ 63 := by have := hw.2; omega
    refine lv_lrem hx hb dW_rest_31 (fun q => absurd ((pk_lEQ (b := 0) (by omega) (by decide)).mp q) (by omega)) ?_
    refine lv_topl (fun y9 e9 => ?_)
    cases (show y9 = lN (((r * 1000000000) + (dg f (k - 1))) % d) from e9.trans (pk_lRem (a := (r * 1000000000) + (dg f (k - 1))) (b := d) hb31 hd0 (by omega)))
    obtain ⟨r1, hr1⟩ : ∃ q9 : Nat, q9 = ((r * 1000000000) + (dg f (k - 1))) % d := ⟨_, rfl⟩
    refine lv_topl (fun y9 e9 => ?_)
    cases (show y9 = lN r1 from e9.trans (congrArg lN hr1.symm))
    refine lv_lstore_n hx hb dW_rest_32 rfl hl (by decide) rfl (fun ls hl => ?_)
    have hl : lv_has ls 5 [(2, .long (lN r1)), (0, .ref h), (1, .int (nI d)), (4, .int (nI k - 1))] := hl
    refine lv_iinc (k := 3) (v := nI (k - 1) - 1) hx hb dW_rest_33 hl rfl (dn_m1 (by omega)) (by decide) rfl (fun ls hl => ?_)
    have hl : lv_has ls 5 [(4, .int (nI (k - 1) - 1)), (2, .long (lN r1)), (0, .ref h), (1, .int (nI d))] := hl
    refine lv_goto (tgt := 10) hx hb dW_rest_36 rfl ?_
    exact ih10 (k - 1, r1) (show (k - 1) ≤ K ∧ r1 < d ∧ r1 = hv 1000000000 (dg f) (k - 1) (K - (k - 1)) % d from ⟨by omega, by rw [hr1]; exact Nat.mod_lt _ hd0, by rw [hr1, rest_s iv, hv_dn (by omega) ik]⟩) (show (k - 1) < k from (by omega)) ls (lv_sub hl [2, 3, 1, 0] rfl)
set_option maxHeartbeats 4000000 in
set_option maxRecDepth 100000 in
theorem k_divide (l : Launch) (D : va_G) (cT : Nat → ClassId) (h : Nat) (w : Nat) (R : Nat) (n : Int32) (b : Int32) (f : Nat → Int32) (z : Int) (d : Nat) (hR : R ≤ 48) (hN : WN R n b f z) (hd0 : 0 < d) (hd1 : d < 2 ^ 31) (sz : Nat) : Met l yW_divide WW_divide ({ frames := 1, cells := 0, slots := 0, locals := 21 } : Room) (RW D vwCl [.ref h, .int (nI d)] [(h, .inr (4, [.ref w, .int n, .int b])), (w, .inl (cT 0, R, .inl f))] (TY cT) sz) (va_Qv (fun u9 : Int32 × (Nat → Int32) => WN R u9.1 b u9.2 (z.tdiv d)) (BW D vwCl (va_A [(h, .inr (4, [.ref w, .int n, .int b])), (w, .inl (cT 0, R, .inl f))] sz) (fun u9 : Int32 × (Nat → Int32) => [(h, .inr (4, [.ref w, .int u9.1, .int b])), (w, .inl (cT 0, R, .inl u9.2))])) (va_A [(h, .inr (4, [.ref w, .int n, .int b])), (w, .inl (cT 0, R, .inl f))] sz)) 0 0 (va_A [(h, .inr (4, [.ref w, .int n, .int b])), (w, .inl (cT 0, R, .inl f))] sz) := by
  refine Met.ofW (cc := cW_divide) (maxL := 7) (ret := none) (by decide) rfl ?_
  intro p e s m args below meth c s₁ B hml hv
  obtain ⟨rfl, hsz, hZ, hP, hK, hD0⟩ := hv
  have hx := B.exec
  have hb := B.bytes
  have hr := B.returns
  have hts := atoms_spec (ws := WW_divide) B.pre
  have hT : ∀ w ∈ TB, w.before _ s = true := fun w h => hts w (List.mem_cons_of_mem _ h)
  have hown : s.vm.findClass R_W = some m.cls := findClass_of_methodNamed B.named
  have hlocks := B.notSynchronized
  subst hsz
  have hD := hD0.self (sz := s.heap.size)
  generalize hAe : va_A [(h, .inr (4, [.ref w, .int n, .int b])), (w, .inl (cT 0, R, .inl f))] s.heap.size = A at hD hZ ⊢
  have hA : ∀ q : Nat, s.heap.size ≤ q → A q := fun q h => by rw [← hAe]; exact Or.inr h
  have hS : va_S A s.heap s.heap [] := va_S.rf
  have hl := lv_entry ([.ref h, .int (nI d)]) (n := 7) (Nat.le_of_ble_eq_true rfl)
  rw [lg_entry_eq]
  generalize (lg_sl ([.ref h, .int (nI d)]) ++ List.replicate (7 - (lg_sl ([.ref h, .int (nI d)])).length) Slot.unset).toArray = ls at hl ⊢
  have hl : lv_has ls 7 [(0, .ref h), (1, .int (nI d))] := hl
  obtain ⟨K, rfl, hk, hd, htop, hb01, hz⟩ := hN
  have hP : va_P D vwCl [(h, .inr (4, [.ref w, .int (nI K), .int b])), (w, .inl (cT 0, R, .inl f))] _ := hP
  have hD : va_D A [(h, .inr (4, [.ref w, .int (nI K), .int b])), (w, .inl (cT 0, R, .inl f))] := hD
  refine lv_lconst (v := 0) hx hb dW_divide_0 (by decide) ?_
  refine lv_lstore_n hx hb dW_divide_1 rfl hl (by decide) rfl (fun ls hl => ?_)
  have hl : lv_has ls 7 [(2, .long 0), (0, .ref h), (1, .int (nI d))] := hl
  refine lv_aload_n hx hb dW_divide_2 rfl (lv_at hl 1 rfl) ?_
  refine va_get (D := D) (ci := 4) (v := .int (nI K)) (C := R_W) (T := T_W) (N := 3) hx hb hT in_W hown hK hP 0 rfl rfl 1 (by decide) (hT _ w148) (fun _ h9 => h9) rfl dW_divide_3 ?_
  refine lv_iconst (v := 1) hx hb dW_divide_6 (by decide) ?_
  refine lv_isub hx hb dW_divide_7 ?_
  refine lv_istore hx hb dW_divide_8 hl (by decide) rfl (fun ls hl => ?_)
  have hl : lv_has ls 7 [(4, .int ((nI K) - 1)), (2, .long 0), (0, .ref h), (1, .int (nI d))] := hl
  refine lp_w (α := Nat × Nat × (Nat → Int32)) (fun a9 => a9.1 ≤ K ∧ a9.2.1 < d ∧ (∀ j, j < a9.1 → a9.2.2 j = f j) ∧ dab 1000000000 a9.2.2 a9.1 K ∧ hv 1000000000 (dg f) a9.1 (K - a9.1) = d * hv 1000000000 (dg a9.2.2) a9.1 (K - a9.1) + a9.2.1) (fun a9 => a9.1) (fun a9 => [(0, .ref h), (1, .int (nI d)), (2, .long (lN a9.2.1)), (4, .int (nI a9.1 - 1))]) (fun a9 => [(h, .inr (4, [.ref w, .int (nI K), .int b])), (w, .inl (cT 0, R, .inl a9.2.2))]) 10 ?_ (K, 0, f) (show K ≤ K ∧ 0 < d ∧ (∀ j, j < K → f j = f j) ∧ dab 1000000000 f K K ∧ hv 1000000000 (dg f) K (K - K) = d * hv 1000000000 (dg f) K (K - K) + 0 from ⟨Nat.le_refl _, hd0, fun _ _ => rfl, fun m h1 h2 => absurd h1 (by omega), by rw [Nat.sub_self]; rfl⟩) (lv_sub hl [2, 3, 1, 0] rfl) hP hD hS
  intro a9 hI10 ih10 ls H locs hl hP hD hS
  obtain ⟨k, r, g⟩ := a9
  have hI10 : k ≤ K ∧ r < d ∧ (∀ j, j < k → g j = f j) ∧ dab 1000000000 g k K ∧ hv 1000000000 (dg f) k (K - k) = d * hv 1000000000 (dg g) k (K - k) + r := hI10
  obtain ⟨ik, ir, ig, ia, iv⟩ := hI10
  have hl : lv_has ls 7 [(0, .ref h), (1, .int (nI d)), (2, .long (lN r)), (4, .int (nI k - 1))] := hl
  have hP : va_P D vwCl [(h, .inr (4, [.ref w, .int (nI K), .int b])), (w, .inl (cT 0, R, .inl g))] _ := hP
  have hD : va_D A [(h, .inr (4, [.ref w, .int (nI K), .int b])), (w, .inl (cT 0, R, .inl g))] := hD
  refine lv_iload hx hb dW_divide_10 (lv_at hl 3 rfl) ?_
  refine lv_if_lt (tgt := 56) hx hb dW_divide_12 rfl (fun h1 => ?_) (fun h1 => ?_)
  · have gh1 : k = 0 := (dn_lt (by omega)).mp h1
    have k0 : k = 0 := by omega
    subst k0
    have hdk := dab_dok ia
    have hl : lv_has ls 7 [(0, .ref h), (1, .int (nI d)), (2, .long (lN r)), (4, .int (nI 0 - 1))] := hl
    have hP : va_P D vwCl [(h, .inr (4, [.ref w, .int (nI K), .int b])), (w, .inl (cT 0, R, .inl g))] _ := hP
    have hD : va_D A [(h, .inr (4, [.ref w, .int (nI K), .int b])), (w, .inl (cT 0, R, .inl g))] := hD
    refine lv_aload_n hx hb dW_divide_56 rfl (lv_at hl 0 rfl) ?_
    refine lv_aload_n hx hb dW_divide_57 rfl (lv_at hl 0 rfl) ?_
    refine va_get (D := D) (ci := 4) (v := .int (nI K)) (C := R_W) (T := T_W) (N := 3) hx hb hT in_W hown hK hP 0 rfl rfl 1 (by decide) (hT _ w148) (fun _ h9 => h9) rfl dW_divide_58 ?_
    refine rw_v (wc := [(h, .inr (4, [.ref w, .int (nI K), .int b])), (w, .inl (cT 0, R, .inl g))]) (wr := []) hP hD hS hA [0, 1] [] rfl rfl (by decide) (by decide) (va_runV (As := [.int (nI K)]) (rest := []) ⟨hx, hb, hml, hown, hT⟩ (k_trim l D cT h w R (nI K) b g K hR hk hdk _) ⟨callB_of 1 hT (tb_gd w397) rfl rfl rfl (hT _ w5) (hT _ w394) hW_trim ⟨Nat.le_of_ble_eq_true rfl, Nat.le_of_ble_eq_true rfl⟩, (hT _ w396), (hT _ wp3)⟩ (RW.preV (ci := 4) (q0 := 0) hZ hS (va_free (wc := [(h, .inr (4, [.ref w, .int (nI K), .int b])), (w, .inl (cT 0, R, .inl g))]) hD hS hA [0, 1] rfl) (hP.sub (ws' := [(h, .inr (4, [.ref w, .int (nI K), .int b])), (w, .inl (cT 0, R, .inl g))]) [0, 1] rfl) hK (hD.sub (ws' := [(h, .inr (4, [.ref w, .int (nI K), .int b])), (w, .inl (cT 0, R, .inl g))]) [0, 1] (by decide) rfl) rfl rfl) rfl rfl hl.1 rfl (lv_room (Nat.le_of_ble_eq_true rfl)) dW_divide_61 ⟨Nat.le_of_ble_eq_true rfl, Nat.le_of_ble_eq_true rfl⟩) (fun u9 H locs hpu2 hP hD hS => ?_)
    obtain ⟨ku2, rfl⟩ : ∃ q9, q9 = u9 := ⟨_, rfl⟩
    have hpu2 : ku2 ≤ K ∧ top0 g ku2 ∧ vW g ku2 = vW g K := hpu2
    have hP : va_P D vwCl [(h, .inr (4, [.ref w, .int (nI ku2), .int b])), (w, .inl (cT 0, R, .inl g))] _ := hP
    have hD : va_D A [(h, .inr (4, [.ref w, .int (nI ku2), .int b])), (w, .inl (cT 0, R, .inl g))] := hD
    have hP9 := hP.sub (ws' := [(h, .inr (4, [.ref w, .int (nI ku2), .int b])), (w, .inl (cT 0, R, .inl g))]) [0, 1] rfl
    have hD9 := hD.sub (ws' := [(h, .inr (4, [.ref w, .int (nI ku2), .int b])), (w, .inl (cT 0, R, .inl g))]) [0, 1] (by decide) rfl
    refine W.widen (k := 0) (n := 0) (Nat.le_of_ble_eq_true rfl) (Nat.le_of_ble_eq_true rfl) ?_
    exact W.vret hx hb hr (fun t9 ht9 hW9 => ⟨⟨(nI ku2, g), rfl, (show WN R (nI ku2) b g (z.tdiv d) from by have q0 := wn_trim (R := R) hk hdk hb01 hpu2; rw [show vW g K = vW f K / d from vW_uq iv ir, wz_tdiv, ← hz] at q0; exact q0), by rw [ht9]; exact hP9, hD9⟩, hS.F ht9⟩) hS.2.2 dW_divide_64
  · have gh1 : 0 < k := Nat.pos_of_ne_zero (fun q => h1 ((dn_lt (by omega)).mpr q))
    have hw := hd (k - 1) (by omega)
    refine lv_lload_n hx hb dW_divide_15 rfl (lv_at hl 2 rfl) ?_
    refine lv_ldc2 (v := 1000000000) hx hb hown (hT _ w421) dW_divide_16 ?_
    refine lv_lmul hx hb dW_divide_19 ?_
    refine lv_topl (fun y9 e9 => ?_)
    cases (show y9 = lN (r * 1000000000) from e9.trans (lN_mul r 1000000000))
    refine lv_aload_n hx hb dW_divide_20 rfl (lv_at hl 0 rfl) ?_
    refine va_get (D := D) (ci := 4) (v := .ref w) (C := R_W) (T := T_W) (N := 3) hx hb hT in_W hown hK hP 0 rfl rfl 0 (by decide) (hT _ w145) (fun _ h9 => h9) rfl dW_divide_21 ?_
    refine lv_iload hx hb dW_divide_24 (lv_at hl 3 rfl) ?_
    refine lq_iald (j := k - 1) hx hb hK hP 1 0 rfl rfl (nI_sub1 (by omega)) (by omega) (by omega) dW_divide_26 ?_
    refine lv_topi (fun y9 e9 => ?_)
    cases (show y9 = nI (dg f (k - 1)) from e9.trans (by rw [ig (k - 1) (by omega)]; exact hw.1))
    refine lv_i2l hx hb dW_divide_27 rfl ?_
    refine lv_topl (fun y9 e9 => ?_)
    cases (show y9 = lN (dg f (k - 1)) from e9.trans (nI_l (n := dg f (k - 1)) (by have := hw.2; omega)))
    refine lv_ladd hx hb dW_divide_28 ?_
    refine lv_topl (fun y9 e9 => ?_)
    cases (show y9 = lN ((r * 1000000000) + (dg f (k - 1))) from e9.trans (lN_add (r * 1000000000) (dg f (k - 1))))
    obtain ⟨pt, hpt⟩ : ∃ q9 : Nat, q9 = (r * 1000000000) + (dg f (k - 1)) := ⟨_, rfl⟩
    refine lv_topl (fun y9 e9 => ?_)
    cases (show y9 = lN pt from e9.trans (congrArg lN hpt.symm))
    have hb31 : pt < 2 ^ 63 := by have := hw.2; omega
    refine lv_lstore hx hb dW_divide_29 hl (by decide) rfl (fun ls hl => ?_)
    have hl : lv_has ls 7 [(5, .long (lN pt)), (0, .ref h), (1, .int (nI d)), (2, .long (lN r)), (4, .int (nI k - 1))] := hl
    refine lv_aload_n hx hb dW_divide_31 rfl (lv_at hl 1 rfl) ?_
    refine va_get (D := D) (ci := 4) (v := .ref w) (C := R_W) (T := T_W) (N := 3) hx hb hT in_W hown hK hP 0 rfl rfl 0 (by decide) (hT _ w145) (fun _ h9 => h9) rfl dW_divide_32 ?_
    refine lv_iload hx hb dW_divide_35 (lv_at hl 4 rfl) ?_
    refine lv_lload hx hb dW_divide_37 (lv_at hl 0 rfl) ?_
    refine lv_iload_n hx hb dW_divide_39 rfl (lv_at hl 2 rfl) ?_
    refine lv_i2l hx hb dW_divide_40 rfl ?_
    refine lv_topl (fun y9 e9 => ?_)
    cases (show y9 = lN d from e9.trans (nI_l (n := d) (by omega)))
    refine lv_ldiv hx hb dW_divide_41 (fun q => absurd ((pk_lEQ (b := 0) (by omega) (by decide)).mp q) (by omega)) ?_
    refine lv_topl (fun y9 e9 => ?_)
    cases (show y9 = lN (pt / d) from e9.trans (pk_lDiv (a := pt) (b := d) hb31 hd0 (by omega)))
    obtain ⟨q1, hq1⟩ : ∃ q9 : Nat, q9 = pt / d := ⟨_, rfl⟩
    refine lv_topl (fun y9 e9 => ?_)
    cases (show y9 = lN q1 from e9.trans (congrArg lN hq1.symm))
    have hq1b : q1 < 1000000000 := by rw [hq1, hpt]; exact div_lt ir hw.2
    refine lv_l2i hx hb dW_divide_42 rfl ?_
    refine lv_topi (fun y9 e9 => ?_)
    cases (show y9 = nI q1 from e9.trans (lN_i q1))
    refine lq_iast (j := k - 1) hx hb hK hP hD hS 1 0 rfl rfl (nI_sub1 (by omega)) (by omega) (by omega) dW_divide_43 (fun H locs hP hD hS => ?_)
    have hP : va_P D vwCl [(h, .inr (4, [.ref w, .int (nI K), .int b])), (w, .inl (cT 0, R, .inl (upd g (k - 1) (nI q1))))] _ := hP
    have hD : va_D A [(h, .inr (4, [.ref w, .int (nI K), .int b])), (w, .inl (cT 0, R, .inl (upd g (k - 1) (nI q1))))] := hD
    refine lv_lload hx hb dW_divide_44 (lv_at hl 0 rfl) ?_
    refine lv_iload_n hx hb dW_divide_46 rfl (lv_at hl 2 rfl) ?_
    refine lv_i2l hx hb dW_divide_47 rfl ?_
    refine lv_topl (fun y9 e9 => ?_)
    cases (show y9 = lN d from e9.trans (nI_l (n := d) (by omega)))
    refine lv_lrem hx hb dW_divide_48 (fun q => absurd ((pk_lEQ (b := 0) (by omega) (by decide)).mp q) (by omega)) ?_
    refine lv_topl (fun y9 e9 => ?_)
    cases (show y9 = lN (pt % d) from e9.trans (pk_lRem (a := pt) (b := d) hb31 hd0 (by omega)))
    obtain ⟨r1, hr1⟩ : ∃ q9 : Nat, q9 = pt % d := ⟨_, rfl⟩
    refine lv_topl (fun y9 e9 => ?_)
    cases (show y9 = lN r1 from e9.trans (congrArg lN hr1.symm))
    refine lv_lstore_n hx hb dW_divide_49 rfl hl (by decide) rfl (fun ls hl => ?_)
    have hl : lv_has ls 7 [(2, .long (lN r1)), (5, .long (lN pt)), (0, .ref h), (1, .int (nI d)), (4, .int (nI k - 1))] := hl
    refine lv_iinc (k := 4) (v := nI (k - 1) - 1) hx hb dW_divide_50 hl rfl (dn_m1 (by omega)) (by decide) rfl (fun ls hl => ?_)
    have hl : lv_has ls 7 [(4, .int (nI (k - 1) - 1)), (2, .long (lN r1)), (5, .long (lN pt)), (0, .ref h), (1, .int (nI d))] := hl
    refine lv_goto (tgt := 10) hx hb dW_divide_53 rfl ?_
    exact ih10 (k - 1, r1, upd g (k - 1) (nI q1)) (show (k - 1) ≤ K ∧ r1 < d ∧ (∀ j, j < (k - 1) → (upd g (k - 1) (nI q1)) j = f j) ∧ dab 1000000000 (upd g (k - 1) (nI q1)) (k - 1) K ∧ hv 1000000000 (dg f) (k - 1) (K - (k - 1)) = d * hv 1000000000 (dg (upd g (k - 1) (nI q1))) (k - 1) (K - (k - 1)) + r1 from ⟨by omega, by rw [hr1, hpt]; exact Nat.mod_lt _ hd0, fun j h => (pk_un (by omega)).trans (ig j (by omega)), dab_s (by omega) ia hq1b (by decide), by rw [hv_dn (by omega) ik, hv_ud (v := q1) (by omega) ik (by omega)]; exact div_s iv (by rw [hq1, hpt]) (by rw [hr1, hpt])⟩) (show (k - 1) < k from (by omega)) ls H locs (lv_sub hl [3, 4, 1, 0] rfl) hP hD hS
set_option maxHeartbeats 4000000 in
set_option maxRecDepth 100000 in
theorem k_times (l : Launch) (D : va_G) (cT : Nat → ClassId) (h : Nat) (w : Nat) (R : Nat) (n : Int32) (b : Int32) (f : Nat → Int32) (z : Int) (F : Nat) (hR : R ≤ 48) (hN : WN R n b f z) (hF : F < 1000000000000000000) (hfit : z.natAbs * F < 1000000000 ^ R) (sz : Nat) : Met l yW_times WW_times ({ frames := 1, cells := 0, slots := 0, locals := 21 } : Room) (RW D vwCl [.ref h, .long (lN F)] [(h, .inr (4, [.ref w, .int n, .int b])), (w, .inl (cT 0, R, .inl f))] (TY cT) sz) (va_Qv (fun u9 : Int32 × (Nat → Int32) => WN R u9.1 b u9.2 (z * F)) (BW D vwCl (va_A [(h, .inr (4, [.ref w, .int n, .int b])), (w, .inl (cT 0, R, .inl f))] sz) (fun u9 : Int32 × (Nat → Int32) => [(h, .inr (4, [.ref w, .int u9.1, .int b])), (w, .inl (cT 0, R, .inl u9.2))])) (va_A [(h, .inr (4, [.ref w, .int n, .int b])), (w, .inl (cT 0, R, .inl f))] sz)) 0 0 (va_A [(h, .inr (4, [.ref w, .int n, .int b])), (w, .inl (cT 0, R, .inl f))] sz) := by
  refine Met.ofW (cc := cW_times) (maxL := 16) (ret := none) (by decide) rfl ?_
  intro p e s m args below meth c s₁ B hml hv
  obtain ⟨rfl, hsz, hZ, hP, hK, hD0⟩ := hv
  have hx := B.exec
  have hb := B.bytes
  have hr := B.returns
  have hts := atoms_spec (ws := WW_times) B.pre
  have hT : ∀ w ∈ TB, w.before _ s = true := fun w h => hts w (List.mem_cons_of_mem _ h)
  have hown : s.vm.findClass R_W = some m.cls := findClass_of_methodNamed B.named
  have hlocks := B.notSynchronized
  subst hsz
  have hD := hD0.self (sz := s.heap.size)
  generalize hAe : va_A [(h, .inr (4, [.ref w, .int n, .int b])), (w, .inl (cT 0, R, .inl f))] s.heap.size = A at hD hZ ⊢
  have hA : ∀ q : Nat, s.heap.size ≤ q → A q := fun q h => by rw [← hAe]; exact Or.inr h
  have hS : va_S A s.heap s.heap [] := va_S.rf
  have hl := lv_entry ([.ref h, .long (lN F)]) (n := 16) (Nat.le_of_ble_eq_true rfl)
  rw [lg_entry_eq]
  generalize (lg_sl ([.ref h, .long (lN F)]) ++ List.replicate (16 - (lg_sl ([.ref h, .long (lN F)])).length) Slot.unset).toArray = ls at hl ⊢
  have hl : lv_has ls 16 [(0, .ref h), (1, .long (lN F))] := hl
  obtain ⟨K, rfl, hk, hd, htop, hb01, hz⟩ := hN
  have hP : va_P D vwCl [(h, .inr (4, [.ref w, .int (nI K), .int b])), (w, .inl (cT 0, R, .inl f))] _ := hP
  have hD : va_D A [(h, .inr (4, [.ref w, .int (nI K), .int b])), (w, .inl (cT 0, R, .inl f))] := hD
  obtain ⟨hi, hhi⟩ : ∃ q : Nat, q = F / 1000000000 := ⟨_, rfl⟩
  obtain ⟨lo, hlo⟩ : ∃ q : Nat, q = F % 1000000000 := ⟨_, rfl⟩
  have hFe : F = hi * 1000000000 + lo := by omega
  have hhib : hi < 1000000000 := by omega
  have hlob : lo < 1000000000 := by omega
  refine lv_lload_n hx hb dW_times_0 rfl (lv_at hl 1 rfl) ?_
  refine lv_ldc2 (v := 1000000000) hx hb hown (hT _ w421) dW_times_1 ?_
  refine lv_ldiv hx hb dW_times_4 (by decide) ?_
  refine lv_topl (fun y9 e9 => ?_)
  cases (show y9 = lN (F / 1000000000) from e9.trans (pk_lDiv (a := F) (b := 1000000000) (by omega) (by omega) (by omega)))
  refine lv_topl (fun y9 e9 => ?_)
  cases (show y9 = lN hi from e9.trans (congrArg lN hhi.symm))
  refine lv_lstore_n hx hb dW_times_5 rfl hl (by decide) rfl (fun ls hl => ?_)
  have hl : lv_has ls 16 [(3, .long (lN hi)), (0, .ref h), (1, .long (lN F))] := hl
  refine lv_lload_n hx hb dW_times_6 rfl (lv_at hl 2 rfl) ?_
  refine lv_ldc2 (v := 1000000000) hx hb hown (hT _ w421) dW_times_7 ?_
  refine lv_lrem hx hb dW_times_10 (by decide) ?_
  refine lv_topl (fun y9 e9 => ?_)
  cases (show y9 = lN (F % 1000000000) from e9.trans (pk_lRem (a := F) (b := 1000000000) (by omega) (by omega) (by omega)))
  refine lv_topl (fun y9 e9 => ?_)
  cases (show y9 = lN lo from e9.trans (congrArg lN hlo.symm))
  refine lv_lstore hx hb dW_times_11 hl (by decide) rfl (fun ls hl => ?_)
  have hl : lv_has ls 16 [(5, .long (lN lo)), (3, .long (lN hi)), (0, .ref h), (1, .long (lN F))] := hl
  refine lv_lconst (v := 0) hx hb dW_times_13 (by decide) ?_
  refine lv_lstore hx hb dW_times_14 hl (by decide) rfl (fun ls hl => ?_)
  have hl : lv_has ls 16 [(7, .long 0), (5, .long (lN lo)), (3, .long (lN hi)), (0, .ref h), (1, .long (lN F))] := hl
  refine lv_lconst (v := 0) hx hb dW_times_16 (by decide) ?_
  refine lv_lstore hx hb dW_times_17 hl (by decide) rfl (fun ls hl => ?_)
  have hl : lv_has ls 16 [(9, .long 0), (7, .long 0), (5, .long (lN lo)), (3, .long (lN hi)), (0, .ref h), (1, .long (lN F))] := hl
  refine lv_iconst (v := 0) hx hb dW_times_19 (by decide) ?_
  refine lv_istore hx hb dW_times_20 hl (by decide) rfl (fun ls hl => ?_)
  have hl : lv_has ls 16 [(11, .int 0), (9, .long 0), (7, .long 0), (5, .long (lN lo)), (3, .long (lN hi)), (0, .ref h), (1, .long (lN F))] := hl
  refine lp_w (α := Nat × Nat × Nat × (Nat → Int32)) (fun a9 => a9.1 ≤ R ∧ a9.2.1 < 1000000000 ∧ a9.2.2.1 < 4000000000 ∧ dok 1000000000 a9.2.2.2 a9.1 ∧ (∀ m, a9.1 ≤ m → a9.2.2.2 m = f m) ∧ hv 1000000000 (dg a9.2.2.2) 0 a9.1 + 1000000000 ^ a9.1 * (a9.2.1 * hi + a9.2.2.1) = F * hv 1000000000 (ct K (dg f)) 0 a9.1) (fun a9 => R - a9.1) (fun a9 => [(0, .ref h), (3, .long (lN hi)), (5, .long (lN lo)), (7, .long (lN a9.2.1)), (9, .long (lN a9.2.2.1)), (11, .int (nI a9.1))]) (fun a9 => [(h, .inr (4, [.ref w, .int (nI K), .int b])), (w, .inl (cT 0, R, .inl a9.2.2.2))]) 22 ?_ (0, 0, 0, f) (show 0 ≤ R ∧ 0 < 1000000000 ∧ 0 < 4000000000 ∧ dok 1000000000 f 0 ∧ (∀ m, 0 ≤ m → f m = f m) ∧ hv 1000000000 (dg f) 0 0 + 1000000000 ^ 0 * (0 * hi + 0) = F * hv 1000000000 (ct K (dg f)) 0 0 from ⟨by omega, by decide, by decide, fun q h => absurd h (by omega), fun _ _ => rfl, by simp [hv]⟩) (lv_sub hl [5, 4, 3, 2, 1, 0] rfl) hP hD hS
  intro a9 hI22 ih22 ls H locs hl hP hD hS
  obtain ⟨j, bf, ca, g⟩ := a9
  have hI22 : j ≤ R ∧ bf < 1000000000 ∧ ca < 4000000000 ∧ dok 1000000000 g j ∧ (∀ m, j ≤ m → g m = f m) ∧ hv 1000000000 (dg g) 0 j + 1000000000 ^ j * (bf * hi + ca) = F * hv 1000000000 (ct K (dg f)) 0 j := hI22
  obtain ⟨ij, ib, ic, ig, if0, iv⟩ := hI22
  have hl : lv_has ls 16 [(0, .ref h), (3, .long (lN hi)), (5, .long (lN lo)), (7, .long (lN bf)), (9, .long (lN ca)), (11, .int (nI j))] := hl
  have hP : va_P D vwCl [(h, .inr (4, [.ref w, .int (nI K), .int b])), (w, .inl (cT 0, R, .inl g))] _ := hP
  have hD : va_D A [(h, .inr (4, [.ref w, .int (nI K), .int b])), (w, .inl (cT 0, R, .inl g))] := hD
  have hbh := mulb ib hhib
  refine lv_iload hx hb dW_times_22 (lv_at hl 5 rfl) ?_
  refine lv_aload_n hx hb dW_times_24 rfl (lv_at hl 0 rfl) ?_
  refine va_get (D := D) (ci := 4) (v := .ref w) (C := R_W) (T := T_W) (N := 3) hx hb hT in_W hown hK hP 0 rfl rfl 0 (by decide) (hT _ w145) (fun _ h9 => h9) rfl dW_times_25 ?_
  refine va_alen (v := nI R) hx hb hK hP 1 0 rfl rfl rfl dW_times_28 ?_
  refine lv_icmp_ge (tgt := 126) hx hb dW_times_29 rfl (fun h1 => ?_) (fun h1 => ?_)
  · have gh1 : R ≤ j := (nI_leI (a := R) (b := j) (by omega) (by omega)).mp h1
    have hx0 : bf * hi + ca = 0 ∧ hv 1000000000 (ct K (dg f)) 0 j = vW f K := by
      have e1 : j = R := by omega
      have e2 := hv_ct (B := 1000000000) (d := dg f) (show K ≤ j by omega)
      rw [e2] at iv
      rw [hz, wz_abs, Nat.mul_comm, ← iv, e1] at hfit
      refine ⟨?_, e2⟩
      rcases Nat.eq_zero_or_pos (bf * hi + ca) with q | q
      · exact q
      · have := Nat.mul_le_mul_left (1000000000 ^ R) (show 1 ≤ bf * hi + ca from q)
        omega
    rw [hx0.1, hx0.2, Nat.mul_zero, Nat.add_zero] at iv
    refine lv_aload_n hx hb dW_times_126 rfl (lv_at hl 0 rfl) ?_
    refine lv_iload hx hb dW_times_127 (lv_at hl 5 rfl) ?_
    refine rw_v (wc := [(h, .inr (4, [.ref w, .int (nI K), .int b])), (w, .inl (cT 0, R, .inl g))]) (wr := []) hP hD hS hA [0, 1] [] rfl rfl (by decide) (by decide) (va_runV (As := [.int (nI j)]) (rest := []) ⟨hx, hb, hml, hown, hT⟩ (k_trim l D cT h w R (nI K) b g j hR ij ig _) ⟨callB_of 1 hT (tb_gd w397) rfl rfl rfl (hT _ w5) (hT _ w394) hW_trim ⟨Nat.le_of_ble_eq_true rfl, Nat.le_of_ble_eq_true rfl⟩, (hT _ w396), (hT _ wp3)⟩ (RW.preV (ci := 4) (q0 := 0) hZ hS (va_free (wc := [(h, .inr (4, [.ref w, .int (nI K), .int b])), (w, .inl (cT 0, R, .inl g))]) hD hS hA [0, 1] rfl) (hP.sub (ws' := [(h, .inr (4, [.ref w, .int (nI K), .int b])), (w, .inl (cT 0, R, .inl g))]) [0, 1] rfl) hK (hD.sub (ws' := [(h, .inr (4, [.ref w, .int (nI K), .int b])), (w, .inl (cT 0, R, .inl g))]) [0, 1] (by decide) rfl) rfl rfl) rfl rfl hl.1 rfl (lv_room (Nat.le_of_ble_eq_true rfl)) dW_times_129 ⟨Nat.le_of_ble_eq_true rfl, Nat.le_of_ble_eq_true rfl⟩) (fun u9 H locs hpu2 hP hD hS => ?_)
    obtain ⟨ku2, rfl⟩ : ∃ q9, q9 = u9 := ⟨_, rfl⟩
    have hpu2 : ku2 ≤ j ∧ top0 g ku2 ∧ vW g ku2 = vW g j := hpu2
    have hP : va_P D vwCl [(h, .inr (4, [.ref w, .int (nI ku2), .int b])), (w, .inl (cT 0, R, .inl g))] _ := hP
    have hD : va_D A [(h, .inr (4, [.ref w, .int (nI ku2), .int b])), (w, .inl (cT 0, R, .inl g))] := hD
    have hP9 := hP.sub (ws' := [(h, .inr (4, [.ref w, .int (nI ku2), .int b])), (w, .inl (cT 0, R, .inl g))]) [0, 1] rfl
    have hD9 := hD.sub (ws' := [(h, .inr (4, [.ref w, .int (nI ku2), .int b])), (w, .inl (cT 0, R, .inl g))]) [0, 1] (by decide) rfl
    refine W.widen (k := 0) (n := 0) (Nat.le_of_ble_eq_true rfl) (Nat.le_of_ble_eq_true rfl) ?_
    exact W.vret hx hb hr (fun t9 ht9 hW9 => ⟨⟨(nI ku2, g), rfl, (show WN R (nI ku2) b g (z * F) from by have q0 := wn_trim (R := R) ij ig hb01 hpu2; rw [show vW g j = vW f K * F from iv.trans (Nat.mul_comm _ _), wz_mul, ← hz] at q0; exact q0), by rw [ht9]; exact hP9, hD9⟩, hS.F ht9⟩) hS.2.2 dW_times_132
  · have gh1 : j < R := Nat.not_le.mp (fun q => h1 ((nI_leI (a := R) (b := j) (by omega) (by omega)).mpr q))
    refine lv_iload hx hb dW_times_32 (lv_at hl 5 rfl) ?_
    refine lv_aload_n hx hb dW_times_34 rfl (lv_at hl 0 rfl) ?_
    refine va_get (D := D) (ci := 4) (v := .int (nI K)) (C := R_W) (T := T_W) (N := 3) hx hb hT in_W hown hK hP 0 rfl rfl 1 (by decide) (hT _ w148) (fun _ h9 => h9) rfl dW_times_35 ?_
    refine lv_icmp_lt (tgt := 53) hx hb dW_times_38 rfl (fun h3 => ?_) (fun h3 => ?_)
    · have gh3 : j < K := (nI_ltI (a := j) (b := K) (by omega) (by omega)).mp h3
      obtain ⟨wd, hwd⟩ : ∃ q9 : Nat, q9 = ct K (dg f) j := ⟨_, rfl⟩
      have hwdb : wd < 1000000000 := by
        rw [hwd]
        by_cases q : j < K
        · rw [ct_lt q]; exact (hd j q).2
        · rw [ct_ge (show K ≤ j by omega)]; decide
      have hwl := mulb hwdb hlob
      refine lv_iload hx hb dW_times_53 (lv_at hl 5 rfl) ?_
      refine lv_aload_n hx hb dW_times_55 rfl (lv_at hl 0 rfl) ?_
      refine va_get (D := D) (ci := 4) (v := .int (nI K)) (C := R_W) (T := T_W) (N := 3) hx hb hT in_W hown hK hP 0 rfl rfl 1 (by decide) (hT _ w148) (fun _ h9 => h9) rfl dW_times_56 ?_
      refine lv_icmp_ge (tgt := 73) hx hb dW_times_59 rfl (fun h4 => absurd h4 (Int32.not_le.mpr h3)) (fun _ => ?_)
      refine lv_aload_n hx hb dW_times_62 rfl (lv_at hl 0 rfl) ?_
      refine va_get (D := D) (ci := 4) (v := .ref w) (C := R_W) (T := T_W) (N := 3) hx hb hT in_W hown hK hP 0 rfl rfl 0 (by decide) (hT _ w145) (fun _ h9 => h9) rfl dW_times_63 ?_
      refine lv_iload hx hb dW_times_66 (lv_at hl 5 rfl) ?_
      refine lq_iald (j := j) hx hb hK hP 1 0 rfl rfl rfl (by omega) (by omega) dW_times_68 ?_
      refine lv_topi (fun y9 e9 => ?_)
      cases (show y9 = nI wd from e9.trans (by rw [if0 j (Nat.le_refl _), hwd, ct_lt (show j < K by omega)]; exact (hd j (by omega)).1))
      refine lv_i2l hx hb dW_times_69 rfl ?_
      refine lv_topl (fun y9 e9 => ?_)
      cases (show y9 = lN wd from e9.trans (nI_l (n := wd) (by omega)))
      refine lv_goto (tgt := 74) hx hb dW_times_70 rfl ?_
      refine lv_lstore hx hb dW_times_74 hl (by decide) rfl (fun ls hl => ?_)
      have hl : lv_has ls 16 [(12, .long (lN wd)), (0, .ref h), (3, .long (lN hi)), (5, .long (lN lo)), (7, .long (lN bf)), (9, .long (lN ca)), (11, .int (nI j))] := hl
      refine lv_lload hx hb dW_times_76 (lv_at hl 0 rfl) ?_
      refine lv_lload hx hb dW_times_78 (lv_at hl 3 rfl) ?_
      refine lv_lmul hx hb dW_times_80 ?_
      refine lv_topl (fun y9 e9 => ?_)
      cases (show y9 = lN (wd * lo) from e9.trans (lN_mul wd lo))
      refine lv_lload hx hb dW_times_81 (lv_at hl 4 rfl) ?_
      refine lv_lload_n hx hb dW_times_83 rfl (lv_at hl 2 rfl) ?_
      refine lv_lmul hx hb dW_times_84 ?_
      refine lv_topl (fun y9 e9 => ?_)
      cases (show y9 = lN (bf * hi) from e9.trans (lN_mul bf hi))
      refine lv_ladd hx hb dW_times_85 ?_
      refine lv_topl (fun y9 e9 => ?_)
      cases (show y9 = lN ((wd * lo) + (bf * hi)) from e9.trans (lN_add (wd * lo) (bf * hi)))
      refine lv_lload hx hb dW_times_86 (lv_at hl 5 rfl) ?_
      refine lv_ladd hx hb dW_times_88 ?_
      refine lv_topl (fun y9 e9 => ?_)
      cases (show y9 = lN (((wd * lo) + (bf * hi)) + ca) from e9.trans (lN_add ((wd * lo) + (bf * hi)) ca))
      obtain ⟨sm, hsm⟩ : ∃ q9 : Nat, q9 = ((wd * lo) + (bf * hi)) + ca := ⟨_, rfl⟩
      refine lv_topl (fun y9 e9 => ?_)
      cases (show y9 = lN sm from e9.trans (congrArg lN hsm.symm))
      refine lv_lstore hx hb dW_times_89 hl (by decide) rfl (fun ls hl => ?_)
      have hl : lv_has ls 16 [(14, .long (lN sm)), (12, .long (lN wd)), (0, .ref h), (3, .long (lN hi)), (5, .long (lN lo)), (7, .long (lN bf)), (9, .long (lN ca)), (11, .int (nI j))] := hl
      have hsb : sm < 4000000000000000000 := by omega
      refine lv_lload hx hb dW_times_91 (lv_at hl 0 rfl) ?_
      refine lv_ldc2 (v := 1000000000) hx hb hown (hT _ w421) dW_times_93 ?_
      refine lv_ldiv hx hb dW_times_96 (by decide) ?_
      refine lv_topl (fun y9 e9 => ?_)
      cases (show y9 = lN (sm / 1000000000) from e9.trans (pk_lDiv (a := sm) (b := 1000000000) (by omega) (by omega) (by decide)))
      obtain ⟨c1, hc1⟩ : ∃ q9 : Nat, q9 = sm / 1000000000 := ⟨_, rfl⟩
      refine lv_topl (fun y9 e9 => ?_)
      cases (show y9 = lN c1 from e9.trans (congrArg lN hc1.symm))
      refine lv_lstore hx hb dW_times_97 hl (by decide) rfl (fun ls hl => ?_)
      have hl : lv_has ls 16 [(9, .long (lN c1)), (14, .long (lN sm)), (12, .long (lN wd)), (0, .ref h), (3, .long (lN hi)), (5, .long (lN lo)), (7, .long (lN bf)), (11, .int (nI j))] := hl
      refine lv_aload_n hx hb dW_times_99 rfl (lv_at hl 3 rfl) ?_
      refine va_get (D := D) (ci := 4) (v := .ref w) (C := R_W) (T := T_W) (N := 3) hx hb hT in_W hown hK hP 0 rfl rfl 0 (by decide) (hT _ w145) (fun _ h9 => h9) rfl dW_times_100 ?_
      refine lv_iload hx hb dW_times_103 (lv_at hl 7 rfl) ?_
      refine lv_lload hx hb dW_times_105 (lv_at hl 1 rfl) ?_
      refine lv_lload hx hb dW_times_107 (lv_at hl 0 rfl) ?_
      refine lv_ldc2 (v := 1000000000) hx hb hown (hT _ w421) dW_times_109 ?_
      refine lv_lmul hx hb dW_times_112 ?_
      refine lv_topl (fun y9 e9 => ?_)
      cases (show y9 = lN (c1 * 1000000000) from e9.trans (lN_mul c1 1000000000))
      refine lv_lsub hx hb dW_times_113 ?_
      refine lv_topl (fun y9 e9 => ?_)
      cases (show y9 = lN (sm - (c1 * 1000000000)) from e9.trans (lN_sub (a := sm) (b := c1 * 1000000000) (by omega)))
      obtain ⟨v1, hv1⟩ : ∃ q9 : Nat, q9 = sm % 1000000000 := ⟨_, rfl⟩
      have hv1b : v1 < 1000000000 := by omega
      refine lv_topl (fun y9 e9 => ?_)
      cases (show y9 = lN v1 from e9.trans (congrArg lN (show sm - (c1 * 1000000000) = v1 by omega)))
      refine lv_l2i hx hb dW_times_114 rfl ?_
      refine lv_topi (fun y9 e9 => ?_)
      cases (show y9 = nI v1 from e9.trans (lN_i v1))
      refine lq_iast (j := j) hx hb hK hP hD hS 1 0 rfl rfl rfl (by omega) (by omega) dW_times_115 (fun H locs hP hD hS => ?_)
      have hP : va_P D vwCl [(h, .inr (4, [.ref w, .int (nI K), .int b])), (w, .inl (cT 0, R, .inl (upd g j (nI v1))))] _ := hP
      have hD : va_D A [(h, .inr (4, [.ref w, .int (nI K), .int b])), (w, .inl (cT 0, R, .inl (upd g j (nI v1))))] := hD
      refine lv_lload hx hb dW_times_116 (lv_at hl 2 rfl) ?_
      refine lv_lstore hx hb dW_times_118 hl (by decide) rfl (fun ls hl => ?_)
      have hl : lv_has ls 16 [(7, .long (lN wd)), (9, .long (lN c1)), (14, .long (lN sm)), (12, .long (lN wd)), (0, .ref h), (3, .long (lN hi)), (5, .long (lN lo)), (11, .int (nI j))] := hl
      refine lv_iinc (k := 7) (v := nI (j + 1)) hx hb dW_times_120 hl rfl (nI_1 j) (by decide) rfl (fun ls hl => ?_)
      have hl : lv_has ls 16 [(11, .int (nI (j + 1))), (7, .long (lN wd)), (9, .long (lN c1)), (14, .long (lN sm)), (12, .long (lN wd)), (0, .ref h), (3, .long (lN hi)), (5, .long (lN lo))] := hl
      refine lv_goto (tgt := 22) hx hb dW_times_123 rfl ?_
      exact ih22 (j + 1, wd, c1, upd g j (nI v1)) (show (j + 1) ≤ R ∧ wd < 1000000000 ∧ c1 < 4000000000 ∧ dok 1000000000 (upd g j (nI v1)) (j + 1) ∧ (∀ m, (j + 1) ≤ m → (upd g j (nI v1)) m = f m) ∧ hv 1000000000 (dg (upd g j (nI v1))) 0 (j + 1) + 1000000000 ^ (j + 1) * (wd * hi + c1) = F * hv 1000000000 (ct K (dg f)) 0 (j + 1) from ⟨by omega, hwdb, by omega, dok_s ig (by omega) (by decide), fun q h => (pk_un (by omega)).trans (if0 q (by omega)), by rw [hv_us (v := v1) (by omega), hv_snoc, Nat.zero_add, Nat.pow_succ, hv1, hc1, ← hwd]; exact times_s iv hsm hFe⟩) (show R - (j + 1) < R - j from (by omega)) ls H locs (lv_sub hl [5, 6, 7, 1, 2, 0] rfl) hP hD hS
    · have gh3 : K ≤ j := Nat.not_lt.mp (fun q => h3 ((nI_ltI (a := j) (b := K) (by omega) (by omega)).mpr q))
      refine lv_lload hx hb dW_times_41 (lv_at hl 3 rfl) ?_
      refine lv_lload_n hx hb dW_times_43 rfl (lv_at hl 1 rfl) ?_
      refine lv_lmul hx hb dW_times_44 ?_
      refine lv_topl (fun y9 e9 => ?_)
      cases (show y9 = lN (bf * hi) from e9.trans (lN_mul bf hi))
      refine lv_lload hx hb dW_times_45 (lv_at hl 4 rfl) ?_
      refine lv_ladd hx hb dW_times_47 ?_
      refine lv_topl (fun y9 e9 => ?_)
      cases (show y9 = lN ((bf * hi) + ca) from e9.trans (lN_add (bf * hi) ca))
      refine lv_lconst (v := 0) hx hb dW_times_48 (by decide) ?_
      refine W.lcmp hx hb dW_times_49 ?_
      refine lv_if_eq (tgt := 126) hx hb dW_times_50 rfl (fun h5 => ?_) (fun h5 => ?_)
      · have gh5 : (bf * hi) + ca = 0 := ((lg_cmp_eq (lN ((bf * hi) + ca)) 0).trans (pk_lEQ (a := (bf * hi) + ca) (b := 0) (by omega) (by decide))).mp h5
        have hx0 : bf * hi + ca = 0 ∧ hv 1000000000 (ct K (dg f)) 0 j = vW f K := by
          exact ⟨by omega, hv_ct (by omega)⟩
        rw [hx0.1, hx0.2, Nat.mul_zero, Nat.add_zero] at iv
        refine lv_aload_n hx hb dW_times_126 rfl (lv_at hl 0 rfl) ?_
        refine lv_iload hx hb dW_times_127 (lv_at hl 5 rfl) ?_
        refine rw_v (wc := [(h, .inr (4, [.ref w, .int (nI K), .int b])), (w, .inl (cT 0, R, .inl g))]) (wr := []) hP hD hS hA [0, 1] [] rfl rfl (by decide) (by decide) (va_runV (As := [.int (nI j)]) (rest := []) ⟨hx, hb, hml, hown, hT⟩ (k_trim l D cT h w R (nI K) b g j hR ij ig _) ⟨callB_of 1 hT (tb_gd w397) rfl rfl rfl (hT _ w5) (hT _ w394) hW_trim ⟨Nat.le_of_ble_eq_true rfl, Nat.le_of_ble_eq_true rfl⟩, (hT _ w396), (hT _ wp3)⟩ (RW.preV (ci := 4) (q0 := 0) hZ hS (va_free (wc := [(h, .inr (4, [.ref w, .int (nI K), .int b])), (w, .inl (cT 0, R, .inl g))]) hD hS hA [0, 1] rfl) (hP.sub (ws' := [(h, .inr (4, [.ref w, .int (nI K), .int b])), (w, .inl (cT 0, R, .inl g))]) [0, 1] rfl) hK (hD.sub (ws' := [(h, .inr (4, [.ref w, .int (nI K), .int b])), (w, .inl (cT 0, R, .inl g))]) [0, 1] (by decide) rfl) rfl rfl) rfl rfl hl.1 rfl (lv_room (Nat.le_of_ble_eq_true rfl)) dW_times_129 ⟨Nat.le_of_ble_eq_true rfl, Nat.le_of_ble_eq_true rfl⟩) (fun u9 H locs hpu6 hP hD hS => ?_)
        obtain ⟨ku6, rfl⟩ : ∃ q9, q9 = u9 := ⟨_, rfl⟩
        have hpu6 : ku6 ≤ j ∧ top0 g ku6 ∧ vW g ku6 = vW g j := hpu6
        have hP : va_P D vwCl [(h, .inr (4, [.ref w, .int (nI ku6), .int b])), (w, .inl (cT 0, R, .inl g))] _ := hP
        have hD : va_D A [(h, .inr (4, [.ref w, .int (nI ku6), .int b])), (w, .inl (cT 0, R, .inl g))] := hD
        have hP9 := hP.sub (ws' := [(h, .inr (4, [.ref w, .int (nI ku6), .int b])), (w, .inl (cT 0, R, .inl g))]) [0, 1] rfl
        have hD9 := hD.sub (ws' := [(h, .inr (4, [.ref w, .int (nI ku6), .int b])), (w, .inl (cT 0, R, .inl g))]) [0, 1] (by decide) rfl
        refine W.widen (k := 0) (n := 0) (Nat.le_of_ble_eq_true rfl) (Nat.le_of_ble_eq_true rfl) ?_
        exact W.vret hx hb hr (fun t9 ht9 hW9 => ⟨⟨(nI ku6, g), rfl, (show WN R (nI ku6) b g (z * F) from by have q0 := wn_trim (R := R) ij ig hb01 hpu6; rw [show vW g j = vW f K * F from iv.trans (Nat.mul_comm _ _), wz_mul, ← hz] at q0; exact q0), by rw [ht9]; exact hP9, hD9⟩, hS.F ht9⟩) hS.2.2 dW_times_132
      · have gh5 : ¬ ((bf * hi) + ca = 0) := fun q => h5 (((lg_cmp_eq (lN ((bf * hi) + ca)) 0).trans (pk_lEQ (a := (bf * hi) + ca) (b := 0) (by omega) (by decide))).mpr q)
        obtain ⟨wd, hwd⟩ : ∃ q9 : Nat, q9 = ct K (dg f) j := ⟨_, rfl⟩
        have hwdb : wd < 1000000000 := by
          rw [hwd]
          by_cases q : j < K
          · rw [ct_lt q]; exact (hd j q).2
          · rw [ct_ge (show K ≤ j by omega)]; decide
        have hwl := mulb hwdb hlob
        refine lv_iload hx hb dW_times_53 (lv_at hl 5 rfl) ?_
        refine lv_aload_n hx hb dW_times_55 rfl (lv_at hl 0 rfl) ?_
        refine va_get (D := D) (ci := 4) (v := .int (nI K)) (C := R_W) (T := T_W) (N := 3) hx hb hT in_W hown hK hP 0 rfl rfl 1 (by decide) (hT _ w148) (fun _ h9 => h9) rfl dW_times_56 ?_
        refine lv_icmp_ge (tgt := 73) hx hb dW_times_59 rfl (fun _ => ?_) (fun h7 => absurd (Int32.not_lt.mp h3) h7)
        have hw0 : wd = 0 := by rw [hwd, ct_ge (show K ≤ j by omega)]
        refine lv_lconst (v := 0) hx hb dW_times_73 (by decide) ?_
        refine lv_topl (fun y9 e9 => ?_)
        cases (show y9 = lN wd from e9.trans (by rw [hw0]; rfl))
        refine lv_lstore hx hb dW_times_74 hl (by decide) rfl (fun ls hl => ?_)
        have hl : lv_has ls 16 [(12, .long (lN wd)), (0, .ref h), (3, .long (lN hi)), (5, .long (lN lo)), (7, .long (lN bf)), (9, .long (lN ca)), (11, .int (nI j))] := hl
        refine lv_lload hx hb dW_times_76 (lv_at hl 0 rfl) ?_
        refine lv_lload hx hb dW_times_78 (lv_at hl 3 rfl) ?_
        refine lv_lmul hx hb dW_times_80 ?_
        refine lv_topl (fun y9 e9 => ?_)
        cases (show y9 = lN (wd * lo) from e9.trans (lN_mul wd lo))
        refine lv_lload hx hb dW_times_81 (lv_at hl 4 rfl) ?_
        refine lv_lload_n hx hb dW_times_83 rfl (lv_at hl 2 rfl) ?_
        refine lv_lmul hx hb dW_times_84 ?_
        refine lv_topl (fun y9 e9 => ?_)
        cases (show y9 = lN (bf * hi) from e9.trans (lN_mul bf hi))
        refine lv_ladd hx hb dW_times_85 ?_
        refine lv_topl (fun y9 e9 => ?_)
        cases (show y9 = lN ((wd * lo) + (bf * hi)) from e9.trans (lN_add (wd * lo) (bf * hi)))
        refine lv_lload hx hb dW_times_86 (lv_at hl 5 rfl) ?_
        refine lv_ladd hx hb dW_times_88 ?_
        refine lv_topl (fun y9 e9 => ?_)
        cases (show y9 = lN (((wd * lo) + (bf * hi)) + ca) from e9.trans (lN_add ((wd * lo) + (bf * hi)) ca))
        obtain ⟨sm, hsm⟩ : ∃ q9 : Nat, q9 = ((wd * lo) + (bf * hi)) + ca := ⟨_, rfl⟩
        refine lv_topl (fun y9 e9 => ?_)
        cases (show y9 = lN sm from e9.trans (congrArg lN hsm.symm))
        refine lv_lstore hx hb dW_times_89 hl (by decide) rfl (fun ls hl => ?_)
        have hl : lv_has ls 16 [(14, .long (lN sm)), (12, .long (lN wd)), (0, .ref h), (3, .long (lN hi)), (5, .long (lN lo)), (7, .long (lN bf)), (9, .long (lN ca)), (11, .int (nI j))] := hl
        have hsb : sm < 4000000000000000000 := by omega
        refine lv_lload hx hb dW_times_91 (lv_at hl 0 rfl) ?_
        refine lv_ldc2 (v := 1000000000) hx hb hown (hT _ w421) dW_times_93 ?_
        refine lv_ldiv hx hb dW_times_96 (by decide) ?_
        refine lv_topl (fun y9 e9 => ?_)
        cases (show y9 = lN (sm / 1000000000) from e9.trans (pk_lDiv (a := sm) (b := 1000000000) (by omega) (by omega) (by decide)))
        obtain ⟨c1, hc1⟩ : ∃ q9 : Nat, q9 = sm / 1000000000 := ⟨_, rfl⟩
        refine lv_topl (fun y9 e9 => ?_)
        cases (show y9 = lN c1 from e9.trans (congrArg lN hc1.symm))
        refine lv_lstore hx hb dW_times_97 hl (by decide) rfl (fun ls hl => ?_)
        have hl : lv_has ls 16 [(9, .long (lN c1)), (14, .long (lN sm)), (12, .long (lN wd)), (0, .ref h), (3, .long (lN hi)), (5, .long (lN lo)), (7, .long (lN bf)), (11, .int (nI j))] := hl
        refine lv_aload_n hx hb dW_times_99 rfl (lv_at hl 3 rfl) ?_
        refine va_get (D := D) (ci := 4) (v := .ref w) (C := R_W) (T := T_W) (N := 3) hx hb hT in_W hown hK hP 0 rfl rfl 0 (by decide) (hT _ w145) (fun _ h9 => h9) rfl dW_times_100 ?_
        refine lv_iload hx hb dW_times_103 (lv_at hl 7 rfl) ?_
        refine lv_lload hx hb dW_times_105 (lv_at hl 1 rfl) ?_
        refine lv_lload hx hb dW_times_107 (lv_at hl 0 rfl) ?_
        refine lv_ldc2 (v := 1000000000) hx hb hown (hT _ w421) dW_times_109 ?_
        refine lv_lmul hx hb dW_times_112 ?_
        refine lv_topl (fun y9 e9 => ?_)
        cases (show y9 = lN (c1 * 1000000000) from e9.trans (lN_mul c1 1000000000))
        refine lv_lsub hx hb dW_times_113 ?_
        refine lv_topl (fun y9 e9 => ?_)
        cases (show y9 = lN (sm - (c1 * 1000000000)) from e9.trans (lN_sub (a := sm) (b := c1 * 1000000000) (by omega)))
        obtain ⟨v1, hv1⟩ : ∃ q9 : Nat, q9 = sm % 1000000000 := ⟨_, rfl⟩
        have hv1b : v1 < 1000000000 := by omega
        refine lv_topl (fun y9 e9 => ?_)
        cases (show y9 = lN v1 from e9.trans (congrArg lN (show sm - (c1 * 1000000000) = v1 by omega)))
        refine lv_l2i hx hb dW_times_114 rfl ?_
        refine lv_topi (fun y9 e9 => ?_)
        cases (show y9 = nI v1 from e9.trans (lN_i v1))
        refine lq_iast (j := j) hx hb hK hP hD hS 1 0 rfl rfl rfl (by omega) (by omega) dW_times_115 (fun H locs hP hD hS => ?_)
        have hP : va_P D vwCl [(h, .inr (4, [.ref w, .int (nI K), .int b])), (w, .inl (cT 0, R, .inl (upd g j (nI v1))))] _ := hP
        have hD : va_D A [(h, .inr (4, [.ref w, .int (nI K), .int b])), (w, .inl (cT 0, R, .inl (upd g j (nI v1))))] := hD
        refine lv_lload hx hb dW_times_116 (lv_at hl 2 rfl) ?_
        refine lv_lstore hx hb dW_times_118 hl (by decide) rfl (fun ls hl => ?_)
        have hl : lv_has ls 16 [(7, .long (lN wd)), (9, .long (lN c1)), (14, .long (lN sm)), (12, .long (lN wd)), (0, .ref h), (3, .long (lN hi)), (5, .long (lN lo)), (11, .int (nI j))] := hl
        refine lv_iinc (k := 7) (v := nI (j + 1)) hx hb dW_times_120 hl rfl (nI_1 j) (by decide) rfl (fun ls hl => ?_)
        have hl : lv_has ls 16 [(11, .int (nI (j + 1))), (7, .long (lN wd)), (9, .long (lN c1)), (14, .long (lN sm)), (12, .long (lN wd)), (0, .ref h), (3, .long (lN hi)), (5, .long (lN lo))] := hl
        refine lv_goto (tgt := 22) hx hb dW_times_123 rfl ?_
        exact ih22 (j + 1, wd, c1, upd g j (nI v1)) (show (j + 1) ≤ R ∧ wd < 1000000000 ∧ c1 < 4000000000 ∧ dok 1000000000 (upd g j (nI v1)) (j + 1) ∧ (∀ m, (j + 1) ≤ m → (upd g j (nI v1)) m = f m) ∧ hv 1000000000 (dg (upd g j (nI v1))) 0 (j + 1) + 1000000000 ^ (j + 1) * (wd * hi + c1) = F * hv 1000000000 (ct K (dg f)) 0 (j + 1) from ⟨by omega, hwdb, by omega, dok_s ig (by omega) (by decide), fun q h => (pk_un (by omega)).trans (if0 q (by omega)), by rw [hv_us (v := v1) (by omega), hv_snoc, Nat.zero_add, Nat.pow_succ, hv1, hc1, ← hwd]; exact times_s iv hsm hFe⟩) (show R - (j + 1) < R - j from (by omega)) ls H locs (lv_sub hl [5, 6, 7, 1, 2, 0] rfl) hP hD hS
