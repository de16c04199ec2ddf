set_option maxHeartbeats 4000000 in
set_option maxRecDepth 100000 in
theorem k_appDig (l : Launch) (D : va_G) (cT : Nat → ClassId) (h : Nat) (ob : Nat) (ou : Nat) (ow : Nat) (L9 : Nat) (fo : Nat → Int32) (wh : Nat) (ww : Nat) (R9 : Nat) (wn : Int32) (wb : Int32) (wf : Nat → Int32) (z : Int) (hR9 : R9 ≤ 48) (hN : WN R9 wn wb wf z) (hL9 : L9 + 432 < 866 ∨ L9 + 432 = 866) (sz : Nat) : Met l yO_appendDigits WO_appendDigits ({ frames := 1, cells := 0, slots := 0, locals := 21 } : Room) (RW D vwCl [.ref h, .ref wh] [(h, .inr (8, [.ref ob, .int (nI L9), .ref ou, .ref ow])), (ob, .inl (cT 2, 866, .inl fo)), (wh, .inr (4, [.ref ww, .int wn, .int wb])), (ww, .inl (cT 0, R9, .inl wf))] (TY cT) sz) (va_Qv (fun u9 : Nat × (Nat → Int32) × Nat => NDG z.natAbs u9.1 ∧ u9.2.2 = L9 + u9.1 ∧ (∀ i8, i8 < u9.1 → u9.2.1 (L9 + i8) = nI (48 + dgt z.natAbs (u9.1 - 1 - i8))) ∧ ∀ i8, i8 < L9 → u9.2.1 i8 = fo i8) (BW D vwCl (va_A [(h, .inr (8, [.ref ob, .int (nI L9), .ref ou, .ref ow])), (ob, .inl (cT 2, 866, .inl fo)), (wh, .inr (4, [.ref ww, .int wn, .int wb])), (ww, .inl (cT 0, R9, .inl wf))] sz) (fun u9 : Nat × (Nat → Int32) × Nat => [(h, .inr (8, [.ref ob, .int (nI u9.2.2), .ref ou, .ref ow])), (ob, .inl (cT 2, 866, .inl u9.2.1)), (wh, .inr (4, [.ref ww, .int wn, .int wb])), (ww, .inl (cT 0, R9, .inl wf))])) (va_A [(h, .inr (8, [.ref ob, .int (nI L9), .ref ou, .ref ow])), (ob, .inl (cT 2, 866, .inl fo)), (wh, .inr (4, [.ref ww, .int wn, .int wb])), (ww, .inl (cT 0, R9, .inl wf))] sz)) 0 0 (va_A [(h, .inr (8, [.ref ob, .int (nI L9), .ref ou, .ref ow])), (ob, .inl (cT 2, 866, .inl fo)), (wh, .inr (4, [.ref ww, .int wn, .int wb])), (ww, .inl (cT 0, R9, .inl wf))] sz) := by
  refine Met.ofW (cc := cO_appendDigits) (maxL := 6) (ret := none) (by decide) rfl ?_
  intro p e s m args below meth c s₁ B hml hv
  obtain ⟨rfl, hsz, hZ, hP, hK, hD0⟩ := hv
  have hx := B.exec
  have hb := B.bytes
  have hr := B.returns
  have hts := atoms_spec (ws := WO_appendDigits) B.pre
  have hT : ∀ w ∈ TB, w.before _ s = true := fun w h => hts w (List.mem_cons_of_mem _ h)
  have hown : s.vm.findClass R_O = some m.cls := findClass_of_methodNamed B.named
  have hlocks := B.notSynchronized
  subst hsz
  have hD := hD0.self (sz := s.heap.size)
  generalize hAe : va_A [(h, .inr (8, [.ref ob, .int (nI L9), .ref ou, .ref ow])), (ob, .inl (cT 2, 866, .inl fo)), (wh, .inr (4, [.ref ww, .int wn, .int wb])), (ww, .inl (cT 0, R9, .inl wf))] s.heap.size = A at hD hZ ⊢
  have hA : ∀ q : Nat, s.heap.size ≤ q → A q := fun q h => by rw [← hAe]; exact Or.inr h
  have hS : va_S A s.heap s.heap [] := va_S.rf
  have hl := lv_entry ([.ref h, .ref wh]) (n := 6) (Nat.le_of_ble_eq_true rfl)
  rw [lg_entry_eq]
  generalize (lg_sl ([.ref h, .ref wh]) ++ List.replicate (6 - (lg_sl ([.ref h, .ref wh])).length) Slot.unset).toArray = ls at hl ⊢
  have hl : lv_has ls 6 [(0, .ref h), (1, .ref wh)] := hl
  obtain ⟨K, rfl, hk, hd, htop, hb01, hz⟩ := hN
  have hP : va_P D vwCl [(h, .inr (8, [.ref ob, .int (nI L9), .ref ou, .ref ow])), (ob, .inl (cT 2, 866, .inl fo)), (wh, .inr (4, [.ref ww, .int (nI K), .int wb])), (ww, .inl (cT 0, R9, .inl wf))] _ := hP
  have hD : va_D A [(h, .inr (8, [.ref ob, .int (nI L9), .ref ou, .ref ow])), (ob, .inl (cT 2, 866, .inl fo)), (wh, .inr (4, [.ref ww, .int (nI K), .int wb])), (ww, .inl (cT 0, R9, .inl wf))] := hD
  have hV9 : z.natAbs = vW wf K := by rw [hz, wz_abs]
  obtain ⟨V, hV⟩ : ∃ q9 : Nat, q9 = z.natAbs := ⟨_, rfl⟩
  rw [← hV] at hV9
  have hVb : V < 10 ^ (9 * K) := by rw [hV9, Nat.pow_mul]; exact vW_b hd
  refine lv_aload_n hx hb dO_appendDigits_0 rfl (lv_at hl 0 rfl) ?_
  refine va_get (D := D) (ci := 8) (v := .int (nI L9)) (C := R_O) (T := T_O) (N := 4) hx hb hT in_O hown hK hP 0 rfl rfl 1 (by decide) (hT _ w290) (fun _ h9 => h9) rfl dO_appendDigits_1 ?_
  refine lv_istore_n hx hb dO_appendDigits_4 rfl hl (by decide) rfl (fun ls hl => ?_)
  have hl : lv_has ls 6 [(2, .int (nI L9)), (0, .ref h), (1, .ref wh)] := hl
  refine lv_aload_n hx hb dO_appendDigits_5 rfl (lv_at hl 2 rfl) ?_
  refine va_get (D := D) (ci := 4) (v := .int (nI K)) (C := R_W) (T := T_W) (N := 3) hx hb hT in_W hown hK hP 2 rfl rfl 1 (by decide) (hT _ w147) (fun _ h9 => h9) rfl dO_appendDigits_6 ?_
  refine lv_iconst (v := 1) hx hb dO_appendDigits_9 (by decide) ?_
  refine lv_isub hx hb dO_appendDigits_10 ?_
  refine lv_istore_n hx hb dO_appendDigits_11 rfl hl (by decide) rfl (fun ls hl => ?_)
  have hl : lv_has ls 6 [(3, .int ((nI K) - 1)), (2, .int (nI L9)), (0, .ref h), (1, .ref wh)] := hl
  refine lp_w (α := Nat × Nat × (Nat → Int32)) (fun a9 => a9.1 ≤ K ∧ AST a9.2.2 L9 a9.2.1 (V / 10 ^ (9 * a9.1)) ∧ (∀ i, i < L9 → a9.2.2 i = fo i)) (fun a9 => a9.1) (fun a9 => [(0, .ref h), (1, .ref wh), (2, .int (nI L9)), (3, .int (nI a9.1 - 1))]) (fun a9 => [(h, .inr (8, [.ref ob, .int (nI a9.2.1), .ref ou, .ref ow])), (ob, .inl (cT 2, 866, .inl a9.2.2)), (wh, .inr (4, [.ref ww, .int (nI K), .int wb])), (ww, .inl (cT 0, R9, .inl wf))]) 12 ?_ (K, L9, fo) (show K ≤ K ∧ AST fo L9 L9 (V / 10 ^ (9 * K)) ∧ (∀ i, i < L9 → fo i = fo i) from ⟨Nat.le_refl _, Or.inl ⟨Nat.div_eq_of_lt hVb, rfl⟩, fun _ _ => rfl⟩) (lv_sub hl [2, 3, 1, 0] rfl) hP hD hS
  intro a9 hI12 ih12 ls H locs hl hP hD hS
  obtain ⟨k, LL, fo1⟩ := a9
  have hI12 : k ≤ K ∧ AST fo1 L9 LL (V / 10 ^ (9 * k)) ∧ (∀ i, i < L9 → fo1 i = fo i) := hI12
  obtain ⟨ik, ia, io⟩ := hI12
  have hl : lv_has ls 6 [(0, .ref h), (1, .ref wh), (2, .int (nI L9)), (3, .int (nI k - 1))] := hl
  have hP : va_P D vwCl [(h, .inr (8, [.ref ob, .int (nI LL), .ref ou, .ref ow])), (ob, .inl (cT 2, 866, .inl fo1)), (wh, .inr (4, [.ref ww, .int (nI K), .int wb])), (ww, .inl (cT 0, R9, .inl wf))] _ := hP
  have hD : va_D A [(h, .inr (8, [.ref ob, .int (nI LL), .ref ou, .ref ow])), (ob, .inl (cT 2, 866, .inl fo1)), (wh, .inr (4, [.ref ww, .int (nI K), .int wb])), (ww, .inl (cT 0, R9, .inl wf))] := hD
  refine lv_iload_n hx hb dO_appendDigits_12 rfl (lv_at hl 3 rfl) ?_
  refine lv_if_lt (tgt := 77) hx hb dO_appendDigits_13 rfl (fun h1 => ?_) (fun h1 => ?_)
  · have gh1 : k = 0 := (dn_lt (by omega)).mp h1
    have k0 : k = 0 := by omega
    rw [k0, Nat.mul_zero, Nat.pow_zero, Nat.div_one] at ia
    have hLb2 := ast_b ia hVb
    refine lv_aload_n hx hb dO_appendDigits_77 rfl (lv_at hl 0 rfl) ?_
    refine va_get (D := D) (ci := 8) (v := .int (nI LL)) (C := R_O) (T := T_O) (N := 4) hx hb hT in_O hown hK hP 0 rfl rfl 1 (by decide) (hT _ w290) (fun _ h9 => h9) rfl dO_appendDigits_78 ?_
    refine lv_iload_n hx hb dO_appendDigits_81 rfl (lv_at hl 2 rfl) ?_
    refine lv_icmp_ne (tgt := 91) hx hb dO_appendDigits_82 rfl (fun h2 => ?_) (fun h2 => ?_)
    · have gh2 : ¬ (LL = L9) := fun q => h2 (congrArg nI q)
      have hP9 := hP.sub (ws' := [(h, .inr (8, [.ref ob, .int (nI LL), .ref ou, .ref ow])), (ob, .inl (cT 2, 866, .inl fo1)), (wh, .inr (4, [.ref ww, .int (nI K), .int wb])), (ww, .inl (cT 0, R9, .inl wf))]) [0, 1, 2, 3] rfl
      have hD9 := hD.sub (ws' := [(h, .inr (8, [.ref ob, .int (nI LL), .ref ou, .ref ow])), (ob, .inl (cT 2, 866, .inl fo1)), (wh, .inr (4, [.ref ww, .int (nI K), .int wb])), (ww, .inl (cT 0, R9, .inl wf))]) [0, 1, 2, 3] (by decide) rfl
      refine W.widen (k := 0) (n := 0) (Nat.le_of_ble_eq_true rfl) (Nat.le_of_ble_eq_true rfl) ?_
      exact W.vret hx hb hr (fun t9 ht9 hW9 => ⟨⟨(LL - L9, fo1, LL), rfl, (show NDG z.natAbs (LL - L9) ∧ LL = L9 + (LL - L9) ∧ (∀ i8, i8 < (LL - L9) → fo1 (L9 + i8) = nI (48 + dgt z.natAbs ((LL - L9) - 1 - i8))) ∧ ∀ i8, i8 < L9 → fo1 i8 = fo i8 from (by obtain ⟨nn, q1, q2, q3⟩ := ast_e ia (by omega); rw [← hV, show LL - L9 = nn by omega]; exact ⟨q1, by rw [q2], q3, io⟩)), by rw [ht9]; exact hP9, hD9⟩, hS.F ht9⟩) hS.2.2 dO_appendDigits_91
    · have gh2 : LL = L9 := (nI_eq (a := LL) (b := L9) (by omega) (by omega)).mp h2
      refine lv_aload_n hx hb dO_appendDigits_85 rfl (lv_at hl 0 rfl) ?_
      refine lv_bipush (v := 48) hx hb dO_appendDigits_86 (by decide) ?_
      refine lv_topi (fun y9 e9 => ?_)
      cases (show y9 = nI 48 from e9.trans (by decide))
      refine rw_v (wc := [(h, .inr (8, [.ref ob, .int (nI LL), .ref ou, .ref ow])), (ob, .inl (cT 2, 866, .inl fo1))]) (wr := [(wh, .inr (4, [.ref ww, .int (nI K), .int wb])), (ww, .inl (cT 0, R9, .inl wf))]) hP hD hS hA [0, 1] [2, 3] rfl rfl (by decide) (by decide) (va_runV (As := [.int (nI 48)]) (rest := []) ⟨hx, hb, hml, hown, hT⟩ (k_append l D cT h ob ou ow LL fo1 48 (by omega) (by decide) _) ⟨callB_of 1 hT (tb_gd w1052) rfl rfl rfl (hT _ w12) (hT _ w1049) hO_append ⟨Nat.le_of_ble_eq_true rfl, Nat.le_of_ble_eq_true rfl⟩, (hT _ w1051), (hT _ wp26)⟩ (RW.preV (ci := 8) (q0 := 0) hZ hS (va_free (wc := [(h, .inr (8, [.ref ob, .int (nI LL), .ref ou, .ref ow])), (ob, .inl (cT 2, 866, .inl fo1))]) hD hS hA [0, 1] rfl) (hP.sub (ws' := [(h, .inr (8, [.ref ob, .int (nI LL), .ref ou, .ref ow])), (ob, .inl (cT 2, 866, .inl fo1))]) [0, 1] rfl) hK (hD.sub (ws' := [(h, .inr (8, [.ref ob, .int (nI LL), .ref ou, .ref ow])), (ob, .inl (cT 2, 866, .inl fo1))]) [0, 1] (by decide) rfl) rfl rfl) rfl rfl hl.1 rfl (lv_room (Nat.le_of_ble_eq_true rfl)) dO_appendDigits_88 ⟨Nat.le_of_ble_eq_true rfl, Nat.le_of_ble_eq_true rfl⟩) (fun u9 H locs hpu3 hP hD hS => ?_)
      have hpu3 : True := hpu3
      have hP : va_P D vwCl [(wh, .inr (4, [.ref ww, .int (nI K), .int wb])), (ww, .inl (cT 0, R9, .inl wf)), (h, .inr (8, [.ref ob, .int (nI (LL + 1)), .ref ou, .ref ow])), (ob, .inl (cT 2, 866, .inl (upd fo1 LL (vp_nar .byte (nI 48)))))] _ := hP
      have hD : va_D A [(wh, .inr (4, [.ref ww, .int (nI K), .int wb])), (ww, .inl (cT 0, R9, .inl wf)), (h, .inr (8, [.ref ob, .int (nI (LL + 1)), .ref ou, .ref ow])), (ob, .inl (cT 2, 866, .inl (upd fo1 LL (vp_nar .byte (nI 48)))))] := hD
      have hP9 := hP.sub (ws' := [(h, .inr (8, [.ref ob, .int (nI (LL + 1)), .ref ou, .ref ow])), (ob, .inl (cT 2, 866, .inl (upd fo1 LL (vp_nar .byte (nI 48))))), (wh, .inr (4, [.ref ww, .int (nI K), .int wb])), (ww, .inl (cT 0, R9, .inl wf))]) [2, 3, 0, 1] rfl
      have hD9 := hD.sub (ws' := [(h, .inr (8, [.ref ob, .int (nI (LL + 1)), .ref ou, .ref ow])), (ob, .inl (cT 2, 866, .inl (upd fo1 LL (vp_nar .byte (nI 48))))), (wh, .inr (4, [.ref ww, .int (nI K), .int wb])), (ww, .inl (cT 0, R9, .inl wf))]) [2, 3, 0, 1] (by decide) rfl
      refine W.widen (k := 0) (n := 0) (Nat.le_of_ble_eq_true rfl) (Nat.le_of_ble_eq_true rfl) ?_
      exact W.vret hx hb hr (fun t9 ht9 hW9 => ⟨⟨(1, upd fo1 LL (vp_nar .byte (nI 48)), LL + 1), rfl, (show NDG z.natAbs 1 ∧ (LL + 1) = L9 + 1 ∧ (∀ i8, i8 < 1 → (upd fo1 LL (vp_nar .byte (nI 48))) (L9 + i8) = nI (48 + dgt z.natAbs (1 - 1 - i8))) ∧ ∀ i8, i8 < L9 → (upd fo1 LL (vp_nar .byte (nI 48))) i8 = fo i8 from (by obtain ⟨q1, q2⟩ := ast_0 ia (by omega); rw [← hV, q1]; exact ⟨⟨Nat.le_refl _, by decide, Or.inl rfl⟩, by rw [q2], fun i hi => (by obtain rfl : i = 0 := (by omega); rw [Nat.add_zero, ← q2, pk_us, nar_b (by decide)]; rfl), fun i hi => (pk_un (by omega)).trans (io i hi)⟩)), by rw [ht9]; exact hP9, hD9⟩, hS.F ht9⟩) hS.2.2 dO_appendDigits_91
  · have gh1 : 0 < k := Nat.pos_of_ne_zero (fun q => h1 ((dn_lt (by omega)).mpr q))
    have hw := hd (k - 1) (by omega)
    refine lv_ldc (v := 100000000) hx hb hown (hT _ w1057) dO_appendDigits_16 ?_
    refine lv_istore hx hb dO_appendDigits_18 hl (by decide) rfl (fun ls hl => ?_)
    have hl : lv_has ls 6 [(4, .int 100000000), (0, .ref h), (1, .ref wh), (2, .int (nI L9)), (3, .int (nI k - 1))] := hl
    have hl : lv_has ls 6 [(4, .int (nI (un9 9))), (0, .ref h), (1, .ref wh), (2, .int (nI L9)), (3, .int (nI k - 1))] := by
      rw [show nI (un9 9) = 100000000 from rfl]; exact hl
    refine lp_w (α := Nat × Nat × (Nat → Int32)) (fun a9 => a9.1 ≤ 9 ∧ AST a9.2.2 L9 a9.2.1 (V / 10 ^ (9 * (k - 1) + a9.1)) ∧ (∀ i, i < L9 → a9.2.2 i = fo i)) (fun a9 => a9.1) (fun a9 => [(0, .ref h), (1, .ref wh), (2, .int (nI L9)), (3, .int (nI k - 1)), (4, .int (nI (un9 a9.1)))]) (fun a9 => [(h, .inr (8, [.ref ob, .int (nI a9.2.1), .ref ou, .ref ow])), (ob, .inl (cT 2, 866, .inl a9.2.2)), (wh, .inr (4, [.ref ww, .int (nI K), .int wb])), (ww, .inl (cT 0, R9, .inl wf))]) 20 ?_ (9, LL, fo1) (show 9 ≤ 9 ∧ AST fo1 L9 LL (V / 10 ^ (9 * (k - 1) + 9)) ∧ (∀ i, i < L9 → fo1 i = fo i) from ⟨Nat.le_refl _, by rw [show 9 * (k - 1) + 9 = 9 * k by omega]; exact ia, io⟩) (lv_sub hl [1, 2, 3, 4, 0] rfl) hP hD hS
    intro a9 hI20 ih20 ls H locs hl hP hD hS
    obtain ⟨mm, L2, fo2⟩ := a9
    have hI20 : mm ≤ 9 ∧ AST fo2 L9 L2 (V / 10 ^ (9 * (k - 1) + mm)) ∧ (∀ i, i < L9 → fo2 i = fo i) := hI20
    obtain ⟨jm, ja, jo⟩ := hI20
    have hl : lv_has ls 6 [(0, .ref h), (1, .ref wh), (2, .int (nI L9)), (3, .int (nI k - 1)), (4, .int (nI (un9 mm)))] := hl
    have hP : va_P D vwCl [(h, .inr (8, [.ref ob, .int (nI L2), .ref ou, .ref ow])), (ob, .inl (cT 2, 866, .inl fo2)), (wh, .inr (4, [.ref ww, .int (nI K), .int wb])), (ww, .inl (cT 0, R9, .inl wf))] _ := hP
    have hD : va_D A [(h, .inr (8, [.ref ob, .int (nI L2), .ref ou, .ref ow])), (ob, .inl (cT 2, 866, .inl fo2)), (wh, .inr (4, [.ref ww, .int (nI K), .int wb])), (ww, .inl (cT 0, R9, .inl wf))] := hD
    have hub := un9_b mm jm
    refine lv_iload hx hb dO_appendDigits_20 (lv_at hl 4 rfl) ?_
    refine lv_if_le (tgt := 71) hx hb dO_appendDigits_22 rfl (fun h4 => ?_) (fun h4 => ?_)
    · have hm0 : mm = 0 := by rcases Nat.eq_zero_or_pos mm with q | q; (exact q); (exact absurd ((nI_leI (a := un9 mm) (b := 0) (by omega) (by decide)).mp h4) (by have := un9_p q; omega))
      refine lv_iinc (k := 3) (v := nI (k - 1) - 1) hx hb dO_appendDigits_71 hl rfl (dn_m1 (by omega)) (by decide) rfl (fun ls hl => ?_)
      have hl : lv_has ls 6 [(3, .int (nI (k - 1) - 1)), (0, .ref h), (1, .ref wh), (2, .int (nI L9)), (4, .int (nI (un9 mm)))] := hl
      refine lv_goto (tgt := 12) hx hb dO_appendDigits_74 rfl ?_
      exact ih12 (k - 1, L2, fo2) (show (k - 1) ≤ K ∧ AST fo2 L9 L2 (V / 10 ^ (9 * (k - 1))) ∧ (∀ i, i < L9 → fo2 i = fo i) from ⟨by omega, by rw [show 9 * (k - 1) = 9 * (k - 1) + mm by omega]; exact ja, jo⟩) (show (k - 1) < k from (by omega)) ls H locs (lv_sub hl [1, 2, 3, 0] rfl) hP hD hS
    · have hm0 : 0 < mm := by rcases Nat.eq_zero_or_pos mm with q | q; (exact absurd (by rw [q]; decide) h4); (exact q)
      have hup := un9_p hm0
      refine lv_aload_n hx hb dO_appendDigits_25 rfl (lv_at hl 1 rfl) ?_
      refine va_get (D := D) (ci := 4) (v := .ref ww) (C := R_W) (T := T_W) (N := 3) hx hb hT in_W hown hK hP 2 rfl rfl 0 (by decide) (hT _ w146) (fun _ h9 => h9) rfl dO_appendDigits_26 ?_
      refine lv_iload_n hx hb dO_appendDigits_29 rfl (lv_at hl 3 rfl) ?_
      refine lq_iald (j := k - 1) hx hb hK hP 3 0 rfl rfl (nI_sub1 (by omega)) (by omega) (by omega) dO_appendDigits_30 ?_
      refine lv_topi (fun y9 e9 => ?_)
      cases (show y9 = nI (dg wf (k - 1)) from e9.trans hw.1)
      refine lv_iload hx hb dO_appendDigits_31 (lv_at hl 4 rfl) ?_
      refine lv_idiv hx hb dO_appendDigits_33 (fun q => absurd ((nI_eq (a := un9 mm) (b := 0) (by omega) (by decide)).mp q) (by omega)) ?_
      refine lv_topi (fun y9 e9 => ?_)
      cases (show y9 = nI ((dg wf (k - 1)) / (un9 mm)) from e9.trans (pk_div (a := dg wf (k - 1)) (d := un9 mm) (by have := hw.2; omega) (by omega) (by omega)))
      refine lv_bipush (v := 10) hx hb dO_appendDigits_34 (by decide) ?_
      refine lv_irem hx hb dO_appendDigits_36 (by decide) ?_
      refine lv_topi (fun y9 e9 => ?_)
      cases (show y9 = nI (((dg wf (k - 1)) / (un9 mm)) % 10) from e9.trans (pk_rem (a := (dg wf (k - 1)) / (un9 mm)) (d := 10) (by have q8 := hw.2; have q9 := Nat.div_le_self (dg wf (k - 1)) (un9 mm); omega) (by decide) (by decide)))
      obtain ⟨d9, hd9⟩ : ∃ q9 : Nat, q9 = ((dg wf (k - 1)) / (un9 mm)) % 10 := ⟨_, rfl⟩
      refine lv_topi (fun y9 e9 => ?_)
      cases (show y9 = nI d9 from e9.trans (congrArg nI hd9.symm))
      have hd10 : d9 = dgt V (9 * (k - 1) + (mm - 1)) := by rw [hd9, un9_s hm0, hV9]; exact dgt_w hd (by omega) (by omega)
      have hdl : d9 < 10 := by rw [hd9]; exact Nat.mod_lt _ (by decide)
      have hLb := ast_b (N := 9 * K - (9 * (k - 1) + mm)) ja (by rw [Nat.div_lt_iff_lt_mul (Nat.pow_pos (by decide)), ← Nat.pow_add, show 9 * K - (9 * (k - 1) + mm) + (9 * (k - 1) + mm) = 9 * K by omega]; exact hVb)
      refine lv_istore hx hb dO_appendDigits_37 hl (by decide) rfl (fun ls hl => ?_)
      have hl : lv_has ls 6 [(5, .int (nI d9)), (0, .ref h), (1, .ref wh), (2, .int (nI L9)), (3, .int (nI k - 1)), (4, .int (nI (un9 mm)))] := hl
      refine lv_iload hx hb dO_appendDigits_39 (lv_at hl 0 rfl) ?_
      refine lv_if_ne (tgt := 52) hx hb dO_appendDigits_41 rfl (fun h5 => ?_) (fun h5 => ?_)
      · have gh5 : ¬ (d9 = 0) := fun q => h5 (congrArg nI q)
        refine lv_aload_n hx hb dO_appendDigits_52 rfl (lv_at hl 1 rfl) ?_
        refine lv_bipush (v := 48) hx hb dO_appendDigits_53 (by decide) ?_
        refine lv_iload hx hb dO_appendDigits_55 (lv_at hl 0 rfl) ?_
        refine lv_iadd hx hb dO_appendDigits_57 ?_
        refine lv_topi (fun y9 e9 => ?_)
        cases (show y9 = nI (48 + d9) from e9.trans (nI_add 48 d9))
        refine rw_v (wc := [(h, .inr (8, [.ref ob, .int (nI L2), .ref ou, .ref ow])), (ob, .inl (cT 2, 866, .inl fo2))]) (wr := [(wh, .inr (4, [.ref ww, .int (nI K), .int wb])), (ww, .inl (cT 0, R9, .inl wf))]) hP hD hS hA [0, 1] [2, 3] rfl rfl (by decide) (by decide) (va_runV (As := [.int (nI (48 + d9))]) (rest := []) ⟨hx, hb, hml, hown, hT⟩ (k_append l D cT h ob ou ow L2 fo2 (48 + d9) (by omega) (by omega) _) ⟨callB_of 1 hT (tb_gd w1052) rfl rfl rfl (hT _ w12) (hT _ w1049) hO_append ⟨Nat.le_of_ble_eq_true rfl, Nat.le_of_ble_eq_true rfl⟩, (hT _ w1051), (hT _ wp26)⟩ (RW.preV (ci := 8) (q0 := 0) hZ hS (va_free (wc := [(h, .inr (8, [.ref ob, .int (nI L2), .ref ou, .ref ow])), (ob, .inl (cT 2, 866, .inl fo2))]) hD hS hA [0, 1] rfl) (hP.sub (ws' := [(h, .inr (8, [.ref ob, .int (nI L2), .ref ou, .ref ow])), (ob, .inl (cT 2, 866, .inl fo2))]) [0, 1] rfl) hK (hD.sub (ws' := [(h, .inr (8, [.ref ob, .int (nI L2), .ref ou, .ref ow])), (ob, .inl (cT 2, 866, .inl fo2))]) [0, 1] (by decide) rfl) rfl rfl) rfl rfl hl.1 rfl (lv_room (Nat.le_of_ble_eq_true rfl)) dO_appendDigits_58 ⟨Nat.le_of_ble_eq_true rfl, Nat.le_of_ble_eq_true rfl⟩) (fun u9 H locs hpu6 hP hD hS => ?_)
        have hpu6 : True := hpu6
        have hP : va_P D vwCl [(wh, .inr (4, [.ref ww, .int (nI K), .int wb])), (ww, .inl (cT 0, R9, .inl wf)), (h, .inr (8, [.ref ob, .int (nI (L2 + 1)), .ref ou, .ref ow])), (ob, .inl (cT 2, 866, .inl (upd fo2 L2 (vp_nar .byte (nI (48 + d9))))))] _ := hP
        have hD : va_D A [(wh, .inr (4, [.ref ww, .int (nI K), .int wb])), (ww, .inl (cT 0, R9, .inl wf)), (h, .inr (8, [.ref ob, .int (nI (L2 + 1)), .ref ou, .ref ow])), (ob, .inl (cT 2, 866, .inl (upd fo2 L2 (vp_nar .byte (nI (48 + d9))))))] := hD
        refine lv_iload hx hb dO_appendDigits_61 (lv_at hl 5 rfl) ?_
        refine lv_bipush (v := 10) hx hb dO_appendDigits_63 (by decide) ?_
        refine lv_idiv hx hb dO_appendDigits_65 (by decide) ?_
        refine lv_topi (fun y9 e9 => ?_)
        cases (show y9 = nI ((un9 mm) / 10) from e9.trans (pk_div (a := un9 mm) (d := 10) (by omega) (by decide) (by decide)))
        refine lv_topi (fun y9 e9 => ?_)
        cases (show y9 = nI (un9 (mm - 1)) from e9.trans (congrArg nI (un9_d mm jm)))
        refine lv_istore hx hb dO_appendDigits_66 hl (by decide) rfl (fun ls hl => ?_)
        have hl : lv_has ls 6 [(4, .int (nI (un9 (mm - 1)))), (5, .int (nI d9)), (0, .ref h), (1, .ref wh), (2, .int (nI L9)), (3, .int (nI k - 1))] := hl
        refine lv_goto (tgt := 20) hx hb dO_appendDigits_68 rfl ?_
        exact ih20 (mm - 1, L2 + 1, upd fo2 L2 (vp_nar .byte (nI (48 + d9)))) (show (mm - 1) ≤ 9 ∧ AST (upd fo2 L2 (vp_nar .byte (nI (48 + d9)))) L9 (L2 + 1) (V / 10 ^ (9 * (k - 1) + (mm - 1))) ∧ (∀ i, i < L9 → (upd fo2 L2 (vp_nar .byte (nI (48 + d9)))) i = fo i) from ⟨by omega, by rw [pre_s, show 9 * (k - 1) + (mm - 1) + 1 = 9 * (k - 1) + mm by omega, ← hd10]; exact (by rw [nar_b (by omega)]; exact ast_s ja hdl (Or.inl (by omega))), fun i hi => (pk_un (by have q9 := ast_g ja; omega)).trans (jo i hi)⟩) (show (mm - 1) < mm from (by omega)) ls H locs (lv_sub hl [2, 3, 4, 5, 0] rfl) (hP.sub (ws' := [(h, .inr (8, [.ref ob, .int (nI (L2 + 1)), .ref ou, .ref ow])), (ob, .inl (cT 2, 866, .inl (upd fo2 L2 (vp_nar .byte (nI (48 + d9)))))), (wh, .inr (4, [.ref ww, .int (nI K), .int wb])), (ww, .inl (cT 0, R9, .inl wf))]) [2, 3, 0, 1] rfl) (hD.sub (ws' := [(h, .inr (8, [.ref ob, .int (nI (L2 + 1)), .ref ou, .ref ow])), (ob, .inl (cT 2, 866, .inl (upd fo2 L2 (vp_nar .byte (nI (48 + d9)))))), (wh, .inr (4, [.ref ww, .int (nI K), .int wb])), (ww, .inl (cT 0, R9, .inl wf))]) [2, 3, 0, 1] (by decide) rfl) hS
      · have gh5 : d9 = 0 := (nI_eq (a := d9) (b := 0) (by omega) (by omega)).mp h5
        refine lv_aload_n hx hb dO_appendDigits_44 rfl (lv_at hl 1 rfl) ?_
        refine va_get (D := D) (ci := 8) (v := .int (nI L2)) (C := R_O) (T := T_O) (N := 4) hx hb hT in_O hown hK hP 0 rfl rfl 1 (by decide) (hT _ w290) (fun _ h9 => h9) rfl dO_appendDigits_45 ?_
        refine lv_iload_n hx hb dO_appendDigits_48 rfl (lv_at hl 3 rfl) ?_
        refine lv_icmp_le (tgt := 61) hx hb dO_appendDigits_49 rfl (fun h7 => ?_) (fun h7 => ?_)
        · have gh7 : L2 ≤ L9 := (nI_leI (a := L2) (b := L9) (by omega) (by omega)).mp h7
          refine lv_iload hx hb dO_appendDigits_61 (lv_at hl 5 rfl) ?_
          refine lv_bipush (v := 10) hx hb dO_appendDigits_63 (by decide) ?_
          refine lv_idiv hx hb dO_appendDigits_65 (by decide) ?_
          refine lv_topi (fun y9 e9 => ?_)
          cases (show y9 = nI ((un9 mm) / 10) from e9.trans (pk_div (a := un9 mm) (d := 10) (by omega) (by decide) (by decide)))
          refine lv_topi (fun y9 e9 => ?_)
          cases (show y9 = nI (un9 (mm - 1)) from e9.trans (congrArg nI (un9_d mm jm)))
          refine lv_istore hx hb dO_appendDigits_66 hl (by decide) rfl (fun ls hl => ?_)
          have hl : lv_has ls 6 [(4, .int (nI (un9 (mm - 1)))), (5, .int (nI d9)), (0, .ref h), (1, .ref wh), (2, .int (nI L9)), (3, .int (nI k - 1))] := hl
          refine lv_goto (tgt := 20) hx hb dO_appendDigits_68 rfl ?_
          exact ih20 (mm - 1, L2, fo2) (show (mm - 1) ≤ 9 ∧ AST fo2 L9 L2 (V / 10 ^ (9 * (k - 1) + (mm - 1))) ∧ (∀ i, i < L9 → fo2 i = fo i) from ⟨by omega, by rw [pre_s, show 9 * (k - 1) + (mm - 1) + 1 = 9 * (k - 1) + mm by omega, ← hd10]; exact ast_z ja (by omega) (by omega), jo⟩) (show (mm - 1) < mm from (by omega)) ls H locs (lv_sub hl [2, 3, 4, 5, 0] rfl) hP hD hS
        · have gh7 : L9 < L2 := Nat.not_le.mp (fun q => h7 ((nI_leI (a := L2) (b := L9) (by omega) (by omega)).mpr q))
          refine lv_aload_n hx hb dO_appendDigits_52 rfl (lv_at hl 1 rfl) ?_
          refine lv_bipush (v := 48) hx hb dO_appendDigits_53 (by decide) ?_
          refine lv_iload hx hb dO_appendDigits_55 (lv_at hl 0 rfl) ?_
          refine lv_iadd hx hb dO_appendDigits_57 ?_
          refine lv_topi (fun y9 e9 => ?_)
          cases (show y9 = nI (48 + d9) from e9.trans (nI_add 48 d9))
          refine rw_v (wc := [(h, .inr (8, [.ref ob, .int (nI L2), .ref ou, .ref ow])), (ob, .inl (cT 2, 866, .inl fo2))]) (wr := [(wh, .inr (4, [.ref ww, .int (nI K), .int wb])), (ww, .inl (cT 0, R9, .inl wf))]) hP hD hS hA [0, 1] [2, 3] rfl rfl (by decide) (by decide) (va_runV (As := [.int (nI (48 + d9))]) (rest := []) ⟨hx, hb, hml, hown, hT⟩ (k_append l D cT h ob ou ow L2 fo2 (48 + d9) (by omega) (by omega) _) ⟨callB_of 1 hT (tb_gd w1052) rfl rfl rfl (hT _ w12) (hT _ w1049) hO_append ⟨Nat.le_of_ble_eq_true rfl, Nat.le_of_ble_eq_true rfl⟩, (hT _ w1051), (hT _ wp26)⟩ (RW.preV (ci := 8) (q0 := 0) hZ hS (va_free (wc := [(h, .inr (8, [.ref ob, .int (nI L2), .ref ou, .ref ow])), (ob, .inl (cT 2, 866, .inl fo2))]) hD hS hA [0, 1] rfl) (hP.sub (ws' := [(h, .inr (8, [.ref ob, .int (nI L2), .ref ou, .ref ow])), (ob, .inl (cT 2, 866, .inl fo2))]) [0, 1] rfl) hK (hD.sub (ws' := [(h, .inr (8, [.ref ob, .int (nI L2), .ref ou, .ref ow])), (ob, .inl (cT 2, 866, .inl fo2))]) [0, 1] (by decide) rfl) rfl rfl) rfl rfl hl.1 rfl (lv_room (Nat.le_of_ble_eq_true rfl)) dO_appendDigits_58 ⟨Nat.le_of_ble_eq_true rfl, Nat.le_of_ble_eq_true rfl⟩) (fun u9 H locs hpu8 hP hD hS => ?_)
          have hpu8 : True := hpu8
          have hP : va_P D vwCl [(wh, .inr (4, [.ref ww, .int (nI K), .int wb])), (ww, .inl (cT 0, R9, .inl wf)), (h, .inr (8, [.ref ob, .int (nI (L2 + 1)), .ref ou, .ref ow])), (ob, .inl (cT 2, 866, .inl (upd fo2 L2 (vp_nar .byte (nI (48 + d9))))))] _ := hP
          have hD : va_D A [(wh, .inr (4, [.ref ww, .int (nI K), .int wb])), (ww, .inl (cT 0, R9, .inl wf)), (h, .inr (8, [.ref ob, .int (nI (L2 + 1)), .ref ou, .ref ow])), (ob, .inl (cT 2, 866, .inl (upd fo2 L2 (vp_nar .byte (nI (48 + d9))))))] := hD
          refine lv_iload hx hb dO_appendDigits_61 (lv_at hl 5 rfl) ?_
          refine lv_bipush (v := 10) hx hb dO_appendDigits_63 (by decide) ?_
          refine lv_idiv hx hb dO_appendDigits_65 (by decide) ?_
          refine lv_topi (fun y9 e9 => ?_)
          cases (show y9 = nI ((un9 mm) / 10) from e9.trans (pk_div (a := un9 mm) (d := 10) (by omega) (by decide) (by decide)))
          refine lv_topi (fun y9 e9 => ?_)
          cases (show y9 = nI (un9 (mm - 1)) from e9.trans (congrArg nI (un9_d mm jm)))
          refine lv_istore hx hb dO_appendDigits_66 hl (by decide) rfl (fun ls hl => ?_)
          have hl : lv_has ls 6 [(4, .int (nI (un9 (mm - 1)))), (5, .int (nI d9)), (0, .ref h), (1, .ref wh), (2, .int (nI L9)), (3, .int (nI k - 1))] := hl
          refine lv_goto (tgt := 20) hx hb dO_appendDigits_68 rfl ?_
          exact ih20 (mm - 1, L2 + 1, upd fo2 L2 (vp_nar .byte (nI (48 + d9)))) (show (mm - 1) ≤ 9 ∧ AST (upd fo2 L2 (vp_nar .byte (nI (48 + d9)))) L9 (L2 + 1) (V / 10 ^ (9 * (k - 1) + (mm - 1))) ∧ (∀ i, i < L9 → (upd fo2 L2 (vp_nar .byte (nI (48 + d9)))) i = fo i) from ⟨by omega, by rw [pre_s, show 9 * (k - 1) + (mm - 1) + 1 = 9 * (k - 1) + mm by omega, ← hd10]; exact (by rw [nar_b (by omega)]; exact ast_s ja hdl (Or.inr (by omega))), fun i hi => (pk_un (by have q9 := ast_g ja; omega)).trans (jo i hi)⟩) (show (mm - 1) < mm from (by omega)) ls H locs (lv_sub hl [2, 3, 4, 5, 0] rfl) (hP.sub (ws' := [(h, .inr (8, [.ref ob, .int (nI (L2 + 1)), .ref ou, .ref ow])), (ob, .inl (cT 2, 866, .inl (upd fo2 L2 (vp_nar .byte (nI (48 + d9)))))), (wh, .inr (4, [.ref ww, .int (nI K), .int wb])), (ww, .inl (cT 0, R9, .inl wf))]) [2, 3, 0, 1] rfl) (hD.sub (ws' := [(h, .inr (8, [.ref ob, .int (nI (L2 + 1)), .ref ou, .ref ow])), (ob, .inl (cT 2, 866, .inl (upd fo2 L2 (vp_nar .byte (nI (48 + d9)))))), (wh, .inr (4, [.ref ww, .int (nI K), .int wb])), (ww, .inl (cT 0, R9, .inl wf))]) [2, 3, 0, 1] (by decide) rfl) hS
