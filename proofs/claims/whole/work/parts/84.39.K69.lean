set_option maxHeartbeats 4000000 in
set_option maxRecDepth 100000 in
theorem k_cutEdges (l : Launch) (D : va_G) (cT : Nat → ClassId) (h : Nat) (cv : Nat) (ce : Nat) (ec : Int32) (ok : Int32) (fe : Nat → Int32) (sd : Nat) (sa : Nat → Int32) (vv : Nat → Int32) (eg : Nat → Int32) (c0 : Nat) (n : Nat) (nn : Nat) (mk : Nat) (bc : Int32) (hsv : SIV vv c0 n sa mk) (hmk : mk ≤ 48) (hnn : 2 ≤ nn ∧ nn ≤ 12) (hlo : 0 < mk → -1000000 ≤ (sa 0).toInt) (hhi : 0 < mk → (sa (mk - 1)).toInt ≤ 1000000) (sz : Nat) : Met l yC_cutEdges WC_cutEdges ({ frames := 0, cells := 0, slots := 0, locals := 0 } : Room) (RW D vwCl [.ref h, .int bc, .int (nI nn), .ref sd, .int (nI mk)] [(h, .inr (1, [.ref cv, .ref ce, .int ec, .int ok])), (ce, .inl (cT 0, 11, .inl fe)), (sd, .inl (cT 0, 48, .inl sa))] (TY cT) sz) (va_Qi (fun (r9 : Int32) (u9 : Nat × (Nat → Int32)) => r9 = nI u9.1 ∧ CUR bc vv c0 n nn eg u9.1 u9.2) (BW D vwCl (va_A [(h, .inr (1, [.ref cv, .ref ce, .int ec, .int ok])), (ce, .inl (cT 0, 11, .inl fe)), (sd, .inl (cT 0, 48, .inl sa))] sz) (fun u9 : Nat × (Nat → Int32) => [(h, .inr (1, [.ref cv, .ref ce, .int (nI u9.1), .int ok])), (ce, .inl (cT 0, 11, .inl u9.2)), (sd, .inl (cT 0, 48, .inl sa))])) (va_A [(h, .inr (1, [.ref cv, .ref ce, .int ec, .int ok])), (ce, .inl (cT 0, 11, .inl fe)), (sd, .inl (cT 0, 48, .inl sa))] sz)) 0 0 (va_A [(h, .inr (1, [.ref cv, .ref ce, .int ec, .int ok])), (ce, .inl (cT 0, 11, .inl fe)), (sd, .inl (cT 0, 48, .inl sa))] sz) := by
  refine Met.ofW (cc := cC_cutEdges) (maxL := 10) (ret := (some .int)) (by decide) rfl ?_
  intro p e s m args below meth c s₁ B hml hv
  obtain ⟨rfl, hsz, hZ, hP, hK, hD0⟩ := hv
  have hx := B.exec
  have hb := B.bytes
  have hr := B.returns
  have hts := atoms_spec (ws := WC_cutEdges) B.pre
  have hT : ∀ w ∈ TB, w.before _ s = true := fun w h => hts w (List.mem_cons_of_mem _ h)
  have hown : s.vm.findClass R_C = some m.cls := findClass_of_methodNamed B.named
  have hlocks := B.notSynchronized
  subst hsz
  have hD := hD0.self (sz := s.heap.size)
  generalize hAe : va_A [(h, .inr (1, [.ref cv, .ref ce, .int ec, .int ok])), (ce, .inl (cT 0, 11, .inl fe)), (sd, .inl (cT 0, 48, .inl sa))] s.heap.size = A at hD hZ ⊢
  have hA : ∀ q : Nat, s.heap.size ≤ q → A q := fun q h => by rw [← hAe]; exact Or.inr h
  have hS : va_S A s.heap s.heap [] := va_S.rf
  have hl := lv_entry ([.ref h, .int bc, .int (nI nn), .ref sd, .int (nI mk)]) (n := 10) (Nat.le_of_ble_eq_true rfl)
  rw [lg_entry_eq]
  generalize (lg_sl ([.ref h, .int bc, .int (nI nn), .ref sd, .int (nI mk)]) ++ List.replicate (10 - (lg_sl ([.ref h, .int bc, .int (nI nn), .ref sd, .int (nI mk)])).length) Slot.unset).toArray = ls at hl ⊢
  have hl : lv_has ls 10 [(0, .ref h), (1, .int bc), (2, .int (nI nn)), (3, .ref sd), (4, .int (nI mk))] := hl
  refine lv_aload_n hx hb dC_cutEdges_0 rfl (lv_at hl 0 rfl) ?_
  refine lv_iconst (v := 0) hx hb dC_cutEdges_1 (by decide) ?_
  refine lv_topi (fun y9 e9 => ?_)
  cases (show y9 = nI 0 from e9.trans (show (0 : Int32) = nI 0 from rfl))
  refine va_put (D := D) (ci := 1) (v := .int (nI 0)) (ty := .int) (C := R_C) (T := T_C) (N := 4) hx hb hT in_C ty_C ty_C_ok m_C hown hK hP hD hS 0 rfl rfl 2 (by decide) (hT _ w57) (fun _ h9 => h9) rfl (by decide +kernel) rfl rfl (Nat.le_of_ble_eq_true rfl) dC_cutEdges_2 (fun H locs hP hD hS => ?_)
  have hP : va_P D vwCl [(h, .inr (1, [.ref cv, .ref ce, .int (nI 0), .int ok])), (ce, .inl (cT 0, 11, .inl fe)), (sd, .inl (cT 0, 48, .inl sa))] _ := hP
  have hD : va_D A [(h, .inr (1, [.ref cv, .ref ce, .int (nI 0), .int ok])), (ce, .inl (cT 0, 11, .inl fe)), (sd, .inl (cT 0, 48, .inl sa))] := hD
  refine lv_iload hx hb dC_cutEdges_5 (lv_at hl 4 rfl) ?_
  refine lv_if_ne (tgt := 12) hx hb dC_cutEdges_7 rfl (fun h1 => ?_) (fun h1 => ?_)
  · have gh1 : ¬ (mk = 0) := fun q => h1 (congrArg nI q)
    have hp0 : 0 < mk := by omega
    have hfl : sa 0 ≤ sa (mk - 1) := siv_up hsv hp0
    obtain ⟨wd, hwd, hw1, hw2⟩ := wid_n (hlo hp0) (hhi hp0) hfl
    have hcm := cmo_v (bc := bc) (nn := nn) hsv hp0 (hlo hp0) (hhi hp0) (by omega)
    refine lv_aload_n hx hb dC_cutEdges_12 rfl (lv_at hl 3 rfl) ?_
    refine lv_iconst (v := 0) hx hb dC_cutEdges_13 (by decide) ?_
    refine va_iald hx hb hK hP 2 0 rfl rfl (by unfold vp_in; decide) dC_cutEdges_14 ?_
    refine lv_istore hx hb dC_cutEdges_15 hl (by decide) rfl (fun ls hl => ?_)
    have hl : lv_has ls 10 [(5, .int (sa 0)), (0, .ref h), (1, .int bc), (2, .int (nI nn)), (3, .ref sd), (4, .int (nI mk))] := hl
    refine lv_aload_n hx hb dC_cutEdges_17 rfl (lv_at hl 4 rfl) ?_
    refine lv_iload hx hb dC_cutEdges_18 (lv_at hl 5 rfl) ?_
    refine lv_iconst (v := 1) hx hb dC_cutEdges_20 (by decide) ?_
    refine lv_isub hx hb dC_cutEdges_21 ?_
    refine lv_topi (fun y9 e9 => ?_)
    cases (show y9 = nI (mk - 1) from e9.trans (pk_sub (a := mk) (b := 1) (by omega)))
    refine lq_iald (j := mk - 1) hx hb hK hP 2 0 rfl rfl rfl (by omega) (by omega) dC_cutEdges_22 ?_
    refine lv_iload hx hb dC_cutEdges_23 (lv_at hl 0 rfl) ?_
    refine lv_isub hx hb dC_cutEdges_25 ?_
    refine lv_iconst (v := 1) hx hb dC_cutEdges_26 (by decide) ?_
    refine lv_iadd hx hb dC_cutEdges_27 ?_
    refine lv_topi (fun y9 e9 => ?_)
    cases (show y9 = nI wd from e9.trans hwd)
    refine lv_istore hx hb dC_cutEdges_28 hl (by decide) rfl (fun ls hl => ?_)
    have hl : lv_has ls 10 [(6, .int (nI wd)), (5, .int (sa 0)), (0, .ref h), (1, .int bc), (2, .int (nI nn)), (3, .ref sd), (4, .int (nI mk))] := hl
    refine lv_iload hx hb dC_cutEdges_30 (lv_at hl 1 rfl) ?_
    refine lv_istore hx hb dC_cutEdges_32 hl (by decide) rfl (fun ls hl => ?_)
    have hl : lv_has ls 10 [(7, .int (sa 0)), (6, .int (nI wd)), (5, .int (sa 0)), (0, .ref h), (1, .int bc), (2, .int (nI nn)), (3, .ref sd), (4, .int (nI mk))] := hl
    refine lv_iconst (v := 1) hx hb dC_cutEdges_34 (by decide) ?_
    refine lv_istore hx hb dC_cutEdges_35 hl (by decide) rfl (fun ls hl => ?_)
    have hl : lv_has ls 10 [(8, .int 1), (7, .int (sa 0)), (6, .int (nI wd)), (5, .int (sa 0)), (0, .ref h), (1, .int bc), (2, .int (nI nn)), (3, .ref sd), (4, .int (nI mk))] := hl
    refine lp_w (α := Nat × Nat × (Nat → Int32) × Int32) (fun a9 => a9.1 + 1 ≤ nn ∧ a9.2.1 ≤ a9.1 ∧ LST (ctv bc vv c0 n nn) (sa 0) (11 * c0) eg a9.1 a9.2.2.2 a9.2.1 a9.2.2.1) (fun a9 => nn - a9.1) (fun a9 => [(0, .ref h), (1, .int bc), (2, .int (nI nn)), (3, .ref sd), (4, .int (nI mk)), (5, .int (sa 0)), (6, .int (nI wd)), (7, .int a9.2.2.2), (8, .int (nI (a9.1 + 1)))]) (fun a9 => [(h, .inr (1, [.ref cv, .ref ce, .int (nI a9.2.1), .int ok])), (ce, .inl (cT 0, 11, .inl a9.2.2.1)), (sd, .inl (cT 0, 48, .inl sa))]) 37 ?_ (0, 0, fe, sa 0) (show 0 + 1 ≤ nn ∧ 0 ≤ 0 ∧ LST (ctv bc vv c0 n nn) (sa 0) (11 * c0) eg 0 (sa 0) 0 fe from ⟨by omega, by omega, lst_0⟩) (lv_sub hl [4, 5, 6, 7, 8, 3, 2, 1, 0] rfl) hP hD hS
    intro a9 hI37 ih37 ls H locs hl hP hD hS
    obtain ⟨k, me, ef, lx⟩ := a9
    have hI37 : k + 1 ≤ nn ∧ me ≤ k ∧ LST (ctv bc vv c0 n nn) (sa 0) (11 * c0) eg k lx me ef := hI37
    obtain ⟨ik9, im9, il⟩ := hI37
    have hl : lv_has ls 10 [(0, .ref h), (1, .int bc), (2, .int (nI nn)), (3, .ref sd), (4, .int (nI mk)), (5, .int (sa 0)), (6, .int (nI wd)), (7, .int lx), (8, .int (nI (k + 1)))] := hl
    have hP : va_P D vwCl [(h, .inr (1, [.ref cv, .ref ce, .int (nI me), .int ok])), (ce, .inl (cT 0, 11, .inl ef)), (sd, .inl (cT 0, 48, .inl sa))] _ := hP
    have hD : va_D A [(h, .inr (1, [.ref cv, .ref ce, .int (nI me), .int ok])), (ce, .inl (cT 0, 11, .inl ef)), (sd, .inl (cT 0, 48, .inl sa))] := hD
    refine lv_iload hx hb dC_cutEdges_37 (lv_at hl 8 rfl) ?_
    refine lv_iload_n hx hb dC_cutEdges_39 rfl (lv_at hl 2 rfl) ?_
    refine lv_icmp_ge (tgt := 106) hx hb dC_cutEdges_40 rfl (fun h2 => ?_) (fun h2 => ?_)
    · have gh2 : nn ≤ k + 1 := (nI_leI (a := nn) (b := k + 1) (by omega) (by omega)).mp h2
      refine lv_aload_n hx hb dC_cutEdges_106 rfl (lv_at hl 0 rfl) ?_
      refine va_get (D := D) (ci := 1) (v := .int (nI me)) (C := R_C) (T := T_C) (N := 4) hx hb hT in_C hown hK hP 0 rfl rfl 2 (by decide) (hT _ w57) (fun _ h9 => h9) rfl dC_cutEdges_107 ?_
      have hP9 := hP.sub (ws' := [(h, .inr (1, [.ref cv, .ref ce, .int (nI me), .int ok])), (ce, .inl (cT 0, 11, .inl ef)), (sd, .inl (cT 0, 48, .inl sa))]) [0, 1, 2] rfl
      have hD9 := hD.sub (ws' := [(h, .inr (1, [.ref cv, .ref ce, .int (nI me), .int ok])), (ce, .inl (cT 0, 11, .inl ef)), (sd, .inl (cT 0, 48, .inl sa))]) [0, 1, 2] (by decide) rfl
      refine W.widen (k := 0) (n := 0) (Nat.le_of_ble_eq_true rfl) (Nat.le_of_ble_eq_true rfl) ?_
      exact W.iret (v := nI me) hx hb hr (fun t9 ht9 hW9 => ⟨⟨nI me, (me, ef), rfl, (show (nI me) = nI me ∧ CUR bc vv c0 n nn eg me ef from ⟨rfl, cur_e hsv hp0 il (by omega) hnn.2⟩), by rw [ht9]; exact hP9, hD9⟩, hS.F ht9⟩) hS.2.2 dC_cutEdges_110
    · have gh2 : k + 1 < nn := Nat.not_le.mp (fun q => h2 ((nI_leI (a := nn) (b := k + 1) (by omega) (by omega)).mpr q))
      have hkn : k + 1 < nn := by omega
      have hkm : (k + 1) * mk ≤ 12 * 48 := Nat.mul_le_mul (by omega) (by omega)
      have hkw : (k + 1) * wd ≤ 12 * 2000001 := Nat.mul_le_mul (by omega) hw2
      have hdv : (k + 1) * mk / nn < mk := km_lt hkn hp0
      refine lp_cut (fun x9 : Int32 => x9 = ctv bc vv c0 n nn (k + 1)) (fun x9 => [.int x9]) 69 ls (fun x9 e9 => ?_) (fun hct3 => ?_)
      · cases (show x9 = ctv bc vv c0 n nn (k + 1) from e9)
        refine lv_istore hx hb dC_cutEdges_69 hl (by decide) rfl (fun ls hl => ?_)
        have hl : lv_has ls 10 [(9, .int (ctv bc vv c0 n nn (k + 1))), (0, .ref h), (1, .int bc), (2, .int (nI nn)), (3, .ref sd), (4, .int (nI mk)), (5, .int (sa 0)), (6, .int (nI wd)), (7, .int lx), (8, .int (nI (k + 1)))] := hl
        refine lv_iload hx hb dC_cutEdges_71 (lv_at hl 0 rfl) ?_
        refine lv_iload hx hb dC_cutEdges_73 (lv_at hl 8 rfl) ?_
        refine lv_icmp_le (tgt := 100) hx hb dC_cutEdges_75 rfl (fun h4 => ?_) (fun h4 => ?_)
        · refine lv_iinc (k := 9) (v := nI (k + 1 + 1)) hx hb dC_cutEdges_100 hl rfl (nI_1 (k + 1)) (by decide) rfl (fun ls hl => ?_)
          have hl : lv_has ls 10 [(8, .int (nI (k + 1 + 1))), (9, .int (ctv bc vv c0 n nn (k + 1))), (0, .ref h), (1, .int bc), (2, .int (nI nn)), (3, .ref sd), (4, .int (nI mk)), (5, .int (sa 0)), (6, .int (nI wd)), (7, .int lx)] := hl
          refine lv_goto (tgt := 37) hx hb dC_cutEdges_103 rfl ?_
          exact ih37 (k + 1, me, ef, lx) (show (k + 1) + 1 ≤ nn ∧ me ≤ (k + 1) ∧ LST (ctv bc vv c0 n nn) (sa 0) (11 * c0) eg (k + 1) lx me ef from ⟨by omega, by omega, lst_o il hcm hkn (Int32.not_lt.mpr h4)⟩) (show nn - (k + 1) < nn - k from (by omega)) ls H locs (lv_sub hl [2, 3, 4, 5, 6, 7, 8, 9, 0] rfl) hP hD hS
        · refine lv_aload_n hx hb dC_cutEdges_78 rfl (lv_at hl 1 rfl) ?_
          refine va_get (D := D) (ci := 1) (v := .ref ce) (C := R_C) (T := T_C) (N := 4) hx hb hT in_C hown hK hP 0 rfl rfl 1 (by decide) (hT _ w54) (fun _ h9 => h9) rfl dC_cutEdges_79 ?_
          refine lv_aload_n hx hb dC_cutEdges_82 rfl (lv_at hl 1 rfl) ?_
          refine lv_dup hx hb dC_cutEdges_83 rfl ?_
          refine va_get (D := D) (ci := 1) (v := .int (nI me)) (C := R_C) (T := T_C) (N := 4) hx hb hT in_C hown hK hP 0 rfl rfl 2 (by decide) (hT _ w57) (fun _ h9 => h9) rfl dC_cutEdges_84 ?_
          refine lv_dup_x1 hx hb dC_cutEdges_87 rfl rfl ?_
          refine lv_iconst (v := 1) hx hb dC_cutEdges_88 (by decide) ?_
          refine lv_iadd hx hb dC_cutEdges_89 ?_
          refine lv_topi (fun y9 e9 => ?_)
          cases (show y9 = nI (me + 1) from e9.trans (nI_add me 1))
          refine va_put (D := D) (ci := 1) (v := .int (nI (me + 1))) (ty := .int) (C := R_C) (T := T_C) (N := 4) hx hb hT in_C ty_C ty_C_ok m_C hown hK hP hD hS 0 rfl rfl 2 (by decide) (hT _ w57) (fun _ h9 => h9) rfl (by decide +kernel) rfl rfl (Nat.le_of_ble_eq_true rfl) dC_cutEdges_90 (fun H locs hP hD hS => ?_)
          have hP : va_P D vwCl [(h, .inr (1, [.ref cv, .ref ce, .int (nI (me + 1)), .int ok])), (ce, .inl (cT 0, 11, .inl ef)), (sd, .inl (cT 0, 48, .inl sa))] _ := hP
          have hD : va_D A [(h, .inr (1, [.ref cv, .ref ce, .int (nI (me + 1)), .int ok])), (ce, .inl (cT 0, 11, .inl ef)), (sd, .inl (cT 0, 48, .inl sa))] := hD
          refine lv_iload hx hb dC_cutEdges_93 (lv_at hl 0 rfl) ?_
          refine lq_iast (j := me) hx hb hK hP hD hS 1 0 rfl rfl rfl (by omega) (by omega) dC_cutEdges_95 (fun H locs hP hD hS => ?_)
          have hP : va_P D vwCl [(h, .inr (1, [.ref cv, .ref ce, .int (nI (me + 1)), .int ok])), (ce, .inl (cT 0, 11, .inl (upd ef me (ctv bc vv c0 n nn (k + 1))))), (sd, .inl (cT 0, 48, .inl sa))] _ := hP
          have hD : va_D A [(h, .inr (1, [.ref cv, .ref ce, .int (nI (me + 1)), .int ok])), (ce, .inl (cT 0, 11, .inl (upd ef me (ctv bc vv c0 n nn (k + 1))))), (sd, .inl (cT 0, 48, .inl sa))] := hD
          refine lv_iload hx hb dC_cutEdges_96 (lv_at hl 0 rfl) ?_
          refine lv_istore hx hb dC_cutEdges_98 hl (by decide) rfl (fun ls hl => ?_)
          have hl : lv_has ls 10 [(7, .int (ctv bc vv c0 n nn (k + 1))), (9, .int (ctv bc vv c0 n nn (k + 1))), (0, .ref h), (1, .int bc), (2, .int (nI nn)), (3, .ref sd), (4, .int (nI mk)), (5, .int (sa 0)), (6, .int (nI wd)), (8, .int (nI (k + 1)))] := hl
          refine lv_iinc (k := 9) (v := nI (k + 1 + 1)) hx hb dC_cutEdges_100 hl rfl (nI_1 (k + 1)) (by decide) rfl (fun ls hl => ?_)
          have hl : lv_has ls 10 [(8, .int (nI (k + 1 + 1))), (7, .int (ctv bc vv c0 n nn (k + 1))), (9, .int (ctv bc vv c0 n nn (k + 1))), (0, .ref h), (1, .int bc), (2, .int (nI nn)), (3, .ref sd), (4, .int (nI mk)), (5, .int (sa 0)), (6, .int (nI wd))] := hl
          refine lv_goto (tgt := 37) hx hb dC_cutEdges_103 rfl ?_
          exact ih37 (k + 1, me + 1, upd ef me (ctv bc vv c0 n nn (k + 1)), ctv bc vv c0 n nn (k + 1)) (show (k + 1) + 1 ≤ nn ∧ (me + 1) ≤ (k + 1) ∧ LST (ctv bc vv c0 n nn) (sa 0) (11 * c0) eg (k + 1) (ctv bc vv c0 n nn (k + 1)) (me + 1) (upd ef me (ctv bc vv c0 n nn (k + 1))) from ⟨by omega, by omega, lst_n il (Int32.not_le.mp h4)⟩) (show nn - (k + 1) < nn - k from (by omega)) ls H locs (lv_sub hl [3, 4, 5, 6, 7, 8, 9, 1, 0] rfl) hP hD hS
      · refine lv_iload_n hx hb dC_cutEdges_43 rfl (lv_at hl 1 rfl) ?_
        refine lv_if_eq (tgt := 59) hx hb dC_cutEdges_44 rfl (fun h5 => ?_) (fun h5 => ?_)
        · refine lv_iload hx hb dC_cutEdges_59 (lv_at hl 5 rfl) ?_
          refine lv_iload hx hb dC_cutEdges_61 (lv_at hl 8 rfl) ?_
          refine lv_iload hx hb dC_cutEdges_63 (lv_at hl 6 rfl) ?_
          refine lv_imul hx hb dC_cutEdges_65 ?_
          refine lv_topi (fun y9 e9 => ?_)
          cases (show y9 = nI ((k + 1) * wd) from e9.trans (pk_mul (k + 1) wd))
          refine lv_iload_n hx hb dC_cutEdges_66 rfl (lv_at hl 2 rfl) ?_
          refine lv_idiv hx hb dC_cutEdges_67 (fun q => absurd ((nI_eq (b := 0) (by omega) (by decide)).mp q) (by omega)) ?_
          refine lv_topi (fun y9 e9 => ?_)
          cases (show y9 = nI (((k + 1) * wd) / nn) from e9.trans (pk_div (a := (k + 1) * wd) (d := nn) (by omega) (by omega) (by omega)))
          refine lv_iadd hx hb dC_cutEdges_68 ?_
          exact hct3 _ (ctv_w hsv hp0 h5 hwd (by omega) hkn (by omega))
        · refine lv_aload_n hx hb dC_cutEdges_47 rfl (lv_at hl 3 rfl) ?_
          refine lv_iload hx hb dC_cutEdges_48 (lv_at hl 8 rfl) ?_
          refine lv_iload hx hb dC_cutEdges_50 (lv_at hl 4 rfl) ?_
          refine lv_imul hx hb dC_cutEdges_52 ?_
          refine lv_topi (fun y9 e9 => ?_)
          cases (show y9 = nI ((k + 1) * mk) from e9.trans (pk_mul (k + 1) mk))
          refine lv_iload_n hx hb dC_cutEdges_53 rfl (lv_at hl 2 rfl) ?_
          refine lv_idiv hx hb dC_cutEdges_54 (fun q => absurd ((nI_eq (b := 0) (by omega) (by decide)).mp q) (by omega)) ?_
          refine lv_topi (fun y9 e9 => ?_)
          cases (show y9 = nI (((k + 1) * mk) / nn) from e9.trans (pk_div (a := (k + 1) * mk) (d := nn) (by omega) (by omega) (by omega)))
          refine lq_iald (j := ((k + 1) * mk) / nn) hx hb hK hP 2 0 rfl rfl rfl (by omega) (by omega) dC_cutEdges_55 ?_
          refine lv_goto (tgt := 69) hx hb dC_cutEdges_56 rfl ?_
          exact hct3 _ (ctv_c hsv hp0 h5 hkn)
  · have gh1 : mk = 0 := (nI_eq (a := mk) (b := 0) (by omega) (by omega)).mp h1
    refine lv_iconst (v := 0) hx hb dC_cutEdges_10 (by decide) ?_
    have hP9 := hP.sub (ws' := [(h, .inr (1, [.ref cv, .ref ce, .int (nI 0), .int ok])), (ce, .inl (cT 0, 11, .inl fe)), (sd, .inl (cT 0, 48, .inl sa))]) [0, 1, 2] rfl
    have hD9 := hD.sub (ws' := [(h, .inr (1, [.ref cv, .ref ce, .int (nI 0), .int ok])), (ce, .inl (cT 0, 11, .inl fe)), (sd, .inl (cT 0, 48, .inl sa))]) [0, 1, 2] (by decide) rfl
    refine W.widen (k := 0) (n := 0) (Nat.le_of_ble_eq_true rfl) (Nat.le_of_ble_eq_true rfl) ?_
    exact W.iret (v := 0) hx hb hr (fun t9 ht9 hW9 => ⟨⟨0, (0, fe), rfl, (show 0 = nI 0 ∧ CUR bc vv c0 n nn eg 0 fe from ⟨rfl, cur_0 (by have z9 : mk = 0 := (by omega); rw [z9] at hsv; exact hsv)⟩), by rw [ht9]; exact hP9, hD9⟩, hS.F ht9⟩) hS.2.2 dC_cutEdges_11
