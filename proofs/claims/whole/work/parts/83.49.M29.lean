set_option maxHeartbeats 4000000 in
set_option maxRecDepth 100000 in
theorem m_write (l : Launch) (D : va_G) (cT : Nat → ClassId) (y : Nat) (yr : Nat → Nat) (yi : Nat → Int32) (ysb : Int64) (ybs : Int64) (fp : Nat → Int32) (fo : Nat → Int32) (fd : Nat → Int32) (f30 : Nat → Int32) (a : Nat) (f : Nat → Int32) (z : Int) (lo : Nat) (gl : Nat → Int32) (bb : Nat) (hPR : PRI fp) (hN : MN f z) (hL : LOK gl bb) (hbb : bb < 2 ^ 30) (hfit : z.natAbs < 268435456 ^ 250) (hfd : dn gl < 268435456 ^ 250) (sz : Nat) : Met l yM_write WM_write ({ frames := 3, cells := 0, slots := 0, locals := 72 } : Room) (RW D vwCl [.ref y, .ref a, .ref lo] [(y, .inr (11, MO yr yi ysb ybs)), (yr 0, .inl (cT 0, 19, .inl fp)), (yr 48, .inl (cT 2, 6000, .inl fo)), (yr 49, .inl (cT 2, 3000, .inl fd)), (yr 31, .inl (cT 0, 302, .inl f30)), (a, .inl (cT 0, 302, .inl f)), (lo, .inl (cT 0, 19, .inl gl))] (TY cT) sz) (va_Qi (fun (r9 : Int32) (u9 : Nat × (Nat → Int32) × (Nat → Int32) × (Nat → Int32) × (Nat → Int32) × (Nat → Int32)) => r9 = nI u9.1 ∧ u9.1 ≤ 5000 ∧ u9.2.1 47 = nI u9.1 ∧ WRT u9.2.2.1 u9.1 z (dn gl) ∧ ∀ j8, j8 ≠ 47 → u9.2.1 j8 = yi j8) (BW D vwCl (va_A [(y, .inr (11, MO yr yi ysb ybs)), (yr 0, .inl (cT 0, 19, .inl fp)), (yr 48, .inl (cT 2, 6000, .inl fo)), (yr 49, .inl (cT 2, 3000, .inl fd)), (yr 31, .inl (cT 0, 302, .inl f30)), (a, .inl (cT 0, 302, .inl f)), (lo, .inl (cT 0, 19, .inl gl))] sz) (fun u9 : Nat × (Nat → Int32) × (Nat → Int32) × (Nat → Int32) × (Nat → Int32) × (Nat → Int32) => [(y, .inr (11, MO yr u9.2.1 ysb ybs)), (yr 0, .inl (cT 0, 19, .inl fp)), (yr 48, .inl (cT 2, 6000, .inl u9.2.2.1)), (yr 49, .inl (cT 2, 3000, .inl u9.2.2.2.1)), (yr 31, .inl (cT 0, 302, .inl u9.2.2.2.2.2)), (a, .inl (cT 0, 302, .inl u9.2.2.2.2.1)), (lo, .inl (cT 0, 19, .inl gl))])) (va_A [(y, .inr (11, MO yr yi ysb ybs)), (yr 0, .inl (cT 0, 19, .inl fp)), (yr 48, .inl (cT 2, 6000, .inl fo)), (yr 49, .inl (cT 2, 3000, .inl fd)), (yr 31, .inl (cT 0, 302, .inl f30)), (a, .inl (cT 0, 302, .inl f)), (lo, .inl (cT 0, 19, .inl gl))] sz)) 0 0 (va_A [(y, .inr (11, MO yr yi ysb ybs)), (yr 0, .inl (cT 0, 19, .inl fp)), (yr 48, .inl (cT 2, 6000, .inl fo)), (yr 49, .inl (cT 2, 3000, .inl fd)), (yr 31, .inl (cT 0, 302, .inl f30)), (a, .inl (cT 0, 302, .inl f)), (lo, .inl (cT 0, 19, .inl gl))] sz) := by
  refine Met.ofW (cc := cM_write) (maxL := 6) (ret := (some .int)) (by decide) rfl ?_
  intro p e s m args below meth c s₁ B hml hv
  obtain ⟨rfl, hsz, hZ, hP, hK, hD0⟩ := hv
  have hx := B.exec
  have hb := B.bytes
  have hr := B.returns
  have hts := atoms_spec (ws := WM_write) B.pre
  have hT : ∀ w ∈ TB, w.before _ s = true := fun w h => hts w (List.mem_cons_of_mem _ h)
  have hown : s.vm.findClass R_M = some m.cls := findClass_of_methodNamed B.named
  have hlocks := B.notSynchronized
  subst hsz
  have hD := hD0.self (sz := s.heap.size)
  generalize hAe : va_A [(y, .inr (11, MO yr yi ysb ybs)), (yr 0, .inl (cT 0, 19, .inl fp)), (yr 48, .inl (cT 2, 6000, .inl fo)), (yr 49, .inl (cT 2, 3000, .inl fd)), (yr 31, .inl (cT 0, 302, .inl f30)), (a, .inl (cT 0, 302, .inl f)), (lo, .inl (cT 0, 19, .inl gl))] s.heap.size = A at hD hZ ⊢
  have hA : ∀ q : Nat, s.heap.size ≤ q → A q := fun q h => by rw [← hAe]; exact Or.inr h
  have hS : va_S A s.heap s.heap [] := va_S.rf
  have hl := lv_entry ([.ref y, .ref a, .ref lo]) (n := 6) (Nat.le_of_ble_eq_true rfl)
  rw [lg_entry_eq]
  generalize (lg_sl ([.ref y, .ref a, .ref lo]) ++ List.replicate (6 - (lg_sl ([.ref y, .ref a, .ref lo])).length) Slot.unset).toArray = ls at hl ⊢
  have hl : lv_has ls 6 [(0, .ref y), (1, .ref a), (2, .ref lo)] := hl
  refine lv_aload_n hx hb dM_write_0 rfl (lv_at hl 0 rfl) ?_
  refine lv_iconst (v := 0) hx hb dM_write_1 (by decide) ?_
  refine va_put (D := D) (ci := 11) (v := .int 0) (ty := .int) (C := R_M) (T := T_M) (N := 60) hx hb hT in_M ty_M ty_M_ok m_M hown hK hP hD hS 0 rfl rfl 47 (by decide) (hT _ w1151) (fun _ h9 => h9) rfl (by decide +kernel) rfl rfl (Nat.le_of_ble_eq_true rfl) dM_write_2 (fun H locs hP hD hS => ?_)
  have hP : va_P D vwCl [(y, .inr (11, MO yr (va_up yi 47 0) ysb ybs)), (yr 0, .inl (cT 0, 19, .inl fp)), (yr 48, .inl (cT 2, 6000, .inl fo)), (yr 49, .inl (cT 2, 3000, .inl fd)), (yr 31, .inl (cT 0, 302, .inl f30)), (a, .inl (cT 0, 302, .inl f)), (lo, .inl (cT 0, 19, .inl gl))] _ := hP
  have hD : va_D A [(y, .inr (11, MO yr (va_up yi 47 0) ysb ybs)), (yr 0, .inl (cT 0, 19, .inl fp)), (yr 48, .inl (cT 2, 6000, .inl fo)), (yr 49, .inl (cT 2, 3000, .inl fd)), (yr 31, .inl (cT 0, 302, .inl f30)), (a, .inl (cT 0, 302, .inl f)), (lo, .inl (cT 0, 19, .inl gl))] := hD
  refine lv_aload_n hx hb dM_write_5 rfl (lv_at hl 1 rfl) ?_
  refine lv_sipush (v := 301) hx hb dM_write_6 (by decide) ?_
  refine lq_iald (j := 301) hx hb hK hP 5 0 rfl rfl rfl (by decide) (by decide) dM_write_9 ?_
  refine lv_topi (fun y9 e9 => ?_)
  cases (show y9 = sg z from e9.trans (mn_sg hN))
  refine lv_if_ge (tgt := 26) hx hb dM_write_10 rfl (fun h1 => ?_) (fun h1 => ?_)
  · have hz : ¬ z < 0 := sg_ge.mp h1
    have hsz : sgo z = 0 := if_neg hz
    refine lv_aload_n hx hb dM_write_26 rfl (lv_at hl 0 rfl) ?_
    refine lv_aload_n hx hb dM_write_27 rfl (lv_at hl 1 rfl) ?_
    refine rw_v (wc := [(y, .inr (11, MO yr (va_up yi 47 0) ysb ybs)), (yr 48, .inl (cT 2, 6000, .inl fo)), (yr 49, .inl (cT 2, 3000, .inl fd)), (a, .inl (cT 0, 302, .inl f))]) (wr := [(yr 0, .inl (cT 0, 19, .inl fp)), (yr 31, .inl (cT 0, 302, .inl f30)), (lo, .inl (cT 0, 19, .inl gl))]) hP hD hS hA [0, 2, 3, 5] [1, 4, 6] rfl rfl (by decide) (by decide) (va_runV (As := [.ref a]) (rest := []) ⟨hx, hb, hml, hown, hT⟩ (m_digits l D cT y yr (va_up yi 47 0) ysb ybs fo fd a f z 0 hN hfit (by rw [va_up_self]; rfl) (by decide) _) ⟨callB_of 1 hT (tb_gd w1563) rfl rfl rfl (hT _ w13) (hT _ w1560) hM_writeDigits ⟨Nat.le_of_ble_eq_true rfl, Nat.le_of_ble_eq_true rfl⟩, (hT _ w1562), (hT _ wp63)⟩ (RW.preV (ci := 11) (q0 := 0) hZ hS (va_free (wc := [(y, .inr (11, MO yr (va_up yi 47 0) ysb ybs)), (yr 48, .inl (cT 2, 6000, .inl fo)), (yr 49, .inl (cT 2, 3000, .inl fd)), (a, .inl (cT 0, 302, .inl f))]) hD hS hA [0, 2, 3, 5] rfl) (hP.sub (ws' := [(y, .inr (11, MO yr (va_up yi 47 0) ysb ybs)), (yr 48, .inl (cT 2, 6000, .inl fo)), (yr 49, .inl (cT 2, 3000, .inl fd)), (a, .inl (cT 0, 302, .inl f))]) [0, 2, 3, 5] rfl) hK (hD.sub (ws' := [(y, .inr (11, MO yr (va_up yi 47 0) ysb ybs)), (yr 48, .inl (cT 2, 6000, .inl fo)), (yr 49, .inl (cT 2, 3000, .inl fd)), (a, .inl (cT 0, 302, .inl f))]) [0, 2, 3, 5] (by decide) rfl) rfl rfl) rfl rfl hl.1 rfl (lv_room (Nat.le_of_ble_eq_true rfl)) dM_write_28 ⟨Nat.le_of_ble_eq_true rfl, Nat.le_of_ble_eq_true rfl⟩) (fun u9 H locs hpu2 hP hD hS => ?_)
    obtain ⟨n7u2, fo7u2, fd7u2, f7u2, yi7u2⟩ := u9
    have hpu2 : NDG z.natAbs n7u2 ∧ yi7u2 47 = nI (0 + n7u2) ∧ (∀ i8, i8 < n7u2 → fo7u2 (0 + i8) = nI (48 + dgt z.natAbs (n7u2 - 1 - i8))) ∧ (∀ i8, i8 < 0 → fo7u2 i8 = fo i8) ∧ ∀ j8, j8 ≠ 47 → yi7u2 j8 = (va_up yi 47 0) j8 := hpu2
    have hP : va_P D vwCl [(yr 0, .inl (cT 0, 19, .inl fp)), (yr 31, .inl (cT 0, 302, .inl f30)), (lo, .inl (cT 0, 19, .inl gl)), (y, .inr (11, MO yr yi7u2 ysb ybs)), (yr 48, .inl (cT 2, 6000, .inl fo7u2)), (yr 49, .inl (cT 2, 3000, .inl fd7u2)), (a, .inl (cT 0, 302, .inl f7u2))] _ := hP
    have hD : va_D A [(yr 0, .inl (cT 0, 19, .inl fp)), (yr 31, .inl (cT 0, 302, .inl f30)), (lo, .inl (cT 0, 19, .inl gl)), (y, .inr (11, MO yr yi7u2 ysb ybs)), (yr 48, .inl (cT 2, 6000, .inl fo7u2)), (yr 49, .inl (cT 2, 3000, .inl fd7u2)), (a, .inl (cT 0, 302, .inl f7u2))] := hD
    obtain ⟨d1, d2, d3, d4, d5⟩ := hpu2
    have d6 := ndg_b d1 hfit
    have d7 : z < 0 → fo7u2 0 = 45 := fun q => absurd q hz
    rw [← hsz] at d2
    have d3 : ∀ i, i < n7u2 → fo7u2 (sgo z + i) = nI (48 + dgt z.natAbs (n7u2 - 1 - i)) := by rw [hsz]; exact d3
    have d5 : ∀ j, j ≠ 47 → yi7u2 j = yi j := fun j h => (d5 j h).trans (va_up_ne _ _ h)
    refine lv_iconst (v := 1) hx hb dM_write_31 (by decide) ?_
    refine lv_istore_n hx hb dM_write_32 rfl hl (by decide) rfl (fun ls hl => ?_)
    have hl : lv_has ls 6 [(3, .int 1), (0, .ref y), (1, .ref a), (2, .ref lo)] := hl
    refine lv_aload_n hx hb dM_write_33 rfl (lv_at hl 1 rfl) ?_
    refine va_get (D := D) (ci := 11) (v := .ref (yr 31)) (C := R_M) (T := T_M) (N := 60) hx hb hT in_M hown hK hP 3 rfl rfl 31 (by decide) (hT _ w1135) (fun _ h9 => h9) rfl dM_write_34 ?_
    refine lv_lconst (v := 1) hx hb dM_write_37 (by decide) ?_
    refine rw_v (wc := [(yr 31, .inl (cT 0, 302, .inl f30))]) (wr := [(yr 0, .inl (cT 0, 19, .inl fp)), (lo, .inl (cT 0, 19, .inl gl)), (y, .inr (11, MO yr yi7u2 ysb ybs)), (yr 48, .inl (cT 2, 6000, .inl fo7u2)), (yr 49, .inl (cT 2, 3000, .inl fd7u2)), (a, .inl (cT 0, 302, .inl f7u2))]) hP hD hS hA [1] [0, 2, 3, 4, 5, 6] rfl rfl (by decide) (by decide) (va_runS (As := [.ref (yr 31), .long 1]) (rest := []) ⟨hx, hb, hml, hown, hT⟩ (m_setInt l D cT (yr 31) f30 1 (by decide) _) ⟨callB_of 2 hT (tb_gd w1387) rfl rfl rfl (hT _ w13) (hT _ w1385) hM_setInt ⟨Nat.le_of_ble_eq_true rfl, Nat.le_of_ble_eq_true rfl⟩, (hT _ w1386)⟩ (RW.preS hZ hS (va_free (wc := [(yr 31, .inl (cT 0, 302, .inl f30))]) hD hS hA [1] rfl) (hP.sub (ws' := [(yr 31, .inl (cT 0, 302, .inl f30))]) [1] rfl) hK (hD.sub (ws' := [(yr 31, .inl (cT 0, 302, .inl f30))]) [1] (by decide) rfl)) rfl rfl hl.1 rfl (lv_room (Nat.le_of_ble_eq_true rfl)) dM_write_38 ⟨Nat.le_of_ble_eq_true rfl, Nat.le_of_ble_eq_true rfl⟩) (fun u9 H locs hpu3 hP hD hS => ?_)
    obtain ⟨f1u3, rfl⟩ : ∃ q9, q9 = u9 := ⟨_, rfl⟩
    have hpu3 : MN f1u3 (1 : Int64).toInt := hpu3
    have hP : va_P D vwCl [(yr 0, .inl (cT 0, 19, .inl fp)), (lo, .inl (cT 0, 19, .inl gl)), (y, .inr (11, MO yr yi7u2 ysb ybs)), (yr 48, .inl (cT 2, 6000, .inl fo7u2)), (yr 49, .inl (cT 2, 3000, .inl fd7u2)), (a, .inl (cT 0, 302, .inl f7u2)), (yr 31, .inl (cT 0, 302, .inl f1u3))] _ := hP
    have hD : va_D A [(yr 0, .inl (cT 0, 19, .inl fp)), (lo, .inl (cT 0, 19, .inl gl)), (y, .inr (11, MO yr yi7u2 ysb ybs)), (yr 48, .inl (cT 2, 6000, .inl fo7u2)), (yr 49, .inl (cT 2, 3000, .inl fd7u2)), (a, .inl (cT 0, 302, .inl f7u2)), (yr 31, .inl (cT 0, 302, .inl f1u3))] := hD
    have a0 : MN f1u3 1 := hpu3
    refine lv_iconst (v := 0) hx hb dM_write_41 (by decide) ?_
    refine lv_istore hx hb dM_write_42 hl (by decide) rfl (fun ls hl => ?_)
    have hl : lv_has ls 6 [(4, .int 0), (3, .int 1), (0, .ref y), (1, .ref a), (2, .ref lo)] := hl
    refine lp_w (α := Nat × (Nat → Int32) × Bool) (fun a9 => a9.1 ≤ 19 ∧ MN a9.2.1 (dnk (dg gl) a9.1 : Int) ∧ (a9.2.2 = true ↔ ∀ q, q < a9.1 → dg gl q = 0)) (fun a9 => 19 - a9.1) (fun a9 => [(0, .ref y), (1, .ref a), (2, .ref lo), (3, .int (bn a9.2.2)), (4, .int (nI a9.1))]) (fun a9 => [(yr 0, .inl (cT 0, 19, .inl fp)), (lo, .inl (cT 0, 19, .inl gl)), (y, .inr (11, MO yr yi7u2 ysb ybs)), (yr 48, .inl (cT 2, 6000, .inl fo7u2)), (yr 49, .inl (cT 2, 3000, .inl fd7u2)), (a, .inl (cT 0, 302, .inl f7u2)), (yr 31, .inl (cT 0, 302, .inl a9.2.1))]) 44 ?_ (0, f1u3, true) (show 0 ≤ 19 ∧ MN f1u3 (dnk (dg gl) 0 : Int) ∧ (true = true ↔ ∀ q, q < 0 → dg gl q = 0) from ⟨by omega, a0, ⟨fun _ q h => absurd h (by omega), fun _ => rfl⟩⟩) (lv_sub hl [2, 3, 4, 1, 0] rfl) hP hD hS
    intro a9 hI44 ih44 ls H locs hl hP hD hS
    obtain ⟨k, f3, wb⟩ := a9
    have hI44 : k ≤ 19 ∧ MN f3 (dnk (dg gl) k : Int) ∧ (wb = true ↔ ∀ q, q < k → dg gl q = 0) := hI44
    obtain ⟨ik, iN, iw⟩ := hI44
    have hl : lv_has ls 6 [(0, .ref y), (1, .ref a), (2, .ref lo), (3, .int (bn wb)), (4, .int (nI k))] := hl
    have hP : va_P D vwCl [(yr 0, .inl (cT 0, 19, .inl fp)), (lo, .inl (cT 0, 19, .inl gl)), (y, .inr (11, MO yr yi7u2 ysb ybs)), (yr 48, .inl (cT 2, 6000, .inl fo7u2)), (yr 49, .inl (cT 2, 3000, .inl fd7u2)), (a, .inl (cT 0, 302, .inl f7u2)), (yr 31, .inl (cT 0, 302, .inl f3))] _ := hP
    have hD : va_D A [(yr 0, .inl (cT 0, 19, .inl fp)), (lo, .inl (cT 0, 19, .inl gl)), (y, .inr (11, MO yr yi7u2 ysb ybs)), (yr 48, .inl (cT 2, 6000, .inl fo7u2)), (yr 49, .inl (cT 2, 3000, .inl fd7u2)), (a, .inl (cT 0, 302, .inl f7u2)), (yr 31, .inl (cT 0, 302, .inl f3))] := hD
    refine lv_iload hx hb dM_write_44 (lv_at hl 4 rfl) ?_
    refine lv_bipush (v := 19) hx hb dM_write_46 (by decide) ?_
    refine lv_icmp_ge (tgt := 106) hx hb dM_write_48 rfl (fun h4 => ?_) (fun h4 => ?_)
    · have gh4 : 19 ≤ k := (nI_leI (a := 19) (b := k) (by omega) (by omega)).mp h4
      have ek : k = 19 := by omega
      subst ek
      have hl : lv_has ls 6 [(0, .ref y), (1, .ref a), (2, .ref lo), (3, .int (bn wb)), (4, .int (nI 19))] := hl
      have hP : va_P D vwCl [(yr 0, .inl (cT 0, 19, .inl fp)), (lo, .inl (cT 0, 19, .inl gl)), (y, .inr (11, MO yr yi7u2 ysb ybs)), (yr 48, .inl (cT 2, 6000, .inl fo7u2)), (yr 49, .inl (cT 2, 3000, .inl fd7u2)), (a, .inl (cT 0, 302, .inl f7u2)), (yr 31, .inl (cT 0, 302, .inl f3))] _ := hP
      have hD : va_D A [(yr 0, .inl (cT 0, 19, .inl fp)), (lo, .inl (cT 0, 19, .inl gl)), (y, .inr (11, MO yr yi7u2 ysb ybs)), (yr 48, .inl (cT 2, 6000, .inl fo7u2)), (yr 49, .inl (cT 2, 3000, .inl fd7u2)), (a, .inl (cT 0, 302, .inl f7u2)), (yr 31, .inl (cT 0, 302, .inl f3))] := hD
      refine lv_iload_n hx hb dM_write_106 rfl (lv_at hl 3 rfl) ?_
      refine lv_if_ne (tgt := 139) hx hb dM_write_107 rfl (fun h5 => ?_) (fun h5 => ?_)
      · have w2 : wb = true := by cases hw9 : wb; (exact absurd (bn_0.mpr hw9) h5); (rfl)
        refine lv_aload_n hx hb dM_write_139 rfl (lv_at hl 0 rfl) ?_
        refine va_get (D := D) (ci := 11) (v := .int (yi7u2 47)) (C := R_M) (T := T_M) (N := 60) hx hb hT in_M hown hK hP 2 rfl rfl 47 (by decide) (hT _ w1151) (fun _ h9 => h9) rfl dM_write_140 ?_
        refine lv_topi (fun y9 e9 => ?_)
        cases (show y9 = nI (sgo z + n7u2) from e9.trans d2)
        have hP9 := hP.sub (ws' := [(y, .inr (11, MO yr yi7u2 ysb ybs)), (yr 0, .inl (cT 0, 19, .inl fp)), (yr 48, .inl (cT 2, 6000, .inl fo7u2)), (yr 49, .inl (cT 2, 3000, .inl fd7u2)), (yr 31, .inl (cT 0, 302, .inl f3)), (a, .inl (cT 0, 302, .inl f7u2)), (lo, .inl (cT 0, 19, .inl gl))]) [2, 0, 3, 4, 6, 5, 1] rfl
        have hD9 := hD.sub (ws' := [(y, .inr (11, MO yr yi7u2 ysb ybs)), (yr 0, .inl (cT 0, 19, .inl fp)), (yr 48, .inl (cT 2, 6000, .inl fo7u2)), (yr 49, .inl (cT 2, 3000, .inl fd7u2)), (yr 31, .inl (cT 0, 302, .inl f3)), (a, .inl (cT 0, 302, .inl f7u2)), (lo, .inl (cT 0, 19, .inl gl))]) [2, 0, 3, 4, 6, 5, 1] (by decide) rfl
        refine W.widen (k := 0) (n := 0) (Nat.le_of_ble_eq_true rfl) (Nat.le_of_ble_eq_true rfl) ?_
        exact W.iret (v := nI (sgo z + n7u2)) hx hb hr (fun t9 ht9 hW9 => ⟨⟨nI (sgo z + n7u2), (sgo z + n7u2, yi7u2, fo7u2, fd7u2, f7u2, f3), rfl, (show (nI (sgo z + n7u2)) = nI (sgo z + n7u2) ∧ (sgo z + n7u2) ≤ 5000 ∧ yi7u2 47 = nI (sgo z + n7u2) ∧ WRT fo7u2 (sgo z + n7u2) z (dn gl) ∧ ∀ j8, j8 ≠ 47 → yi7u2 j8 = yi j8 from ⟨rfl, by omega, d2, ⟨n7u2, d1, d7, d3, Or.inl ⟨dnk_1 (iw.mp w2), rfl⟩⟩, d5⟩), by rw [ht9]; exact hP9, hD9⟩, hS.F ht9⟩) hS.2.2 dM_write_143
      · have w2 : wb = false := bn_0.mp h5
        have hb9 : sgo z + n7u2 ≤ 2401 := by omega
        refine lv_aload_n hx hb dM_write_110 rfl (lv_at hl 0 rfl) ?_
        refine va_get (D := D) (ci := 11) (v := .ref (yr 48)) (C := R_M) (T := T_M) (N := 60) hx hb hT in_M hown hK hP 2 rfl rfl 48 (by decide) (hT _ w1152) (fun _ h9 => h9) rfl dM_write_111 ?_
        refine lv_aload_n hx hb dM_write_114 rfl (lv_at hl 0 rfl) ?_
        refine va_get (D := D) (ci := 11) (v := .int (yi7u2 47)) (C := R_M) (T := T_M) (N := 60) hx hb hT in_M hown hK hP 2 rfl rfl 47 (by decide) (hT _ w1151) (fun _ h9 => h9) rfl dM_write_115 ?_
        refine lv_topi (fun y9 e9 => ?_)
        cases (show y9 = nI (sgo z + n7u2) from e9.trans d2)
        refine lv_bipush (v := 47) hx hb dM_write_118 (by decide) ?_
        refine lq_bast (j := sgo z + n7u2) hx hb hK hP hD hS 3 2 rfl rfl rfl (by omega) (by omega) dM_write_120 (fun H locs hP hD hS => ?_)
        have hP : va_P D vwCl [(yr 0, .inl (cT 0, 19, .inl fp)), (lo, .inl (cT 0, 19, .inl gl)), (y, .inr (11, MO yr yi7u2 ysb ybs)), (yr 48, .inl (cT 2, 6000, .inl (upd fo7u2 (sgo z + n7u2) (vp_nar .byte 47)))), (yr 49, .inl (cT 2, 3000, .inl fd7u2)), (a, .inl (cT 0, 302, .inl f7u2)), (yr 31, .inl (cT 0, 302, .inl f3))] _ := hP
        have hD : va_D A [(yr 0, .inl (cT 0, 19, .inl fp)), (lo, .inl (cT 0, 19, .inl gl)), (y, .inr (11, MO yr yi7u2 ysb ybs)), (yr 48, .inl (cT 2, 6000, .inl (upd fo7u2 (sgo z + n7u2) (vp_nar .byte 47)))), (yr 49, .inl (cT 2, 3000, .inl fd7u2)), (a, .inl (cT 0, 302, .inl f7u2)), (yr 31, .inl (cT 0, 302, .inl f3))] := hD
        refine lv_aload_n hx hb dM_write_121 rfl (lv_at hl 0 rfl) ?_
        refine lv_dup hx hb dM_write_122 rfl ?_
        refine va_get (D := D) (ci := 11) (v := .int (yi7u2 47)) (C := R_M) (T := T_M) (N := 60) hx hb hT in_M hown hK hP 2 rfl rfl 47 (by decide) (hT _ w1151) (fun _ h9 => h9) rfl dM_write_123 ?_
        refine lv_topi (fun y9 e9 => ?_)
        cases (show y9 = nI (sgo z + n7u2) from e9.trans d2)
        refine lv_iconst (v := 1) hx hb dM_write_126 (by decide) ?_
        refine lv_iadd hx hb dM_write_127 ?_
        refine lv_topi (fun y9 e9 => ?_)
        cases (show y9 = nI ((sgo z + n7u2) + 1) from e9.trans (nI_add (sgo z + n7u2) 1))
        refine va_put (D := D) (ci := 11) (v := .int (nI ((sgo z + n7u2) + 1))) (ty := .int) (C := R_M) (T := T_M) (N := 60) hx hb hT in_M ty_M ty_M_ok m_M hown hK hP hD hS 2 rfl rfl 47 (by decide) (hT _ w1151) (fun _ h9 => h9) rfl (by decide +kernel) rfl rfl (Nat.le_of_ble_eq_true rfl) dM_write_128 (fun H locs hP hD hS => ?_)
        have hP : va_P D vwCl [(yr 0, .inl (cT 0, 19, .inl fp)), (lo, .inl (cT 0, 19, .inl gl)), (y, .inr (11, MO yr (va_up yi7u2 47 (nI ((sgo z + n7u2) + 1))) ysb ybs)), (yr 48, .inl (cT 2, 6000, .inl (upd fo7u2 (sgo z + n7u2) (vp_nar .byte 47)))), (yr 49, .inl (cT 2, 3000, .inl fd7u2)), (a, .inl (cT 0, 302, .inl f7u2)), (yr 31, .inl (cT 0, 302, .inl f3))] _ := hP
        have hD : va_D A [(yr 0, .inl (cT 0, 19, .inl fp)), (lo, .inl (cT 0, 19, .inl gl)), (y, .inr (11, MO yr (va_up yi7u2 47 (nI ((sgo z + n7u2) + 1))) ysb ybs)), (yr 48, .inl (cT 2, 6000, .inl (upd fo7u2 (sgo z + n7u2) (vp_nar .byte 47)))), (yr 49, .inl (cT 2, 3000, .inl fd7u2)), (a, .inl (cT 0, 302, .inl f7u2)), (yr 31, .inl (cT 0, 302, .inl f3))] := hD
        refine lv_aload_n hx hb dM_write_131 rfl (lv_at hl 0 rfl) ?_
        refine lv_aload_n hx hb dM_write_132 rfl (lv_at hl 0 rfl) ?_
        refine va_get (D := D) (ci := 11) (v := .ref (yr 31)) (C := R_M) (T := T_M) (N := 60) hx hb hT in_M hown hK hP 2 rfl rfl 31 (by decide) (hT _ w1135) (fun _ h9 => h9) rfl dM_write_133 ?_
        refine rw_v (wc := [(y, .inr (11, MO yr (va_up yi7u2 47 (nI ((sgo z + n7u2) + 1))) ysb ybs)), (yr 48, .inl (cT 2, 6000, .inl (upd fo7u2 (sgo z + n7u2) (vp_nar .byte 47)))), (yr 49, .inl (cT 2, 3000, .inl fd7u2)), (yr 31, .inl (cT 0, 302, .inl f3))]) (wr := [(yr 0, .inl (cT 0, 19, .inl fp)), (lo, .inl (cT 0, 19, .inl gl)), (a, .inl (cT 0, 302, .inl f7u2))]) hP hD hS hA [2, 3, 4, 6] [0, 1, 5] rfl rfl (by decide) (by decide) (va_runV (As := [.ref (yr 31)]) (rest := []) ⟨hx, hb, hml, hown, hT⟩ (m_digits l D cT y yr (va_up yi7u2 47 (nI ((sgo z + n7u2) + 1))) ysb ybs (upd fo7u2 (sgo z + n7u2) (vp_nar .byte 47)) fd7u2 (yr 31) f3 (dnk (dg gl) 19 : Int) (sgo z + n7u2 + 1) iN (by rw [Int.natAbs_natCast]; exact hfd) (va_up_self _ _ _) (by omega) _) ⟨callB_of 1 hT (tb_gd w1563) rfl rfl rfl (hT _ w13) (hT _ w1560) hM_writeDigits ⟨Nat.le_of_ble_eq_true rfl, Nat.le_of_ble_eq_true rfl⟩, (hT _ w1562), (hT _ wp63)⟩ (RW.preV (ci := 11) (q0 := 0) hZ hS (va_free (wc := [(y, .inr (11, MO yr (va_up yi7u2 47 (nI ((sgo z + n7u2) + 1))) ysb ybs)), (yr 48, .inl (cT 2, 6000, .inl (upd fo7u2 (sgo z + n7u2) (vp_nar .byte 47)))), (yr 49, .inl (cT 2, 3000, .inl fd7u2)), (yr 31, .inl (cT 0, 302, .inl f3))]) hD hS hA [2, 3, 4, 6] rfl) (hP.sub (ws' := [(y, .inr (11, MO yr (va_up yi7u2 47 (nI ((sgo z + n7u2) + 1))) ysb ybs)), (yr 48, .inl (cT 2, 6000, .inl (upd fo7u2 (sgo z + n7u2) (vp_nar .byte 47)))), (yr 49, .inl (cT 2, 3000, .inl fd7u2)), (yr 31, .inl (cT 0, 302, .inl f3))]) [2, 3, 4, 6] rfl) hK (hD.sub (ws' := [(y, .inr (11, MO yr (va_up yi7u2 47 (nI ((sgo z + n7u2) + 1))) ysb ybs)), (yr 48, .inl (cT 2, 6000, .inl (upd fo7u2 (sgo z + n7u2) (vp_nar .byte 47)))), (yr 49, .inl (cT 2, 3000, .inl fd7u2)), (yr 31, .inl (cT 0, 302, .inl f3))]) [2, 3, 4, 6] (by decide) rfl) rfl rfl) rfl rfl hl.1 rfl (lv_room (Nat.le_of_ble_eq_true rfl)) dM_write_136 ⟨Nat.le_of_ble_eq_true rfl, Nat.le_of_ble_eq_true rfl⟩) (fun u9 H locs hpu6 hP hD hS => ?_)
        obtain ⟨n7u6, fo7u6, fd7u6, f7u6, yi7u6⟩ := u9
        have hpu6 : NDG (dnk (dg gl) 19 : Int).natAbs n7u6 ∧ yi7u6 47 = nI ((sgo z + n7u2 + 1) + n7u6) ∧ (∀ i8, i8 < n7u6 → fo7u6 ((sgo z + n7u2 + 1) + i8) = nI (48 + dgt (dnk (dg gl) 19 : Int).natAbs (n7u6 - 1 - i8))) ∧ (∀ i8, i8 < (sgo z + n7u2 + 1) → fo7u6 i8 = (upd fo7u2 (sgo z + n7u2) (vp_nar .byte 47)) i8) ∧ ∀ j8, j8 ≠ 47 → yi7u6 j8 = (va_up yi7u2 47 (nI ((sgo z + n7u2) + 1))) j8 := hpu6
        have hP : va_P D vwCl [(yr 0, .inl (cT 0, 19, .inl fp)), (lo, .inl (cT 0, 19, .inl gl)), (a, .inl (cT 0, 302, .inl f7u2)), (y, .inr (11, MO yr yi7u6 ysb ybs)), (yr 48, .inl (cT 2, 6000, .inl fo7u6)), (yr 49, .inl (cT 2, 3000, .inl fd7u6)), (yr 31, .inl (cT 0, 302, .inl f7u6))] _ := hP
        have hD : va_D A [(yr 0, .inl (cT 0, 19, .inl fp)), (lo, .inl (cT 0, 19, .inl gl)), (a, .inl (cT 0, 302, .inl f7u2)), (y, .inr (11, MO yr yi7u6 ysb ybs)), (yr 48, .inl (cT 2, 6000, .inl fo7u6)), (yr 49, .inl (cT 2, 3000, .inl fd7u6)), (yr 31, .inl (cT 0, 302, .inl f7u6))] := hD
        obtain ⟨e1, e2, e3, e4, e5⟩ := hpu6
        rw [Int.natAbs_natCast] at e1 e3
        have e6 := ndg_b e1 hfd
        refine lv_aload_n hx hb dM_write_139 rfl (lv_at hl 0 rfl) ?_
        refine va_get (D := D) (ci := 11) (v := .int (yi7u6 47)) (C := R_M) (T := T_M) (N := 60) hx hb hT in_M hown hK hP 3 rfl rfl 47 (by decide) (hT _ w1151) (fun _ h9 => h9) rfl dM_write_140 ?_
        refine lv_topi (fun y9 e9 => ?_)
        cases (show y9 = nI (sgo z + n7u2 + 1 + n7u6) from e9.trans e2)
        have hP9 := hP.sub (ws' := [(y, .inr (11, MO yr yi7u6 ysb ybs)), (yr 0, .inl (cT 0, 19, .inl fp)), (yr 48, .inl (cT 2, 6000, .inl fo7u6)), (yr 49, .inl (cT 2, 3000, .inl fd7u6)), (yr 31, .inl (cT 0, 302, .inl f7u6)), (a, .inl (cT 0, 302, .inl f7u2)), (lo, .inl (cT 0, 19, .inl gl))]) [3, 0, 4, 5, 6, 2, 1] rfl
        have hD9 := hD.sub (ws' := [(y, .inr (11, MO yr yi7u6 ysb ybs)), (yr 0, .inl (cT 0, 19, .inl fp)), (yr 48, .inl (cT 2, 6000, .inl fo7u6)), (yr 49, .inl (cT 2, 3000, .inl fd7u6)), (yr 31, .inl (cT 0, 302, .inl f7u6)), (a, .inl (cT 0, 302, .inl f7u2)), (lo, .inl (cT 0, 19, .inl gl))]) [3, 0, 4, 5, 6, 2, 1] (by decide) rfl
        refine W.widen (k := 0) (n := 0) (Nat.le_of_ble_eq_true rfl) (Nat.le_of_ble_eq_true rfl) ?_
        exact W.iret (v := nI (sgo z + n7u2 + 1 + n7u6)) hx hb hr (fun t9 ht9 hW9 => ⟨⟨nI (sgo z + n7u2 + 1 + n7u6), (sgo z + n7u2 + 1 + n7u6, yi7u6, fo7u6, fd7u6, f7u2, f7u6), rfl, (show (nI (sgo z + n7u2 + 1 + n7u6)) = nI (sgo z + n7u2 + 1 + n7u6) ∧ (sgo z + n7u2 + 1 + n7u6) ≤ 5000 ∧ yi7u6 47 = nI (sgo z + n7u2 + 1 + n7u6) ∧ WRT fo7u6 (sgo z + n7u2 + 1 + n7u6) z (dn gl) ∧ ∀ j8, j8 ≠ 47 → yi7u6 j8 = yi j8 from ⟨rfl, by omega, e2, ⟨n7u2, d1, fun q => (by rw [e4 0 (by omega), pk_un (by omega)]; exact d7 q), fun i h => (by rw [e4 _ (by omega), pk_un (by omega)]; exact d3 i h), Or.inr ⟨fun q => absurd (iw.mpr (dnk_n1 (Nat.le_refl _) q)) (by rw [w2]; decide), n7u6, e1, rfl, (by rw [e4 _ (by omega), pk_us]; exact nar_b (n := 47) (by decide)), e3⟩⟩, fun j h => (e5 j h).trans ((va_up_ne _ _ h).trans (d5 j h))⟩), by rw [ht9]; exact hP9, hD9⟩, hS.F ht9⟩) hS.2.2 dM_write_143
    · have gh4 : k < 19 := Nat.not_le.mp (fun q => h4 ((nI_leI (a := 19) (b := k) (by omega) (by omega)).mpr q))
      have hgk := hL k (by omega)
      have hpb := pr_b k (by omega)
      refine lv_iload_n hx hb dM_write_51 rfl (lv_at hl 3 rfl) ?_
      refine lv_if_eq (tgt := 66) hx hb dM_write_52 rfl (fun h7 => ?_) (fun h7 => ?_)
      · have w1 : wb = false := bn_0.mp h7
        refine lv_iconst (v := 0) hx hb dM_write_66 (by decide) ?_
        refine lv_istore_n hx hb dM_write_67 rfl hl (by decide) rfl (fun ls hl => ?_)
        have hl : lv_has ls 6 [(3, .int 0), (0, .ref y), (1, .ref a), (2, .ref lo), (4, .int (nI k))] := hl
        refine lv_iconst (v := 0) hx hb dM_write_68 (by decide) ?_
        refine lv_istore hx hb dM_write_69 hl (by decide) rfl (fun ls hl => ?_)
        have hl : lv_has ls 6 [(5, .int 0), (3, .int 0), (0, .ref y), (1, .ref a), (2, .ref lo), (4, .int (nI k))] := hl
        refine lp_w (α := Nat × (Nat → Int32)) (fun a9 => a9.1 ≤ dg gl k ∧ MN a9.2 ((dnk (dg gl) k * pr k ^ a9.1 : Nat) : Int)) (fun a9 => dg gl k - a9.1) (fun a9 => [(0, .ref y), (1, .ref a), (2, .ref lo), (3, .int 0), (4, .int (nI k)), (5, .int (nI a9.1))]) (fun a9 => [(yr 0, .inl (cT 0, 19, .inl fp)), (lo, .inl (cT 0, 19, .inl gl)), (y, .inr (11, MO yr yi7u2 ysb ybs)), (yr 48, .inl (cT 2, 6000, .inl fo7u2)), (yr 49, .inl (cT 2, 3000, .inl fd7u2)), (a, .inl (cT 0, 302, .inl f7u2)), (yr 31, .inl (cT 0, 302, .inl a9.2))]) 71 ?_ (0, f3) (show 0 ≤ dg gl k ∧ MN f3 ((dnk (dg gl) k * pr k ^ 0 : Nat) : Int) from ⟨by omega, by rw [Nat.pow_zero, Nat.mul_one]; exact iN⟩) (lv_sub hl [2, 3, 4, 1, 5, 0] rfl) hP hD hS
        intro a9 hI71 ih71 ls H locs hl hP hD hS
        obtain ⟨i, f4⟩ := a9
        have hI71 : i ≤ dg gl k ∧ MN f4 ((dnk (dg gl) k * pr k ^ i : Nat) : Int) := hI71
        obtain ⟨ji, jN⟩ := hI71
        have hl : lv_has ls 6 [(0, .ref y), (1, .ref a), (2, .ref lo), (3, .int 0), (4, .int (nI k)), (5, .int (nI i))] := hl
        have hP : va_P D vwCl [(yr 0, .inl (cT 0, 19, .inl fp)), (lo, .inl (cT 0, 19, .inl gl)), (y, .inr (11, MO yr yi7u2 ysb ybs)), (yr 48, .inl (cT 2, 6000, .inl fo7u2)), (yr 49, .inl (cT 2, 3000, .inl fd7u2)), (a, .inl (cT 0, 302, .inl f7u2)), (yr 31, .inl (cT 0, 302, .inl f4))] _ := hP
        have hD : va_D A [(yr 0, .inl (cT 0, 19, .inl fp)), (lo, .inl (cT 0, 19, .inl gl)), (y, .inr (11, MO yr yi7u2 ysb ybs)), (yr 48, .inl (cT 2, 6000, .inl fo7u2)), (yr 49, .inl (cT 2, 3000, .inl fd7u2)), (a, .inl (cT 0, 302, .inl f7u2)), (yr 31, .inl (cT 0, 302, .inl f4))] := hD
        refine lv_iload hx hb dM_write_71 (lv_at hl 5 rfl) ?_
        refine lv_aload_n hx hb dM_write_73 rfl (lv_at hl 2 rfl) ?_
        refine lv_iload hx hb dM_write_74 (lv_at hl 4 rfl) ?_
        refine lq_iald (j := k) hx hb hK hP 1 0 rfl rfl rfl (by omega) (by omega) dM_write_76 ?_
        refine lv_topi (fun y9 e9 => ?_)
        cases (show y9 = nI (dg gl k) from e9.trans hgk.1)
        refine lv_icmp_ge (tgt := 100) hx hb dM_write_77 rfl (fun h8 => ?_) (fun h8 => ?_)
        · have gh8 : dg gl k ≤ i := (nI_leI (a := dg gl k) (b := i) (by omega) (by omega)).mp h8
          refine lv_iinc (k := 4) (v := nI (k + 1)) hx hb dM_write_100 hl rfl (nI_1 k) (by decide) rfl (fun ls hl => ?_)
          have hl : lv_has ls 6 [(4, .int (nI (k + 1))), (0, .ref y), (1, .ref a), (2, .ref lo), (3, .int 0), (5, .int (nI i))] := hl
          refine lv_goto (tgt := 44) hx hb dM_write_103 rfl ?_
          exact ih44 (k + 1, f4, false) (show (k + 1) ≤ 19 ∧ MN f4 (dnk (dg gl) (k + 1) : Int) ∧ (false = true ↔ ∀ q, q < (k + 1) → dg gl q = 0) from ⟨by omega, by rw [show i = dg gl k by omega] at jN; exact jN, ⟨fun h => absurd h (by decide), fun h => absurd (iw.mpr (fun q hq => h q (by omega))) (by rw [w1]; decide)⟩⟩) (show 19 - (k + 1) < 19 - k from (by omega)) ls H locs (lv_sub hl [1, 2, 3, 4, 0] rfl) hP hD hS
        · have gh8 : i < dg gl k := Nat.not_le.mp (fun q => h8 ((nI_leI (a := dg gl k) (b := i) (by omega) (by omega)).mpr q))
          refine lv_aload_n hx hb dM_write_80 rfl (lv_at hl 0 rfl) ?_
          refine va_get (D := D) (ci := 11) (v := .ref (yr 31)) (C := R_M) (T := T_M) (N := 60) hx hb hT in_M hown hK hP 2 rfl rfl 31 (by decide) (hT _ w1135) (fun _ h9 => h9) rfl dM_write_81 ?_
          refine lv_aload_n hx hb dM_write_84 rfl (lv_at hl 0 rfl) ?_
          refine va_get (D := D) (ci := 11) (v := .ref (yr 0)) (C := R_M) (T := T_M) (N := 60) hx hb hT in_M hown hK hP 2 rfl rfl 0 (by decide) (hT _ w1104) (fun _ h9 => h9) rfl dM_write_85 ?_
          refine lv_iload hx hb dM_write_88 (lv_at hl 4 rfl) ?_
          refine lq_iald (j := k) hx hb hK hP 0 0 rfl rfl rfl (by omega) (by omega) dM_write_90 ?_
          refine lv_topi (fun y9 e9 => ?_)
          cases (show y9 = nI (pr k) from e9.trans (hPR k (by omega)))
          refine rw_v (wc := [(yr 31, .inl (cT 0, 302, .inl f4))]) (wr := [(yr 0, .inl (cT 0, 19, .inl fp)), (lo, .inl (cT 0, 19, .inl gl)), (y, .inr (11, MO yr yi7u2 ysb ybs)), (yr 48, .inl (cT 2, 6000, .inl fo7u2)), (yr 49, .inl (cT 2, 3000, .inl fd7u2)), (a, .inl (cT 0, 302, .inl f7u2))]) hP hD hS hA [6] [0, 1, 2, 3, 4, 5] rfl rfl (by decide) (by decide) (va_runS (As := [.ref (yr 31), .int (nI (pr k))]) (rest := []) ⟨hx, hb, hml, hown, hT⟩ (m_times l D cT (yr 31) f4 ((dnk (dg gl) k * pr k ^ i : Nat) : Int) (pr k) jN (by omega) (by omega) (by rw [Int.natAbs_natCast, Nat.mul_assoc, ← Nat.pow_succ]; exact Nat.lt_of_le_of_lt (dnk_part (by omega) (by omega)) hfd) _) ⟨callB_of 2 hT (tb_gd w1417) rfl rfl rfl (hT _ w13) (hT _ w1415) hM_times ⟨Nat.le_of_ble_eq_true rfl, Nat.le_of_ble_eq_true rfl⟩, (hT _ w1416)⟩ (RW.preS hZ hS (va_free (wc := [(yr 31, .inl (cT 0, 302, .inl f4))]) hD hS hA [6] rfl) (hP.sub (ws' := [(yr 31, .inl (cT 0, 302, .inl f4))]) [6] rfl) hK (hD.sub (ws' := [(yr 31, .inl (cT 0, 302, .inl f4))]) [6] (by decide) rfl)) rfl rfl hl.1 rfl (lv_room (Nat.le_of_ble_eq_true rfl)) dM_write_91 ⟨Nat.le_of_ble_eq_true rfl, Nat.le_of_ble_eq_true rfl⟩) (fun u9 H locs hpu9 hP hD hS => ?_)
          obtain ⟨f1u9, rfl⟩ : ∃ q9, q9 = u9 := ⟨_, rfl⟩
          have hpu9 : MN f1u9 (((dnk (dg gl) k * pr k ^ i : Nat) : Int) * (pr k)) := hpu9
          have hP : va_P D vwCl [(yr 0, .inl (cT 0, 19, .inl fp)), (lo, .inl (cT 0, 19, .inl gl)), (y, .inr (11, MO yr yi7u2 ysb ybs)), (yr 48, .inl (cT 2, 6000, .inl fo7u2)), (yr 49, .inl (cT 2, 3000, .inl fd7u2)), (a, .inl (cT 0, 302, .inl f7u2)), (yr 31, .inl (cT 0, 302, .inl f1u9))] _ := hP
          have hD : va_D A [(yr 0, .inl (cT 0, 19, .inl fp)), (lo, .inl (cT 0, 19, .inl gl)), (y, .inr (11, MO yr yi7u2 ysb ybs)), (yr 48, .inl (cT 2, 6000, .inl fo7u2)), (yr 49, .inl (cT 2, 3000, .inl fd7u2)), (a, .inl (cT 0, 302, .inl f7u2)), (yr 31, .inl (cT 0, 302, .inl f1u9))] := hD
          refine lv_iinc (k := 5) (v := nI (i + 1)) hx hb dM_write_94 hl rfl (nI_1 i) (by decide) rfl (fun ls hl => ?_)
          have hl : lv_has ls 6 [(5, .int (nI (i + 1))), (0, .ref y), (1, .ref a), (2, .ref lo), (3, .int 0), (4, .int (nI k))] := hl
          refine lv_goto (tgt := 71) hx hb dM_write_97 rfl ?_
          exact ih71 (i + 1, f1u9) (show (i + 1) ≤ dg gl k ∧ MN f1u9 ((dnk (dg gl) k * pr k ^ (i + 1) : Nat) : Int) from ⟨by omega, by rw [Nat.pow_succ, ← Nat.mul_assoc, Int.natCast_mul]; exact hpu9⟩) (show dg gl k - (i + 1) < dg gl k - i from (by omega)) ls H locs (lv_sub hl [1, 2, 3, 4, 5, 0] rfl) hP hD hS
      · have w1 : wb = true := by cases hw9 : wb; (exact absurd (bn_0.mpr hw9) h7); (rfl)
        refine lv_aload_n hx hb dM_write_55 rfl (lv_at hl 2 rfl) ?_
        refine lv_iload hx hb dM_write_56 (lv_at hl 4 rfl) ?_
        refine lq_iald (j := k) hx hb hK hP 1 0 rfl rfl rfl (by omega) (by omega) dM_write_58 ?_
        refine lv_topi (fun y9 e9 => ?_)
        cases (show y9 = nI (dg gl k) from e9.trans hgk.1)
        refine lv_if_ne (tgt := 66) hx hb dM_write_59 rfl (fun h10 => ?_) (fun h10 => ?_)
        · have gh10 : ¬ (dg gl k = 0) := fun q => h10 (congrArg nI q)
          refine lv_iconst (v := 0) hx hb dM_write_66 (by decide) ?_
          refine lv_istore_n hx hb dM_write_67 rfl hl (by decide) rfl (fun ls hl => ?_)
          have hl : lv_has ls 6 [(3, .int 0), (0, .ref y), (1, .ref a), (2, .ref lo), (4, .int (nI k))] := hl
          refine lv_iconst (v := 0) hx hb dM_write_68 (by decide) ?_
          refine lv_istore hx hb dM_write_69 hl (by decide) rfl (fun ls hl => ?_)
          have hl : lv_has ls 6 [(5, .int 0), (3, .int 0), (0, .ref y), (1, .ref a), (2, .ref lo), (4, .int (nI k))] := hl
          refine lp_w (α := Nat × (Nat → Int32)) (fun a9 => a9.1 ≤ dg gl k ∧ MN a9.2 ((dnk (dg gl) k * pr k ^ a9.1 : Nat) : Int)) (fun a9 => dg gl k - a9.1) (fun a9 => [(0, .ref y), (1, .ref a), (2, .ref lo), (3, .int 0), (4, .int (nI k)), (5, .int (nI a9.1))]) (fun a9 => [(yr 0, .inl (cT 0, 19, .inl fp)), (lo, .inl (cT 0, 19, .inl gl)), (y, .inr (11, MO yr yi7u2 ysb ybs)), (yr 48, .inl (cT 2, 6000, .inl fo7u2)), (yr 49, .inl (cT 2, 3000, .inl fd7u2)), (a, .inl (cT 0, 302, .inl f7u2)), (yr 31, .inl (cT 0, 302, .inl a9.2))]) 71 ?_ (0, f3) (show 0 ≤ dg gl k ∧ MN f3 ((dnk (dg gl) k * pr k ^ 0 : Nat) : Int) from ⟨by omega, by rw [Nat.pow_zero, Nat.mul_one]; exact iN⟩) (lv_sub hl [2, 3, 4, 1, 5, 0] rfl) hP hD hS
          intro a9 hI71 ih71 ls H locs hl hP hD hS
          obtain ⟨i, f4⟩ := a9
          have hI71 : i ≤ dg gl k ∧ MN f4 ((dnk (dg gl) k * pr k ^ i : Nat) : Int) := hI71
          obtain ⟨ji, jN⟩ := hI71
          have hl : lv_has ls 6 [(0, .ref y), (1, .ref a), (2, .ref lo), (3, .int 0), (4, .int (nI k)), (5, .int (nI i))] := hl
          have hP : va_P D vwCl [(yr 0, .inl (cT 0, 19, .inl fp)), (lo, .inl (cT 0, 19, .inl gl)), (y, .inr (11, MO yr yi7u2 ysb ybs)), (yr 48, .inl (cT 2, 6000, .inl fo7u2)), (yr 49, .inl (cT 2, 3000, .inl fd7u2)), (a, .inl (cT 0, 302, .inl f7u2)), (yr 31, .inl (cT 0, 302, .inl f4))] _ := hP
          have hD : va_D A [(yr 0, .inl (cT 0, 19, .inl fp)), (lo, .inl (cT 0, 19, .inl gl)), (y, .inr (11, MO yr yi7u2 ysb ybs)), (yr 48, .inl (cT 2, 6000, .inl fo7u2)), (yr 49, .inl (cT 2, 3000, .inl fd7u2)), (a, .inl (cT 0, 302, .inl f7u2)), (yr 31, .inl (cT 0, 302, .inl f4))] := hD
          refine lv_iload hx hb dM_write_71 (lv_at hl 5 rfl) ?_
          refine lv_aload_n hx hb dM_write_73 rfl (lv_at hl 2 rfl) ?_
          refine lv_iload hx hb dM_write_74 (lv_at hl 4 rfl) ?_
          refine lq_iald (j := k) hx hb hK hP 1 0 rfl rfl rfl (by omega) (by omega) dM_write_76 ?_
          refine lv_topi (fun y9 e9 => ?_)
          cases (show y9 = nI (dg gl k) from e9.trans hgk.1)
          refine lv_icmp_ge (tgt := 100) hx hb dM_write_77 rfl (fun h11 => ?_) (fun h11 => ?_)
          · have gh11 : dg gl k ≤ i := (nI_leI (a := dg gl k) (b := i) (by omega) (by omega)).mp h11
            refine lv_iinc (k := 4) (v := nI (k + 1)) hx hb dM_write_100 hl rfl (nI_1 k) (by decide) rfl (fun ls hl => ?_)
            have hl : lv_has ls 6 [(4, .int (nI (k + 1))), (0, .ref y), (1, .ref a), (2, .ref lo), (3, .int 0), (5, .int (nI i))] := hl
            refine lv_goto (tgt := 44) hx hb dM_write_103 rfl ?_
            exact ih44 (k + 1, f4, false) (show (k + 1) ≤ 19 ∧ MN f4 (dnk (dg gl) (k + 1) : Int) ∧ (false = true ↔ ∀ q, q < (k + 1) → dg gl q = 0) from ⟨by omega, by rw [show i = dg gl k by omega] at jN; exact jN, ⟨fun h => absurd h (by decide), fun h => absurd (h k (by omega)) (by omega)⟩⟩) (show 19 - (k + 1) < 19 - k from (by omega)) ls H locs (lv_sub hl [1, 2, 3, 4, 0] rfl) hP hD hS
          · have gh11 : i < dg gl k := Nat.not_le.mp (fun q => h11 ((nI_leI (a := dg gl k) (b := i) (by omega) (by omega)).mpr q))
            refine lv_aload_n hx hb dM_write_80 rfl (lv_at hl 0 rfl) ?_
            refine va_get (D := D) (ci := 11) (v := .ref (yr 31)) (C := R_M) (T := T_M) (N := 60) hx hb hT in_M hown hK hP 2 rfl rfl 31 (by decide) (hT _ w1135) (fun _ h9 => h9) rfl dM_write_81 ?_
            refine lv_aload_n hx hb dM_write_84 rfl (lv_at hl 0 rfl) ?_
            refine va_get (D := D) (ci := 11) (v := .ref (yr 0)) (C := R_M) (T := T_M) (N := 60) hx hb hT in_M hown hK hP 2 rfl rfl 0 (by decide) (hT _ w1104) (fun _ h9 => h9) rfl dM_write_85 ?_
            refine lv_iload hx hb dM_write_88 (lv_at hl 4 rfl) ?_
            refine lq_iald (j := k) hx hb hK hP 0 0 rfl rfl rfl (by omega) (by omega) dM_write_90 ?_
            refine lv_topi (fun y9 e9 => ?_)
            cases (show y9 = nI (pr k) from e9.trans (hPR k (by omega)))
            refine rw_v (wc := [(yr 31, .inl (cT 0, 302, .inl f4))]) (wr := [(yr 0, .inl (cT 0, 19, .inl fp)), (lo, .inl (cT 0, 19, .inl gl)), (y, .inr (11, MO yr yi7u2 ysb ybs)), (yr 48, .inl (cT 2, 6000, .inl fo7u2)), (yr 49, .inl (cT 2, 3000, .inl fd7u2)), (a, .inl (cT 0, 302, .inl f7u2))]) hP hD hS hA [6] [0, 1, 2, 3, 4, 5] rfl rfl (by decide) (by decide) (va_runS (As := [.ref (yr 31), .int (nI (pr k))]) (rest := []) ⟨hx, hb, hml, hown, hT⟩ (m_times l D cT (yr 31) f4 ((dnk (dg gl) k * pr k ^ i : Nat) : Int) (pr k) jN (by omega) (by omega) (by rw [Int.natAbs_natCast, Nat.mul_assoc, ← Nat.pow_succ]; exact Nat.lt_of_le_of_lt (dnk_part (by omega) (by omega)) hfd) _) ⟨callB_of 2 hT (tb_gd w1417) rfl rfl rfl (hT _ w13) (hT _ w1415) hM_times ⟨Nat.le_of_ble_eq_true rfl, Nat.le_of_ble_eq_true rfl⟩, (hT _ w1416)⟩ (RW.preS hZ hS (va_free (wc := [(yr 31, .inl (cT 0, 302, .inl f4))]) hD hS hA [6] rfl) (hP.sub (ws' := [(yr 31, .inl (cT 0, 302, .inl f4))]) [6] rfl) hK (hD.sub (ws' := [(yr 31, .inl (cT 0, 302, .inl f4))]) [6] (by decide) rfl)) rfl rfl hl.1 rfl (lv_room (Nat.le_of_ble_eq_true rfl)) dM_write_91 ⟨Nat.le_of_ble_eq_true rfl, Nat.le_of_ble_eq_true rfl⟩) (fun u9 H locs hpu12 hP hD hS => ?_)
            obtain ⟨f1u12, rfl⟩ : ∃ q9, q9 = u9 := ⟨_, rfl⟩
            have hpu12 : MN f1u12 (((dnk (dg gl) k * pr k ^ i : Nat) : Int) * (pr k)) := hpu12
            have hP : va_P D vwCl [(yr 0, .inl (cT 0, 19, .inl fp)), (lo, .inl (cT 0, 19, .inl gl)), (y, .inr (11, MO yr yi7u2 ysb ybs)), (yr 48, .inl (cT 2, 6000, .inl fo7u2)), (yr 49, .inl (cT 2, 3000, .inl fd7u2)), (a, .inl (cT 0, 302, .inl f7u2)), (yr 31, .inl (cT 0, 302, .inl f1u12))] _ := hP
            have hD : va_D A [(yr 0, .inl (cT 0, 19, .inl fp)), (lo, .inl (cT 0, 19, .inl gl)), (y, .inr (11, MO yr yi7u2 ysb ybs)), (yr 48, .inl (cT 2, 6000, .inl fo7u2)), (yr 49, .inl (cT 2, 3000, .inl fd7u2)), (a, .inl (cT 0, 302, .inl f7u2)), (yr 31, .inl (cT 0, 302, .inl f1u12))] := hD
            refine lv_iinc (k := 5) (v := nI (i + 1)) hx hb dM_write_94 hl rfl (nI_1 i) (by decide) rfl (fun ls hl => ?_)
            have hl : lv_has ls 6 [(5, .int (nI (i + 1))), (0, .ref y), (1, .ref a), (2, .ref lo), (3, .int 0), (4, .int (nI k))] := hl
            refine lv_goto (tgt := 71) hx hb dM_write_97 rfl ?_
            exact ih71 (i + 1, f1u12) (show (i + 1) ≤ dg gl k ∧ MN f1u12 ((dnk (dg gl) k * pr k ^ (i + 1) : Nat) : Int) from ⟨by omega, by rw [Nat.pow_succ, ← Nat.mul_assoc, Int.natCast_mul]; exact hpu12⟩) (show dg gl k - (i + 1) < dg gl k - i from (by omega)) ls H locs (lv_sub hl [1, 2, 3, 4, 5, 0] rfl) hP hD hS
        · have gh10 : dg gl k = 0 := (nI_eq (a := dg gl k) (b := 0) (by omega) (by decide)).mp h10
          refine lv_iconst (v := 1) hx hb dM_write_62 (by decide) ?_
          refine lv_goto (tgt := 67) hx hb dM_write_63 rfl ?_
          refine lv_istore_n hx hb dM_write_67 rfl hl (by decide) rfl (fun ls hl => ?_)
          have hl : lv_has ls 6 [(3, .int 1), (0, .ref y), (1, .ref a), (2, .ref lo), (4, .int (nI k))] := hl
          refine lv_iconst (v := 0) hx hb dM_write_68 (by decide) ?_
          refine lv_istore hx hb dM_write_69 hl (by decide) rfl (fun ls hl => ?_)
          have hl : lv_has ls 6 [(5, .int 0), (3, .int 1), (0, .ref y), (1, .ref a), (2, .ref lo), (4, .int (nI k))] := hl
          refine lp_w (α := Nat × (Nat → Int32)) (fun a9 => a9.1 ≤ dg gl k ∧ MN a9.2 ((dnk (dg gl) k * pr k ^ a9.1 : Nat) : Int)) (fun a9 => dg gl k - a9.1) (fun a9 => [(0, .ref y), (1, .ref a), (2, .ref lo), (3, .int 1), (4, .int (nI k)), (5, .int (nI a9.1))]) (fun a9 => [(yr 0, .inl (cT 0, 19, .inl fp)), (lo, .inl (cT 0, 19, .inl gl)), (y, .inr (11, MO yr yi7u2 ysb ybs)), (yr 48, .inl (cT 2, 6000, .inl fo7u2)), (yr 49, .inl (cT 2, 3000, .inl fd7u2)), (a, .inl (cT 0, 302, .inl f7u2)), (yr 31, .inl (cT 0, 302, .inl a9.2))]) 71 ?_ (0, f3) (show 0 ≤ dg gl k ∧ MN f3 ((dnk (dg gl) k * pr k ^ 0 : Nat) : Int) from ⟨by omega, by rw [Nat.pow_zero, Nat.mul_one]; exact iN⟩) (lv_sub hl [2, 3, 4, 1, 5, 0] rfl) hP hD hS
          intro a9 hI71 ih71 ls H locs hl hP hD hS
          obtain ⟨i, f4⟩ := a9
          have hI71 : i ≤ dg gl k ∧ MN f4 ((dnk (dg gl) k * pr k ^ i : Nat) : Int) := hI71
          obtain ⟨ji, jN⟩ := hI71
          have hl : lv_has ls 6 [(0, .ref y), (1, .ref a), (2, .ref lo), (3, .int 1), (4, .int (nI k)), (5, .int (nI i))] := hl
          have hP : va_P D vwCl [(yr 0, .inl (cT 0, 19, .inl fp)), (lo, .inl (cT 0, 19, .inl gl)), (y, .inr (11, MO yr yi7u2 ysb ybs)), (yr 48, .inl (cT 2, 6000, .inl fo7u2)), (yr 49, .inl (cT 2, 3000, .inl fd7u2)), (a, .inl (cT 0, 302, .inl f7u2)), (yr 31, .inl (cT 0, 302, .inl f4))] _ := hP
          have hD : va_D A [(yr 0, .inl (cT 0, 19, .inl fp)), (lo, .inl (cT 0, 19, .inl gl)), (y, .inr (11, MO yr yi7u2 ysb ybs)), (yr 48, .inl (cT 2, 6000, .inl fo7u2)), (yr 49, .inl (cT 2, 3000, .inl fd7u2)), (a, .inl (cT 0, 302, .inl f7u2)), (yr 31, .inl (cT 0, 302, .inl f4))] := hD
          refine lv_iload hx hb dM_write_71 (lv_at hl 5 rfl) ?_
          refine lv_aload_n hx hb dM_write_73 rfl (lv_at hl 2 rfl) ?_
          refine lv_iload hx hb dM_write_74 (lv_at hl 4 rfl) ?_
          refine lq_iald (j := k) hx hb hK hP 1 0 rfl rfl rfl (by omega) (by omega) dM_write_76 ?_
          refine lv_topi (fun y9 e9 => ?_)
          cases (show y9 = nI (dg gl k) from e9.trans hgk.1)
          refine lv_icmp_ge (tgt := 100) hx hb dM_write_77 rfl (fun h13 => ?_) (fun h13 => ?_)
          · have gh13 : dg gl k ≤ i := (nI_leI (a := dg gl k) (b := i) (by omega) (by omega)).mp h13
            refine lv_iinc (k := 4) (v := nI (k + 1)) hx hb dM_write_100 hl rfl (nI_1 k) (by decide) rfl (fun ls hl => ?_)
            have hl : lv_has ls 6 [(4, .int (nI (k + 1))), (0, .ref y), (1, .ref a), (2, .ref lo), (3, .int 1), (5, .int (nI i))] := hl
            refine lv_goto (tgt := 44) hx hb dM_write_103 rfl ?_
            exact ih44 (k + 1, f4, true) (show (k + 1) ≤ 19 ∧ MN f4 (dnk (dg gl) (k + 1) : Int) ∧ (true = true ↔ ∀ q, q < (k + 1) → dg gl q = 0) from ⟨by omega, by rw [show i = dg gl k by omega] at jN; exact jN, ⟨fun _ q h => (by by_cases r : q = k; (subst r; omega); (exact iw.mp w1 q (by omega))), fun _ => rfl⟩⟩) (show 19 - (k + 1) < 19 - k from (by omega)) ls H locs (lv_sub hl [1, 2, 3, 4, 0] rfl) hP hD hS
          · have gh13 : i < dg gl k := Nat.not_le.mp (fun q => h13 ((nI_leI (a := dg gl k) (b := i) (by omega) (by omega)).mpr q))
            refine lv_aload_n hx hb dM_write_80 rfl (lv_at hl 0 rfl) ?_
            refine va_get (D := D) (ci := 11) (v := .ref (yr 31)) (C := R_M) (T := T_M) (N := 60) hx hb hT in_M hown hK hP 2 rfl rfl 31 (by decide) (hT _ w1135) (fun _ h9 => h9) rfl dM_write_81 ?_
            refine lv_aload_n hx hb dM_write_84 rfl (lv_at hl 0 rfl) ?_
            refine va_get (D := D) (ci := 11) (v := .ref (yr 0)) (C := R_M) (T := T_M) (N := 60) hx hb hT in_M hown hK hP 2 rfl rfl 0 (by decide) (hT _ w1104) (fun _ h9 => h9) rfl dM_write_85 ?_
            refine lv_iload hx hb dM_write_88 (lv_at hl 4 rfl) ?_
            refine lq_iald (j := k) hx hb hK hP 0 0 rfl rfl rfl (by omega) (by omega) dM_write_90 ?_
            refine lv_topi (fun y9 e9 => ?_)
            cases (show y9 = nI (pr k) from e9.trans (hPR k (by omega)))
            refine rw_v (wc := [(yr 31, .inl (cT 0, 302, .inl f4))]) (wr := [(yr 0, .inl (cT 0, 19, .inl fp)), (lo, .inl (cT 0, 19, .inl gl)), (y, .inr (11, MO yr yi7u2 ysb ybs)), (yr 48, .inl (cT 2, 6000, .inl fo7u2)), (yr 49, .inl (cT 2, 3000, .inl fd7u2)), (a, .inl (cT 0, 302, .inl f7u2))]) hP hD hS hA [6] [0, 1, 2, 3, 4, 5] rfl rfl (by decide) (by decide) (va_runS (As := [.ref (yr 31), .int (nI (pr k))]) (rest := []) ⟨hx, hb, hml, hown, hT⟩ (m_times l D cT (yr 31) f4 ((dnk (dg gl) k * pr k ^ i : Nat) : Int) (pr k) jN (by omega) (by omega) (by rw [Int.natAbs_natCast, Nat.mul_assoc, ← Nat.pow_succ]; exact Nat.lt_of_le_of_lt (dnk_part (by omega) (by omega)) hfd) _) ⟨callB_of 2 hT (tb_gd w1417) rfl rfl rfl (hT _ w13) (hT _ w1415) hM_times ⟨Nat.le_of_ble_eq_true rfl, Nat.le_of_ble_eq_true rfl⟩, (hT _ w1416)⟩ (RW.preS hZ hS (va_free (wc := [(yr 31, .inl (cT 0, 302, .inl f4))]) hD hS hA [6] rfl) (hP.sub (ws' := [(yr 31, .inl (cT 0, 302, .inl f4))]) [6] rfl) hK (hD.sub (ws' := [(yr 31, .inl (cT 0, 302, .inl f4))]) [6] (by decide) rfl)) rfl rfl hl.1 rfl (lv_room (Nat.le_of_ble_eq_true rfl)) dM_write_91 ⟨Nat.le_of_ble_eq_true rfl, Nat.le_of_ble_eq_true rfl⟩) (fun u9 H locs hpu14 hP hD hS => ?_)
            obtain ⟨f1u14, rfl⟩ : ∃ q9, q9 = u9 := ⟨_, rfl⟩
            have hpu14 : MN f1u14 (((dnk (dg gl) k * pr k ^ i : Nat) : Int) * (pr k)) := hpu14
            have hP : va_P D vwCl [(yr 0, .inl (cT 0, 19, .inl fp)), (lo, .inl (cT 0, 19, .inl gl)), (y, .inr (11, MO yr yi7u2 ysb ybs)), (yr 48, .inl (cT 2, 6000, .inl fo7u2)), (yr 49, .inl (cT 2, 3000, .inl fd7u2)), (a, .inl (cT 0, 302, .inl f7u2)), (yr 31, .inl (cT 0, 302, .inl f1u14))] _ := hP
            have hD : va_D A [(yr 0, .inl (cT 0, 19, .inl fp)), (lo, .inl (cT 0, 19, .inl gl)), (y, .inr (11, MO yr yi7u2 ysb ybs)), (yr 48, .inl (cT 2, 6000, .inl fo7u2)), (yr 49, .inl (cT 2, 3000, .inl fd7u2)), (a, .inl (cT 0, 302, .inl f7u2)), (yr 31, .inl (cT 0, 302, .inl f1u14))] := hD
            refine lv_iinc (k := 5) (v := nI (i + 1)) hx hb dM_write_94 hl rfl (nI_1 i) (by decide) rfl (fun ls hl => ?_)
            have hl : lv_has ls 6 [(5, .int (nI (i + 1))), (0, .ref y), (1, .ref a), (2, .ref lo), (3, .int 1), (4, .int (nI k))] := hl
            refine lv_goto (tgt := 71) hx hb dM_write_97 rfl ?_
            exact ih71 (i + 1, f1u14) (show (i + 1) ≤ dg gl k ∧ MN f1u14 ((dnk (dg gl) k * pr k ^ (i + 1) : Nat) : Int) from ⟨by omega, by rw [Nat.pow_succ, ← Nat.mul_assoc, Int.natCast_mul]; exact hpu14⟩) (show dg gl k - (i + 1) < dg gl k - i from (by omega)) ls H locs (lv_sub hl [1, 2, 3, 4, 5, 0] rfl) hP hD hS
  · have hz : z < 0 := Decidable.not_not.mp (fun q => h1 (sg_ge.mpr q))
    have hsz : sgo z = 1 := if_pos hz
    refine lv_aload_n hx hb dM_write_13 rfl (lv_at hl 0 rfl) ?_
    refine va_get (D := D) (ci := 11) (v := .ref (yr 48)) (C := R_M) (T := T_M) (N := 60) hx hb hT in_M hown hK hP 0 rfl rfl 48 (by decide) (hT _ w1152) (fun _ h9 => h9) rfl dM_write_14 ?_
    refine lv_iconst (v := 0) hx hb dM_write_17 (by decide) ?_
    refine lv_bipush (v := 45) hx hb dM_write_18 (by decide) ?_
    refine va_bast hx hb hK hP hD hS 2 2 rfl rfl (by unfold vp_in; decide) dM_write_20 (fun H locs hP hD hS => ?_)
    have hP : va_P D vwCl [(y, .inr (11, MO yr (va_up yi 47 0) ysb ybs)), (yr 0, .inl (cT 0, 19, .inl fp)), (yr 48, .inl (cT 2, 6000, .inl (upd fo 0 (vp_nar .byte 45)))), (yr 49, .inl (cT 2, 3000, .inl fd)), (yr 31, .inl (cT 0, 302, .inl f30)), (a, .inl (cT 0, 302, .inl f)), (lo, .inl (cT 0, 19, .inl gl))] _ := hP
    have hD : va_D A [(y, .inr (11, MO yr (va_up yi 47 0) ysb ybs)), (yr 0, .inl (cT 0, 19, .inl fp)), (yr 48, .inl (cT 2, 6000, .inl (upd fo 0 (vp_nar .byte 45)))), (yr 49, .inl (cT 2, 3000, .inl fd)), (yr 31, .inl (cT 0, 302, .inl f30)), (a, .inl (cT 0, 302, .inl f)), (lo, .inl (cT 0, 19, .inl gl))] := hD
    refine lv_aload_n hx hb dM_write_21 rfl (lv_at hl 0 rfl) ?_
    refine lv_iconst (v := 1) hx hb dM_write_22 (by decide) ?_
    refine va_put (D := D) (ci := 11) (v := .int 1) (ty := .int) (C := R_M) (T := T_M) (N := 60) hx hb hT in_M ty_M ty_M_ok m_M hown hK hP hD hS 0 rfl rfl 47 (by decide) (hT _ w1151) (fun _ h9 => h9) rfl (by decide +kernel) rfl rfl (Nat.le_of_ble_eq_true rfl) dM_write_23 (fun H locs hP hD hS => ?_)
    have hP : va_P D vwCl [(y, .inr (11, MO yr (va_up yi 47 1) ysb ybs)), (yr 0, .inl (cT 0, 19, .inl fp)), (yr 48, .inl (cT 2, 6000, .inl (upd fo 0 (vp_nar .byte 45)))), (yr 49, .inl (cT 2, 3000, .inl fd)), (yr 31, .inl (cT 0, 302, .inl f30)), (a, .inl (cT 0, 302, .inl f)), (lo, .inl (cT 0, 19, .inl gl))] _ := hP
    have hD : va_D A [(y, .inr (11, MO yr (va_up yi 47 1) ysb ybs)), (yr 0, .inl (cT 0, 19, .inl fp)), (yr 48, .inl (cT 2, 6000, .inl (upd fo 0 (vp_nar .byte 45)))), (yr 49, .inl (cT 2, 3000, .inl fd)), (yr 31, .inl (cT 0, 302, .inl f30)), (a, .inl (cT 0, 302, .inl f)), (lo, .inl (cT 0, 19, .inl gl))] := hD
    refine lv_aload_n hx hb dM_write_26 rfl (lv_at hl 0 rfl) ?_
    refine lv_aload_n hx hb dM_write_27 rfl (lv_at hl 1 rfl) ?_
    refine rw_v (wc := [(y, .inr (11, MO yr (va_up yi 47 1) ysb ybs)), (yr 48, .inl (cT 2, 6000, .inl (upd fo 0 (vp_nar .byte 45)))), (yr 49, .inl (cT 2, 3000, .inl fd)), (a, .inl (cT 0, 302, .inl f))]) (wr := [(yr 0, .inl (cT 0, 19, .inl fp)), (yr 31, .inl (cT 0, 302, .inl f30)), (lo, .inl (cT 0, 19, .inl gl))]) hP hD hS hA [0, 2, 3, 5] [1, 4, 6] rfl rfl (by decide) (by decide) (va_runV (As := [.ref a]) (rest := []) ⟨hx, hb, hml, hown, hT⟩ (m_digits l D cT y yr (va_up yi 47 1) ysb ybs (upd fo 0 (vp_nar .byte 45)) fd a f z 1 hN hfit (by rw [va_up_self]; rfl) (by decide) _) ⟨callB_of 1 hT (tb_gd w1563) rfl rfl rfl (hT _ w13) (hT _ w1560) hM_writeDigits ⟨Nat.le_of_ble_eq_true rfl, Nat.le_of_ble_eq_true rfl⟩, (hT _ w1562), (hT _ wp63)⟩ (RW.preV (ci := 11) (q0 := 0) hZ hS (va_free (wc := [(y, .inr (11, MO yr (va_up yi 47 1) ysb ybs)), (yr 48, .inl (cT 2, 6000, .inl (upd fo 0 (vp_nar .byte 45)))), (yr 49, .inl (cT 2, 3000, .inl fd)), (a, .inl (cT 0, 302, .inl f))]) hD hS hA [0, 2, 3, 5] rfl) (hP.sub (ws' := [(y, .inr (11, MO yr (va_up yi 47 1) ysb ybs)), (yr 48, .inl (cT 2, 6000, .inl (upd fo 0 (vp_nar .byte 45)))), (yr 49, .inl (cT 2, 3000, .inl fd)), (a, .inl (cT 0, 302, .inl f))]) [0, 2, 3, 5] rfl) hK (hD.sub (ws' := [(y, .inr (11, MO yr (va_up yi 47 1) ysb ybs)), (yr 48, .inl (cT 2, 6000, .inl (upd fo 0 (vp_nar .byte 45)))), (yr 49, .inl (cT 2, 3000, .inl fd)), (a, .inl (cT 0, 302, .inl f))]) [0, 2, 3, 5] (by decide) rfl) rfl rfl) rfl rfl hl.1 rfl (lv_room (Nat.le_of_ble_eq_true rfl)) dM_write_28 ⟨Nat.le_of_ble_eq_true rfl, Nat.le_of_ble_eq_true rfl⟩) (fun u9 H locs hpu15 hP hD hS => ?_)
    obtain ⟨n7u15, fo7u15, fd7u15, f7u15, yi7u15⟩ := u9
    have hpu15 : NDG z.natAbs n7u15 ∧ yi7u15 47 = nI (1 + n7u15) ∧ (∀ i8, i8 < n7u15 → fo7u15 (1 + i8) = nI (48 + dgt z.natAbs (n7u15 - 1 - i8))) ∧ (∀ i8, i8 < 1 → fo7u15 i8 = (upd fo 0 (vp_nar .byte 45)) i8) ∧ ∀ j8, j8 ≠ 47 → yi7u15 j8 = (va_up yi 47 1) j8 := hpu15
    have hP : va_P D vwCl [(yr 0, .inl (cT 0, 19, .inl fp)), (yr 31, .inl (cT 0, 302, .inl f30)), (lo, .inl (cT 0, 19, .inl gl)), (y, .inr (11, MO yr yi7u15 ysb ybs)), (yr 48, .inl (cT 2, 6000, .inl fo7u15)), (yr 49, .inl (cT 2, 3000, .inl fd7u15)), (a, .inl (cT 0, 302, .inl f7u15))] _ := hP
    have hD : va_D A [(yr 0, .inl (cT 0, 19, .inl fp)), (yr 31, .inl (cT 0, 302, .inl f30)), (lo, .inl (cT 0, 19, .inl gl)), (y, .inr (11, MO yr yi7u15 ysb ybs)), (yr 48, .inl (cT 2, 6000, .inl fo7u15)), (yr 49, .inl (cT 2, 3000, .inl fd7u15)), (a, .inl (cT 0, 302, .inl f7u15))] := hD
    obtain ⟨d1, d2, d3, d4, d5⟩ := hpu15
    have d6 := ndg_b d1 hfit
    have d7 : z < 0 → fo7u15 0 = 45 := fun _ => by rw [d4 0 (by decide), pk_us]; exact nar_b (n := 45) (by decide)
    rw [← hsz] at d2
    have d3 : ∀ i, i < n7u15 → fo7u15 (sgo z + i) = nI (48 + dgt z.natAbs (n7u15 - 1 - i)) := by rw [hsz]; exact d3
    have d5 : ∀ j, j ≠ 47 → yi7u15 j = yi j := fun j h => (d5 j h).trans (va_up_ne _ _ h)
    refine lv_iconst (v := 1) hx hb dM_write_31 (by decide) ?_
    refine lv_istore_n hx hb dM_write_32 rfl hl (by decide) rfl (fun ls hl => ?_)
    have hl : lv_has ls 6 [(3, .int 1), (0, .ref y), (1, .ref a), (2, .ref lo)] := hl
    refine lv_aload_n hx hb dM_write_33 rfl (lv_at hl 1 rfl) ?_
    refine va_get (D := D) (ci := 11) (v := .ref (yr 31)) (C := R_M) (T := T_M) (N := 60) hx hb hT in_M hown hK hP 3 rfl rfl 31 (by decide) (hT _ w1135) (fun _ h9 => h9) rfl dM_write_34 ?_
    refine lv_lconst (v := 1) hx hb dM_write_37 (by decide) ?_
    refine rw_v (wc := [(yr 31, .inl (cT 0, 302, .inl f30))]) (wr := [(yr 0, .inl (cT 0, 19, .inl fp)), (lo, .inl (cT 0, 19, .inl gl)), (y, .inr (11, MO yr yi7u15 ysb ybs)), (yr 48, .inl (cT 2, 6000, .inl fo7u15)), (yr 49, .inl (cT 2, 3000, .inl fd7u15)), (a, .inl (cT 0, 302, .inl f7u15))]) hP hD hS hA [1] [0, 2, 3, 4, 5, 6] rfl rfl (by decide) (by decide) (va_runS (As := [.ref (yr 31), .long 1]) (rest := []) ⟨hx, hb, hml, hown, hT⟩ (m_setInt l D cT (yr 31) f30 1 (by decide) _) ⟨callB_of 2 hT (tb_gd w1387) rfl rfl rfl (hT _ w13) (hT _ w1385) hM_setInt ⟨Nat.le_of_ble_eq_true rfl, Nat.le_of_ble_eq_true rfl⟩, (hT _ w1386)⟩ (RW.preS hZ hS (va_free (wc := [(yr 31, .inl (cT 0, 302, .inl f30))]) hD hS hA [1] rfl) (hP.sub (ws' := [(yr 31, .inl (cT 0, 302, .inl f30))]) [1] rfl) hK (hD.sub (ws' := [(yr 31, .inl (cT 0, 302, .inl f30))]) [1] (by decide) rfl)) rfl rfl hl.1 rfl (lv_room (Nat.le_of_ble_eq_true rfl)) dM_write_38 ⟨Nat.le_of_ble_eq_true rfl, Nat.le_of_ble_eq_true rfl⟩) (fun u9 H locs hpu16 hP hD hS => ?_)
    obtain ⟨f1u16, rfl⟩ : ∃ q9, q9 = u9 := ⟨_, rfl⟩
    have hpu16 : MN f1u16 (1 : Int64).toInt := hpu16
    have hP : va_P D vwCl [(yr 0, .inl (cT 0, 19, .inl fp)), (lo, .inl (cT 0, 19, .inl gl)), (y, .inr (11, MO yr yi7u15 ysb ybs)), (yr 48, .inl (cT 2, 6000, .inl fo7u15)), (yr 49, .inl (cT 2, 3000, .inl fd7u15)), (a, .inl (cT 0, 302, .inl f7u15)), (yr 31, .inl (cT 0, 302, .inl f1u16))] _ := hP
    have hD : va_D A [(yr 0, .inl (cT 0, 19, .inl fp)), (lo, .inl (cT 0, 19, .inl gl)), (y, .inr (11, MO yr yi7u15 ysb ybs)), (yr 48, .inl (cT 2, 6000, .inl fo7u15)), (yr 49, .inl (cT 2, 3000, .inl fd7u15)), (a, .inl (cT 0, 302, .inl f7u15)), (yr 31, .inl (cT 0, 302, .inl f1u16))] := hD
    have a0 : MN f1u16 1 := hpu16
    refine lv_iconst (v := 0) hx hb dM_write_41 (by decide) ?_
    refine lv_istore hx hb dM_write_42 hl (by decide) rfl (fun ls hl => ?_)
    have hl : lv_has ls 6 [(4, .int 0), (3, .int 1), (0, .ref y), (1, .ref a), (2, .ref lo)] := hl
    refine lp_w (α := Nat × (Nat → Int32) × Bool) (fun a9 => a9.1 ≤ 19 ∧ MN a9.2.1 (dnk (dg gl) a9.1 : Int) ∧ (a9.2.2 = true ↔ ∀ q, q < a9.1 → dg gl q = 0)) (fun a9 => 19 - a9.1) (fun a9 => [(0, .ref y), (1, .ref a), (2, .ref lo), (3, .int (bn a9.2.2)), (4, .int (nI a9.1))]) (fun a9 => [(yr 0, .inl (cT 0, 19, .inl fp)), (lo, .inl (cT 0, 19, .inl gl)), (y, .inr (11, MO yr yi7u15 ysb ybs)), (yr 48, .inl (cT 2, 6000, .inl fo7u15)), (yr 49, .inl (cT 2, 3000, .inl fd7u15)), (a, .inl (cT 0, 302, .inl f7u15)), (yr 31, .inl (cT 0, 302, .inl a9.2.1))]) 44 ?_ (0, f1u16, true) (show 0 ≤ 19 ∧ MN f1u16 (dnk (dg gl) 0 : Int) ∧ (true = true ↔ ∀ q, q < 0 → dg gl q = 0) from ⟨by omega, a0, ⟨fun _ q h => absurd h (by omega), fun _ => rfl⟩⟩) (lv_sub hl [2, 3, 4, 1, 0] rfl) hP hD hS
    intro a9 hI44 ih44 ls H locs hl hP hD hS
    obtain ⟨k, f3, wb⟩ := a9
    have hI44 : k ≤ 19 ∧ MN f3 (dnk (dg gl) k : Int) ∧ (wb = true ↔ ∀ q, q < k → dg gl q = 0) := hI44
    obtain ⟨ik, iN, iw⟩ := hI44
    have hl : lv_has ls 6 [(0, .ref y), (1, .ref a), (2, .ref lo), (3, .int (bn wb)), (4, .int (nI k))] := hl
    have hP : va_P D vwCl [(yr 0, .inl (cT 0, 19, .inl fp)), (lo, .inl (cT 0, 19, .inl gl)), (y, .inr (11, MO yr yi7u15 ysb ybs)), (yr 48, .inl (cT 2, 6000, .inl fo7u15)), (yr 49, .inl (cT 2, 3000, .inl fd7u15)), (a, .inl (cT 0, 302, .inl f7u15)), (yr 31, .inl (cT 0, 302, .inl f3))] _ := hP
    have hD : va_D A [(yr 0, .inl (cT 0, 19, .inl fp)), (lo, .inl (cT 0, 19, .inl gl)), (y, .inr (11, MO yr yi7u15 ysb ybs)), (yr 48, .inl (cT 2, 6000, .inl fo7u15)), (yr 49, .inl (cT 2, 3000, .inl fd7u15)), (a, .inl (cT 0, 302, .inl f7u15)), (yr 31, .inl (cT 0, 302, .inl f3))] := hD
    refine lv_iload hx hb dM_write_44 (lv_at hl 4 rfl) ?_
    refine lv_bipush (v := 19) hx hb dM_write_46 (by decide) ?_
    refine lv_icmp_ge (tgt := 106) hx hb dM_write_48 rfl (fun h17 => ?_) (fun h17 => ?_)
    · have gh17 : 19 ≤ k := (nI_leI (a := 19) (b := k) (by omega) (by omega)).mp h17
      have ek : k = 19 := by omega
      subst ek
      have hl : lv_has ls 6 [(0, .ref y), (1, .ref a), (2, .ref lo), (3, .int (bn wb)), (4, .int (nI 19))] := hl
      have hP : va_P D vwCl [(yr 0, .inl (cT 0, 19, .inl fp)), (lo, .inl (cT 0, 19, .inl gl)), (y, .inr (11, MO yr yi7u15 ysb ybs)), (yr 48, .inl (cT 2, 6000, .inl fo7u15)), (yr 49, .inl (cT 2, 3000, .inl fd7u15)), (a, .inl (cT 0, 302, .inl f7u15)), (yr 31, .inl (cT 0, 302, .inl f3))] _ := hP
      have hD : va_D A [(yr 0, .inl (cT 0, 19, .inl fp)), (lo, .inl (cT 0, 19, .inl gl)), (y, .inr (11, MO yr yi7u15 ysb ybs)), (yr 48, .inl (cT 2, 6000, .inl fo7u15)), (yr 49, .inl (cT 2, 3000, .inl fd7u15)), (a, .inl (cT 0, 302, .inl f7u15)), (yr 31, .inl (cT 0, 302, .inl f3))] := hD
      refine lv_iload_n hx hb dM_write_106 rfl (lv_at hl 3 rfl) ?_
      refine lv_if_ne (tgt := 139) hx hb dM_write_107 rfl (fun h18 => ?_) (fun h18 => ?_)
      · have w2 : wb = true := by cases hw9 : wb; (exact absurd (bn_0.mpr hw9) h18); (rfl)
        refine lv_aload_n hx hb dM_write_139 rfl (lv_at hl 0 rfl) ?_
        refine va_get (D := D) (ci := 11) (v := .int (yi7u15 47)) (C := R_M) (T := T_M) (N := 60) hx hb hT in_M hown hK hP 2 rfl rfl 47 (by decide) (hT _ w1151) (fun _ h9 => h9) rfl dM_write_140 ?_
        refine lv_topi (fun y9 e9 => ?_)
        cases (show y9 = nI (sgo z + n7u15) from e9.trans d2)
        have hP9 := hP.sub (ws' := [(y, .inr (11, MO yr yi7u15 ysb ybs)), (yr 0, .inl (cT 0, 19, .inl fp)), (yr 48, .inl (cT 2, 6000, .inl fo7u15)), (yr 49, .inl (cT 2, 3000, .inl fd7u15)), (yr 31, .inl (cT 0, 302, .inl f3)), (a, .inl (cT 0, 302, .inl f7u15)), (lo, .inl (cT 0, 19, .inl gl))]) [2, 0, 3, 4, 6, 5, 1] rfl
        have hD9 := hD.sub (ws' := [(y, .inr (11, MO yr yi7u15 ysb ybs)), (yr 0, .inl (cT 0, 19, .inl fp)), (yr 48, .inl (cT 2, 6000, .inl fo7u15)), (yr 49, .inl (cT 2, 3000, .inl fd7u15)), (yr 31, .inl (cT 0, 302, .inl f3)), (a, .inl (cT 0, 302, .inl f7u15)), (lo, .inl (cT 0, 19, .inl gl))]) [2, 0, 3, 4, 6, 5, 1] (by decide) rfl
        refine W.widen (k := 0) (n := 0) (Nat.le_of_ble_eq_true rfl) (Nat.le_of_ble_eq_true rfl) ?_
        exact W.iret (v := nI (sgo z + n7u15)) hx hb hr (fun t9 ht9 hW9 => ⟨⟨nI (sgo z + n7u15), (sgo z + n7u15, yi7u15, fo7u15, fd7u15, f7u15, f3), rfl, (show (nI (sgo z + n7u15)) = nI (sgo z + n7u15) ∧ (sgo z + n7u15) ≤ 5000 ∧ yi7u15 47 = nI (sgo z + n7u15) ∧ WRT fo7u15 (sgo z + n7u15) z (dn gl) ∧ ∀ j8, j8 ≠ 47 → yi7u15 j8 = yi j8 from ⟨rfl, by omega, d2, ⟨n7u15, d1, d7, d3, Or.inl ⟨dnk_1 (iw.mp w2), rfl⟩⟩, d5⟩), by rw [ht9]; exact hP9, hD9⟩, hS.F ht9⟩) hS.2.2 dM_write_143
      · have w2 : wb = false := bn_0.mp h18
        have hb9 : sgo z + n7u15 ≤ 2401 := by omega
        refine lv_aload_n hx hb dM_write_110 rfl (lv_at hl 0 rfl) ?_
        refine va_get (D := D) (ci := 11) (v := .ref (yr 48)) (C := R_M) (T := T_M) (N := 60) hx hb hT in_M hown hK hP 2 rfl rfl 48 (by decide) (hT _ w1152) (fun _ h9 => h9) rfl dM_write_111 ?_
        refine lv_aload_n hx hb dM_write_114 rfl (lv_at hl 0 rfl) ?_
        refine va_get (D := D) (ci := 11) (v := .int (yi7u15 47)) (C := R_M) (T := T_M) (N := 60) hx hb hT in_M hown hK hP 2 rfl rfl 47 (by decide) (hT _ w1151) (fun _ h9 => h9) rfl dM_write_115 ?_
        refine lv_topi (fun y9 e9 => ?_)
        cases (show y9 = nI (sgo z + n7u15) from e9.trans d2)
        refine lv_bipush (v := 47) hx hb dM_write_118 (by decide) ?_
        refine lq_bast (j := sgo z + n7u15) hx hb hK hP hD hS 3 2 rfl rfl rfl (by omega) (by omega) dM_write_120 (fun H locs hP hD hS => ?_)
        have hP : va_P D vwCl [(yr 0, .inl (cT 0, 19, .inl fp)), (lo, .inl (cT 0, 19, .inl gl)), (y, .inr (11, MO yr yi7u15 ysb ybs)), (yr 48, .inl (cT 2, 6000, .inl (upd fo7u15 (sgo z + n7u15) (vp_nar .byte 47)))), (yr 49, .inl (cT 2, 3000, .inl fd7u15)), (a, .inl (cT 0, 302, .inl f7u15)), (yr 31, .inl (cT 0, 302, .inl f3))] _ := hP
        have hD : va_D A [(yr 0, .inl (cT 0, 19, .inl fp)), (lo, .inl (cT 0, 19, .inl gl)), (y, .inr (11, MO yr yi7u15 ysb ybs)), (yr 48, .inl (cT 2, 6000, .inl (upd fo7u15 (sgo z + n7u15) (vp_nar .byte 47)))), (yr 49, .inl (cT 2, 3000, .inl fd7u15)), (a, .inl (cT 0, 302, .inl f7u15)), (yr 31, .inl (cT 0, 302, .inl f3))] := hD
        refine lv_aload_n hx hb dM_write_121 rfl (lv_at hl 0 rfl) ?_
        refine lv_dup hx hb dM_write_122 rfl ?_
        refine va_get (D := D) (ci := 11) (v := .int (yi7u15 47)) (C := R_M) (T := T_M) (N := 60) hx hb hT in_M hown hK hP 2 rfl rfl 47 (by decide) (hT _ w1151) (fun _ h9 => h9) rfl dM_write_123 ?_
        refine lv_topi (fun y9 e9 => ?_)
        cases (show y9 = nI (sgo z + n7u15) from e9.trans d2)
        refine lv_iconst (v := 1) hx hb dM_write_126 (by decide) ?_
        refine lv_iadd hx hb dM_write_127 ?_
        refine lv_topi (fun y9 e9 => ?_)
        cases (show y9 = nI ((sgo z + n7u15) + 1) from e9.trans (nI_add (sgo z + n7u15) 1))
        refine va_put (D := D) (ci := 11) (v := .int (nI ((sgo z + n7u15) + 1))) (ty := .int) (C := R_M) (T := T_M) (N := 60) hx hb hT in_M ty_M ty_M_ok m_M hown hK hP hD hS 2 rfl rfl 47 (by decide) (hT _ w1151) (fun _ h9 => h9) rfl (by decide +kernel) rfl rfl (Nat.le_of_ble_eq_true rfl) dM_write_128 (fun H locs hP hD hS => ?_)
        have hP : va_P D vwCl [(yr 0, .inl (cT 0, 19, .inl fp)), (lo, .inl (cT 0, 19, .inl gl)), (y, .inr (11, MO yr (va_up yi7u15 47 (nI ((sgo z + n7u15) + 1))) ysb ybs)), (yr 48, .inl (cT 2, 6000, .inl (upd fo7u15 (sgo z + n7u15) (vp_nar .byte 47)))), (yr 49, .inl (cT 2, 3000, .inl fd7u15)), (a, .inl (cT 0, 302, .inl f7u15)), (yr 31, .inl (cT 0, 302, .inl f3))] _ := hP
        have hD : va_D A [(yr 0, .inl (cT 0, 19, .inl fp)), (lo, .inl (cT 0, 19, .inl gl)), (y, .inr (11, MO yr (va_up yi7u15 47 (nI ((sgo z + n7u15) + 1))) ysb ybs)), (yr 48, .inl (cT 2, 6000, .inl (upd fo7u15 (sgo z + n7u15) (vp_nar .byte 47)))), (yr 49, .inl (cT 2, 3000, .inl fd7u15)), (a, .inl (cT 0, 302, .inl f7u15)), (yr 31, .inl (cT 0, 302, .inl f3))] := hD
        refine lv_aload_n hx hb dM_write_131 rfl (lv_at hl 0 rfl) ?_
        refine lv_aload_n hx hb dM_write_132 rfl (lv_at hl 0 rfl) ?_
        refine va_get (D := D) (ci := 11) (v := .ref (yr 31)) (C := R_M) (T := T_M) (N := 60) hx hb hT in_M hown hK hP 2 rfl rfl 31 (by decide) (hT _ w1135) (fun _ h9 => h9) rfl dM_write_133 ?_
        refine rw_v (wc := [(y, .inr (11, MO yr (va_up yi7u15 47 (nI ((sgo z + n7u15) + 1))) ysb ybs)), (yr 48, .inl (cT 2, 6000, .inl (upd fo7u15 (sgo z + n7u15) (vp_nar .byte 47)))), (yr 49, .inl (cT 2, 3000, .inl fd7u15)), (yr 31, .inl (cT 0, 302, .inl f3))]) (wr := [(yr 0, .inl (cT 0, 19, .inl fp)), (lo, .inl (cT 0, 19, .inl gl)), (a, .inl (cT 0, 302, .inl f7u15))]) hP hD hS hA [2, 3, 4, 6] [0, 1, 5] rfl rfl (by decide) (by decide) (va_runV (As := [.ref (yr 31)]) (rest := []) ⟨hx, hb, hml, hown, hT⟩ (m_digits l D cT y yr (va_up yi7u15 47 (nI ((sgo z + n7u15) + 1))) ysb ybs (upd fo7u15 (sgo z + n7u15) (vp_nar .byte 47)) fd7u15 (yr 31) f3 (dnk (dg gl) 19 : Int) (sgo z + n7u15 + 1) iN (by rw [Int.natAbs_natCast]; exact hfd) (va_up_self _ _ _) (by omega) _) ⟨callB_of 1 hT (tb_gd w1563) rfl rfl rfl (hT _ w13) (hT _ w1560) hM_writeDigits ⟨Nat.le_of_ble_eq_true rfl, Nat.le_of_ble_eq_true rfl⟩, (hT _ w1562), (hT _ wp63)⟩ (RW.preV (ci := 11) (q0 := 0) hZ hS (va_free (wc := [(y, .inr (11, MO yr (va_up yi7u15 47 (nI ((sgo z + n7u15) + 1))) ysb ybs)), (yr 48, .inl (cT 2, 6000, .inl (upd fo7u15 (sgo z + n7u15) (vp_nar .byte 47)))), (yr 49, .inl (cT 2, 3000, .inl fd7u15)), (yr 31, .inl (cT 0, 302, .inl f3))]) hD hS hA [2, 3, 4, 6] rfl) (hP.sub (ws' := [(y, .inr (11, MO yr (va_up yi7u15 47 (nI ((sgo z + n7u15) + 1))) ysb ybs)), (yr 48, .inl (cT 2, 6000, .inl (upd fo7u15 (sgo z + n7u15) (vp_nar .byte 47)))), (yr 49, .inl (cT 2, 3000, .inl fd7u15)), (yr 31, .inl (cT 0, 302, .inl f3))]) [2, 3, 4, 6] rfl) hK (hD.sub (ws' := [(y, .inr (11, MO yr (va_up yi7u15 47 (nI ((sgo z + n7u15) + 1))) ysb ybs)), (yr 48, .inl (cT 2, 6000, .inl (upd fo7u15 (sgo z + n7u15) (vp_nar .byte 47)))), (yr 49, .inl (cT 2, 3000, .inl fd7u15)), (yr 31, .inl (cT 0, 302, .inl f3))]) [2, 3, 4, 6] (by decide) rfl) rfl rfl) rfl rfl hl.1 rfl (lv_room (Nat.le_of_ble_eq_true rfl)) dM_write_136 ⟨Nat.le_of_ble_eq_true rfl, Nat.le_of_ble_eq_true rfl⟩) (fun u9 H locs hpu19 hP hD hS => ?_)
        obtain ⟨n7u19, fo7u19, fd7u19, f7u19, yi7u19⟩ := u9
        have hpu19 : NDG (dnk (dg gl) 19 : Int).natAbs n7u19 ∧ yi7u19 47 = nI ((sgo z + n7u15 + 1) + n7u19) ∧ (∀ i8, i8 < n7u19 → fo7u19 ((sgo z + n7u15 + 1) + i8) = nI (48 + dgt (dnk (dg gl) 19 : Int).natAbs (n7u19 - 1 - i8))) ∧ (∀ i8, i8 < (sgo z + n7u15 + 1) → fo7u19 i8 = (upd fo7u15 (sgo z + n7u15) (vp_nar .byte 47)) i8) ∧ ∀ j8, j8 ≠ 47 → yi7u19 j8 = (va_up yi7u15 47 (nI ((sgo z + n7u15) + 1))) j8 := hpu19
        have hP : va_P D vwCl [(yr 0, .inl (cT 0, 19, .inl fp)), (lo, .inl (cT 0, 19, .inl gl)), (a, .inl (cT 0, 302, .inl f7u15)), (y, .inr (11, MO yr yi7u19 ysb ybs)), (yr 48, .inl (cT 2, 6000, .inl fo7u19)), (yr 49, .inl (cT 2, 3000, .inl fd7u19)), (yr 31, .inl (cT 0, 302, .inl f7u19))] _ := hP
        have hD : va_D A [(yr 0, .inl (cT 0, 19, .inl fp)), (lo, .inl (cT 0, 19, .inl gl)), (a, .inl (cT 0, 302, .inl f7u15)), (y, .inr (11, MO yr yi7u19 ysb ybs)), (yr 48, .inl (cT 2, 6000, .inl fo7u19)), (yr 49, .inl (cT 2, 3000, .inl fd7u19)), (yr 31, .inl (cT 0, 302, .inl f7u19))] := hD
        obtain ⟨e1, e2, e3, e4, e5⟩ := hpu19
        rw [Int.natAbs_natCast] at e1 e3
        have e6 := ndg_b e1 hfd
        refine lv_aload_n hx hb dM_write_139 rfl (lv_at hl 0 rfl) ?_
        refine va_get (D := D) (ci := 11) (v := .int (yi7u19 47)) (C := R_M) (T := T_M) (N := 60) hx hb hT in_M hown hK hP 3 rfl rfl 47 (by decide) (hT _ w1151) (fun _ h9 => h9) rfl dM_write_140 ?_
        refine lv_topi (fun y9 e9 => ?_)
        cases (show y9 = nI (sgo z + n7u15 + 1 + n7u19) from e9.trans e2)
        have hP9 := hP.sub (ws' := [(y, .inr (11, MO yr yi7u19 ysb ybs)), (yr 0, .inl (cT 0, 19, .inl fp)), (yr 48, .inl (cT 2, 6000, .inl fo7u19)), (yr 49, .inl (cT 2, 3000, .inl fd7u19)), (yr 31, .inl (cT 0, 302, .inl f7u19)), (a, .inl (cT 0, 302, .inl f7u15)), (lo, .inl (cT 0, 19, .inl gl))]) [3, 0, 4, 5, 6, 2, 1] rfl
        have hD9 := hD.sub (ws' := [(y, .inr (11, MO yr yi7u19 ysb ybs)), (yr 0, .inl (cT 0, 19, .inl fp)), (yr 48, .inl (cT 2, 6000, .inl fo7u19)), (yr 49, .inl (cT 2, 3000, .inl fd7u19)), (yr 31, .inl (cT 0, 302, .inl f7u19)), (a, .inl (cT 0, 302, .inl f7u15)), (lo, .inl (cT 0, 19, .inl gl))]) [3, 0, 4, 5, 6, 2, 1] (by decide) rfl
        refine W.widen (k := 0) (n := 0) (Nat.le_of_ble_eq_true rfl) (Nat.le_of_ble_eq_true rfl) ?_
        exact W.iret (v := nI (sgo z + n7u15 + 1 + n7u19)) hx hb hr (fun t9 ht9 hW9 => ⟨⟨nI (sgo z + n7u15 + 1 + n7u19), (sgo z + n7u15 + 1 + n7u19, yi7u19, fo7u19, fd7u19, f7u15, f7u19), rfl, (show (nI (sgo z + n7u15 + 1 + n7u19)) = nI (sgo z + n7u15 + 1 + n7u19) ∧ (sgo z + n7u15 + 1 + n7u19) ≤ 5000 ∧ yi7u19 47 = nI (sgo z + n7u15 + 1 + n7u19) ∧ WRT fo7u19 (sgo z + n7u15 + 1 + n7u19) z (dn gl) ∧ ∀ j8, j8 ≠ 47 → yi7u19 j8 = yi j8 from ⟨rfl, by omega, e2, ⟨n7u15, d1, fun q => (by rw [e4 0 (by omega), pk_un (by omega)]; exact d7 q), fun i h => (by rw [e4 _ (by omega), pk_un (by omega)]; exact d3 i h), Or.inr ⟨fun q => absurd (iw.mpr (dnk_n1 (Nat.le_refl _) q)) (by rw [w2]; decide), n7u19, e1, rfl, (by rw [e4 _ (by omega), pk_us]; exact nar_b (n := 47) (by decide)), e3⟩⟩, fun j h => (e5 j h).trans ((va_up_ne _ _ h).trans (d5 j h))⟩), by rw [ht9]; exact hP9, hD9⟩, hS.F ht9⟩) hS.2.2 dM_write_143
    · have gh17 : k < 19 := Nat.not_le.mp (fun q => h17 ((nI_leI (a := 19) (b := k) (by omega) (by omega)).mpr q))
      have hgk := hL k (by omega)
      have hpb := pr_b k (by omega)
      refine lv_iload_n hx hb dM_write_51 rfl (lv_at hl 3 rfl) ?_
      refine lv_if_eq (tgt := 66) hx hb dM_write_52 rfl (fun h20 => ?_) (fun h20 => ?_)
      · have w1 : wb = false := bn_0.mp h20
        refine lv_iconst (v := 0) hx hb dM_write_66 (by decide) ?_
        refine lv_istore_n hx hb dM_write_67 rfl hl (by decide) rfl (fun ls hl => ?_)
        have hl : lv_has ls 6 [(3, .int 0), (0, .ref y), (1, .ref a), (2, .ref lo), (4, .int (nI k))] := hl
        refine lv_iconst (v := 0) hx hb dM_write_68 (by decide) ?_
        refine lv_istore hx hb dM_write_69 hl (by decide) rfl (fun ls hl => ?_)
        have hl : lv_has ls 6 [(5, .int 0), (3, .int 0), (0, .ref y), (1, .ref a), (2, .ref lo), (4, .int (nI k))] := hl
        refine lp_w (α := Nat × (Nat → Int32)) (fun a9 => a9.1 ≤ dg gl k ∧ MN a9.2 ((dnk (dg gl) k * pr k ^ a9.1 : Nat) : Int)) (fun a9 => dg gl k - a9.1) (fun a9 => [(0, .ref y), (1, .ref a), (2, .ref lo), (3, .int 0), (4, .int (nI k)), (5, .int (nI a9.1))]) (fun a9 => [(yr 0, .inl (cT 0, 19, .inl fp)), (lo, .inl (cT 0, 19, .inl gl)), (y, .inr (11, MO yr yi7u15 ysb ybs)), (yr 48, .inl (cT 2, 6000, .inl fo7u15)), (yr 49, .inl (cT 2, 3000, .inl fd7u15)), (a, .inl (cT 0, 302, .inl f7u15)), (yr 31, .inl (cT 0, 302, .inl a9.2))]) 71 ?_ (0, f3) (show 0 ≤ dg gl k ∧ MN f3 ((dnk (dg gl) k * pr k ^ 0 : Nat) : Int) from ⟨by omega, by rw [Nat.pow_zero, Nat.mul_one]; exact iN⟩) (lv_sub hl [2, 3, 4, 1, 5, 0] rfl) hP hD hS
        intro a9 hI71 ih71 ls H locs hl hP hD hS
        obtain ⟨i, f4⟩ := a9
        have hI71 : i ≤ dg gl k ∧ MN f4 ((dnk (dg gl) k * pr k ^ i : Nat) : Int) := hI71
        obtain ⟨ji, jN⟩ := hI71
        have hl : lv_has ls 6 [(0, .ref y), (1, .ref a), (2, .ref lo), (3, .int 0), (4, .int (nI k)), (5, .int (nI i))] := hl
        have hP : va_P D vwCl [(yr 0, .inl (cT 0, 19, .inl fp)), (lo, .inl (cT 0, 19, .inl gl)), (y, .inr (11, MO yr yi7u15 ysb ybs)), (yr 48, .inl (cT 2, 6000, .inl fo7u15)), (yr 49, .inl (cT 2, 3000, .inl fd7u15)), (a, .inl (cT 0, 302, .inl f7u15)), (yr 31, .inl (cT 0, 302, .inl f4))] _ := hP
        have hD : va_D A [(yr 0, .inl (cT 0, 19, .inl fp)), (lo, .inl (cT 0, 19, .inl gl)), (y, .inr (11, MO yr yi7u15 ysb ybs)), (yr 48, .inl (cT 2, 6000, .inl fo7u15)), (yr 49, .inl (cT 2, 3000, .inl fd7u15)), (a, .inl (cT 0, 302, .inl f7u15)), (yr 31, .inl (cT 0, 302, .inl f4))] := hD
        refine lv_iload hx hb dM_write_71 (lv_at hl 5 rfl) ?_
        refine lv_aload_n hx hb dM_write_73 rfl (lv_at hl 2 rfl) ?_
        refine lv_iload hx hb dM_write_74 (lv_at hl 4 rfl) ?_
        refine lq_iald (j := k) hx hb hK hP 1 0 rfl rfl rfl (by omega) (by omega) dM_write_76 ?_
        refine lv_topi (fun y9 e9 => ?_)
        cases (show y9 = nI (dg gl k) from e9.trans hgk.1)
        refine lv_icmp_ge (tgt := 100) hx hb dM_write_77 rfl (fun h21 => ?_) (fun h21 => ?_)
        · have gh21 : dg gl k ≤ i := (nI_leI (a := dg gl k) (b := i) (by omega) (by omega)).mp h21
          refine lv_iinc (k := 4) (v := nI (k + 1)) hx hb dM_write_100 hl rfl (nI_1 k) (by decide) rfl (fun ls hl => ?_)
          have hl : lv_has ls 6 [(4, .int (nI (k + 1))), (0, .ref y), (1, .ref a), (2, .ref lo), (3, .int 0), (5, .int (nI i))] := hl
          refine lv_goto (tgt := 44) hx hb dM_write_103 rfl ?_
          exact ih44 (k + 1, f4, false) (show (k + 1) ≤ 19 ∧ MN f4 (dnk (dg gl) (k + 1) : Int) ∧ (false = true ↔ ∀ q, q < (k + 1) → dg gl q = 0) from ⟨by omega, by rw [show i = dg gl k by omega] at jN; exact jN, ⟨fun h => absurd h (by decide), fun h => absurd (iw.mpr (fun q hq => h q (by omega))) (by rw [w1]; decide)⟩⟩) (show 19 - (k + 1) < 19 - k from (by omega)) ls H locs (lv_sub hl [1, 2, 3, 4, 0] rfl) hP hD hS
        · have gh21 : i < dg gl k := Nat.not_le.mp (fun q => h21 ((nI_leI (a := dg gl k) (b := i) (by omega) (by omega)).mpr q))
          refine lv_aload_n hx hb dM_write_80 rfl (lv_at hl 0 rfl) ?_
          refine va_get (D := D) (ci := 11) (v := .ref (yr 31)) (C := R_M) (T := T_M) (N := 60) hx hb hT in_M hown hK hP 2 rfl rfl 31 (by decide) (hT _ w1135) (fun _ h9 => h9) rfl dM_write_81 ?_
          refine lv_aload_n hx hb dM_write_84 rfl (lv_at hl 0 rfl) ?_
          refine va_get (D := D) (ci := 11) (v := .ref (yr 0)) (C := R_M) (T := T_M) (N := 60) hx hb hT in_M hown hK hP 2 rfl rfl 0 (by decide) (hT _ w1104) (fun _ h9 => h9) rfl dM_write_85 ?_
          refine lv_iload hx hb dM_write_88 (lv_at hl 4 rfl) ?_
          refine lq_iald (j := k) hx hb hK hP 0 0 rfl rfl rfl (by omega) (by omega) dM_write_90 ?_
          refine lv_topi (fun y9 e9 => ?_)
          cases (show y9 = nI (pr k) from e9.trans (hPR k (by omega)))
          refine rw_v (wc := [(yr 31, .inl (cT 0, 302, .inl f4))]) (wr := [(yr 0, .inl (cT 0, 19, .inl fp)), (lo, .inl (cT 0, 19, .inl gl)), (y, .inr (11, MO yr yi7u15 ysb ybs)), (yr 48, .inl (cT 2, 6000, .inl fo7u15)), (yr 49, .inl (cT 2, 3000, .inl fd7u15)), (a, .inl (cT 0, 302, .inl f7u15))]) hP hD hS hA [6] [0, 1, 2, 3, 4, 5] rfl rfl (by decide) (by decide) (va_runS (As := [.ref (yr 31), .int (nI (pr k))]) (rest := []) ⟨hx, hb, hml, hown, hT⟩ (m_times l D cT (yr 31) f4 ((dnk (dg gl) k * pr k ^ i : Nat) : Int) (pr k) jN (by omega) (by omega) (by rw [Int.natAbs_natCast, Nat.mul_assoc, ← Nat.pow_succ]; exact Nat.lt_of_le_of_lt (dnk_part (by omega) (by omega)) hfd) _) ⟨callB_of 2 hT (tb_gd w1417) rfl rfl rfl (hT _ w13) (hT _ w1415) hM_times ⟨Nat.le_of_ble_eq_true rfl, Nat.le_of_ble_eq_true rfl⟩, (hT _ w1416)⟩ (RW.preS hZ hS (va_free (wc := [(yr 31, .inl (cT 0, 302, .inl f4))]) hD hS hA [6] rfl) (hP.sub (ws' := [(yr 31, .inl (cT 0, 302, .inl f4))]) [6] rfl) hK (hD.sub (ws' := [(yr 31, .inl (cT 0, 302, .inl f4))]) [6] (by decide) rfl)) rfl rfl hl.1 rfl (lv_room (Nat.le_of_ble_eq_true rfl)) dM_write_91 ⟨Nat.le_of_ble_eq_true rfl, Nat.le_of_ble_eq_true rfl⟩) (fun u9 H locs hpu22 hP hD hS => ?_)
          obtain ⟨f1u22, rfl⟩ : ∃ q9, q9 = u9 := ⟨_, rfl⟩
          have hpu22 : MN f1u22 (((dnk (dg gl) k * pr k ^ i : Nat) : Int) * (pr k)) := hpu22
          have hP : va_P D vwCl [(yr 0, .inl (cT 0, 19, .inl fp)), (lo, .inl (cT 0, 19, .inl gl)), (y, .inr (11, MO yr yi7u15 ysb ybs)), (yr 48, .inl (cT 2, 6000, .inl fo7u15)), (yr 49, .inl (cT 2, 3000, .inl fd7u15)), (a, .inl (cT 0, 302, .inl f7u15)), (yr 31, .inl (cT 0, 302, .inl f1u22))] _ := hP
          have hD : va_D A [(yr 0, .inl (cT 0, 19, .inl fp)), (lo, .inl (cT 0, 19, .inl gl)), (y, .inr (11, MO yr yi7u15 ysb ybs)), (yr 48, .inl (cT 2, 6000, .inl fo7u15)), (yr 49, .inl (cT 2, 3000, .inl fd7u15)), (a, .inl (cT 0, 302, .inl f7u15)), (yr 31, .inl (cT 0, 302, .inl f1u22))] := hD
          refine lv_iinc (k := 5) (v := nI (i + 1)) hx hb dM_write_94 hl rfl (nI_1 i) (by decide) rfl (fun ls hl => ?_)
          have hl : lv_has ls 6 [(5, .int (nI (i + 1))), (0, .ref y), (1, .ref a), (2, .ref lo), (3, .int 0), (4, .int (nI k))] := hl
          refine lv_goto (tgt := 71) hx hb dM_write_97 rfl ?_
          exact ih71 (i + 1, f1u22) (show (i + 1) ≤ dg gl k ∧ MN f1u22 ((dnk (dg gl) k * pr k ^ (i + 1) : Nat) : Int) from ⟨by omega, by rw [Nat.pow_succ, ← Nat.mul_assoc, Int.natCast_mul]; exact hpu22⟩) (show dg gl k - (i + 1) < dg gl k - i from (by omega)) ls H locs (lv_sub hl [1, 2, 3, 4, 5, 0] rfl) hP hD hS
      · have w1 : wb = true := by cases hw9 : wb; (exact absurd (bn_0.mpr hw9) h20); (rfl)
        refine lv_aload_n hx hb dM_write_55 rfl (lv_at hl 2 rfl) ?_
        refine lv_iload hx hb dM_write_56 (lv_at hl 4 rfl) ?_
        refine lq_iald (j := k) hx hb hK hP 1 0 rfl rfl rfl (by omega) (by omega) dM_write_58 ?_
        refine lv_topi (fun y9 e9 => ?_)
        cases (show y9 = nI (dg gl k) from e9.trans hgk.1)
        refine lv_if_ne (tgt := 66) hx hb dM_write_59 rfl (fun h23 => ?_) (fun h23 => ?_)
        · have gh23 : ¬ (dg gl k = 0) := fun q => h23 (congrArg nI q)
          refine lv_iconst (v := 0) hx hb dM_write_66 (by decide) ?_
          refine lv_istore_n hx hb dM_write_67 rfl hl (by decide) rfl (fun ls hl => ?_)
          have hl : lv_has ls 6 [(3, .int 0), (0, .ref y), (1, .ref a), (2, .ref lo), (4, .int (nI k))] := hl
          refine lv_iconst (v := 0) hx hb dM_write_68 (by decide) ?_
          refine lv_istore hx hb dM_write_69 hl (by decide) rfl (fun ls hl => ?_)
          have hl : lv_has ls 6 [(5, .int 0), (3, .int 0), (0, .ref y), (1, .ref a), (2, .ref lo), (4, .int (nI k))] := hl
          refine lp_w (α := Nat × (Nat → Int32)) (fun a9 => a9.1 ≤ dg gl k ∧ MN a9.2 ((dnk (dg gl) k * pr k ^ a9.1 : Nat) : Int)) (fun a9 => dg gl k - a9.1) (fun a9 => [(0, .ref y), (1, .ref a), (2, .ref lo), (3, .int 0), (4, .int (nI k)), (5, .int (nI a9.1))]) (fun a9 => [(yr 0, .inl (cT 0, 19, .inl fp)), (lo, .inl (cT 0, 19, .inl gl)), (y, .inr (11, MO yr yi7u15 ysb ybs)), (yr 48, .inl (cT 2, 6000, .inl fo7u15)), (yr 49, .inl (cT 2, 3000, .inl fd7u15)), (a, .inl (cT 0, 302, .inl f7u15)), (yr 31, .inl (cT 0, 302, .inl a9.2))]) 71 ?_ (0, f3) (show 0 ≤ dg gl k ∧ MN f3 ((dnk (dg gl) k * pr k ^ 0 : Nat) : Int) from ⟨by omega, by rw [Nat.pow_zero, Nat.mul_one]; exact iN⟩) (lv_sub hl [2, 3, 4, 1, 5, 0] rfl) hP hD hS
          intro a9 hI71 ih71 ls H locs hl hP hD hS
          obtain ⟨i, f4⟩ := a9
          have hI71 : i ≤ dg gl k ∧ MN f4 ((dnk (dg gl) k * pr k ^ i : Nat) : Int) := hI71
          obtain ⟨ji, jN⟩ := hI71
          have hl : lv_has ls 6 [(0, .ref y), (1, .ref a), (2, .ref lo), (3, .int 0), (4, .int (nI k)), (5, .int (nI i))] := hl
          have hP : va_P D vwCl [(yr 0, .inl (cT 0, 19, .inl fp)), (lo, .inl (cT 0, 19, .inl gl)), (y, .inr (11, MO yr yi7u15 ysb ybs)), (yr 48, .inl (cT 2, 6000, .inl fo7u15)), (yr 49, .inl (cT 2, 3000, .inl fd7u15)), (a, .inl (cT 0, 302, .inl f7u15)), (yr 31, .inl (cT 0, 302, .inl f4))] _ := hP
          have hD : va_D A [(yr 0, .inl (cT 0, 19, .inl fp)), (lo, .inl (cT 0, 19, .inl gl)), (y, .inr (11, MO yr yi7u15 ysb ybs)), (yr 48, .inl (cT 2, 6000, .inl fo7u15)), (yr 49, .inl (cT 2, 3000, .inl fd7u15)), (a, .inl (cT 0, 302, .inl f7u15)), (yr 31, .inl (cT 0, 302, .inl f4))] := hD
          refine lv_iload hx hb dM_write_71 (lv_at hl 5 rfl) ?_
          refine lv_aload_n hx hb dM_write_73 rfl (lv_at hl 2 rfl) ?_
          refine lv_iload hx hb dM_write_74 (lv_at hl 4 rfl) ?_
          refine lq_iald (j := k) hx hb hK hP 1 0 rfl rfl rfl (by omega) (by omega) dM_write_76 ?_
          refine lv_topi (fun y9 e9 => ?_)
          cases (show y9 = nI (dg gl k) from e9.trans hgk.1)
          refine lv_icmp_ge (tgt := 100) hx hb dM_write_77 rfl (fun h24 => ?_) (fun h24 => ?_)
          · have gh24 : dg gl k ≤ i := (nI_leI (a := dg gl k) (b := i) (by omega) (by omega)).mp h24
            refine lv_iinc (k := 4) (v := nI (k + 1)) hx hb dM_write_100 hl rfl (nI_1 k) (by decide) rfl (fun ls hl => ?_)
            have hl : lv_has ls 6 [(4, .int (nI (k + 1))), (0, .ref y), (1, .ref a), (2, .ref lo), (3, .int 0), (5, .int (nI i))] := hl
            refine lv_goto (tgt := 44) hx hb dM_write_103 rfl ?_
            exact ih44 (k + 1, f4, false) (show (k + 1) ≤ 19 ∧ MN f4 (dnk (dg gl) (k + 1) : Int) ∧ (false = true ↔ ∀ q, q < (k + 1) → dg gl q = 0) from ⟨by omega, by rw [show i = dg gl k by omega] at jN; exact jN, ⟨fun h => absurd h (by decide), fun h => absurd (h k (by omega)) (by omega)⟩⟩) (show 19 - (k + 1) < 19 - k from (by omega)) ls H locs (lv_sub hl [1, 2, 3, 4, 0] rfl) hP hD hS
          · have gh24 : i < dg gl k := Nat.not_le.mp (fun q => h24 ((nI_leI (a := dg gl k) (b := i) (by omega) (by omega)).mpr q))
            refine lv_aload_n hx hb dM_write_80 rfl (lv_at hl 0 rfl) ?_
            refine va_get (D := D) (ci := 11) (v := .ref (yr 31)) (C := R_M) (T := T_M) (N := 60) hx hb hT in_M hown hK hP 2 rfl rfl 31 (by decide) (hT _ w1135) (fun _ h9 => h9) rfl dM_write_81 ?_
            refine lv_aload_n hx hb dM_write_84 rfl (lv_at hl 0 rfl) ?_
            refine va_get (D := D) (ci := 11) (v := .ref (yr 0)) (C := R_M) (T := T_M) (N := 60) hx hb hT in_M hown hK hP 2 rfl rfl 0 (by decide) (hT _ w1104) (fun _ h9 => h9) rfl dM_write_85 ?_
            refine lv_iload hx hb dM_write_88 (lv_at hl 4 rfl) ?_
            refine lq_iald (j := k) hx hb hK hP 0 0 rfl rfl rfl (by omega) (by omega) dM_write_90 ?_
            refine lv_topi (fun y9 e9 => ?_)
            cases (show y9 = nI (pr k) from e9.trans (hPR k (by omega)))
            refine rw_v (wc := [(yr 31, .inl (cT 0, 302, .inl f4))]) (wr := [(yr 0, .inl (cT 0, 19, .inl fp)), (lo, .inl (cT 0, 19, .inl gl)), (y, .inr (11, MO yr yi7u15 ysb ybs)), (yr 48, .inl (cT 2, 6000, .inl fo7u15)), (yr 49, .inl (cT 2, 3000, .inl fd7u15)), (a, .inl (cT 0, 302, .inl f7u15))]) hP hD hS hA [6] [0, 1, 2, 3, 4, 5] rfl rfl (by decide) (by decide) (va_runS (As := [.ref (yr 31), .int (nI (pr k))]) (rest := []) ⟨hx, hb, hml, hown, hT⟩ (m_times l D cT (yr 31) f4 ((dnk (dg gl) k * pr k ^ i : Nat) : Int) (pr k) jN (by omega) (by omega) (by rw [Int.natAbs_natCast, Nat.mul_assoc, ← Nat.pow_succ]; exact Nat.lt_of_le_of_lt (dnk_part (by omega) (by omega)) hfd) _) ⟨callB_of 2 hT (tb_gd w1417) rfl rfl rfl (hT _ w13) (hT _ w1415) hM_times ⟨Nat.le_of_ble_eq_true rfl, Nat.le_of_ble_eq_true rfl⟩, (hT _ w1416)⟩ (RW.preS hZ hS (va_free (wc := [(yr 31, .inl (cT 0, 302, .inl f4))]) hD hS hA [6] rfl) (hP.sub (ws' := [(yr 31, .inl (cT 0, 302, .inl f4))]) [6] rfl) hK (hD.sub (ws' := [(yr 31, .inl (cT 0, 302, .inl f4))]) [6] (by decide) rfl)) rfl rfl hl.1 rfl (lv_room (Nat.le_of_ble_eq_true rfl)) dM_write_91 ⟨Nat.le_of_ble_eq_true rfl, Nat.le_of_ble_eq_true rfl⟩) (fun u9 H locs hpu25 hP hD hS => ?_)
            obtain ⟨f1u25, rfl⟩ : ∃ q9, q9 = u9 := ⟨_, rfl⟩
            have hpu25 : MN f1u25 (((dnk (dg gl) k * pr k ^ i : Nat) : Int) * (pr k)) := hpu25
            have hP : va_P D vwCl [(yr 0, .inl (cT 0, 19, .inl fp)), (lo, .inl (cT 0, 19, .inl gl)), (y, .inr (11, MO yr yi7u15 ysb ybs)), (yr 48, .inl (cT 2, 6000, .inl fo7u15)), (yr 49, .inl (cT 2, 3000, .inl fd7u15)), (a, .inl (cT 0, 302, .inl f7u15)), (yr 31, .inl (cT 0, 302, .inl f1u25))] _ := hP
            have hD : va_D A [(yr 0, .inl (cT 0, 19, .inl fp)), (lo, .inl (cT 0, 19, .inl gl)), (y, .inr (11, MO yr yi7u15 ysb ybs)), (yr 48, .inl (cT 2, 6000, .inl fo7u15)), (yr 49, .inl (cT 2, 3000, .inl fd7u15)), (a, .inl (cT 0, 302, .inl f7u15)), (yr 31, .inl (cT 0, 302, .inl f1u25))] := hD
            refine lv_iinc (k := 5) (v := nI (i + 1)) hx hb dM_write_94 hl rfl (nI_1 i) (by decide) rfl (fun ls hl => ?_)
            have hl : lv_has ls 6 [(5, .int (nI (i + 1))), (0, .ref y), (1, .ref a), (2, .ref lo), (3, .int 0), (4, .int (nI k))] := hl
            refine lv_goto (tgt := 71) hx hb dM_write_97 rfl ?_
            exact ih71 (i + 1, f1u25) (show (i + 1) ≤ dg gl k ∧ MN f1u25 ((dnk (dg gl) k * pr k ^ (i + 1) : Nat) : Int) from ⟨by omega, by rw [Nat.pow_succ, ← Nat.mul_assoc, Int.natCast_mul]; exact hpu25⟩) (show dg gl k - (i + 1) < dg gl k - i from (by omega)) ls H locs (lv_sub hl [1, 2, 3, 4, 5, 0] rfl) hP hD hS
        · have gh23 : dg gl k = 0 := (nI_eq (a := dg gl k) (b := 0) (by omega) (by decide)).mp h23
          refine lv_iconst (v := 1) hx hb dM_write_62 (by decide) ?_
          refine lv_goto (tgt := 67) hx hb dM_write_63 rfl ?_
          refine lv_istore_n hx hb dM_write_67 rfl hl (by decide) rfl (fun ls hl => ?_)
          have hl : lv_has ls 6 [(3, .int 1), (0, .ref y), (1, .ref a), (2, .ref lo), (4, .int (nI k))] := hl
          refine lv_iconst (v := 0) hx hb dM_write_68 (by decide) ?_
          refine lv_istore hx hb dM_write_69 hl (by decide) rfl (fun ls hl => ?_)
          have hl : lv_has ls 6 [(5, .int 0), (3, .int 1), (0, .ref y), (1, .ref a), (2, .ref lo), (4, .int (nI k))] := hl
          refine lp_w (α := Nat × (Nat → Int32)) (fun a9 => a9.1 ≤ dg gl k ∧ MN a9.2 ((dnk (dg gl) k * pr k ^ a9.1 : Nat) : Int)) (fun a9 => dg gl k - a9.1) (fun a9 => [(0, .ref y), (1, .ref a), (2, .ref lo), (3, .int 1), (4, .int (nI k)), (5, .int (nI a9.1))]) (fun a9 => [(yr 0, .inl (cT 0, 19, .inl fp)), (lo, .inl (cT 0, 19, .inl gl)), (y, .inr (11, MO yr yi7u15 ysb ybs)), (yr 48, .inl (cT 2, 6000, .inl fo7u15)), (yr 49, .inl (cT 2, 3000, .inl fd7u15)), (a, .inl (cT 0, 302, .inl f7u15)), (yr 31, .inl (cT 0, 302, .inl a9.2))]) 71 ?_ (0, f3) (show 0 ≤ dg gl k ∧ MN f3 ((dnk (dg gl) k * pr k ^ 0 : Nat) : Int) from ⟨by omega, by rw [Nat.pow_zero, Nat.mul_one]; exact iN⟩) (lv_sub hl [2, 3, 4, 1, 5, 0] rfl) hP hD hS
          intro a9 hI71 ih71 ls H locs hl hP hD hS
          obtain ⟨i, f4⟩ := a9
          have hI71 : i ≤ dg gl k ∧ MN f4 ((dnk (dg gl) k * pr k ^ i : Nat) : Int) := hI71
          obtain ⟨ji, jN⟩ := hI71
          have hl : lv_has ls 6 [(0, .ref y), (1, .ref a), (2, .ref lo), (3, .int 1), (4, .int (nI k)), (5, .int (nI i))] := hl
          have hP : va_P D vwCl [(yr 0, .inl (cT 0, 19, .inl fp)), (lo, .inl (cT 0, 19, .inl gl)), (y, .inr (11, MO yr yi7u15 ysb ybs)), (yr 48, .inl (cT 2, 6000, .inl fo7u15)), (yr 49, .inl (cT 2, 3000, .inl fd7u15)), (a, .inl (cT 0, 302, .inl f7u15)), (yr 31, .inl (cT 0, 302, .inl f4))] _ := hP
          have hD : va_D A [(yr 0, .inl (cT 0, 19, .inl fp)), (lo, .inl (cT 0, 19, .inl gl)), (y, .inr (11, MO yr yi7u15 ysb ybs)), (yr 48, .inl (cT 2, 6000, .inl fo7u15)), (yr 49, .inl (cT 2, 3000, .inl fd7u15)), (a, .inl (cT 0, 302, .inl f7u15)), (yr 31, .inl (cT 0, 302, .inl f4))] := hD
          refine lv_iload hx hb dM_write_71 (lv_at hl 5 rfl) ?_
          refine lv_aload_n hx hb dM_write_73 rfl (lv_at hl 2 rfl) ?_
          refine lv_iload hx hb dM_write_74 (lv_at hl 4 rfl) ?_
          refine lq_iald (j := k) hx hb hK hP 1 0 rfl rfl rfl (by omega) (by omega) dM_write_76 ?_
          refine lv_topi (fun y9 e9 => ?_)
          cases (show y9 = nI (dg gl k) from e9.trans hgk.1)
          refine lv_icmp_ge (tgt := 100) hx hb dM_write_77 rfl (fun h26 => ?_) (fun h26 => ?_)
          · have gh26 : dg gl k ≤ i := (nI_leI (a := dg gl k) (b := i) (by omega) (by omega)).mp h26
            refine lv_iinc (k := 4) (v := nI (k + 1)) hx hb dM_write_100 hl rfl (nI_1 k) (by decide) rfl (fun ls hl => ?_)
            have hl : lv_has ls 6 [(4, .int (nI (k + 1))), (0, .ref y), (1, .ref a), (2, .ref lo), (3, .int 1), (5, .int (nI i))] := hl
            refine lv_goto (tgt := 44) hx hb dM_write_103 rfl ?_
            exact ih44 (k + 1, f4, true) (show (k + 1) ≤ 19 ∧ MN f4 (dnk (dg gl) (k + 1) : Int) ∧ (true = true ↔ ∀ q, q < (k + 1) → dg gl q = 0) from ⟨by omega, by rw [show i = dg gl k by omega] at jN; exact jN, ⟨fun _ q h => (by by_cases r : q = k; (subst r; omega); (exact iw.mp w1 q (by omega))), fun _ => rfl⟩⟩) (show 19 - (k + 1) < 19 - k from (by omega)) ls H locs (lv_sub hl [1, 2, 3, 4, 0] rfl) hP hD hS
          · have gh26 : i < dg gl k := Nat.not_le.mp (fun q => h26 ((nI_leI (a := dg gl k) (b := i) (by omega) (by omega)).mpr q))
            refine lv_aload_n hx hb dM_write_80 rfl (lv_at hl 0 rfl) ?_
            refine va_get (D := D) (ci := 11) (v := .ref (yr 31)) (C := R_M) (T := T_M) (N := 60) hx hb hT in_M hown hK hP 2 rfl rfl 31 (by decide) (hT _ w1135) (fun _ h9 => h9) rfl dM_write_81 ?_
            refine lv_aload_n hx hb dM_write_84 rfl (lv_at hl 0 rfl) ?_
            refine va_get (D := D) (ci := 11) (v := .ref (yr 0)) (C := R_M) (T := T_M) (N := 60) hx hb hT in_M hown hK hP 2 rfl rfl 0 (by decide) (hT _ w1104) (fun _ h9 => h9) rfl dM_write_85 ?_
            refine lv_iload hx hb dM_write_88 (lv_at hl 4 rfl) ?_
            refine lq_iald (j := k) hx hb hK hP 0 0 rfl rfl rfl (by omega) (by omega) dM_write_90 ?_
            refine lv_topi (fun y9 e9 => ?_)
            cases (show y9 = nI (pr k) from e9.trans (hPR k (by omega)))
            refine rw_v (wc := [(yr 31, .inl (cT 0, 302, .inl f4))]) (wr := [(yr 0, .inl (cT 0, 19, .inl fp)), (lo, .inl (cT 0, 19, .inl gl)), (y, .inr (11, MO yr yi7u15 ysb ybs)), (yr 48, .inl (cT 2, 6000, .inl fo7u15)), (yr 49, .inl (cT 2, 3000, .inl fd7u15)), (a, .inl (cT 0, 302, .inl f7u15))]) hP hD hS hA [6] [0, 1, 2, 3, 4, 5] rfl rfl (by decide) (by decide) (va_runS (As := [.ref (yr 31), .int (nI (pr k))]) (rest := []) ⟨hx, hb, hml, hown, hT⟩ (m_times l D cT (yr 31) f4 ((dnk (dg gl) k * pr k ^ i : Nat) : Int) (pr k) jN (by omega) (by omega) (by rw [Int.natAbs_natCast, Nat.mul_assoc, ← Nat.pow_succ]; exact Nat.lt_of_le_of_lt (dnk_part (by omega) (by omega)) hfd) _) ⟨callB_of 2 hT (tb_gd w1417) rfl rfl rfl (hT _ w13) (hT _ w1415) hM_times ⟨Nat.le_of_ble_eq_true rfl, Nat.le_of_ble_eq_true rfl⟩, (hT _ w1416)⟩ (RW.preS hZ hS (va_free (wc := [(yr 31, .inl (cT 0, 302, .inl f4))]) hD hS hA [6] rfl) (hP.sub (ws' := [(yr 31, .inl (cT 0, 302, .inl f4))]) [6] rfl) hK (hD.sub (ws' := [(yr 31, .inl (cT 0, 302, .inl f4))]) [6] (by decide) rfl)) rfl rfl hl.1 rfl (lv_room (Nat.le_of_ble_eq_true rfl)) dM_write_91 ⟨Nat.le_of_ble_eq_true rfl, Nat.le_of_ble_eq_true rfl⟩) (fun u9 H locs hpu27 hP hD hS => ?_)
            obtain ⟨f1u27, rfl⟩ : ∃ q9, q9 = u9 := ⟨_, rfl⟩
            have hpu27 : MN f1u27 (((dnk (dg gl) k * pr k ^ i : Nat) : Int) * (pr k)) := hpu27
            have hP : va_P D vwCl [(yr 0, .inl (cT 0, 19, .inl fp)), (lo, .inl (cT 0, 19, .inl gl)), (y, .inr (11, MO yr yi7u15 ysb ybs)), (yr 48, .inl (cT 2, 6000, .inl fo7u15)), (yr 49, .inl (cT 2, 3000, .inl fd7u15)), (a, .inl (cT 0, 302, .inl f7u15)), (yr 31, .inl (cT 0, 302, .inl f1u27))] _ := hP
            have hD : va_D A [(yr 0, .inl (cT 0, 19, .inl fp)), (lo, .inl (cT 0, 19, .inl gl)), (y, .inr (11, MO yr yi7u15 ysb ybs)), (yr 48, .inl (cT 2, 6000, .inl fo7u15)), (yr 49, .inl (cT 2, 3000, .inl fd7u15)), (a, .inl (cT 0, 302, .inl f7u15)), (yr 31, .inl (cT 0, 302, .inl f1u27))] := hD
            refine lv_iinc (k := 5) (v := nI (i + 1)) hx hb dM_write_94 hl rfl (nI_1 i) (by decide) rfl (fun ls hl => ?_)
            have hl : lv_has ls 6 [(5, .int (nI (i + 1))), (0, .ref y), (1, .ref a), (2, .ref lo), (3, .int 1), (4, .int (nI k))] := hl
            refine lv_goto (tgt := 71) hx hb dM_write_97 rfl ?_
            exact ih71 (i + 1, f1u27) (show (i + 1) ≤ dg gl k ∧ MN f1u27 ((dnk (dg gl) k * pr k ^ (i + 1) : Nat) : Int) from ⟨by omega, by rw [Nat.pow_succ, ← Nat.mul_assoc, Int.natCast_mul]; exact hpu27⟩) (show dg gl k - (i + 1) < dg gl k - i from (by omega)) ls H locs (lv_sub hl [1, 2, 3, 4, 5, 0] rfl) hP hD hS
