set_option maxHeartbeats 4000000 in
set_option maxRecDepth 100000 in
theorem m_digits (l : Launch) (D : va_G) (cT : Nat → ClassId) (y : Nat) (yr : Nat → Nat) (yi : Nat → Int32) (ysb : Int64) (ybs : Int64) (fo : Nat → Int32) (fd : Nat → Int32) (a : Nat) (f : Nat → Int32) (z : Int) (q0 : Nat) (hN : MN f z) (hfit : z.natAbs < 268435456 ^ 250) (hq0t : yi 47 = nI q0) (hq0b : q0 ≤ 3000) (sz : Nat) : Met l yM_writeDigits WM_writeDigits ({ frames := 2, cells := 0, slots := 0, locals := 48 } : Room) (RW D vwCl [.ref y, .ref a] [(y, .inr (11, MO yr yi ysb ybs)), (yr 48, .inl (cT 2, 6000, .inl fo)), (yr 49, .inl (cT 2, 3000, .inl fd)), (a, .inl (cT 0, 302, .inl f))] (TY cT) sz) (va_Qv (fun u9 : Nat × (Nat → Int32) × (Nat → Int32) × (Nat → Int32) × (Nat → Int32) => NDG z.natAbs u9.1 ∧ u9.2.2.2.2 47 = nI (q0 + u9.1) ∧ (∀ i8, i8 < u9.1 → u9.2.1 (q0 + i8) = nI (48 + dgt z.natAbs (u9.1 - 1 - i8))) ∧ (∀ i8, i8 < q0 → u9.2.1 i8 = fo i8) ∧ ∀ j8, j8 ≠ 47 → u9.2.2.2.2 j8 = yi j8) (BW D vwCl (va_A [(y, .inr (11, MO yr yi ysb ybs)), (yr 48, .inl (cT 2, 6000, .inl fo)), (yr 49, .inl (cT 2, 3000, .inl fd)), (a, .inl (cT 0, 302, .inl f))] sz) (fun u9 : Nat × (Nat → Int32) × (Nat → Int32) × (Nat → Int32) × (Nat → Int32) => [(y, .inr (11, MO yr u9.2.2.2.2 ysb ybs)), (yr 48, .inl (cT 2, 6000, .inl u9.2.1)), (yr 49, .inl (cT 2, 3000, .inl u9.2.2.1)), (a, .inl (cT 0, 302, .inl u9.2.2.2.1))])) (va_A [(y, .inr (11, MO yr yi ysb ybs)), (yr 48, .inl (cT 2, 6000, .inl fo)), (yr 49, .inl (cT 2, 3000, .inl fd)), (a, .inl (cT 0, 302, .inl f))] sz)) 0 0 (va_A [(y, .inr (11, MO yr yi ysb ybs)), (yr 48, .inl (cT 2, 6000, .inl fo)), (yr 49, .inl (cT 2, 3000, .inl fd)), (a, .inl (cT 0, 302, .inl f))] sz) := by
  refine Met.ofW (cc := cM_writeDigits) (maxL := 5) (ret := none) (by decide) rfl ?_
  intro p e s m args below meth c s₁ B hml hv
  obtain ⟨rfl, hsz, hZ, hP, hK, hD0⟩ := hv
  have hx := B.exec
  have hb := B.bytes
  have hr := B.returns
  have hts := atoms_spec (ws := WM_writeDigits) B.pre
  have hT : ∀ w ∈ TB, w.before _ s = true := fun w h => hts w (List.mem_cons_of_mem _ h)
  have hown : s.vm.findClass R_M = some m.cls := findClass_of_methodNamed B.named
  have hlocks := B.notSynchronized
  subst hsz
  have hD := hD0.self (sz := s.heap.size)
  generalize hAe : va_A [(y, .inr (11, MO yr yi ysb ybs)), (yr 48, .inl (cT 2, 6000, .inl fo)), (yr 49, .inl (cT 2, 3000, .inl fd)), (a, .inl (cT 0, 302, .inl f))] s.heap.size = A at hD hZ ⊢
  have hA : ∀ q : Nat, s.heap.size ≤ q → A q := fun q h => by rw [← hAe]; exact Or.inr h
  have hS : va_S A s.heap s.heap [] := va_S.rf
  have hl := lv_entry ([.ref y, .ref a]) (n := 5) (Nat.le_of_ble_eq_true rfl)
  rw [lg_entry_eq]
  generalize (lg_sl ([.ref y, .ref a]) ++ List.replicate (5 - (lg_sl ([.ref y, .ref a])).length) Slot.unset).toArray = ls at hl ⊢
  have hl : lv_has ls 5 [(0, .ref y), (1, .ref a)] := hl
  obtain ⟨v, hv⟩ : ∃ q9 : Nat, q9 = z.natAbs := ⟨_, rfl⟩
  refine lv_iconst (v := 0) hx hb dM_writeDigits_0 (by decide) ?_
  refine lv_istore_n hx hb dM_writeDigits_1 rfl hl (by decide) rfl (fun ls hl => ?_)
  have hl : lv_has ls 5 [(2, .int 0), (0, .ref y), (1, .ref a)] := hl
  refine lp_w (α := Nat × Int × (Nat → Int32) × (Nat → Int32)) (fun a9 => MN a9.2.2.1 a9.2.1 ∧ a9.2.1.natAbs = v / 10000 ^ a9.1 ∧ DGS a9.2.2.2 v (4 * a9.1) ∧ a9.1 ≤ 600) (fun a9 => a9.2.1.natAbs + (if a9.1 = 0 then 1 else 0)) (fun a9 => [(0, .ref y), (1, .ref a), (2, .int (nI (4 * a9.1)))]) (fun a9 => [(y, .inr (11, MO yr yi ysb ybs)), (yr 48, .inl (cT 2, 6000, .inl fo)), (yr 49, .inl (cT 2, 3000, .inl a9.2.2.2)), (a, .inl (cT 0, 302, .inl a9.2.2.1))]) 2 ?_ (0, z, f, fd) (show MN f z ∧ z.natAbs = v / 10000 ^ 0 ∧ DGS fd v (4 * 0) ∧ 0 ≤ 600 from ⟨hN, by rw [Nat.pow_zero, Nat.div_one, hv], fun j h => absurd h (by omega), by omega⟩) (lv_sub hl [1, 2, 0] rfl) hP hD hS
  intro a9 hI2 ih2 ls H locs hl hP hD hS
  obtain ⟨q, zz, f1, gd⟩ := a9
  have hI2 : MN f1 zz ∧ zz.natAbs = v / 10000 ^ q ∧ DGS gd v (4 * q) ∧ q ≤ 600 := hI2
  obtain ⟨iN, iz, ig, iq6⟩ := hI2
  have hl : lv_has ls 5 [(0, .ref y), (1, .ref a), (2, .int (nI (4 * q)))] := hl
  have hP : va_P D vwCl [(y, .inr (11, MO yr yi ysb ybs)), (yr 48, .inl (cT 2, 6000, .inl fo)), (yr 49, .inl (cT 2, 3000, .inl gd)), (a, .inl (cT 0, 302, .inl f1))] _ := hP
  have hD : va_D A [(y, .inr (11, MO yr yi ysb ybs)), (yr 48, .inl (cT 2, 6000, .inl fo)), (yr 49, .inl (cT 2, 3000, .inl gd)), (a, .inl (cT 0, 302, .inl f1))] := hD
  have iN2 := iN
  obtain ⟨K, h300, hk, hd, htop, hs, hva⟩ := iN
  refine lv_aload_n hx hb dM_writeDigits_2 rfl (lv_at hl 1 rfl) ?_
  refine lv_sipush (v := 300) hx hb dM_writeDigits_3 (by decide) ?_
  refine lq_iald (j := 300) hx hb hK hP 3 0 rfl rfl rfl (by decide) (by decide) dM_writeDigits_6 ?_
  refine lv_topi (fun y9 e9 => ?_)
  cases (show y9 = nI K from e9.trans h300)
  refine lv_if_gt (tgt := 14) hx hb dM_writeDigits_7 rfl (fun h1 => ?_) (fun h1 => ?_)
  · have gh1 : 0 < K := (nI_ltI (a := 0) (b := K) (by omega) (by omega)).mp h1
    have hz9 : ¬ q = 0 → 0 < zz.natAbs := fun r => by rw [hva]; exact vM_pos htop (by omega)
    have hq5 : q < 539 := by
      rcases Nat.eq_zero_or_pos q with r | r
      · omega
      · refine q_b hfit ?_
        have h1 := hz9 (by omega); rw [iz] at h1
        rcases Nat.lt_or_ge z.natAbs (10000 ^ q) with r2 | r2
        · rw [hv, Nat.div_eq_of_lt r2] at h1; omega
        · exact r2
    refine lv_aload_n hx hb dM_writeDigits_14 rfl (lv_at hl 1 rfl) ?_
    refine lv_sipush (v := 10000) hx hb dM_writeDigits_15 (by decide) ?_
    refine rw_i (wc := [(a, .inl (cT 0, 302, .inl f1))]) (wr := [(y, .inr (11, MO yr yi ysb ybs)), (yr 48, .inl (cT 2, 6000, .inl fo)), (yr 49, .inl (cT 2, 3000, .inl gd))]) hP hD hS hA [3] [0, 1, 2] rfl rfl (by decide) (by decide) (va_runS (As := [.ref a, .int 10000]) (rest := []) ⟨hx, hb, hml, hown, hT⟩ (m_divide l D cT a f1 zz 10000 iN2 (by decide) (by decide) _) ⟨callB_of 2 hT (tb_gd w1446) rfl rfl rfl (hT _ w13) (hT _ w1444) hM_divide ⟨Nat.le_of_ble_eq_true rfl, Nat.le_of_ble_eq_true rfl⟩, (hT _ w1445)⟩ (RW.preS hZ hS (va_free (wc := [(a, .inl (cT 0, 302, .inl f1))]) hD hS hA [3] rfl) (hP.sub (ws' := [(a, .inl (cT 0, 302, .inl f1))]) [3] rfl) hK (hD.sub (ws' := [(a, .inl (cT 0, 302, .inl f1))]) [3] (by decide) rfl)) rfl rfl hl.1 rfl (lv_room (Nat.le_of_ble_eq_true rfl)) dM_writeDigits_18 ⟨Nat.le_of_ble_eq_true rfl, Nat.le_of_ble_eq_true rfl⟩) (fun ru2 u9 H locs hpu2 hP hD hS => ?_)
    obtain ⟨f1u2, rfl⟩ : ∃ q9, q9 = u9 := ⟨_, rfl⟩
    have hpu2 : ru2 = nI (zz.natAbs % 10000) ∧ MN f1u2 (zz.tdiv 10000) := hpu2
    have hP : va_P D vwCl [(y, .inr (11, MO yr yi ysb ybs)), (yr 48, .inl (cT 2, 6000, .inl fo)), (yr 49, .inl (cT 2, 3000, .inl gd)), (a, .inl (cT 0, 302, .inl f1u2))] _ := hP
    have hD : va_D A [(y, .inr (11, MO yr yi ysb ybs)), (yr 48, .inl (cT 2, 6000, .inl fo)), (yr 49, .inl (cT 2, 3000, .inl gd)), (a, .inl (cT 0, 302, .inl f1u2))] := hD
    have hdv := hpu2
    obtain ⟨pt, hpt⟩ : ∃ q9 : Nat, q9 = zz.natAbs % 10000 := ⟨_, rfl⟩
    rw [← hpt] at hdv
    have hptb : pt < 10000 := by omega
    obtain ⟨uu, huu⟩ : ∃ q9 : Nat, q9 = v / 10000 ^ q := ⟨_, rfl⟩
    rw [← huu] at iz
    have he0 : pt % 10 = dgt v (4 * q) := by rw [show 4 * q = 4 * q + 0 by omega, dgt_q huu 0]; omega
    have he1 : pt / 10 % 10 = dgt v (4 * q + 1) := by rw [show 4 * q + 1 = 4 * q + 1 by omega, dgt_q huu 1]; omega
    have he2 : pt / 10 / 10 % 10 = dgt v (4 * q + 1 + 1) := by rw [show 4 * q + 1 + 1 = 4 * q + 2 by omega, dgt_q huu 2]; omega
    have he3 : pt / 10 / 10 / 10 % 10 = dgt v (4 * q + 1 + 1 + 1) := by rw [show 4 * q + 1 + 1 + 1 = 4 * q + 3 by omega, dgt_q huu 3]; omega
    refine lv_topi (fun y9 e9 => ?_)
    cases (show y9 = nI pt from e9.trans hdv.1)
    refine lv_istore_n hx hb dM_writeDigits_21 rfl hl (by decide) rfl (fun ls hl => ?_)
    have hl : lv_has ls 5 [(3, .int (nI pt)), (0, .ref y), (1, .ref a), (2, .int (nI (4 * q)))] := hl
    refine lv_iconst (v := 0) hx hb dM_writeDigits_22 (by decide) ?_
    refine lv_istore hx hb dM_writeDigits_23 hl (by decide) rfl (fun ls hl => ?_)
    have hl : lv_has ls 5 [(4, .int 0), (3, .int (nI pt)), (0, .ref y), (1, .ref a), (2, .int (nI (4 * q)))] := hl
    refine lv_iload hx hb dM_writeDigits_25 (lv_at hl 0 rfl) ?_
    refine lv_iconst (v := 4) hx hb dM_writeDigits_27 (by decide) ?_
    refine lv_icmp_ge (tgt := 59) hx hb dM_writeDigits_28 rfl (fun h3 => absurd h3 (by decide)) (fun _ => ?_)
    refine lv_aload_n hx hb dM_writeDigits_31 rfl (lv_at hl 2 rfl) ?_
    refine va_get (D := D) (ci := 11) (v := .ref (yr 49)) (C := R_M) (T := T_M) (N := 60) hx hb hT in_M hown hK hP 0 rfl rfl 49 (by decide) (hT _ w1153) (fun _ h9 => h9) rfl dM_writeDigits_32 ?_
    refine lv_iload_n hx hb dM_writeDigits_35 rfl (lv_at hl 4 rfl) ?_
    refine lv_bipush (v := 48) hx hb dM_writeDigits_36 (by decide) ?_
    refine lv_iload_n hx hb dM_writeDigits_38 rfl (lv_at hl 1 rfl) ?_
    refine lv_bipush (v := 10) hx hb dM_writeDigits_39 (by decide) ?_
    refine lv_irem hx hb dM_writeDigits_41 (by decide) ?_
    refine lv_topi (fun y9 e9 => ?_)
    cases (show y9 = nI (pt % 10) from e9.trans (pk_rem (a := pt) (d := 10) (by omega) (by omega) (by omega)))
    refine lv_iadd hx hb dM_writeDigits_42 ?_
    refine lv_topi (fun y9 e9 => ?_)
    cases (show y9 = nI (48 + (pt % 10)) from e9.trans (nI_add 48 (pt % 10)))
    refine lv_i2b hx hb dM_writeDigits_43 rfl ?_
    refine lv_topi (fun y9 e9 => ?_)
    cases (show y9 = nI (48 + (pt % 10)) from e9.trans (i2b_s _ (by omega)))
    refine lq_bast (j := 4 * q) hx hb hK hP hD hS 2 2 rfl rfl rfl (by omega) (by omega) dM_writeDigits_44 (fun H locs hP hD hS => ?_)
    have hP : va_P D vwCl [(y, .inr (11, MO yr yi ysb ybs)), (yr 48, .inl (cT 2, 6000, .inl fo)), (yr 49, .inl (cT 2, 3000, .inl (upd gd (4 * q) (vp_nar .byte (nI (48 + (pt % 10))))))), (a, .inl (cT 0, 302, .inl f1u2))] _ := hP
    have hD : va_D A [(y, .inr (11, MO yr yi ysb ybs)), (yr 48, .inl (cT 2, 6000, .inl fo)), (yr 49, .inl (cT 2, 3000, .inl (upd gd (4 * q) (vp_nar .byte (nI (48 + (pt % 10))))))), (a, .inl (cT 0, 302, .inl f1u2))] := hD
    refine lv_iload_n hx hb dM_writeDigits_45 rfl (lv_at hl 1 rfl) ?_
    refine lv_bipush (v := 10) hx hb dM_writeDigits_46 (by decide) ?_
    refine lv_idiv hx hb dM_writeDigits_48 (by decide) ?_
    refine lv_topi (fun y9 e9 => ?_)
    cases (show y9 = nI (pt / 10) from e9.trans (pk_div (a := pt) (d := 10) (by omega) (by omega) (by omega)))
    refine lv_istore_n hx hb dM_writeDigits_49 rfl hl (by decide) rfl (fun ls hl => ?_)
    have hl : lv_has ls 5 [(3, .int (nI (pt / 10))), (4, .int 0), (0, .ref y), (1, .ref a), (2, .int (nI (4 * q)))] := hl
    refine lv_iinc (k := 4) (v := nI (4 * q + 1)) hx hb dM_writeDigits_50 hl rfl (nI_1 (4 * q)) (by decide) rfl (fun ls hl => ?_)
    have hl : lv_has ls 5 [(2, .int (nI (4 * q + 1))), (3, .int (nI (pt / 10))), (4, .int 0), (0, .ref y), (1, .ref a)] := hl
    refine lv_iinc (k := 2) (v := 1) hx hb dM_writeDigits_53 hl rfl (by decide) (by decide) rfl (fun ls hl => ?_)
    have hl : lv_has ls 5 [(4, .int 1), (2, .int (nI (4 * q + 1))), (3, .int (nI (pt / 10))), (0, .ref y), (1, .ref a)] := hl
    refine lv_goto (tgt := 25) hx hb dM_writeDigits_56 rfl ?_
    refine lv_iload hx hb dM_writeDigits_25 (lv_at hl 0 rfl) ?_
    refine lv_iconst (v := 4) hx hb dM_writeDigits_27 (by decide) ?_
    refine lv_icmp_ge (tgt := 59) hx hb dM_writeDigits_28 rfl (fun h4 => absurd h4 (by decide)) (fun _ => ?_)
    refine lv_aload_n hx hb dM_writeDigits_31 rfl (lv_at hl 3 rfl) ?_
    refine va_get (D := D) (ci := 11) (v := .ref (yr 49)) (C := R_M) (T := T_M) (N := 60) hx hb hT in_M hown hK hP 0 rfl rfl 49 (by decide) (hT _ w1153) (fun _ h9 => h9) rfl dM_writeDigits_32 ?_
    refine lv_iload_n hx hb dM_writeDigits_35 rfl (lv_at hl 1 rfl) ?_
    refine lv_bipush (v := 48) hx hb dM_writeDigits_36 (by decide) ?_
    refine lv_iload_n hx hb dM_writeDigits_38 rfl (lv_at hl 2 rfl) ?_
    refine lv_bipush (v := 10) hx hb dM_writeDigits_39 (by decide) ?_
    refine lv_irem hx hb dM_writeDigits_41 (by decide) ?_
    refine lv_topi (fun y9 e9 => ?_)
    cases (show y9 = nI ((pt / 10) % 10) from e9.trans (pk_rem (a := pt / 10) (d := 10) (by omega) (by omega) (by omega)))
    refine lv_iadd hx hb dM_writeDigits_42 ?_
    refine lv_topi (fun y9 e9 => ?_)
    cases (show y9 = nI (48 + ((pt / 10) % 10)) from e9.trans (nI_add 48 ((pt / 10) % 10)))
    refine lv_i2b hx hb dM_writeDigits_43 rfl ?_
    refine lv_topi (fun y9 e9 => ?_)
    cases (show y9 = nI (48 + ((pt / 10) % 10)) from e9.trans (i2b_s _ (by omega)))
    refine lq_bast (j := 4 * q + 1) hx hb hK hP hD hS 2 2 rfl rfl rfl (by omega) (by omega) dM_writeDigits_44 (fun H locs hP hD hS => ?_)
    have hP : va_P D vwCl [(y, .inr (11, MO yr yi ysb ybs)), (yr 48, .inl (cT 2, 6000, .inl fo)), (yr 49, .inl (cT 2, 3000, .inl (upd (upd gd (4 * q) (vp_nar .byte (nI (48 + (pt % 10))))) (4 * q + 1) (vp_nar .byte (nI (48 + ((pt / 10) % 10))))))), (a, .inl (cT 0, 302, .inl f1u2))] _ := hP
    have hD : va_D A [(y, .inr (11, MO yr yi ysb ybs)), (yr 48, .inl (cT 2, 6000, .inl fo)), (yr 49, .inl (cT 2, 3000, .inl (upd (upd gd (4 * q) (vp_nar .byte (nI (48 + (pt % 10))))) (4 * q + 1) (vp_nar .byte (nI (48 + ((pt / 10) % 10))))))), (a, .inl (cT 0, 302, .inl f1u2))] := hD
    refine lv_iload_n hx hb dM_writeDigits_45 rfl (lv_at hl 2 rfl) ?_
    refine lv_bipush (v := 10) hx hb dM_writeDigits_46 (by decide) ?_
    refine lv_idiv hx hb dM_writeDigits_48 (by decide) ?_
    refine lv_topi (fun y9 e9 => ?_)
    cases (show y9 = nI ((pt / 10) / 10) from e9.trans (pk_div (a := pt / 10) (d := 10) (by omega) (by omega) (by omega)))
    refine lv_istore_n hx hb dM_writeDigits_49 rfl hl (by decide) rfl (fun ls hl => ?_)
    have hl : lv_has ls 5 [(3, .int (nI ((pt / 10) / 10))), (4, .int 1), (2, .int (nI (4 * q + 1))), (0, .ref y), (1, .ref a)] := hl
    refine lv_iinc (k := 2) (v := nI (4 * q + 1 + 1)) hx hb dM_writeDigits_50 hl rfl (nI_1 (4 * q + 1)) (by decide) rfl (fun ls hl => ?_)
    have hl : lv_has ls 5 [(2, .int (nI (4 * q + 1 + 1))), (3, .int (nI ((pt / 10) / 10))), (4, .int 1), (0, .ref y), (1, .ref a)] := hl
    refine lv_iinc (k := 2) (v := 2) hx hb dM_writeDigits_53 hl rfl (by decide) (by decide) rfl (fun ls hl => ?_)
    have hl : lv_has ls 5 [(4, .int 2), (2, .int (nI (4 * q + 1 + 1))), (3, .int (nI ((pt / 10) / 10))), (0, .ref y), (1, .ref a)] := hl
    refine lv_goto (tgt := 25) hx hb dM_writeDigits_56 rfl ?_
    refine lv_iload hx hb dM_writeDigits_25 (lv_at hl 0 rfl) ?_
    refine lv_iconst (v := 4) hx hb dM_writeDigits_27 (by decide) ?_
    refine lv_icmp_ge (tgt := 59) hx hb dM_writeDigits_28 rfl (fun h5 => absurd h5 (by decide)) (fun _ => ?_)
    refine lv_aload_n hx hb dM_writeDigits_31 rfl (lv_at hl 3 rfl) ?_
    refine va_get (D := D) (ci := 11) (v := .ref (yr 49)) (C := R_M) (T := T_M) (N := 60) hx hb hT in_M hown hK hP 0 rfl rfl 49 (by decide) (hT _ w1153) (fun _ h9 => h9) rfl dM_writeDigits_32 ?_
    refine lv_iload_n hx hb dM_writeDigits_35 rfl (lv_at hl 1 rfl) ?_
    refine lv_bipush (v := 48) hx hb dM_writeDigits_36 (by decide) ?_
    refine lv_iload_n hx hb dM_writeDigits_38 rfl (lv_at hl 2 rfl) ?_
    refine lv_bipush (v := 10) hx hb dM_writeDigits_39 (by decide) ?_
    refine lv_irem hx hb dM_writeDigits_41 (by decide) ?_
    refine lv_topi (fun y9 e9 => ?_)
    cases (show y9 = nI (((pt / 10) / 10) % 10) from e9.trans (pk_rem (a := (pt / 10) / 10) (d := 10) (by omega) (by omega) (by omega)))
    refine lv_iadd hx hb dM_writeDigits_42 ?_
    refine lv_topi (fun y9 e9 => ?_)
    cases (show y9 = nI (48 + (((pt / 10) / 10) % 10)) from e9.trans (nI_add 48 (((pt / 10) / 10) % 10)))
    refine lv_i2b hx hb dM_writeDigits_43 rfl ?_
    refine lv_topi (fun y9 e9 => ?_)
    cases (show y9 = nI (48 + (((pt / 10) / 10) % 10)) from e9.trans (i2b_s _ (by omega)))
    refine lq_bast (j := 4 * q + 1 + 1) hx hb hK hP hD hS 2 2 rfl rfl rfl (by omega) (by omega) dM_writeDigits_44 (fun H locs hP hD hS => ?_)
    have hP : va_P D vwCl [(y, .inr (11, MO yr yi ysb ybs)), (yr 48, .inl (cT 2, 6000, .inl fo)), (yr 49, .inl (cT 2, 3000, .inl (upd (upd (upd gd (4 * q) (vp_nar .byte (nI (48 + (pt % 10))))) (4 * q + 1) (vp_nar .byte (nI (48 + ((pt / 10) % 10))))) (4 * q + 1 + 1) (vp_nar .byte (nI (48 + (((pt / 10) / 10) % 10))))))), (a, .inl (cT 0, 302, .inl f1u2))] _ := hP
    have hD : va_D A [(y, .inr (11, MO yr yi ysb ybs)), (yr 48, .inl (cT 2, 6000, .inl fo)), (yr 49, .inl (cT 2, 3000, .inl (upd (upd (upd gd (4 * q) (vp_nar .byte (nI (48 + (pt % 10))))) (4 * q + 1) (vp_nar .byte (nI (48 + ((pt / 10) % 10))))) (4 * q + 1 + 1) (vp_nar .byte (nI (48 + (((pt / 10) / 10) % 10))))))), (a, .inl (cT 0, 302, .inl f1u2))] := hD
    refine lv_iload_n hx hb dM_writeDigits_45 rfl (lv_at hl 2 rfl) ?_
    refine lv_bipush (v := 10) hx hb dM_writeDigits_46 (by decide) ?_
    refine lv_idiv hx hb dM_writeDigits_48 (by decide) ?_
    refine lv_topi (fun y9 e9 => ?_)
    cases (show y9 = nI (((pt / 10) / 10) / 10) from e9.trans (pk_div (a := (pt / 10) / 10) (d := 10) (by omega) (by omega) (by omega)))
    refine lv_istore_n hx hb dM_writeDigits_49 rfl hl (by decide) rfl (fun ls hl => ?_)
    have hl : lv_has ls 5 [(3, .int (nI (((pt / 10) / 10) / 10))), (4, .int 2), (2, .int (nI (4 * q + 1 + 1))), (0, .ref y), (1, .ref a)] := hl
    refine lv_iinc (k := 2) (v := nI (4 * q + 1 + 1 + 1)) hx hb dM_writeDigits_50 hl rfl (nI_1 (4 * q + 1 + 1)) (by decide) rfl (fun ls hl => ?_)
    have hl : lv_has ls 5 [(2, .int (nI (4 * q + 1 + 1 + 1))), (3, .int (nI (((pt / 10) / 10) / 10))), (4, .int 2), (0, .ref y), (1, .ref a)] := hl
    refine lv_iinc (k := 2) (v := 3) hx hb dM_writeDigits_53 hl rfl (by decide) (by decide) rfl (fun ls hl => ?_)
    have hl : lv_has ls 5 [(4, .int 3), (2, .int (nI (4 * q + 1 + 1 + 1))), (3, .int (nI (((pt / 10) / 10) / 10))), (0, .ref y), (1, .ref a)] := hl
    refine lv_goto (tgt := 25) hx hb dM_writeDigits_56 rfl ?_
    refine lv_iload hx hb dM_writeDigits_25 (lv_at hl 0 rfl) ?_
    refine lv_iconst (v := 4) hx hb dM_writeDigits_27 (by decide) ?_
    refine lv_icmp_ge (tgt := 59) hx hb dM_writeDigits_28 rfl (fun h6 => absurd h6 (by decide)) (fun _ => ?_)
    refine lv_aload_n hx hb dM_writeDigits_31 rfl (lv_at hl 3 rfl) ?_
    refine va_get (D := D) (ci := 11) (v := .ref (yr 49)) (C := R_M) (T := T_M) (N := 60) hx hb hT in_M hown hK hP 0 rfl rfl 49 (by decide) (hT _ w1153) (fun _ h9 => h9) rfl dM_writeDigits_32 ?_
    refine lv_iload_n hx hb dM_writeDigits_35 rfl (lv_at hl 1 rfl) ?_
    refine lv_bipush (v := 48) hx hb dM_writeDigits_36 (by decide) ?_
    refine lv_iload_n hx hb dM_writeDigits_38 rfl (lv_at hl 2 rfl) ?_
    refine lv_bipush (v := 10) hx hb dM_writeDigits_39 (by decide) ?_
    refine lv_irem hx hb dM_writeDigits_41 (by decide) ?_
    refine lv_topi (fun y9 e9 => ?_)
    cases (show y9 = nI ((((pt / 10) / 10) / 10) % 10) from e9.trans (pk_rem (a := ((pt / 10) / 10) / 10) (d := 10) (by omega) (by omega) (by omega)))
    refine lv_iadd hx hb dM_writeDigits_42 ?_
    refine lv_topi (fun y9 e9 => ?_)
    cases (show y9 = nI (48 + ((((pt / 10) / 10) / 10) % 10)) from e9.trans (nI_add 48 ((((pt / 10) / 10) / 10) % 10)))
    refine lv_i2b hx hb dM_writeDigits_43 rfl ?_
    refine lv_topi (fun y9 e9 => ?_)
    cases (show y9 = nI (48 + ((((pt / 10) / 10) / 10) % 10)) from e9.trans (i2b_s _ (by omega)))
    refine lq_bast (j := 4 * q + 1 + 1 + 1) hx hb hK hP hD hS 2 2 rfl rfl rfl (by omega) (by omega) dM_writeDigits_44 (fun H locs hP hD hS => ?_)
    have hP : va_P D vwCl [(y, .inr (11, MO yr yi ysb ybs)), (yr 48, .inl (cT 2, 6000, .inl fo)), (yr 49, .inl (cT 2, 3000, .inl (upd (upd (upd (upd gd (4 * q) (vp_nar .byte (nI (48 + (pt % 10))))) (4 * q + 1) (vp_nar .byte (nI (48 + ((pt / 10) % 10))))) (4 * q + 1 + 1) (vp_nar .byte (nI (48 + (((pt / 10) / 10) % 10))))) (4 * q + 1 + 1 + 1) (vp_nar .byte (nI (48 + ((((pt / 10) / 10) / 10) % 10))))))), (a, .inl (cT 0, 302, .inl f1u2))] _ := hP
    have hD : va_D A [(y, .inr (11, MO yr yi ysb ybs)), (yr 48, .inl (cT 2, 6000, .inl fo)), (yr 49, .inl (cT 2, 3000, .inl (upd (upd (upd (upd gd (4 * q) (vp_nar .byte (nI (48 + (pt % 10))))) (4 * q + 1) (vp_nar .byte (nI (48 + ((pt / 10) % 10))))) (4 * q + 1 + 1) (vp_nar .byte (nI (48 + (((pt / 10) / 10) % 10))))) (4 * q + 1 + 1 + 1) (vp_nar .byte (nI (48 + ((((pt / 10) / 10) / 10) % 10))))))), (a, .inl (cT 0, 302, .inl f1u2))] := hD
    refine lv_iload_n hx hb dM_writeDigits_45 rfl (lv_at hl 2 rfl) ?_
    refine lv_bipush (v := 10) hx hb dM_writeDigits_46 (by decide) ?_
    refine lv_idiv hx hb dM_writeDigits_48 (by decide) ?_
    refine lv_topi (fun y9 e9 => ?_)
    cases (show y9 = nI ((((pt / 10) / 10) / 10) / 10) from e9.trans (pk_div (a := ((pt / 10) / 10) / 10) (d := 10) (by omega) (by omega) (by omega)))
    refine lv_istore_n hx hb dM_writeDigits_49 rfl hl (by decide) rfl (fun ls hl => ?_)
    have hl : lv_has ls 5 [(3, .int (nI ((((pt / 10) / 10) / 10) / 10))), (4, .int 3), (2, .int (nI (4 * q + 1 + 1 + 1))), (0, .ref y), (1, .ref a)] := hl
    refine lv_iinc (k := 2) (v := nI (4 * q + 1 + 1 + 1 + 1)) hx hb dM_writeDigits_50 hl rfl (nI_1 (4 * q + 1 + 1 + 1)) (by decide) rfl (fun ls hl => ?_)
    have hl : lv_has ls 5 [(2, .int (nI (4 * q + 1 + 1 + 1 + 1))), (3, .int (nI ((((pt / 10) / 10) / 10) / 10))), (4, .int 3), (0, .ref y), (1, .ref a)] := hl
    refine lv_iinc (k := 2) (v := 4) hx hb dM_writeDigits_53 hl rfl (by decide) (by decide) rfl (fun ls hl => ?_)
    have hl : lv_has ls 5 [(4, .int 4), (2, .int (nI (4 * q + 1 + 1 + 1 + 1))), (3, .int (nI ((((pt / 10) / 10) / 10) / 10))), (0, .ref y), (1, .ref a)] := hl
    refine lv_goto (tgt := 25) hx hb dM_writeDigits_56 rfl ?_
    refine lv_iload hx hb dM_writeDigits_25 (lv_at hl 0 rfl) ?_
    refine lv_iconst (v := 4) hx hb dM_writeDigits_27 (by decide) ?_
    refine lv_icmp_ge (tgt := 59) hx hb dM_writeDigits_28 rfl (fun _ => ?_) (fun h7 => absurd (by decide) h7)
    refine lv_goto (tgt := 2) hx hb dM_writeDigits_59 rfl ?_
    exact ih2 (q + 1, zz.tdiv ((10000 : Nat) : Int), f1u2, upd (upd (upd (upd gd (4 * q) (vp_nar .byte (nI (48 + (pt % 10))))) (4 * q + 1) (vp_nar .byte (nI (48 + ((pt / 10) % 10))))) (4 * q + 1 + 1) (vp_nar .byte (nI (48 + (((pt / 10) / 10) % 10))))) (4 * q + 1 + 1 + 1) (vp_nar .byte (nI (48 + ((((pt / 10) / 10) / 10) % 10))))) (show MN f1u2 (zz.tdiv ((10000 : Nat) : Int)) ∧ (zz.tdiv ((10000 : Nat) : Int)).natAbs = v / 10000 ^ (q + 1) ∧ DGS (upd (upd (upd (upd gd (4 * q) (vp_nar .byte (nI (48 + (pt % 10))))) (4 * q + 1) (vp_nar .byte (nI (48 + ((pt / 10) % 10))))) (4 * q + 1 + 1) (vp_nar .byte (nI (48 + (((pt / 10) / 10) % 10))))) (4 * q + 1 + 1 + 1) (vp_nar .byte (nI (48 + ((((pt / 10) / 10) / 10) % 10))))) v (4 * (q + 1)) ∧ (q + 1) ≤ 600 from ⟨hdv.2, by rw [Int.natAbs_tdiv, iz]; show _ / 10000 = _; rw [huu, Nat.div_div_eq_div_mul, Nat.pow_succ], (by rw [show 4 * (q + 1) = 4 * q + 1 + 1 + 1 + 1 by omega]; exact dgs_s (dgs_s (dgs_s (dgs_s ig he0) he1) he2) he3), by omega⟩) (show (zz.tdiv ((10000 : Nat) : Int)).natAbs + (if (q + 1) = 0 then 1 else 0) < zz.natAbs + (if q = 0 then 1 else 0) from (by rw [Int.natAbs_tdiv]; show zz.natAbs / 10000 + (if q + 1 = 0 then 1 else 0) < _; rw [if_neg (by omega)]; by_cases r : q = 0; (rw [if_pos r]; omega); (rw [if_neg r]; have := hz9 r; omega))) ls H locs (lv_sub hl [3, 4, 1] rfl) hP hD hS
  · have gh1 : K ≤ 0 := Nat.not_lt.mp (fun q => h1 ((nI_ltI (a := 0) (b := K) (by omega) (by omega)).mpr q))
    refine lv_iload_n hx hb dM_writeDigits_10 rfl (lv_at hl 2 rfl) ?_
    refine lv_if_ne (tgt := 62) hx hb dM_writeDigits_11 rfl (fun h8 => ?_) (fun h8 => ?_)
    · have gh8 : ¬ (4 * q = 0) := fun q => h8 (congrArg nI q)
      have hq0 : 0 < q := by omega
      have hK0 : zz.natAbs = 0 := by rw [hva, show K = 0 by omega]; rfl
      have hvb : v < 10 ^ (4 * q) := by rw [hK0] at iz; rw [Nat.pow_mul]; rcases Nat.div_eq_zero_iff.mp iz.symm with r | r; (exact absurd r (by have := Nat.pow_pos (n := q) (show 0 < 10000 by decide); omega)); (exact r)
      refine lp_r (α := Nat) (fun a9 => 1 ≤ a9 ∧ a9 ≤ 4 * q ∧ v < 10 ^ a9) (fun a9 => a9) (fun a9 => [(0, .ref y), (2, .int (nI a9))]) 62 ?_ (4 * q) (show 1 ≤ (4 * q) ∧ (4 * q) ≤ 4 * q ∧ v < 10 ^ (4 * q) from ⟨by omega, Nat.le_refl _, hvb⟩) (lv_sub hl [0, 2] rfl)
      intro a9 hI62 ih62 ls hl
      obtain ⟨nn, rfl⟩ : ∃ q9, q9 = a9 := ⟨_, rfl⟩
      have hI62 : 1 ≤ nn ∧ nn ≤ 4 * q ∧ v < 10 ^ nn := hI62
      obtain ⟨j1, j2, j3⟩ := hI62
      have hl : lv_has ls 5 [(0, .ref y), (2, .int (nI nn))] := hl
      refine lv_iload_n hx hb dM_writeDigits_62 rfl (lv_at hl 1 rfl) ?_
      refine lv_iconst (v := 1) hx hb dM_writeDigits_63 (by decide) ?_
      refine lv_icmp_le (tgt := 86) hx hb dM_writeDigits_64 rfl (fun h9 => ?_) (fun h9 => ?_)
      · have gh9 : nn ≤ 1 := (nI_leI (a := nn) (b := 1) (by omega) (by omega)).mp h9
        have hng : NDG v nn := ndg_mk j1 j3 (Or.inl (by omega))
        refine lv_iload_n hx hb dM_writeDigits_86 rfl (lv_at hl 1 rfl) ?_
        refine lv_iconst (v := 1) hx hb dM_writeDigits_87 (by decide) ?_
        refine lv_isub hx hb dM_writeDigits_88 ?_
        refine lv_istore_n hx hb dM_writeDigits_89 rfl hl (by decide) rfl (fun ls hl => ?_)
        have hl : lv_has ls 5 [(3, .int ((nI nn) - 1)), (0, .ref y), (2, .int (nI nn))] := hl
        refine lp_w (α := Nat × (Nat → Int32) × (Nat → Int32)) (fun a9 => a9.1 ≤ nn ∧ a9.2.2 47 = nI (q0 + (nn - a9.1)) ∧ (∀ i, i < nn - a9.1 → a9.2.1 (q0 + i) = nI (48 + dgt v (nn - 1 - i))) ∧ (∀ i, i < q0 → a9.2.1 i = fo i) ∧ ∀ j, j ≠ 47 → a9.2.2 j = yi j) (fun a9 => a9.1) (fun a9 => [(0, .ref y), (3, .int (nI a9.1 - 1))]) (fun a9 => [(y, .inr (11, MO yr a9.2.2 ysb ybs)), (yr 48, .inl (cT 2, 6000, .inl a9.2.1)), (yr 49, .inl (cT 2, 3000, .inl gd)), (a, .inl (cT 0, 302, .inl f1))]) 90 ?_ (nn, fo, yi) (show nn ≤ nn ∧ yi 47 = nI (q0 + (nn - nn)) ∧ (∀ i, i < nn - nn → fo (q0 + i) = nI (48 + dgt v (nn - 1 - i))) ∧ (∀ i, i < q0 → fo i = fo i) ∧ ∀ j, j ≠ 47 → yi j = yi j from ⟨Nat.le_refl _, by rw [Nat.sub_self, Nat.add_zero]; exact hq0t, fun i h => absurd h (by omega), fun _ _ => rfl, fun _ _ => rfl⟩) (lv_sub hl [1, 0] rfl) hP hD hS
        intro a9 hI90 ih90 ls H locs hl hP hD hS
        obtain ⟨k, fo1, yi1⟩ := a9
        have hI90 : k ≤ nn ∧ yi1 47 = nI (q0 + (nn - k)) ∧ (∀ i, i < nn - k → fo1 (q0 + i) = nI (48 + dgt v (nn - 1 - i))) ∧ (∀ i, i < q0 → fo1 i = fo i) ∧ ∀ j, j ≠ 47 → yi1 j = yi j := hI90
        obtain ⟨kk, ky, kg, ko, kz⟩ := hI90
        have hl : lv_has ls 5 [(0, .ref y), (3, .int (nI k - 1))] := hl
        have hP : va_P D vwCl [(y, .inr (11, MO yr yi1 ysb ybs)), (yr 48, .inl (cT 2, 6000, .inl fo1)), (yr 49, .inl (cT 2, 3000, .inl gd)), (a, .inl (cT 0, 302, .inl f1))] _ := hP
        have hD : va_D A [(y, .inr (11, MO yr yi1 ysb ybs)), (yr 48, .inl (cT 2, 6000, .inl fo1)), (yr 49, .inl (cT 2, 3000, .inl gd)), (a, .inl (cT 0, 302, .inl f1))] := hD
        refine lv_iload_n hx hb dM_writeDigits_90 rfl (lv_at hl 1 rfl) ?_
        refine lv_if_lt (tgt := 125) hx hb dM_writeDigits_91 rfl (fun h10 => ?_) (fun h10 => ?_)
        · have gh10 : k = 0 := (dn_lt (by omega)).mp h10
          have hP9 := hP.sub (ws' := [(y, .inr (11, MO yr yi1 ysb ybs)), (yr 48, .inl (cT 2, 6000, .inl fo1)), (yr 49, .inl (cT 2, 3000, .inl gd)), (a, .inl (cT 0, 302, .inl f1))]) [0, 1, 2, 3] rfl
          have hD9 := hD.sub (ws' := [(y, .inr (11, MO yr yi1 ysb ybs)), (yr 48, .inl (cT 2, 6000, .inl fo1)), (yr 49, .inl (cT 2, 3000, .inl gd)), (a, .inl (cT 0, 302, .inl f1))]) [0, 1, 2, 3] (by decide) rfl
          refine W.widen (k := 0) (n := 0) (Nat.le_of_ble_eq_true rfl) (Nat.le_of_ble_eq_true rfl) ?_
          exact W.vret hx hb hr (fun t9 ht9 hW9 => ⟨⟨(nn, fo1, gd, f1, yi1), rfl, (show NDG z.natAbs nn ∧ yi1 47 = nI (q0 + nn) ∧ (∀ i8, i8 < nn → fo1 (q0 + i8) = nI (48 + dgt z.natAbs (nn - 1 - i8))) ∧ (∀ i8, i8 < q0 → fo1 i8 = fo i8) ∧ ∀ j8, j8 ≠ 47 → yi1 j8 = yi j8 from (by have k0 : k = 0 := (by omega); rw [k0, Nat.sub_zero] at ky kg; rw [← hv]; exact ⟨hng, ky, kg, ko, kz⟩)), by rw [ht9]; exact hP9, hD9⟩, hS.F ht9⟩) hS.2.2 dM_writeDigits_125
        · have gh10 : 0 < k := Nat.pos_of_ne_zero (fun q => h10 ((dn_lt (by omega)).mpr q))
          have hgk := ig (k - 1) (by omega)
          have hdl2 := dgt_lt (v := v) (j := k - 1)
          refine lv_aload_n hx hb dM_writeDigits_94 rfl (lv_at hl 0 rfl) ?_
          refine va_get (D := D) (ci := 11) (v := .ref (yr 48)) (C := R_M) (T := T_M) (N := 60) hx hb hT in_M hown hK hP 0 rfl rfl 48 (by decide) (hT _ w1152) (fun _ h9 => h9) rfl dM_writeDigits_95 ?_
          refine lv_aload_n hx hb dM_writeDigits_98 rfl (lv_at hl 0 rfl) ?_
          refine va_get (D := D) (ci := 11) (v := .int (yi1 47)) (C := R_M) (T := T_M) (N := 60) hx hb hT in_M hown hK hP 0 rfl rfl 47 (by decide) (hT _ w1151) (fun _ h9 => h9) rfl dM_writeDigits_99 ?_
          refine lv_topi (fun y9 e9 => ?_)
          cases (show y9 = nI (q0 + (nn - k)) from e9.trans ky)
          refine lv_aload_n hx hb dM_writeDigits_102 rfl (lv_at hl 0 rfl) ?_
          refine va_get (D := D) (ci := 11) (v := .ref (yr 49)) (C := R_M) (T := T_M) (N := 60) hx hb hT in_M hown hK hP 0 rfl rfl 49 (by decide) (hT _ w1153) (fun _ h9 => h9) rfl dM_writeDigits_103 ?_
          refine lv_iload_n hx hb dM_writeDigits_106 rfl (lv_at hl 1 rfl) ?_
          refine lq_bald (j := k - 1) hx hb hK hP 2 2 rfl rfl (nI_sub1 (by omega)) (by omega) (by decide) dM_writeDigits_107 ?_
          refine lv_topi (fun y9 e9 => ?_)
          cases (show y9 = nI (48 + dgt v (k - 1)) from e9.trans hgk)
          refine lq_bast (j := q0 + (nn - k)) hx hb hK hP hD hS 1 2 rfl rfl rfl (by omega) (by omega) dM_writeDigits_108 (fun H locs hP hD hS => ?_)
          have hP : va_P D vwCl [(y, .inr (11, MO yr yi1 ysb ybs)), (yr 48, .inl (cT 2, 6000, .inl (upd fo1 (q0 + (nn - k)) (vp_nar .byte (nI (48 + dgt v (k - 1))))))), (yr 49, .inl (cT 2, 3000, .inl gd)), (a, .inl (cT 0, 302, .inl f1))] _ := hP
          have hD : va_D A [(y, .inr (11, MO yr yi1 ysb ybs)), (yr 48, .inl (cT 2, 6000, .inl (upd fo1 (q0 + (nn - k)) (vp_nar .byte (nI (48 + dgt v (k - 1))))))), (yr 49, .inl (cT 2, 3000, .inl gd)), (a, .inl (cT 0, 302, .inl f1))] := hD
          refine lv_aload_n hx hb dM_writeDigits_109 rfl (lv_at hl 0 rfl) ?_
          refine lv_dup hx hb dM_writeDigits_110 rfl ?_
          refine va_get (D := D) (ci := 11) (v := .int (yi1 47)) (C := R_M) (T := T_M) (N := 60) hx hb hT in_M hown hK hP 0 rfl rfl 47 (by decide) (hT _ w1151) (fun _ h9 => h9) rfl dM_writeDigits_111 ?_
          refine lv_topi (fun y9 e9 => ?_)
          cases (show y9 = nI (q0 + (nn - k)) from e9.trans ky)
          refine lv_iconst (v := 1) hx hb dM_writeDigits_114 (by decide) ?_
          refine lv_iadd hx hb dM_writeDigits_115 ?_
          refine lv_topi (fun y9 e9 => ?_)
          cases (show y9 = nI ((q0 + (nn - k)) + 1) from e9.trans (nI_add (q0 + (nn - k)) 1))
          refine va_put (D := D) (ci := 11) (v := .int (nI ((q0 + (nn - k)) + 1))) (ty := .int) (C := R_M) (T := T_M) (N := 60) hx hb hT in_M ty_M ty_M_ok m_M hown hK hP hD hS 0 rfl rfl 47 (by decide) (hT _ w1151) (fun _ h9 => h9) rfl (by decide +kernel) rfl rfl (Nat.le_of_ble_eq_true rfl) dM_writeDigits_116 (fun H locs hP hD hS => ?_)
          have hP : va_P D vwCl [(y, .inr (11, MO yr (va_up yi1 47 (nI ((q0 + (nn - k)) + 1))) ysb ybs)), (yr 48, .inl (cT 2, 6000, .inl (upd fo1 (q0 + (nn - k)) (vp_nar .byte (nI (48 + dgt v (k - 1))))))), (yr 49, .inl (cT 2, 3000, .inl gd)), (a, .inl (cT 0, 302, .inl f1))] _ := hP
          have hD : va_D A [(y, .inr (11, MO yr (va_up yi1 47 (nI ((q0 + (nn - k)) + 1))) ysb ybs)), (yr 48, .inl (cT 2, 6000, .inl (upd fo1 (q0 + (nn - k)) (vp_nar .byte (nI (48 + dgt v (k - 1))))))), (yr 49, .inl (cT 2, 3000, .inl gd)), (a, .inl (cT 0, 302, .inl f1))] := hD
          refine lv_iinc (k := 1) (v := nI (k - 1) - 1) hx hb dM_writeDigits_119 hl rfl (dn_m1 (by omega)) (by decide) rfl (fun ls hl => ?_)
          have hl : lv_has ls 5 [(3, .int (nI (k - 1) - 1)), (0, .ref y)] := hl
          refine lv_goto (tgt := 90) hx hb dM_writeDigits_122 rfl ?_
          exact ih90 (k - 1, upd fo1 (q0 + (nn - k)) (vp_nar .byte (nI (48 + dgt v (k - 1)))), va_up yi1 47 (nI ((q0 + (nn - k)) + 1))) (show (k - 1) ≤ nn ∧ (va_up yi1 47 (nI ((q0 + (nn - k)) + 1))) 47 = nI (q0 + (nn - (k - 1))) ∧ (∀ i, i < nn - (k - 1) → (upd fo1 (q0 + (nn - k)) (vp_nar .byte (nI (48 + dgt v (k - 1))))) (q0 + i) = nI (48 + dgt v (nn - 1 - i))) ∧ (∀ i, i < q0 → (upd fo1 (q0 + (nn - k)) (vp_nar .byte (nI (48 + dgt v (k - 1))))) i = fo i) ∧ ∀ j, j ≠ 47 → (va_up yi1 47 (nI ((q0 + (nn - k)) + 1))) j = yi j from ⟨by omega, by rw [va_up_self, show nn - (k - 1) = nn - k + 1 by omega, Nat.add_assoc], fun i h => (by by_cases r : i = nn - k; (subst r; rw [pk_us, nar_b (by omega), show nn - 1 - (nn - k) = k - 1 by omega]); (rw [pk_un (by omega)]; exact kg i (by omega))), fun i h => (pk_un (by omega)).trans (ko i h), fun j h => (va_up_ne _ _ h).trans (kz j h)⟩) (show (k - 1) < k from (by omega)) ls H locs (lv_sub hl [1, 0] rfl) hP hD hS
      · have gh9 : 1 < nn := Nat.not_le.mp (fun q => h9 ((nI_leI (a := nn) (b := 1) (by omega) (by omega)).mpr q))
        have hgn := ig (nn - 1) (by omega)
        have hdl := dgt_lt (v := v) (j := nn - 1)
        refine lv_aload_n hx hb dM_writeDigits_67 rfl (lv_at hl 0 rfl) ?_
        refine va_get (D := D) (ci := 11) (v := .ref (yr 49)) (C := R_M) (T := T_M) (N := 60) hx hb hT in_M hown hK hP 0 rfl rfl 49 (by decide) (hT _ w1153) (fun _ h9 => h9) rfl dM_writeDigits_68 ?_
        refine lv_iload_n hx hb dM_writeDigits_71 rfl (lv_at hl 1 rfl) ?_
        refine lv_iconst (v := 1) hx hb dM_writeDigits_72 (by decide) ?_
        refine lv_isub hx hb dM_writeDigits_73 ?_
        refine lv_topi (fun y9 e9 => ?_)
        cases (show y9 = nI (nn - 1) from e9.trans (pk_sub (a := nn) (b := 1) (by omega)))
        refine lq_bald (j := nn - 1) hx hb hK hP 2 2 rfl rfl rfl (by omega) (by omega) dM_writeDigits_74 ?_
        refine lv_topi (fun y9 e9 => ?_)
        cases (show y9 = nI (48 + dgt v (nn - 1)) from e9.trans hgn)
        refine lv_bipush (v := 48) hx hb dM_writeDigits_75 (by decide) ?_
        refine lv_icmp_ne (tgt := 86) hx hb dM_writeDigits_77 rfl (fun h11 => ?_) (fun h11 => ?_)
        · have gh11 : ¬ (48 + dgt v (nn - 1) = 48) := fun q => h11 (congrArg nI q)
          have hng : NDG v nn := ndg_mk j1 j3 (Or.inr (by omega))
          refine lv_iload_n hx hb dM_writeDigits_86 rfl (lv_at hl 1 rfl) ?_
          refine lv_iconst (v := 1) hx hb dM_writeDigits_87 (by decide) ?_
          refine lv_isub hx hb dM_writeDigits_88 ?_
          refine lv_istore_n hx hb dM_writeDigits_89 rfl hl (by decide) rfl (fun ls hl => ?_)
          have hl : lv_has ls 5 [(3, .int ((nI nn) - 1)), (0, .ref y), (2, .int (nI nn))] := hl
          refine lp_w (α := Nat × (Nat → Int32) × (Nat → Int32)) (fun a9 => a9.1 ≤ nn ∧ a9.2.2 47 = nI (q0 + (nn - a9.1)) ∧ (∀ i, i < nn - a9.1 → a9.2.1 (q0 + i) = nI (48 + dgt v (nn - 1 - i))) ∧ (∀ i, i < q0 → a9.2.1 i = fo i) ∧ ∀ j, j ≠ 47 → a9.2.2 j = yi j) (fun a9 => a9.1) (fun a9 => [(0, .ref y), (3, .int (nI a9.1 - 1))]) (fun a9 => [(y, .inr (11, MO yr a9.2.2 ysb ybs)), (yr 48, .inl (cT 2, 6000, .inl a9.2.1)), (yr 49, .inl (cT 2, 3000, .inl gd)), (a, .inl (cT 0, 302, .inl f1))]) 90 ?_ (nn, fo, yi) (show nn ≤ nn ∧ yi 47 = nI (q0 + (nn - nn)) ∧ (∀ i, i < nn - nn → fo (q0 + i) = nI (48 + dgt v (nn - 1 - i))) ∧ (∀ i, i < q0 → fo i = fo i) ∧ ∀ j, j ≠ 47 → yi j = yi j from ⟨Nat.le_refl _, by rw [Nat.sub_self, Nat.add_zero]; exact hq0t, fun i h => absurd h (by omega), fun _ _ => rfl, fun _ _ => rfl⟩) (lv_sub hl [1, 0] rfl) hP hD hS
          intro a9 hI90 ih90 ls H locs hl hP hD hS
          obtain ⟨k, fo1, yi1⟩ := a9
          have hI90 : k ≤ nn ∧ yi1 47 = nI (q0 + (nn - k)) ∧ (∀ i, i < nn - k → fo1 (q0 + i) = nI (48 + dgt v (nn - 1 - i))) ∧ (∀ i, i < q0 → fo1 i = fo i) ∧ ∀ j, j ≠ 47 → yi1 j = yi j := hI90
          obtain ⟨kk, ky, kg, ko, kz⟩ := hI90
          have hl : lv_has ls 5 [(0, .ref y), (3, .int (nI k - 1))] := hl
          have hP : va_P D vwCl [(y, .inr (11, MO yr yi1 ysb ybs)), (yr 48, .inl (cT 2, 6000, .inl fo1)), (yr 49, .inl (cT 2, 3000, .inl gd)), (a, .inl (cT 0, 302, .inl f1))] _ := hP
          have hD : va_D A [(y, .inr (11, MO yr yi1 ysb ybs)), (yr 48, .inl (cT 2, 6000, .inl fo1)), (yr 49, .inl (cT 2, 3000, .inl gd)), (a, .inl (cT 0, 302, .inl f1))] := hD
          refine lv_iload_n hx hb dM_writeDigits_90 rfl (lv_at hl 1 rfl) ?_
          refine lv_if_lt (tgt := 125) hx hb dM_writeDigits_91 rfl (fun h12 => ?_) (fun h12 => ?_)
          · have gh12 : k = 0 := (dn_lt (by omega)).mp h12
            have hP9 := hP.sub (ws' := [(y, .inr (11, MO yr yi1 ysb ybs)), (yr 48, .inl (cT 2, 6000, .inl fo1)), (yr 49, .inl (cT 2, 3000, .inl gd)), (a, .inl (cT 0, 302, .inl f1))]) [0, 1, 2, 3] rfl
            have hD9 := hD.sub (ws' := [(y, .inr (11, MO yr yi1 ysb ybs)), (yr 48, .inl (cT 2, 6000, .inl fo1)), (yr 49, .inl (cT 2, 3000, .inl gd)), (a, .inl (cT 0, 302, .inl f1))]) [0, 1, 2, 3] (by decide) rfl
            refine W.widen (k := 0) (n := 0) (Nat.le_of_ble_eq_true rfl) (Nat.le_of_ble_eq_true rfl) ?_
            exact W.vret hx hb hr (fun t9 ht9 hW9 => ⟨⟨(nn, fo1, gd, f1, yi1), rfl, (show NDG z.natAbs nn ∧ yi1 47 = nI (q0 + nn) ∧ (∀ i8, i8 < nn → fo1 (q0 + i8) = nI (48 + dgt z.natAbs (nn - 1 - i8))) ∧ (∀ i8, i8 < q0 → fo1 i8 = fo i8) ∧ ∀ j8, j8 ≠ 47 → yi1 j8 = yi j8 from (by have k0 : k = 0 := (by omega); rw [k0, Nat.sub_zero] at ky kg; rw [← hv]; exact ⟨hng, ky, kg, ko, kz⟩)), by rw [ht9]; exact hP9, hD9⟩, hS.F ht9⟩) hS.2.2 dM_writeDigits_125
          · have gh12 : 0 < k := Nat.pos_of_ne_zero (fun q => h12 ((dn_lt (by omega)).mpr q))
            have hgk := ig (k - 1) (by omega)
            have hdl2 := dgt_lt (v := v) (j := k - 1)
            refine lv_aload_n hx hb dM_writeDigits_94 rfl (lv_at hl 0 rfl) ?_
            refine va_get (D := D) (ci := 11) (v := .ref (yr 48)) (C := R_M) (T := T_M) (N := 60) hx hb hT in_M hown hK hP 0 rfl rfl 48 (by decide) (hT _ w1152) (fun _ h9 => h9) rfl dM_writeDigits_95 ?_
            refine lv_aload_n hx hb dM_writeDigits_98 rfl (lv_at hl 0 rfl) ?_
            refine va_get (D := D) (ci := 11) (v := .int (yi1 47)) (C := R_M) (T := T_M) (N := 60) hx hb hT in_M hown hK hP 0 rfl rfl 47 (by decide) (hT _ w1151) (fun _ h9 => h9) rfl dM_writeDigits_99 ?_
            refine lv_topi (fun y9 e9 => ?_)
            cases (show y9 = nI (q0 + (nn - k)) from e9.trans ky)
            refine lv_aload_n hx hb dM_writeDigits_102 rfl (lv_at hl 0 rfl) ?_
            refine va_get (D := D) (ci := 11) (v := .ref (yr 49)) (C := R_M) (T := T_M) (N := 60) hx hb hT in_M hown hK hP 0 rfl rfl 49 (by decide) (hT _ w1153) (fun _ h9 => h9) rfl dM_writeDigits_103 ?_
            refine lv_iload_n hx hb dM_writeDigits_106 rfl (lv_at hl 1 rfl) ?_
            refine lq_bald (j := k - 1) hx hb hK hP 2 2 rfl rfl (nI_sub1 (by omega)) (by omega) (by decide) dM_writeDigits_107 ?_
            refine lv_topi (fun y9 e9 => ?_)
            cases (show y9 = nI (48 + dgt v (k - 1)) from e9.trans hgk)
            refine lq_bast (j := q0 + (nn - k)) hx hb hK hP hD hS 1 2 rfl rfl rfl (by omega) (by omega) dM_writeDigits_108 (fun H locs hP hD hS => ?_)
            have hP : va_P D vwCl [(y, .inr (11, MO yr yi1 ysb ybs)), (yr 48, .inl (cT 2, 6000, .inl (upd fo1 (q0 + (nn - k)) (vp_nar .byte (nI (48 + dgt v (k - 1))))))), (yr 49, .inl (cT 2, 3000, .inl gd)), (a, .inl (cT 0, 302, .inl f1))] _ := hP
            have hD : va_D A [(y, .inr (11, MO yr yi1 ysb ybs)), (yr 48, .inl (cT 2, 6000, .inl (upd fo1 (q0 + (nn - k)) (vp_nar .byte (nI (48 + dgt v (k - 1))))))), (yr 49, .inl (cT 2, 3000, .inl gd)), (a, .inl (cT 0, 302, .inl f1))] := hD
            refine lv_aload_n hx hb dM_writeDigits_109 rfl (lv_at hl 0 rfl) ?_
            refine lv_dup hx hb dM_writeDigits_110 rfl ?_
            refine va_get (D := D) (ci := 11) (v := .int (yi1 47)) (C := R_M) (T := T_M) (N := 60) hx hb hT in_M hown hK hP 0 rfl rfl 47 (by decide) (hT _ w1151) (fun _ h9 => h9) rfl dM_writeDigits_111 ?_
            refine lv_topi (fun y9 e9 => ?_)
            cases (show y9 = nI (q0 + (nn - k)) from e9.trans ky)
            refine lv_iconst (v := 1) hx hb dM_writeDigits_114 (by decide) ?_
            refine lv_iadd hx hb dM_writeDigits_115 ?_
            refine lv_topi (fun y9 e9 => ?_)
            cases (show y9 = nI ((q0 + (nn - k)) + 1) from e9.trans (nI_add (q0 + (nn - k)) 1))
            refine va_put (D := D) (ci := 11) (v := .int (nI ((q0 + (nn - k)) + 1))) (ty := .int) (C := R_M) (T := T_M) (N := 60) hx hb hT in_M ty_M ty_M_ok m_M hown hK hP hD hS 0 rfl rfl 47 (by decide) (hT _ w1151) (fun _ h9 => h9) rfl (by decide +kernel) rfl rfl (Nat.le_of_ble_eq_true rfl) dM_writeDigits_116 (fun H locs hP hD hS => ?_)
            have hP : va_P D vwCl [(y, .inr (11, MO yr (va_up yi1 47 (nI ((q0 + (nn - k)) + 1))) ysb ybs)), (yr 48, .inl (cT 2, 6000, .inl (upd fo1 (q0 + (nn - k)) (vp_nar .byte (nI (48 + dgt v (k - 1))))))), (yr 49, .inl (cT 2, 3000, .inl gd)), (a, .inl (cT 0, 302, .inl f1))] _ := hP
            have hD : va_D A [(y, .inr (11, MO yr (va_up yi1 47 (nI ((q0 + (nn - k)) + 1))) ysb ybs)), (yr 48, .inl (cT 2, 6000, .inl (upd fo1 (q0 + (nn - k)) (vp_nar .byte (nI (48 + dgt v (k - 1))))))), (yr 49, .inl (cT 2, 3000, .inl gd)), (a, .inl (cT 0, 302, .inl f1))] := hD
            refine lv_iinc (k := 1) (v := nI (k - 1) - 1) hx hb dM_writeDigits_119 hl rfl (dn_m1 (by omega)) (by decide) rfl (fun ls hl => ?_)
            have hl : lv_has ls 5 [(3, .int (nI (k - 1) - 1)), (0, .ref y)] := hl
            refine lv_goto (tgt := 90) hx hb dM_writeDigits_122 rfl ?_
            exact ih90 (k - 1, upd fo1 (q0 + (nn - k)) (vp_nar .byte (nI (48 + dgt v (k - 1)))), va_up yi1 47 (nI ((q0 + (nn - k)) + 1))) (show (k - 1) ≤ nn ∧ (va_up yi1 47 (nI ((q0 + (nn - k)) + 1))) 47 = nI (q0 + (nn - (k - 1))) ∧ (∀ i, i < nn - (k - 1) → (upd fo1 (q0 + (nn - k)) (vp_nar .byte (nI (48 + dgt v (k - 1))))) (q0 + i) = nI (48 + dgt v (nn - 1 - i))) ∧ (∀ i, i < q0 → (upd fo1 (q0 + (nn - k)) (vp_nar .byte (nI (48 + dgt v (k - 1))))) i = fo i) ∧ ∀ j, j ≠ 47 → (va_up yi1 47 (nI ((q0 + (nn - k)) + 1))) j = yi j from ⟨by omega, by rw [va_up_self, show nn - (k - 1) = nn - k + 1 by omega, Nat.add_assoc], fun i h => (by by_cases r : i = nn - k; (subst r; rw [pk_us, nar_b (by omega), show nn - 1 - (nn - k) = k - 1 by omega]); (rw [pk_un (by omega)]; exact kg i (by omega))), fun i h => (pk_un (by omega)).trans (ko i h), fun j h => (va_up_ne _ _ h).trans (kz j h)⟩) (show (k - 1) < k from (by omega)) ls H locs (lv_sub hl [1, 0] rfl) hP hD hS
        · have gh11 : 48 + dgt v (nn - 1) = 48 := (nI_eq (a := 48 + dgt v (nn - 1)) (b := 48) (by omega) (by omega)).mp h11
          refine lv_iinc (k := 1) (v := nI (nn - 1)) hx hb dM_writeDigits_80 hl rfl (sb_m1 (by omega)) (by decide) rfl (fun ls hl => ?_)
          have hl : lv_has ls 5 [(2, .int (nI (nn - 1))), (0, .ref y)] := hl
          refine lv_goto (tgt := 62) hx hb dM_writeDigits_83 rfl ?_
          exact ih62 (nn - 1) (show 1 ≤ (nn - 1) ∧ (nn - 1) ≤ 4 * q ∧ v < 10 ^ (nn - 1) from ⟨by omega, by omega, dgt_cut j1 j3 (by omega)⟩) (show (nn - 1) < nn from (by omega)) ls (lv_sub hl [1, 0] rfl)
    · have gh8 : 4 * q = 0 := (nI_eq (a := 4 * q) (b := 0) (by omega) (by omega)).mp h8
      have hz9 : ¬ q = 0 → 0 < zz.natAbs := fun r => by omega
      have hq5 : q < 539 := by
        rcases Nat.eq_zero_or_pos q with r | r
        · omega
        · refine q_b hfit ?_
          have h1 := hz9 (by omega); rw [iz] at h1
          rcases Nat.lt_or_ge z.natAbs (10000 ^ q) with r2 | r2
          · rw [hv, Nat.div_eq_of_lt r2] at h1; omega
          · exact r2
      refine lv_aload_n hx hb dM_writeDigits_14 rfl (lv_at hl 1 rfl) ?_
      refine lv_sipush (v := 10000) hx hb dM_writeDigits_15 (by decide) ?_
      refine rw_i (wc := [(a, .inl (cT 0, 302, .inl f1))]) (wr := [(y, .inr (11, MO yr yi ysb ybs)), (yr 48, .inl (cT 2, 6000, .inl fo)), (yr 49, .inl (cT 2, 3000, .inl gd))]) hP hD hS hA [3] [0, 1, 2] rfl rfl (by decide) (by decide) (va_runS (As := [.ref a, .int 10000]) (rest := []) ⟨hx, hb, hml, hown, hT⟩ (m_divide l D cT a f1 zz 10000 iN2 (by decide) (by decide) _) ⟨callB_of 2 hT (tb_gd w1446) rfl rfl rfl (hT _ w13) (hT _ w1444) hM_divide ⟨Nat.le_of_ble_eq_true rfl, Nat.le_of_ble_eq_true rfl⟩, (hT _ w1445)⟩ (RW.preS hZ hS (va_free (wc := [(a, .inl (cT 0, 302, .inl f1))]) hD hS hA [3] rfl) (hP.sub (ws' := [(a, .inl (cT 0, 302, .inl f1))]) [3] rfl) hK (hD.sub (ws' := [(a, .inl (cT 0, 302, .inl f1))]) [3] (by decide) rfl)) rfl rfl hl.1 rfl (lv_room (Nat.le_of_ble_eq_true rfl)) dM_writeDigits_18 ⟨Nat.le_of_ble_eq_true rfl, Nat.le_of_ble_eq_true rfl⟩) (fun ru13 u9 H locs hpu13 hP hD hS => ?_)
      obtain ⟨f1u13, rfl⟩ : ∃ q9, q9 = u9 := ⟨_, rfl⟩
      have hpu13 : ru13 = nI (zz.natAbs % 10000) ∧ MN f1u13 (zz.tdiv 10000) := hpu13
      have hP : va_P D vwCl [(y, .inr (11, MO yr yi ysb ybs)), (yr 48, .inl (cT 2, 6000, .inl fo)), (yr 49, .inl (cT 2, 3000, .inl gd)), (a, .inl (cT 0, 302, .inl f1u13))] _ := hP
      have hD : va_D A [(y, .inr (11, MO yr yi ysb ybs)), (yr 48, .inl (cT 2, 6000, .inl fo)), (yr 49, .inl (cT 2, 3000, .inl gd)), (a, .inl (cT 0, 302, .inl f1u13))] := hD
      have hdv := hpu13
      obtain ⟨pt, hpt⟩ : ∃ q9 : Nat, q9 = zz.natAbs % 10000 := ⟨_, rfl⟩
      rw [← hpt] at hdv
      have hptb : pt < 10000 := by omega
      obtain ⟨uu, huu⟩ : ∃ q9 : Nat, q9 = v / 10000 ^ q := ⟨_, rfl⟩
      rw [← huu] at iz
      have he0 : pt % 10 = dgt v (4 * q) := by rw [show 4 * q = 4 * q + 0 by omega, dgt_q huu 0]; omega
      have he1 : pt / 10 % 10 = dgt v (4 * q + 1) := by rw [show 4 * q + 1 = 4 * q + 1 by omega, dgt_q huu 1]; omega
      have he2 : pt / 10 / 10 % 10 = dgt v (4 * q + 1 + 1) := by rw [show 4 * q + 1 + 1 = 4 * q + 2 by omega, dgt_q huu 2]; omega
      have he3 : pt / 10 / 10 / 10 % 10 = dgt v (4 * q + 1 + 1 + 1) := by rw [show 4 * q + 1 + 1 + 1 = 4 * q + 3 by omega, dgt_q huu 3]; omega
      refine lv_topi (fun y9 e9 => ?_)
      cases (show y9 = nI pt from e9.trans hdv.1)
      refine lv_istore_n hx hb dM_writeDigits_21 rfl hl (by decide) rfl (fun ls hl => ?_)
      have hl : lv_has ls 5 [(3, .int (nI pt)), (0, .ref y), (1, .ref a), (2, .int (nI (4 * q)))] := hl
      refine lv_iconst (v := 0) hx hb dM_writeDigits_22 (by decide) ?_
      refine lv_istore hx hb dM_writeDigits_23 hl (by decide) rfl (fun ls hl => ?_)
      have hl : lv_has ls 5 [(4, .int 0), (3, .int (nI pt)), (0, .ref y), (1, .ref a), (2, .int (nI (4 * q)))] := hl
      refine lv_iload hx hb dM_writeDigits_25 (lv_at hl 0 rfl) ?_
      refine lv_iconst (v := 4) hx hb dM_writeDigits_27 (by decide) ?_
      refine lv_icmp_ge (tgt := 59) hx hb dM_writeDigits_28 rfl (fun h14 => absurd h14 (by decide)) (fun _ => ?_)
      refine lv_aload_n hx hb dM_writeDigits_31 rfl (lv_at hl 2 rfl) ?_
      refine va_get (D := D) (ci := 11) (v := .ref (yr 49)) (C := R_M) (T := T_M) (N := 60) hx hb hT in_M hown hK hP 0 rfl rfl 49 (by decide) (hT _ w1153) (fun _ h9 => h9) rfl dM_writeDigits_32 ?_
      refine lv_iload_n hx hb dM_writeDigits_35 rfl (lv_at hl 4 rfl) ?_
      refine lv_bipush (v := 48) hx hb dM_writeDigits_36 (by decide) ?_
      refine lv_iload_n hx hb dM_writeDigits_38 rfl (lv_at hl 1 rfl) ?_
      refine lv_bipush (v := 10) hx hb dM_writeDigits_39 (by decide) ?_
      refine lv_irem hx hb dM_writeDigits_41 (by decide) ?_
      refine lv_topi (fun y9 e9 => ?_)
      cases (show y9 = nI (pt % 10) from e9.trans (pk_rem (a := pt) (d := 10) (by omega) (by omega) (by omega)))
      refine lv_iadd hx hb dM_writeDigits_42 ?_
      refine lv_topi (fun y9 e9 => ?_)
      cases (show y9 = nI (48 + (pt % 10)) from e9.trans (nI_add 48 (pt % 10)))
      refine lv_i2b hx hb dM_writeDigits_43 rfl ?_
      refine lv_topi (fun y9 e9 => ?_)
      cases (show y9 = nI (48 + (pt % 10)) from e9.trans (i2b_s _ (by omega)))
      refine lq_bast (j := 4 * q) hx hb hK hP hD hS 2 2 rfl rfl rfl (by omega) (by omega) dM_writeDigits_44 (fun H locs hP hD hS => ?_)
      have hP : va_P D vwCl [(y, .inr (11, MO yr yi ysb ybs)), (yr 48, .inl (cT 2, 6000, .inl fo)), (yr 49, .inl (cT 2, 3000, .inl (upd gd (4 * q) (vp_nar .byte (nI (48 + (pt % 10))))))), (a, .inl (cT 0, 302, .inl f1u13))] _ := hP
      have hD : va_D A [(y, .inr (11, MO yr yi ysb ybs)), (yr 48, .inl (cT 2, 6000, .inl fo)), (yr 49, .inl (cT 2, 3000, .inl (upd gd (4 * q) (vp_nar .byte (nI (48 + (pt % 10))))))), (a, .inl (cT 0, 302, .inl f1u13))] := hD
      refine lv_iload_n hx hb dM_writeDigits_45 rfl (lv_at hl 1 rfl) ?_
      refine lv_bipush (v := 10) hx hb dM_writeDigits_46 (by decide) ?_
      refine lv_idiv hx hb dM_writeDigits_48 (by decide) ?_
      refine lv_topi (fun y9 e9 => ?_)
      cases (show y9 = nI (pt / 10) from e9.trans (pk_div (a := pt) (d := 10) (by omega) (by omega) (by omega)))
      refine lv_istore_n hx hb dM_writeDigits_49 rfl hl (by decide) rfl (fun ls hl => ?_)
      have hl : lv_has ls 5 [(3, .int (nI (pt / 10))), (4, .int 0), (0, .ref y), (1, .ref a), (2, .int (nI (4 * q)))] := hl
      refine lv_iinc (k := 4) (v := nI (4 * q + 1)) hx hb dM_writeDigits_50 hl rfl (nI_1 (4 * q)) (by decide) rfl (fun ls hl => ?_)
      have hl : lv_has ls 5 [(2, .int (nI (4 * q + 1))), (3, .int (nI (pt / 10))), (4, .int 0), (0, .ref y), (1, .ref a)] := hl
      refine lv_iinc (k := 2) (v := 1) hx hb dM_writeDigits_53 hl rfl (by decide) (by decide) rfl (fun ls hl => ?_)
      have hl : lv_has ls 5 [(4, .int 1), (2, .int (nI (4 * q + 1))), (3, .int (nI (pt / 10))), (0, .ref y), (1, .ref a)] := hl
      refine lv_goto (tgt := 25) hx hb dM_writeDigits_56 rfl ?_
      refine lv_iload hx hb dM_writeDigits_25 (lv_at hl 0 rfl) ?_
      refine lv_iconst (v := 4) hx hb dM_writeDigits_27 (by decide) ?_
      refine lv_icmp_ge (tgt := 59) hx hb dM_writeDigits_28 rfl (fun h15 => absurd h15 (by decide)) (fun _ => ?_)
      refine lv_aload_n hx hb dM_writeDigits_31 rfl (lv_at hl 3 rfl) ?_
      refine va_get (D := D) (ci := 11) (v := .ref (yr 49)) (C := R_M) (T := T_M) (N := 60) hx hb hT in_M hown hK hP 0 rfl rfl 49 (by decide) (hT _ w1153) (fun _ h9 => h9) rfl dM_writeDigits_32 ?_
      refine lv_iload_n hx hb dM_writeDigits_35 rfl (lv_at hl 1 rfl) ?_
      refine lv_bipush (v := 48) hx hb dM_writeDigits_36 (by decide) ?_
      refine lv_iload_n hx hb dM_writeDigits_38 rfl (lv_at hl 2 rfl) ?_
      refine lv_bipush (v := 10) hx hb dM_writeDigits_39 (by decide) ?_
      refine lv_irem hx hb dM_writeDigits_41 (by decide) ?_
      refine lv_topi (fun y9 e9 => ?_)
      cases (show y9 = nI ((pt / 10) % 10) from e9.trans (pk_rem (a := pt / 10) (d := 10) (by omega) (by omega) (by omega)))
      refine lv_iadd hx hb dM_writeDigits_42 ?_
      refine lv_topi (fun y9 e9 => ?_)
      cases (show y9 = nI (48 + ((pt / 10) % 10)) from e9.trans (nI_add 48 ((pt / 10) % 10)))
      refine lv_i2b hx hb dM_writeDigits_43 rfl ?_
      refine lv_topi (fun y9 e9 => ?_)
      cases (show y9 = nI (48 + ((pt / 10) % 10)) from e9.trans (i2b_s _ (by omega)))
      refine lq_bast (j := 4 * q + 1) hx hb hK hP hD hS 2 2 rfl rfl rfl (by omega) (by omega) dM_writeDigits_44 (fun H locs hP hD hS => ?_)
      have hP : va_P D vwCl [(y, .inr (11, MO yr yi ysb ybs)), (yr 48, .inl (cT 2, 6000, .inl fo)), (yr 49, .inl (cT 2, 3000, .inl (upd (upd gd (4 * q) (vp_nar .byte (nI (48 + (pt % 10))))) (4 * q + 1) (vp_nar .byte (nI (48 + ((pt / 10) % 10))))))), (a, .inl (cT 0, 302, .inl f1u13))] _ := hP
      have hD : va_D A [(y, .inr (11, MO yr yi ysb ybs)), (yr 48, .inl (cT 2, 6000, .inl fo)), (yr 49, .inl (cT 2, 3000, .inl (upd (upd gd (4 * q) (vp_nar .byte (nI (48 + (pt % 10))))) (4 * q + 1) (vp_nar .byte (nI (48 + ((pt / 10) % 10))))))), (a, .inl (cT 0, 302, .inl f1u13))] := hD
      refine lv_iload_n hx hb dM_writeDigits_45 rfl (lv_at hl 2 rfl) ?_
      refine lv_bipush (v := 10) hx hb dM_writeDigits_46 (by decide) ?_
      refine lv_idiv hx hb dM_writeDigits_48 (by decide) ?_
      refine lv_topi (fun y9 e9 => ?_)
      cases (show y9 = nI ((pt / 10) / 10) from e9.trans (pk_div (a := pt / 10) (d := 10) (by omega) (by omega) (by omega)))
      refine lv_istore_n hx hb dM_writeDigits_49 rfl hl (by decide) rfl (fun ls hl => ?_)
      have hl : lv_has ls 5 [(3, .int (nI ((pt / 10) / 10))), (4, .int 1), (2, .int (nI (4 * q + 1))), (0, .ref y), (1, .ref a)] := hl
      refine lv_iinc (k := 2) (v := nI (4 * q + 1 + 1)) hx hb dM_writeDigits_50 hl rfl (nI_1 (4 * q + 1)) (by decide) rfl (fun ls hl => ?_)
      have hl : lv_has ls 5 [(2, .int (nI (4 * q + 1 + 1))), (3, .int (nI ((pt / 10) / 10))), (4, .int 1), (0, .ref y), (1, .ref a)] := hl
      refine lv_iinc (k := 2) (v := 2) hx hb dM_writeDigits_53 hl rfl (by decide) (by decide) rfl (fun ls hl => ?_)
      have hl : lv_has ls 5 [(4, .int 2), (2, .int (nI (4 * q + 1 + 1))), (3, .int (nI ((pt / 10) / 10))), (0, .ref y), (1, .ref a)] := hl
      refine lv_goto (tgt := 25) hx hb dM_writeDigits_56 rfl ?_
      refine lv_iload hx hb dM_writeDigits_25 (lv_at hl 0 rfl) ?_
      refine lv_iconst (v := 4) hx hb dM_writeDigits_27 (by decide) ?_
      refine lv_icmp_ge (tgt := 59) hx hb dM_writeDigits_28 rfl (fun h16 => absurd h16 (by decide)) (fun _ => ?_)
      refine lv_aload_n hx hb dM_writeDigits_31 rfl (lv_at hl 3 rfl) ?_
      refine va_get (D := D) (ci := 11) (v := .ref (yr 49)) (C := R_M) (T := T_M) (N := 60) hx hb hT in_M hown hK hP 0 rfl rfl 49 (by decide) (hT _ w1153) (fun _ h9 => h9) rfl dM_writeDigits_32 ?_
      refine lv_iload_n hx hb dM_writeDigits_35 rfl (lv_at hl 1 rfl) ?_
      refine lv_bipush (v := 48) hx hb dM_writeDigits_36 (by decide) ?_
      refine lv_iload_n hx hb dM_writeDigits_38 rfl (lv_at hl 2 rfl) ?_
      refine lv_bipush (v := 10) hx hb dM_writeDigits_39 (by decide) ?_
      refine lv_irem hx hb dM_writeDigits_41 (by decide) ?_
      refine lv_topi (fun y9 e9 => ?_)
      cases (show y9 = nI (((pt / 10) / 10) % 10) from e9.trans (pk_rem (a := (pt / 10) / 10) (d := 10) (by omega) (by omega) (by omega)))
      refine lv_iadd hx hb dM_writeDigits_42 ?_
      refine lv_topi (fun y9 e9 => ?_)
      cases (show y9 = nI (48 + (((pt / 10) / 10) % 10)) from e9.trans (nI_add 48 (((pt / 10) / 10) % 10)))
      refine lv_i2b hx hb dM_writeDigits_43 rfl ?_
      refine lv_topi (fun y9 e9 => ?_)
      cases (show y9 = nI (48 + (((pt / 10) / 10) % 10)) from e9.trans (i2b_s _ (by omega)))
      refine lq_bast (j := 4 * q + 1 + 1) hx hb hK hP hD hS 2 2 rfl rfl rfl (by omega) (by omega) dM_writeDigits_44 (fun H locs hP hD hS => ?_)
      have hP : va_P D vwCl [(y, .inr (11, MO yr yi ysb ybs)), (yr 48, .inl (cT 2, 6000, .inl fo)), (yr 49, .inl (cT 2, 3000, .inl (upd (upd (upd gd (4 * q) (vp_nar .byte (nI (48 + (pt % 10))))) (4 * q + 1) (vp_nar .byte (nI (48 + ((pt / 10) % 10))))) (4 * q + 1 + 1) (vp_nar .byte (nI (48 + (((pt / 10) / 10) % 10))))))), (a, .inl (cT 0, 302, .inl f1u13))] _ := hP
      have hD : va_D A [(y, .inr (11, MO yr yi ysb ybs)), (yr 48, .inl (cT 2, 6000, .inl fo)), (yr 49, .inl (cT 2, 3000, .inl (upd (upd (upd gd (4 * q) (vp_nar .byte (nI (48 + (pt % 10))))) (4 * q + 1) (vp_nar .byte (nI (48 + ((pt / 10) % 10))))) (4 * q + 1 + 1) (vp_nar .byte (nI (48 + (((pt / 10) / 10) % 10))))))), (a, .inl (cT 0, 302, .inl f1u13))] := hD
      refine lv_iload_n hx hb dM_writeDigits_45 rfl (lv_at hl 2 rfl) ?_
      refine lv_bipush (v := 10) hx hb dM_writeDigits_46 (by decide) ?_
      refine lv_idiv hx hb dM_writeDigits_48 (by decide) ?_
      refine lv_topi (fun y9 e9 => ?_)
      cases (show y9 = nI (((pt / 10) / 10) / 10) from e9.trans (pk_div (a := (pt / 10) / 10) (d := 10) (by omega) (by omega) (by omega)))
      refine lv_istore_n hx hb dM_writeDigits_49 rfl hl (by decide) rfl (fun ls hl => ?_)
      have hl : lv_has ls 5 [(3, .int (nI (((pt / 10) / 10) / 10))), (4, .int 2), (2, .int (nI (4 * q + 1 + 1))), (0, .ref y), (1, .ref a)] := hl
      refine lv_iinc (k := 2) (v := nI (4 * q + 1 + 1 + 1)) hx hb dM_writeDigits_50 hl rfl (nI_1 (4 * q + 1 + 1)) (by decide) rfl (fun ls hl => ?_)
      have hl : lv_has ls 5 [(2, .int (nI (4 * q + 1 + 1 + 1))), (3, .int (nI (((pt / 10) / 10) / 10))), (4, .int 2), (0, .ref y), (1, .ref a)] := hl
      refine lv_iinc (k := 2) (v := 3) hx hb dM_writeDigits_53 hl rfl (by decide) (by decide) rfl (fun ls hl => ?_)
      have hl : lv_has ls 5 [(4, .int 3), (2, .int (nI (4 * q + 1 + 1 + 1))), (3, .int (nI (((pt / 10) / 10) / 10))), (0, .ref y), (1, .ref a)] := hl
      refine lv_goto (tgt := 25) hx hb dM_writeDigits_56 rfl ?_
      refine lv_iload hx hb dM_writeDigits_25 (lv_at hl 0 rfl) ?_
      refine lv_iconst (v := 4) hx hb dM_writeDigits_27 (by decide) ?_
      refine lv_icmp_ge (tgt := 59) hx hb dM_writeDigits_28 rfl (fun h17 => absurd h17 (by decide)) (fun _ => ?_)
      refine lv_aload_n hx hb dM_writeDigits_31 rfl (lv_at hl 3 rfl) ?_
      refine va_get (D := D) (ci := 11) (v := .ref (yr 49)) (C := R_M) (T := T_M) (N := 60) hx hb hT in_M hown hK hP 0 rfl rfl 49 (by decide) (hT _ w1153) (fun _ h9 => h9) rfl dM_writeDigits_32 ?_
      refine lv_iload_n hx hb dM_writeDigits_35 rfl (lv_at hl 1 rfl) ?_
      refine lv_bipush (v := 48) hx hb dM_writeDigits_36 (by decide) ?_
      refine lv_iload_n hx hb dM_writeDigits_38 rfl (lv_at hl 2 rfl) ?_
      refine lv_bipush (v := 10) hx hb dM_writeDigits_39 (by decide) ?_
      refine lv_irem hx hb dM_writeDigits_41 (by decide) ?_
      refine lv_topi (fun y9 e9 => ?_)
      cases (show y9 = nI ((((pt / 10) / 10) / 10) % 10) from e9.trans (pk_rem (a := ((pt / 10) / 10) / 10) (d := 10) (by omega) (by omega) (by omega)))
      refine lv_iadd hx hb dM_writeDigits_42 ?_
      refine lv_topi (fun y9 e9 => ?_)
      cases (show y9 = nI (48 + ((((pt / 10) / 10) / 10) % 10)) from e9.trans (nI_add 48 ((((pt / 10) / 10) / 10) % 10)))
      refine lv_i2b hx hb dM_writeDigits_43 rfl ?_
      refine lv_topi (fun y9 e9 => ?_)
      cases (show y9 = nI (48 + ((((pt / 10) / 10) / 10) % 10)) from e9.trans (i2b_s _ (by omega)))
      refine lq_bast (j := 4 * q + 1 + 1 + 1) hx hb hK hP hD hS 2 2 rfl rfl rfl (by omega) (by omega) dM_writeDigits_44 (fun H locs hP hD hS => ?_)
      have hP : va_P D vwCl [(y, .inr (11, MO yr yi ysb ybs)), (yr 48, .inl (cT 2, 6000, .inl fo)), (yr 49, .inl (cT 2, 3000, .inl (upd (upd (upd (upd gd (4 * q) (vp_nar .byte (nI (48 + (pt % 10))))) (4 * q + 1) (vp_nar .byte (nI (48 + ((pt / 10) % 10))))) (4 * q + 1 + 1) (vp_nar .byte (nI (48 + (((pt / 10) / 10) % 10))))) (4 * q + 1 + 1 + 1) (vp_nar .byte (nI (48 + ((((pt / 10) / 10) / 10) % 10))))))), (a, .inl (cT 0, 302, .inl f1u13))] _ := hP
      have hD : va_D A [(y, .inr (11, MO yr yi ysb ybs)), (yr 48, .inl (cT 2, 6000, .inl fo)), (yr 49, .inl (cT 2, 3000, .inl (upd (upd (upd (upd gd (4 * q) (vp_nar .byte (nI (48 + (pt % 10))))) (4 * q + 1) (vp_nar .byte (nI (48 + ((pt / 10) % 10))))) (4 * q + 1 + 1) (vp_nar .byte (nI (48 + (((pt / 10) / 10) % 10))))) (4 * q + 1 + 1 + 1) (vp_nar .byte (nI (48 + ((((pt / 10) / 10) / 10) % 10))))))), (a, .inl (cT 0, 302, .inl f1u13))] := hD
      refine lv_iload_n hx hb dM_writeDigits_45 rfl (lv_at hl 2 rfl) ?_
      refine lv_bipush (v := 10) hx hb dM_writeDigits_46 (by decide) ?_
      refine lv_idiv hx hb dM_writeDigits_48 (by decide) ?_
      refine lv_topi (fun y9 e9 => ?_)
      cases (show y9 = nI ((((pt / 10) / 10) / 10) / 10) from e9.trans (pk_div (a := ((pt / 10) / 10) / 10) (d := 10) (by omega) (by omega) (by omega)))
      refine lv_istore_n hx hb dM_writeDigits_49 rfl hl (by decide) rfl (fun ls hl => ?_)
      have hl : lv_has ls 5 [(3, .int (nI ((((pt / 10) / 10) / 10) / 10))), (4, .int 3), (2, .int (nI (4 * q + 1 + 1 + 1))), (0, .ref y), (1, .ref a)] := hl
      refine lv_iinc (k := 2) (v := nI (4 * q + 1 + 1 + 1 + 1)) hx hb dM_writeDigits_50 hl rfl (nI_1 (4 * q + 1 + 1 + 1)) (by decide) rfl (fun ls hl => ?_)
      have hl : lv_has ls 5 [(2, .int (nI (4 * q + 1 + 1 + 1 + 1))), (3, .int (nI ((((pt / 10) / 10) / 10) / 10))), (4, .int 3), (0, .ref y), (1, .ref a)] := hl
      refine lv_iinc (k := 2) (v := 4) hx hb dM_writeDigits_53 hl rfl (by decide) (by decide) rfl (fun ls hl => ?_)
      have hl : lv_has ls 5 [(4, .int 4), (2, .int (nI (4 * q + 1 + 1 + 1 + 1))), (3, .int (nI ((((pt / 10) / 10) / 10) / 10))), (0, .ref y), (1, .ref a)] := hl
      refine lv_goto (tgt := 25) hx hb dM_writeDigits_56 rfl ?_
      refine lv_iload hx hb dM_writeDigits_25 (lv_at hl 0 rfl) ?_
      refine lv_iconst (v := 4) hx hb dM_writeDigits_27 (by decide) ?_
      refine lv_icmp_ge (tgt := 59) hx hb dM_writeDigits_28 rfl (fun _ => ?_) (fun h18 => absurd (by decide) h18)
      refine lv_goto (tgt := 2) hx hb dM_writeDigits_59 rfl ?_
      exact ih2 (q + 1, zz.tdiv ((10000 : Nat) : Int), f1u13, upd (upd (upd (upd gd (4 * q) (vp_nar .byte (nI (48 + (pt % 10))))) (4 * q + 1) (vp_nar .byte (nI (48 + ((pt / 10) % 10))))) (4 * q + 1 + 1) (vp_nar .byte (nI (48 + (((pt / 10) / 10) % 10))))) (4 * q + 1 + 1 + 1) (vp_nar .byte (nI (48 + ((((pt / 10) / 10) / 10) % 10))))) (show MN f1u13 (zz.tdiv ((10000 : Nat) : Int)) ∧ (zz.tdiv ((10000 : Nat) : Int)).natAbs = v / 10000 ^ (q + 1) ∧ DGS (upd (upd (upd (upd gd (4 * q) (vp_nar .byte (nI (48 + (pt % 10))))) (4 * q + 1) (vp_nar .byte (nI (48 + ((pt / 10) % 10))))) (4 * q + 1 + 1) (vp_nar .byte (nI (48 + (((pt / 10) / 10) % 10))))) (4 * q + 1 + 1 + 1) (vp_nar .byte (nI (48 + ((((pt / 10) / 10) / 10) % 10))))) v (4 * (q + 1)) ∧ (q + 1) ≤ 600 from ⟨hdv.2, by rw [Int.natAbs_tdiv, iz]; show _ / 10000 = _; rw [huu, Nat.div_div_eq_div_mul, Nat.pow_succ], (by rw [show 4 * (q + 1) = 4 * q + 1 + 1 + 1 + 1 by omega]; exact dgs_s (dgs_s (dgs_s (dgs_s ig he0) he1) he2) he3), by omega⟩) (show (zz.tdiv ((10000 : Nat) : Int)).natAbs + (if (q + 1) = 0 then 1 else 0) < zz.natAbs + (if q = 0 then 1 else 0) from (by rw [Int.natAbs_tdiv]; show zz.natAbs / 10000 + (if q + 1 = 0 then 1 else 0) < _; rw [if_neg (by omega)]; by_cases r : q = 0; (rw [if_pos r]; omega); (rw [if_neg r]; have := hz9 r; omega))) ls H locs (lv_sub hl [3, 4, 1] rfl) hP hD hS
