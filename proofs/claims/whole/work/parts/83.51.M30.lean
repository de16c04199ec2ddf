set_option maxHeartbeats 4000000 in
set_option maxRecDepth 100000 in
theorem y_tell_ok (l : Launch) (D : va_G) (cT : Nat → ClassId) (y : Nat) (yr : Nat → Nat) (yi : Nat → Int32) (ysb : Int64) (ybs : Int64) (fp : Nat → Int32) (nmA : Nat → Int32) (up : Nat → Int32) (lw : Nat → Int32) (f2 : Nat → Int32) (g2 : Nat → Int32) (fo : Nat → Int32) (fd : Nat → Int32) (f30 : Nat → Int32) (t : Nat) (k : Nat) (m9 : Nat) (bb : Nat) (X : Int) (Dn : Nat) (hPR : PRI fp) (hc0 : 0 ≤ nI t ∧ nI t ≤ yi 17 - 1) (ht16 : t < 16) (hm9 : nmA t = nI m9) (hm31 : m9 ≤ 31) (hk9 : k < m9) (hbb : bb < 2 ^ 30) (hNF : NF up lw bb (31 * t + k) X Dn) (hDn : 0 < Dn) (hX9 : X.natAbs < 268435456 ^ 250) (hD9 : Dn < 268435456 ^ 250) (sz : Nat) : Met l yM_tell WM_tell ({ frames := 4, cells := 0, slots := 0, locals := 97 } : Room) (RW D vwCl [.ref y, .int (nI t), .int (nI k)] [(y, .inr (11, MO yr yi ysb ybs)), (yr 0, .inl (cT 0, 19, .inl fp)), (yr 18, .inl (cT 0, 16, .inl nmA)), (yr 27, .inl (cT 0, 65472, .inl up)), (yr 28, .inl (cT 0, 9424, .inl lw)), (yr 30, .inl (cT 0, 302, .inl f2)), (yr 41, .inl (cT 0, 19, .inl g2)), (yr 48, .inl (cT 2, 6000, .inl fo)), (yr 49, .inl (cT 2, 3000, .inl fd)), (yr 31, .inl (cT 0, 302, .inl f30))] (TY cT) sz) (va_Qi (fun (r9 : Int32) (u9 : Nat × Int × Nat × (Nat → Int32) × (Nat → Int32) × (Nat → Int32) × (Nat → Int32) × (Nat → Int32) × (Nat → Int32)) => r9 = nI u9.1 ∧ u9.1 ≤ 5000 ∧ u9.2.2.2.1 47 = nI u9.1 ∧ u9.2.2.2.1 1 = 0 ∧ YK2 yi u9.2.2.2.1 ∧ RDC (X) (Dn) u9.2.1 u9.2.2.1 ∧ WRT u9.2.2.2.2.1 u9.1 u9.2.1 u9.2.2.1) (BW D vwCl (va_A [(y, .inr (11, MO yr yi ysb ybs)), (yr 0, .inl (cT 0, 19, .inl fp)), (yr 18, .inl (cT 0, 16, .inl nmA)), (yr 27, .inl (cT 0, 65472, .inl up)), (yr 28, .inl (cT 0, 9424, .inl lw)), (yr 30, .inl (cT 0, 302, .inl f2)), (yr 41, .inl (cT 0, 19, .inl g2)), (yr 48, .inl (cT 2, 6000, .inl fo)), (yr 49, .inl (cT 2, 3000, .inl fd)), (yr 31, .inl (cT 0, 302, .inl f30))] sz) (fun u9 : Nat × Int × Nat × (Nat → Int32) × (Nat → Int32) × (Nat → Int32) × (Nat → Int32) × (Nat → Int32) × (Nat → Int32) => [(y, .inr (11, MO yr u9.2.2.2.1 ysb ybs)), (yr 0, .inl (cT 0, 19, .inl fp)), (yr 18, .inl (cT 0, 16, .inl nmA)), (yr 27, .inl (cT 0, 65472, .inl up)), (yr 28, .inl (cT 0, 9424, .inl lw)), (yr 30, .inl (cT 0, 302, .inl u9.2.2.2.2.2.2.2.1)), (yr 41, .inl (cT 0, 19, .inl u9.2.2.2.2.2.2.2.2)), (yr 48, .inl (cT 2, 6000, .inl u9.2.2.2.2.1)), (yr 49, .inl (cT 2, 3000, .inl u9.2.2.2.2.2.1)), (yr 31, .inl (cT 0, 302, .inl u9.2.2.2.2.2.2.1))])) (va_A [(y, .inr (11, MO yr yi ysb ybs)), (yr 0, .inl (cT 0, 19, .inl fp)), (yr 18, .inl (cT 0, 16, .inl nmA)), (yr 27, .inl (cT 0, 65472, .inl up)), (yr 28, .inl (cT 0, 9424, .inl lw)), (yr 30, .inl (cT 0, 302, .inl f2)), (yr 41, .inl (cT 0, 19, .inl g2)), (yr 48, .inl (cT 2, 6000, .inl fo)), (yr 49, .inl (cT 2, 3000, .inl fd)), (yr 31, .inl (cT 0, 302, .inl f30))] sz)) 0 0 (va_A [(y, .inr (11, MO yr yi ysb ybs)), (yr 0, .inl (cT 0, 19, .inl fp)), (yr 18, .inl (cT 0, 16, .inl nmA)), (yr 27, .inl (cT 0, 65472, .inl up)), (yr 28, .inl (cT 0, 9424, .inl lw)), (yr 30, .inl (cT 0, 302, .inl f2)), (yr 41, .inl (cT 0, 19, .inl g2)), (yr 48, .inl (cT 2, 6000, .inl fo)), (yr 49, .inl (cT 2, 3000, .inl fd)), (yr 31, .inl (cT 0, 302, .inl f30))] sz) := by
  refine Met.ofW (cc := cM_tell) (maxL := 3) (ret := (some .int)) (by decide) rfl ?_
  intro p e s m args below meth c s₁ B hml hv
  obtain ⟨rfl, hsz, hZ, hP, hK, hD0⟩ := hv
  have hx := B.exec
  have hb := B.bytes
  have hr := B.returns
  have hts := atoms_spec (ws := WM_tell) B.pre
  have hT : ∀ w ∈ TB, w.before _ s = true := fun w h => hts w (List.mem_cons_of_mem _ h)
  have hown : s.vm.findClass R_M = some m.cls := findClass_of_methodNamed B.named
  have hlocks := B.notSynchronized
  subst hsz
  have hD := hD0.self (sz := s.heap.size)
  generalize hAe : va_A [(y, .inr (11, MO yr yi ysb ybs)), (yr 0, .inl (cT 0, 19, .inl fp)), (yr 18, .inl (cT 0, 16, .inl nmA)), (yr 27, .inl (cT 0, 65472, .inl up)), (yr 28, .inl (cT 0, 9424, .inl lw)), (yr 30, .inl (cT 0, 302, .inl f2)), (yr 41, .inl (cT 0, 19, .inl g2)), (yr 48, .inl (cT 2, 6000, .inl fo)), (yr 49, .inl (cT 2, 3000, .inl fd)), (yr 31, .inl (cT 0, 302, .inl f30))] s.heap.size = A at hD hZ ⊢
  have hA : ∀ q : Nat, s.heap.size ≤ q → A q := fun q h => by rw [← hAe]; exact Or.inr h
  have hS : va_S A s.heap s.heap [] := va_S.rf
  have hl := lv_entry ([.ref y, .int (nI t), .int (nI k)]) (n := 3) (Nat.le_of_ble_eq_true rfl)
  rw [lg_entry_eq]
  generalize (lg_sl ([.ref y, .int (nI t), .int (nI k)]) ++ List.replicate (3 - (lg_sl ([.ref y, .int (nI t), .int (nI k)])).length) Slot.unset).toArray = ls at hl ⊢
  have hl : lv_has ls 3 [(0, .ref y), (1, .int (nI t)), (2, .int (nI k))] := hl
  refine lv_aload_n hx hb dM_tell_0 rfl (lv_at hl 0 rfl) ?_
  refine lv_aload_n hx hb dM_tell_1 rfl (lv_at hl 0 rfl) ?_
  refine lv_iload_n hx hb dM_tell_2 rfl (lv_at hl 1 rfl) ?_
  refine lv_iload_n hx hb dM_tell_3 rfl (lv_at hl 2 rfl) ?_
  refine ro_i (va_Run.run (va_runV (As := [.int (nI t), .int (nI k)]) (rest := [.ref y]) ⟨hx, hb, hml, hown, hT⟩ (m_noNode_ok l D cT y yr yi ysb ybs nmA t k m9 hc0 ht16 hm9 hm31 hk9) ⟨callB_of 2 hT (tb_gd w1535) rfl rfl rfl (hT _ w13) (hT _ w1532) hM_noNode ⟨Nat.le_of_ble_eq_true rfl, Nat.le_of_ble_eq_true rfl⟩, (hT _ w1534), (hT _ wp60)⟩ (RO.preV (ci := 11) (q0 := 0) hZ hS (hP.sub (ws' := [(y, .inr (11, MO yr yi ysb ybs)), (yr 18, .inl (cT 0, 16, .inl nmA))]) [0, 2] rfl) hK rfl rfl) rfl rfl hl.1 rfl (lv_room (Nat.le_of_ble_eq_true rfl)) dM_tell_4 ⟨Nat.le_of_ble_eq_true rfl, Nat.le_of_ble_eq_true rfl⟩)) ?_
  refine lv_if_eq (tgt := 14) hx hb dM_tell_7 rfl (fun _ => ?_) (fun h1 => absurd (by decide) h1)
  refine lv_iconst (v := 0) hx hb dM_tell_14 (by decide) ?_
  refine rw_i (wc := [(y, .inr (11, MO yr yi ysb ybs))]) (wr := [(yr 0, .inl (cT 0, 19, .inl fp)), (yr 18, .inl (cT 0, 16, .inl nmA)), (yr 27, .inl (cT 0, 65472, .inl up)), (yr 28, .inl (cT 0, 9424, .inl lw)), (yr 30, .inl (cT 0, 302, .inl f2)), (yr 41, .inl (cT 0, 19, .inl g2)), (yr 48, .inl (cT 2, 6000, .inl fo)), (yr 49, .inl (cT 2, 3000, .inl fd)), (yr 31, .inl (cT 0, 302, .inl f30))]) hP hD hS hA [0] [1, 2, 3, 4, 5, 6, 7, 8, 9] rfl rfl (by decide) (by decide) (va_runV (As := [.int 0]) (rest := []) ⟨hx, hb, hml, hown, hT⟩ (m_ref0 l D cT y yr yi ysb ybs _) ⟨callB_of 1 hT (tb_gd w1301) rfl rfl rfl (hT _ w13) (hT _ w1298) hM_refused ⟨Nat.le_of_ble_eq_true rfl, Nat.le_of_ble_eq_true rfl⟩, (hT _ w1300), (hT _ wp29)⟩ (RW.preV (ci := 11) (q0 := 0) hZ hS (va_free (wc := [(y, .inr (11, MO yr yi ysb ybs))]) hD hS hA [0] rfl) (hP.sub (ws' := [(y, .inr (11, MO yr yi ysb ybs))]) [0] rfl) hK (hD.sub (ws' := [(y, .inr (11, MO yr yi ysb ybs))]) [0] (by decide) rfl) rfl rfl) rfl rfl hl.1 rfl (lv_room (Nat.le_of_ble_eq_true rfl)) dM_tell_15 ⟨Nat.le_of_ble_eq_true rfl, Nat.le_of_ble_eq_true rfl⟩) (fun ru2 u9 H locs hpu2 hP hD hS => ?_)
  have hpu2 : ru2 = 0 := hpu2
  have hP : va_P D vwCl [(yr 0, .inl (cT 0, 19, .inl fp)), (yr 18, .inl (cT 0, 16, .inl nmA)), (yr 27, .inl (cT 0, 65472, .inl up)), (yr 28, .inl (cT 0, 9424, .inl lw)), (yr 30, .inl (cT 0, 302, .inl f2)), (yr 41, .inl (cT 0, 19, .inl g2)), (yr 48, .inl (cT 2, 6000, .inl fo)), (yr 49, .inl (cT 2, 3000, .inl fd)), (yr 31, .inl (cT 0, 302, .inl f30)), (y, .inr (11, MO yr (va_up yi 1 0) ysb ybs))] _ := hP
  have hD : va_D A [(yr 0, .inl (cT 0, 19, .inl fp)), (yr 18, .inl (cT 0, 16, .inl nmA)), (yr 27, .inl (cT 0, 65472, .inl up)), (yr 28, .inl (cT 0, 9424, .inl lw)), (yr 30, .inl (cT 0, 302, .inl f2)), (yr 41, .inl (cT 0, 19, .inl g2)), (yr 48, .inl (cT 2, 6000, .inl fo)), (yr 49, .inl (cT 2, 3000, .inl fd)), (yr 31, .inl (cT 0, 302, .inl f30)), (y, .inr (11, MO yr (va_up yi 1 0) ysb ybs))] := hD
  refine lv_topi (fun y9 e9 => ?_)
  cases (show y9 = 0 from e9.trans hpu2)
  refine lv_if_eq (tgt := 23) hx hb dM_tell_18 rfl (fun _ => ?_) (fun h3 => absurd (by decide) h3)
  obtain ⟨lz, n1, n2, n3, n4⟩ := hNF
  refine lv_aload_n hx hb dM_tell_23 rfl (lv_at hl 0 rfl) ?_
  refine lv_bipush (v := 31) hx hb dM_tell_24 (by decide) ?_
  refine lv_iload_n hx hb dM_tell_26 rfl (lv_at hl 1 rfl) ?_
  refine lv_imul hx hb dM_tell_27 ?_
  refine lv_topi (fun y9 e9 => ?_)
  cases (show y9 = nI (31 * t) from e9.trans (pk_mul 31 t))
  refine lv_iload_n hx hb dM_tell_28 rfl (lv_at hl 2 rfl) ?_
  refine lv_iadd hx hb dM_tell_29 ?_
  refine lv_topi (fun y9 e9 => ?_)
  cases (show y9 = nI ((31 * t) + k) from e9.trans (nI_add (31 * t) k))
  refine rw_v (wc := [(y, .inr (11, MO yr (va_up yi 1 0) ysb ybs)), (yr 27, .inl (cT 0, 65472, .inl up)), (yr 28, .inl (cT 0, 9424, .inl lw)), (yr 30, .inl (cT 0, 302, .inl f2)), (yr 41, .inl (cT 0, 19, .inl g2))]) (wr := [(yr 0, .inl (cT 0, 19, .inl fp)), (yr 18, .inl (cT 0, 16, .inl nmA)), (yr 48, .inl (cT 2, 6000, .inl fo)), (yr 49, .inl (cT 2, 3000, .inl fd)), (yr 31, .inl (cT 0, 302, .inl f30))]) hP hD hS hA [9, 2, 3, 4, 5] [0, 1, 6, 7, 8] rfl rfl (by decide) (by decide) (va_runV (As := [.int (nI ((31 * t) + k))]) (rest := []) ⟨hx, hb, hml, hown, hT⟩ (m_take l D cT y yr (va_up yi 1 0) ysb ybs up lw (31 * t + k) lz f2 g2 n1 (by omega) _) ⟨callB_of 1 hT (tb_gd w1400) rfl rfl rfl (hT _ w13) (hT _ w1397) hM_take ⟨Nat.le_of_ble_eq_true rfl, Nat.le_of_ble_eq_true rfl⟩, (hT _ w1399), (hT _ wp39)⟩ (RW.preV (ci := 11) (q0 := 0) hZ hS (va_free (wc := [(y, .inr (11, MO yr (va_up yi 1 0) ysb ybs)), (yr 27, .inl (cT 0, 65472, .inl up)), (yr 28, .inl (cT 0, 9424, .inl lw)), (yr 30, .inl (cT 0, 302, .inl f2)), (yr 41, .inl (cT 0, 19, .inl g2))]) hD hS hA [9, 2, 3, 4, 5] rfl) (hP.sub (ws' := [(y, .inr (11, MO yr (va_up yi 1 0) ysb ybs)), (yr 27, .inl (cT 0, 65472, .inl up)), (yr 28, .inl (cT 0, 9424, .inl lw)), (yr 30, .inl (cT 0, 302, .inl f2)), (yr 41, .inl (cT 0, 19, .inl g2))]) [9, 2, 3, 4, 5] rfl) hK (hD.sub (ws' := [(y, .inr (11, MO yr (va_up yi 1 0) ysb ybs)), (yr 27, .inl (cT 0, 65472, .inl up)), (yr 28, .inl (cT 0, 9424, .inl lw)), (yr 30, .inl (cT 0, 302, .inl f2)), (yr 41, .inl (cT 0, 19, .inl g2))]) [9, 2, 3, 4, 5] (by decide) rfl) rfl rfl) rfl rfl hl.1 rfl (lv_room (Nat.le_of_ble_eq_true rfl)) dM_tell_30 ⟨Nat.le_of_ble_eq_true rfl, Nat.le_of_ble_eq_true rfl⟩) (fun u9 H locs hpu4 hP hD hS => ?_)
  obtain ⟨f1u4, g1u4⟩ := u9
  have hpu4 : MN f1u4 lz ∧ ∀ q8, q8 < 19 → g1u4 q8 = lw (19 * (31 * t + k) + q8) := hpu4
  have hP : va_P D vwCl [(yr 0, .inl (cT 0, 19, .inl fp)), (yr 18, .inl (cT 0, 16, .inl nmA)), (yr 48, .inl (cT 2, 6000, .inl fo)), (yr 49, .inl (cT 2, 3000, .inl fd)), (yr 31, .inl (cT 0, 302, .inl f30)), (y, .inr (11, MO yr (va_up yi 1 0) ysb ybs)), (yr 27, .inl (cT 0, 65472, .inl up)), (yr 28, .inl (cT 0, 9424, .inl lw)), (yr 30, .inl (cT 0, 302, .inl f1u4)), (yr 41, .inl (cT 0, 19, .inl g1u4))] _ := hP
  have hD : va_D A [(yr 0, .inl (cT 0, 19, .inl fp)), (yr 18, .inl (cT 0, 16, .inl nmA)), (yr 48, .inl (cT 2, 6000, .inl fo)), (yr 49, .inl (cT 2, 3000, .inl fd)), (yr 31, .inl (cT 0, 302, .inl f30)), (y, .inr (11, MO yr (va_up yi 1 0) ysb ybs)), (yr 27, .inl (cT 0, 65472, .inl up)), (yr 28, .inl (cT 0, 9424, .inl lw)), (yr 30, .inl (cT 0, 302, .inl f1u4)), (yr 41, .inl (cT 0, 19, .inl g1u4))] := hD
  obtain ⟨eN, eG⟩ := hpu4
  have eL : LOK g1u4 bb := lok_cg n2 eG
  have eR : RED lz g1u4 := red_cg n3 eG
  have eD : dn g1u4 = dn (sh (19 * (31 * t + k)) lw) := dn_cg eG
  rw [← eD] at n4
  have eb := red_le hDn eR n4
  refine lv_aload_n hx hb dM_tell_33 rfl (lv_at hl 0 rfl) ?_
  refine lv_aload_n hx hb dM_tell_34 rfl (lv_at hl 0 rfl) ?_
  refine va_get (D := D) (ci := 11) (v := .ref (yr 30)) (C := R_M) (T := T_M) (N := 60) hx hb hT in_M hown hK hP 5 rfl rfl 30 (by decide) (hT _ w1134) (fun _ h9 => h9) rfl dM_tell_35 ?_
  refine lv_aload_n hx hb dM_tell_38 rfl (lv_at hl 0 rfl) ?_
  refine va_get (D := D) (ci := 11) (v := .ref (yr 41)) (C := R_M) (T := T_M) (N := 60) hx hb hT in_M hown hK hP 5 rfl rfl 41 (by decide) (hT _ w1145) (fun _ h9 => h9) rfl dM_tell_39 ?_
  refine rw_i (wc := [(y, .inr (11, MO yr (va_up yi 1 0) ysb ybs)), (yr 0, .inl (cT 0, 19, .inl fp)), (yr 48, .inl (cT 2, 6000, .inl fo)), (yr 49, .inl (cT 2, 3000, .inl fd)), (yr 31, .inl (cT 0, 302, .inl f30)), (yr 30, .inl (cT 0, 302, .inl f1u4)), (yr 41, .inl (cT 0, 19, .inl g1u4))]) (wr := [(yr 18, .inl (cT 0, 16, .inl nmA)), (yr 27, .inl (cT 0, 65472, .inl up)), (yr 28, .inl (cT 0, 9424, .inl lw))]) hP hD hS hA [5, 0, 2, 3, 4, 8, 9] [1, 6, 7] rfl rfl (by decide) (by decide) (va_runV (As := [.ref (yr 30), .ref (yr 41)]) (rest := []) ⟨hx, hb, hml, hown, hT⟩ (m_write l D cT y yr (va_up yi 1 0) ysb ybs fp fo fd f30 (yr 30) f1u4 lz (yr 41) g1u4 bb hPR eN eL hbb (Nat.lt_of_le_of_lt eb.1 hX9) (Nat.lt_of_le_of_lt eb.2 hD9) _) ⟨callB_of 2 hT (tb_gd w1559) rfl rfl rfl (hT _ w13) (hT _ w1556) hM_write ⟨Nat.le_of_ble_eq_true rfl, Nat.le_of_ble_eq_true rfl⟩, (hT _ w1558), (hT _ wp62)⟩ (RW.preV (ci := 11) (q0 := 0) hZ hS (va_free (wc := [(y, .inr (11, MO yr (va_up yi 1 0) ysb ybs)), (yr 0, .inl (cT 0, 19, .inl fp)), (yr 48, .inl (cT 2, 6000, .inl fo)), (yr 49, .inl (cT 2, 3000, .inl fd)), (yr 31, .inl (cT 0, 302, .inl f30)), (yr 30, .inl (cT 0, 302, .inl f1u4)), (yr 41, .inl (cT 0, 19, .inl g1u4))]) hD hS hA [5, 0, 2, 3, 4, 8, 9] rfl) (hP.sub (ws' := [(y, .inr (11, MO yr (va_up yi 1 0) ysb ybs)), (yr 0, .inl (cT 0, 19, .inl fp)), (yr 48, .inl (cT 2, 6000, .inl fo)), (yr 49, .inl (cT 2, 3000, .inl fd)), (yr 31, .inl (cT 0, 302, .inl f30)), (yr 30, .inl (cT 0, 302, .inl f1u4)), (yr 41, .inl (cT 0, 19, .inl g1u4))]) [5, 0, 2, 3, 4, 8, 9] rfl) hK (hD.sub (ws' := [(y, .inr (11, MO yr (va_up yi 1 0) ysb ybs)), (yr 0, .inl (cT 0, 19, .inl fp)), (yr 48, .inl (cT 2, 6000, .inl fo)), (yr 49, .inl (cT 2, 3000, .inl fd)), (yr 31, .inl (cT 0, 302, .inl f30)), (yr 30, .inl (cT 0, 302, .inl f1u4)), (yr 41, .inl (cT 0, 19, .inl g1u4))]) [5, 0, 2, 3, 4, 8, 9] (by decide) rfl) rfl rfl) rfl rfl hl.1 rfl (lv_room (Nat.le_of_ble_eq_true rfl)) dM_tell_42 ⟨Nat.le_of_ble_eq_true rfl, Nat.le_of_ble_eq_true rfl⟩) (fun ru5 u9 H locs hpu5 hP hD hS => ?_)
  obtain ⟨L7u5, yi7u5, fo7u5, fd7u5, f7u5, f37u5⟩ := u9
  have hpu5 : ru5 = nI L7u5 ∧ L7u5 ≤ 5000 ∧ yi7u5 47 = nI L7u5 ∧ WRT fo7u5 L7u5 lz (dn g1u4) ∧ ∀ j8, j8 ≠ 47 → yi7u5 j8 = (va_up yi 1 0) j8 := hpu5
  have hP : va_P D vwCl [(yr 18, .inl (cT 0, 16, .inl nmA)), (yr 27, .inl (cT 0, 65472, .inl up)), (yr 28, .inl (cT 0, 9424, .inl lw)), (y, .inr (11, MO yr yi7u5 ysb ybs)), (yr 0, .inl (cT 0, 19, .inl fp)), (yr 48, .inl (cT 2, 6000, .inl fo7u5)), (yr 49, .inl (cT 2, 3000, .inl fd7u5)), (yr 31, .inl (cT 0, 302, .inl f37u5)), (yr 30, .inl (cT 0, 302, .inl f7u5)), (yr 41, .inl (cT 0, 19, .inl g1u4))] _ := hP
  have hD : va_D A [(yr 18, .inl (cT 0, 16, .inl nmA)), (yr 27, .inl (cT 0, 65472, .inl up)), (yr 28, .inl (cT 0, 9424, .inl lw)), (y, .inr (11, MO yr yi7u5 ysb ybs)), (yr 0, .inl (cT 0, 19, .inl fp)), (yr 48, .inl (cT 2, 6000, .inl fo7u5)), (yr 49, .inl (cT 2, 3000, .inl fd7u5)), (yr 31, .inl (cT 0, 302, .inl f37u5)), (yr 30, .inl (cT 0, 302, .inl f7u5)), (yr 41, .inl (cT 0, 19, .inl g1u4))] := hD
  have hP9 := hP.sub (ws' := [(y, .inr (11, MO yr yi7u5 ysb ybs)), (yr 0, .inl (cT 0, 19, .inl fp)), (yr 18, .inl (cT 0, 16, .inl nmA)), (yr 27, .inl (cT 0, 65472, .inl up)), (yr 28, .inl (cT 0, 9424, .inl lw)), (yr 30, .inl (cT 0, 302, .inl f7u5)), (yr 41, .inl (cT 0, 19, .inl g1u4)), (yr 48, .inl (cT 2, 6000, .inl fo7u5)), (yr 49, .inl (cT 2, 3000, .inl fd7u5)), (yr 31, .inl (cT 0, 302, .inl f37u5))]) [3, 4, 0, 1, 2, 8, 9, 5, 6, 7] rfl
  have hD9 := hD.sub (ws' := [(y, .inr (11, MO yr yi7u5 ysb ybs)), (yr 0, .inl (cT 0, 19, .inl fp)), (yr 18, .inl (cT 0, 16, .inl nmA)), (yr 27, .inl (cT 0, 65472, .inl up)), (yr 28, .inl (cT 0, 9424, .inl lw)), (yr 30, .inl (cT 0, 302, .inl f7u5)), (yr 41, .inl (cT 0, 19, .inl g1u4)), (yr 48, .inl (cT 2, 6000, .inl fo7u5)), (yr 49, .inl (cT 2, 3000, .inl fd7u5)), (yr 31, .inl (cT 0, 302, .inl f37u5))]) [3, 4, 0, 1, 2, 8, 9, 5, 6, 7] (by decide) rfl
  refine W.widen (k := 0) (n := 0) (Nat.le_of_ble_eq_true rfl) (Nat.le_of_ble_eq_true rfl) ?_
  exact W.iret (v := ru5) hx hb hr (fun t9 ht9 hW9 => ⟨⟨ru5, (L7u5, lz, dn g1u4, yi7u5, fo7u5, fd7u5, f37u5, f7u5, g1u4), rfl, (show ru5 = nI L7u5 ∧ L7u5 ≤ 5000 ∧ yi7u5 47 = nI L7u5 ∧ yi7u5 1 = 0 ∧ YK2 yi yi7u5 ∧ RDC (X) (Dn) lz (dn g1u4) ∧ WRT fo7u5 L7u5 lz (dn g1u4) from (by obtain ⟨k1, k2, k3, k4, k5⟩ := hpu5; have k6 := yk2_mk k5; exact ⟨k1, k2, k3, k6.2, k6.1, ⟨g1u4, eR, rfl, n4⟩, k4⟩)), by rw [ht9]; exact hP9, hD9⟩, hS.F ht9⟩) hS.2.2 dM_tell_45
set_option maxHeartbeats 4000000 in
set_option maxRecDepth 100000 in
theorem y_tell_not (l : Launch) (D : va_G) (cT : Nat → ClassId) (y : Nat) (yr : Nat → Nat) (yi : Nat → Int32) (ysb : Int64) (ybs : Int64) (v : Int32) (a2 : Int32) (hq : ¬ (0 ≤ v ∧ v ≤ yi 17 - 1)) (sz : Nat) : Met l yM_tell WM_tell ({ frames := 3, cells := 0, slots := 0, locals := 65 } : Room) (RW D vwCl [.ref y, .int v, .int a2] [(y, .inr (11, MO yr yi ysb ybs))] (TY cT) sz) (va_Qi (fun (r9 : Int32) (u9 : Unit) => r9 = 0) (BW D vwCl (va_A [(y, .inr (11, MO yr yi ysb ybs))] sz) (fun u9 : Unit => [(y, .inr (11, MO yr (va_up yi 1 1) ysb ybs))])) (va_A [(y, .inr (11, MO yr yi ysb ybs))] sz)) 0 0 (va_A [(y, .inr (11, MO yr yi ysb ybs))] sz) := by
  refine Met.ofW (cc := cM_tell) (maxL := 3) (ret := (some .int)) (by decide) rfl ?_
  intro p e s m args below meth c s₁ B hml hv
  obtain ⟨rfl, hsz, hZ, hP, hK, hD0⟩ := hv
  have hx := B.exec
  have hb := B.bytes
  have hr := B.returns
  have hts := atoms_spec (ws := WM_tell) B.pre
  have hT : ∀ w ∈ TB, w.before _ s = true := fun w h => hts w (List.mem_cons_of_mem _ h)
  have hown : s.vm.findClass R_M = some m.cls := findClass_of_methodNamed B.named
  have hlocks := B.notSynchronized
  subst hsz
  have hD := hD0.self (sz := s.heap.size)
  generalize hAe : va_A [(y, .inr (11, MO yr yi ysb ybs))] s.heap.size = A at hD hZ ⊢
  have hA : ∀ q : Nat, s.heap.size ≤ q → A q := fun q h => by rw [← hAe]; exact Or.inr h
  have hS : va_S A s.heap s.heap [] := va_S.rf
  have hl := lv_entry ([.ref y, .int v, .int a2]) (n := 3) (Nat.le_of_ble_eq_true rfl)
  rw [lg_entry_eq]
  generalize (lg_sl ([.ref y, .int v, .int a2]) ++ List.replicate (3 - (lg_sl ([.ref y, .int v, .int a2])).length) Slot.unset).toArray = ls at hl ⊢
  have hl : lv_has ls 3 [(0, .ref y), (1, .int v), (2, .int a2)] := hl
  refine lv_aload_n hx hb dM_tell_0 rfl (lv_at hl 0 rfl) ?_
  refine lv_aload_n hx hb dM_tell_1 rfl (lv_at hl 0 rfl) ?_
  refine lv_iload_n hx hb dM_tell_2 rfl (lv_at hl 1 rfl) ?_
  refine lv_iload_n hx hb dM_tell_3 rfl (lv_at hl 2 rfl) ?_
  refine ro_i (va_Run.run (va_runV (As := [.int v, .int a2]) (rest := [.ref y]) ⟨hx, hb, hml, hown, hT⟩ (m_noNode_t l D cT y yr yi ysb ybs v a2 hq) ⟨callB_of 2 hT (tb_gd w1535) rfl rfl rfl (hT _ w13) (hT _ w1532) hM_noNode ⟨Nat.le_of_ble_eq_true rfl, Nat.le_of_ble_eq_true rfl⟩, (hT _ w1534), (hT _ wp60)⟩ (RO.preV (ci := 11) (q0 := 0) hZ hS (hP.sub (ws' := [(y, .inr (11, MO yr yi ysb ybs))]) [0] rfl) hK rfl rfl) rfl rfl hl.1 rfl (lv_room (Nat.le_of_ble_eq_true rfl)) dM_tell_4 ⟨Nat.le_of_ble_eq_true rfl, Nat.le_of_ble_eq_true rfl⟩)) ?_
  refine lv_if_eq (tgt := 14) hx hb dM_tell_7 rfl (fun h1 => absurd h1 (by decide)) (fun _ => ?_)
  refine lv_iconst (v := 1) hx hb dM_tell_10 (by decide) ?_
  refine lv_goto (tgt := 15) hx hb dM_tell_11 rfl ?_
  refine rw_i (wc := [(y, .inr (11, MO yr yi ysb ybs))]) (wr := []) hP hD hS hA [0] [] rfl rfl (by decide) (by decide) (va_runV (As := [.int 1]) (rest := []) ⟨hx, hb, hml, hown, hT⟩ (m_ref1 l D cT y yr yi ysb ybs _) ⟨callB_of 1 hT (tb_gd w1301) rfl rfl rfl (hT _ w13) (hT _ w1298) hM_refused ⟨Nat.le_of_ble_eq_true rfl, Nat.le_of_ble_eq_true rfl⟩, (hT _ w1300), (hT _ wp29)⟩ (RW.preV (ci := 11) (q0 := 0) hZ hS (va_free (wc := [(y, .inr (11, MO yr yi ysb ybs))]) hD hS hA [0] rfl) (hP.sub (ws' := [(y, .inr (11, MO yr yi ysb ybs))]) [0] rfl) hK (hD.sub (ws' := [(y, .inr (11, MO yr yi ysb ybs))]) [0] (by decide) rfl) rfl rfl) rfl rfl hl.1 rfl (lv_room (Nat.le_of_ble_eq_true rfl)) dM_tell_15 ⟨Nat.le_of_ble_eq_true rfl, Nat.le_of_ble_eq_true rfl⟩) (fun ru2 u9 H locs hpu2 hP hD hS => ?_)
  have hpu2 : ru2 = 1 := hpu2
  have hP : va_P D vwCl [(y, .inr (11, MO yr (va_up yi 1 1) ysb ybs))] _ := hP
  have hD : va_D A [(y, .inr (11, MO yr (va_up yi 1 1) ysb ybs))] := hD
  refine lv_topi (fun y9 e9 => ?_)
  cases (show y9 = 1 from e9.trans hpu2)
  refine lv_if_eq (tgt := 23) hx hb dM_tell_18 rfl (fun h3 => absurd h3 (by decide)) (fun _ => ?_)
  refine lv_iconst (v := 0) hx hb dM_tell_21 (by decide) ?_
  have hP9 := hP.sub (ws' := [(y, .inr (11, MO yr (va_up yi 1 1) ysb ybs))]) [0] rfl
  have hD9 := hD.sub (ws' := [(y, .inr (11, MO yr (va_up yi 1 1) ysb ybs))]) [0] (by decide) rfl
  refine W.widen (k := 0) (n := 0) (Nat.le_of_ble_eq_true rfl) (Nat.le_of_ble_eq_true rfl) ?_
  exact W.iret (v := 0) hx hb hr (fun t9 ht9 hW9 => ⟨⟨0, (), rfl, (show 0 = 0 from rfl), by rw [ht9]; exact hP9, hD9⟩, hS.F ht9⟩) hS.2.2 dM_tell_22
set_option maxHeartbeats 4000000 in
set_option maxRecDepth 100000 in
theorem y_tell_nok (l : Launch) (D : va_G) (cT : Nat → ClassId) (y : Nat) (yr : Nat → Nat) (yi : Nat → Int32) (ysb : Int64) (ybs : Int64) (nmA : Nat → Int32) (t : Nat) (a2 : Int32) (hc0 : 0 ≤ nI t ∧ nI t ≤ yi 17 - 1) (ht16 : t < 16) (hq : ¬ (0 ≤ a2 ∧ a2 ≤ nmA t - 1)) (sz : Nat) : Met l yM_tell WM_tell ({ frames := 3, cells := 0, slots := 0, locals := 65 } : Room) (RW D vwCl [.ref y, .int (nI t), .int a2] [(y, .inr (11, MO yr yi ysb ybs)), (yr 18, .inl (cT 0, 16, .inl nmA))] (TY cT) sz) (va_Qi (fun (r9 : Int32) (u9 : Unit) => r9 = 0) (BW D vwCl (va_A [(y, .inr (11, MO yr yi ysb ybs)), (yr 18, .inl (cT 0, 16, .inl nmA))] sz) (fun u9 : Unit => [(y, .inr (11, MO yr (va_up yi 1 1) ysb ybs)), (yr 18, .inl (cT 0, 16, .inl nmA))])) (va_A [(y, .inr (11, MO yr yi ysb ybs)), (yr 18, .inl (cT 0, 16, .inl nmA))] sz)) 0 0 (va_A [(y, .inr (11, MO yr yi ysb ybs)), (yr 18, .inl (cT 0, 16, .inl nmA))] sz) := by
  refine Met.ofW (cc := cM_tell) (maxL := 3) (ret := (some .int)) (by decide) rfl ?_
  intro p e s m args below meth c s₁ B hml hv
  obtain ⟨rfl, hsz, hZ, hP, hK, hD0⟩ := hv
  have hx := B.exec
  have hb := B.bytes
  have hr := B.returns
  have hts := atoms_spec (ws := WM_tell) B.pre
  have hT : ∀ w ∈ TB, w.before _ s = true := fun w h => hts w (List.mem_cons_of_mem _ h)
  have hown : s.vm.findClass R_M = some m.cls := findClass_of_methodNamed B.named
  have hlocks := B.notSynchronized
  subst hsz
  have hD := hD0.self (sz := s.heap.size)
  generalize hAe : va_A [(y, .inr (11, MO yr yi ysb ybs)), (yr 18, .inl (cT 0, 16, .inl nmA))] s.heap.size = A at hD hZ ⊢
  have hA : ∀ q : Nat, s.heap.size ≤ q → A q := fun q h => by rw [← hAe]; exact Or.inr h
  have hS : va_S A s.heap s.heap [] := va_S.rf
  have hl := lv_entry ([.ref y, .int (nI t), .int a2]) (n := 3) (Nat.le_of_ble_eq_true rfl)
  rw [lg_entry_eq]
  generalize (lg_sl ([.ref y, .int (nI t), .int a2]) ++ List.replicate (3 - (lg_sl ([.ref y, .int (nI t), .int a2])).length) Slot.unset).toArray = ls at hl ⊢
  have hl : lv_has ls 3 [(0, .ref y), (1, .int (nI t)), (2, .int a2)] := hl
  refine lv_aload_n hx hb dM_tell_0 rfl (lv_at hl 0 rfl) ?_
  refine lv_aload_n hx hb dM_tell_1 rfl (lv_at hl 0 rfl) ?_
  refine lv_iload_n hx hb dM_tell_2 rfl (lv_at hl 1 rfl) ?_
  refine lv_iload_n hx hb dM_tell_3 rfl (lv_at hl 2 rfl) ?_
  refine ro_i (va_Run.run (va_runV (As := [.int (nI t), .int a2]) (rest := [.ref y]) ⟨hx, hb, hml, hown, hT⟩ (m_noNode_k l D cT y yr yi ysb ybs nmA t a2 hc0 ht16 hq) ⟨callB_of 2 hT (tb_gd w1535) rfl rfl rfl (hT _ w13) (hT _ w1532) hM_noNode ⟨Nat.le_of_ble_eq_true rfl, Nat.le_of_ble_eq_true rfl⟩, (hT _ w1534), (hT _ wp60)⟩ (RO.preV (ci := 11) (q0 := 0) hZ hS (hP.sub (ws' := [(y, .inr (11, MO yr yi ysb ybs)), (yr 18, .inl (cT 0, 16, .inl nmA))]) [0, 1] rfl) hK rfl rfl) rfl rfl hl.1 rfl (lv_room (Nat.le_of_ble_eq_true rfl)) dM_tell_4 ⟨Nat.le_of_ble_eq_true rfl, Nat.le_of_ble_eq_true rfl⟩)) ?_
  refine lv_if_eq (tgt := 14) hx hb dM_tell_7 rfl (fun h1 => absurd h1 (by decide)) (fun _ => ?_)
  refine lv_iconst (v := 1) hx hb dM_tell_10 (by decide) ?_
  refine lv_goto (tgt := 15) hx hb dM_tell_11 rfl ?_
  refine rw_i (wc := [(y, .inr (11, MO yr yi ysb ybs))]) (wr := [(yr 18, .inl (cT 0, 16, .inl nmA))]) hP hD hS hA [0] [1] rfl rfl (by decide) (by decide) (va_runV (As := [.int 1]) (rest := []) ⟨hx, hb, hml, hown, hT⟩ (m_ref1 l D cT y yr yi ysb ybs _) ⟨callB_of 1 hT (tb_gd w1301) rfl rfl rfl (hT _ w13) (hT _ w1298) hM_refused ⟨Nat.le_of_ble_eq_true rfl, Nat.le_of_ble_eq_true rfl⟩, (hT _ w1300), (hT _ wp29)⟩ (RW.preV (ci := 11) (q0 := 0) hZ hS (va_free (wc := [(y, .inr (11, MO yr yi ysb ybs))]) hD hS hA [0] rfl) (hP.sub (ws' := [(y, .inr (11, MO yr yi ysb ybs))]) [0] rfl) hK (hD.sub (ws' := [(y, .inr (11, MO yr yi ysb ybs))]) [0] (by decide) rfl) rfl rfl) rfl rfl hl.1 rfl (lv_room (Nat.le_of_ble_eq_true rfl)) dM_tell_15 ⟨Nat.le_of_ble_eq_true rfl, Nat.le_of_ble_eq_true rfl⟩) (fun ru2 u9 H locs hpu2 hP hD hS => ?_)
  have hpu2 : ru2 = 1 := hpu2
  have hP : va_P D vwCl [(yr 18, .inl (cT 0, 16, .inl nmA)), (y, .inr (11, MO yr (va_up yi 1 1) ysb ybs))] _ := hP
  have hD : va_D A [(yr 18, .inl (cT 0, 16, .inl nmA)), (y, .inr (11, MO yr (va_up yi 1 1) ysb ybs))] := hD
  refine lv_topi (fun y9 e9 => ?_)
  cases (show y9 = 1 from e9.trans hpu2)
  refine lv_if_eq (tgt := 23) hx hb dM_tell_18 rfl (fun h3 => absurd h3 (by decide)) (fun _ => ?_)
  refine lv_iconst (v := 0) hx hb dM_tell_21 (by decide) ?_
  have hP9 := hP.sub (ws' := [(y, .inr (11, MO yr (va_up yi 1 1) ysb ybs)), (yr 18, .inl (cT 0, 16, .inl nmA))]) [1, 0] rfl
  have hD9 := hD.sub (ws' := [(y, .inr (11, MO yr (va_up yi 1 1) ysb ybs)), (yr 18, .inl (cT 0, 16, .inl nmA))]) [1, 0] (by decide) rfl
  refine W.widen (k := 0) (n := 0) (Nat.le_of_ble_eq_true rfl) (Nat.le_of_ble_eq_true rfl) ?_
  exact W.iret (v := 0) hx hb hr (fun t9 ht9 hW9 => ⟨⟨0, (), rfl, (show 0 = 0 from rfl), by rw [ht9]; exact hP9, hD9⟩, hS.F ht9⟩) hS.2.2 dM_tell_22
set_option maxHeartbeats 4000000 in
set_option maxRecDepth 100000 in
theorem y_resid_ok (l : Launch) (D : va_G) (cT : Nat → ClassId) (y : Nat) (yr : Nat → Nat) (yi : Nat → Int32) (ysb : Int64) (ybs : Int64) (fp : Nat → Int32) (nc : Nat → Int32) (nl : Nat → Int32) (nr : Nat → Int32) (tl : Nat → Int32) (kd : Nat → Int32) (ed : Nat → Int32) (vv : Nat → Int32) (up : Nat → Int32) (lw : Nat → Int32) (f0 : Nat → Int32) (g0 : Nat → Int32) (f2 : Nat → Int32) (g2 : Nat → Int32) (fo : Nat → Int32) (fd : Nat → Int32) (f30 : Nat → Int32) (tg : Nat → Int32) (n : Nat) (r : Nat) (bb : Nat) (nm : Nat → Nat) (dp : Nat → Nat → Nat) (go : Nat → Nat → Bool) (lf : Nat → Nat) (Pp : Nat → Nat) (sc : Nat → Nat) (X : Nat → Int) (LX : Nat → Int) (PB : Nat) (XB : Nat) (hPR : PRI fp) (hn16 : n ≤ 16) (hr48 : r < 48) (hbb : bb < 2 ^ 30) (hC : CHN Pp sc X LX true n PB XB) (hBB : XB * PB + XB * (PB * PB) < 268435456 ^ 130) (hT9 : ∀ t, t < n → TWF nc nl nr (dp t) (31 * t) (nm t)) (htl : ∀ q, q < 496 → tl q = 0 ∨ tl q = 1) (hgo : ∀ t, t < n → ∀ k, k < nm t → ∀ c, c < 6 → nc (31 * t + k) = nI c → go t k = goB (tl (31 * t + k)) (kd (31 * t + k)) (ed (31 * t + k)) (vv (6 * r + c))) (hlf : ∀ t, t < n → lf t = lfw nc nl nr (go t) (31 * t) 4 0) (hlfb : ∀ t, t < n → lf t < 31) (hNF : ∀ t, t < n → NF up lw bb (31 * t + lf t) (LX t) (Pp (t + 1))) (hx0 : X 0 = (tg r).toInt) (hx1 : -1000 ≤ (tg r).toInt ∧ (tg r).toInt ≤ 1000) (hXB : XB < 268435456 ^ 130) (hPB : PB < 268435456 ^ 130) (hr0 : 0 ≤ nI r ∧ nI r ≤ yi 3 - 1) (hn0 : 0 ≤ nI n ∧ nI n ≤ yi 17) (sz : Nat) : Met l yM_residual WM_residual ({ frames := 5, cells := 0, slots := 0, locals := 124 } : Room) (RW D vwCl [.ref y, .int (nI r), .int (nI n)] [(y, .inr (11, MO yr yi ysb ybs)), (yr 0, .inl (cT 0, 19, .inl fp)), (yr 29, .inl (cT 0, 302, .inl f0)), (yr 40, .inl (cT 0, 19, .inl g0)), (yr 30, .inl (cT 0, 302, .inl f2)), (yr 41, .inl (cT 0, 19, .inl g2)), (yr 4, .inl (cT 0, 48, .inl tg)), (yr 27, .inl (cT 0, 65472, .inl up)), (yr 28, .inl (cT 0, 9424, .inl lw)), (yr 19, .inl (cT 0, 496, .inl nc)), (yr 22, .inl (cT 0, 496, .inl nl)), (yr 23, .inl (cT 0, 496, .inl nr)), (yr 5, .inl (cT 0, 288, .inl vv)), (yr 21, .inl (cT 3, 496, .inl tl)), (yr 26, .inl (cT 3, 496, .inl kd)), (yr 20, .inl (cT 0, 496, .inl ed)), (yr 48, .inl (cT 2, 6000, .inl fo)), (yr 49, .inl (cT 2, 3000, .inl fd)), (yr 31, .inl (cT 0, 302, .inl f30))] (TY cT) sz) (va_Qi (fun (r9 : Int32) (u9 : Nat × Int × Nat × (Nat → Int32) × (Nat → Int32) × (Nat → Int32) × (Nat → Int32) × (Nat → Int32) × (Nat → Int32) × (Nat → Int32) × (Nat → Int32)) => r9 = nI u9.1 ∧ u9.1 ≤ 5000 ∧ u9.2.2.2.1 47 = nI u9.1 ∧ u9.2.2.2.1 1 = 0 ∧ YK2 yi u9.2.2.2.1 ∧ RDC (X n) (Pp n) u9.2.1 u9.2.2.1 ∧ WRT u9.2.2.2.2.1 u9.1 u9.2.1 u9.2.2.1) (BW D vwCl (va_A [(y, .inr (11, MO yr yi ysb ybs)), (yr 0, .inl (cT 0, 19, .inl fp)), (yr 29, .inl (cT 0, 302, .inl f0)), (yr 40, .inl (cT 0, 19, .inl g0)), (yr 30, .inl (cT 0, 302, .inl f2)), (yr 41, .inl (cT 0, 19, .inl g2)), (yr 4, .inl (cT 0, 48, .inl tg)), (yr 27, .inl (cT 0, 65472, .inl up)), (yr 28, .inl (cT 0, 9424, .inl lw)), (yr 19, .inl (cT 0, 496, .inl nc)), (yr 22, .inl (cT 0, 496, .inl nl)), (yr 23, .inl (cT 0, 496, .inl nr)), (yr 5, .inl (cT 0, 288, .inl vv)), (yr 21, .inl (cT 3, 496, .inl tl)), (yr 26, .inl (cT 3, 496, .inl kd)), (yr 20, .inl (cT 0, 496, .inl ed)), (yr 48, .inl (cT 2, 6000, .inl fo)), (yr 49, .inl (cT 2, 3000, .inl fd)), (yr 31, .inl (cT 0, 302, .inl f30))] sz) (fun u9 : Nat × Int × Nat × (Nat → Int32) × (Nat → Int32) × (Nat → Int32) × (Nat → Int32) × (Nat → Int32) × (Nat → Int32) × (Nat → Int32) × (Nat → Int32) => [(y, .inr (11, MO yr u9.2.2.2.1 ysb ybs)), (yr 0, .inl (cT 0, 19, .inl fp)), (yr 29, .inl (cT 0, 302, .inl u9.2.2.2.2.2.2.2.1)), (yr 40, .inl (cT 0, 19, .inl u9.2.2.2.2.2.2.2.2.1)), (yr 30, .inl (cT 0, 302, .inl u9.2.2.2.2.2.2.2.2.2.1)), (yr 41, .inl (cT 0, 19, .inl u9.2.2.2.2.2.2.2.2.2.2)), (yr 4, .inl (cT 0, 48, .inl tg)), (yr 27, .inl (cT 0, 65472, .inl up)), (yr 28, .inl (cT 0, 9424, .inl lw)), (yr 19, .inl (cT 0, 496, .inl nc)), (yr 22, .inl (cT 0, 496, .inl nl)), (yr 23, .inl (cT 0, 496, .inl nr)), (yr 5, .inl (cT 0, 288, .inl vv)), (yr 21, .inl (cT 3, 496, .inl tl)), (yr 26, .inl (cT 3, 496, .inl kd)), (yr 20, .inl (cT 0, 496, .inl ed)), (yr 48, .inl (cT 2, 6000, .inl u9.2.2.2.2.1)), (yr 49, .inl (cT 2, 3000, .inl u9.2.2.2.2.2.1)), (yr 31, .inl (cT 0, 302, .inl u9.2.2.2.2.2.2.1))])) (va_A [(y, .inr (11, MO yr yi ysb ybs)), (yr 0, .inl (cT 0, 19, .inl fp)), (yr 29, .inl (cT 0, 302, .inl f0)), (yr 40, .inl (cT 0, 19, .inl g0)), (yr 30, .inl (cT 0, 302, .inl f2)), (yr 41, .inl (cT 0, 19, .inl g2)), (yr 4, .inl (cT 0, 48, .inl tg)), (yr 27, .inl (cT 0, 65472, .inl up)), (yr 28, .inl (cT 0, 9424, .inl lw)), (yr 19, .inl (cT 0, 496, .inl nc)), (yr 22, .inl (cT 0, 496, .inl nl)), (yr 23, .inl (cT 0, 496, .inl nr)), (yr 5, .inl (cT 0, 288, .inl vv)), (yr 21, .inl (cT 3, 496, .inl tl)), (yr 26, .inl (cT 3, 496, .inl kd)), (yr 20, .inl (cT 0, 496, .inl ed)), (yr 48, .inl (cT 2, 6000, .inl fo)), (yr 49, .inl (cT 2, 3000, .inl fd)), (yr 31, .inl (cT 0, 302, .inl f30))] sz)) 0 0 (va_A [(y, .inr (11, MO yr yi ysb ybs)), (yr 0, .inl (cT 0, 19, .inl fp)), (yr 29, .inl (cT 0, 302, .inl f0)), (yr 40, .inl (cT 0, 19, .inl g0)), (yr 30, .inl (cT 0, 302, .inl f2)), (yr 41, .inl (cT 0, 19, .inl g2)), (yr 4, .inl (cT 0, 48, .inl tg)), (yr 27, .inl (cT 0, 65472, .inl up)), (yr 28, .inl (cT 0, 9424, .inl lw)), (yr 19, .inl (cT 0, 496, .inl nc)), (yr 22, .inl (cT 0, 496, .inl nl)), (yr 23, .inl (cT 0, 496, .inl nr)), (yr 5, .inl (cT 0, 288, .inl vv)), (yr 21, .inl (cT 3, 496, .inl tl)), (yr 26, .inl (cT 3, 496, .inl kd)), (yr 20, .inl (cT 0, 496, .inl ed)), (yr 48, .inl (cT 2, 6000, .inl fo)), (yr 49, .inl (cT 2, 3000, .inl fd)), (yr 31, .inl (cT 0, 302, .inl f30))] sz) := by
  refine Met.ofW (cc := cM_residual) (maxL := 3) (ret := (some .int)) (by decide) rfl ?_
  intro p e s m args below meth c s₁ B hml hv
  obtain ⟨rfl, hsz, hZ, hP, hK, hD0⟩ := hv
  have hx := B.exec
  have hb := B.bytes
  have hr := B.returns
  have hts := atoms_spec (ws := WM_residual) B.pre
  have hT : ∀ w ∈ TB, w.before _ s = true := fun w h => hts w (List.mem_cons_of_mem _ h)
  have hown : s.vm.findClass R_M = some m.cls := findClass_of_methodNamed B.named
  have hlocks := B.notSynchronized
  subst hsz
  have hD := hD0.self (sz := s.heap.size)
  generalize hAe : va_A [(y, .inr (11, MO yr yi ysb ybs)), (yr 0, .inl (cT 0, 19, .inl fp)), (yr 29, .inl (cT 0, 302, .inl f0)), (yr 40, .inl (cT 0, 19, .inl g0)), (yr 30, .inl (cT 0, 302, .inl f2)), (yr 41, .inl (cT 0, 19, .inl g2)), (yr 4, .inl (cT 0, 48, .inl tg)), (yr 27, .inl (cT 0, 65472, .inl up)), (yr 28, .inl (cT 0, 9424, .inl lw)), (yr 19, .inl (cT 0, 496, .inl nc)), (yr 22, .inl (cT 0, 496, .inl nl)), (yr 23, .inl (cT 0, 496, .inl nr)), (yr 5, .inl (cT 0, 288, .inl vv)), (yr 21, .inl (cT 3, 496, .inl tl)), (yr 26, .inl (cT 3, 496, .inl kd)), (yr 20, .inl (cT 0, 496, .inl ed)), (yr 48, .inl (cT 2, 6000, .inl fo)), (yr 49, .inl (cT 2, 3000, .inl fd)), (yr 31, .inl (cT 0, 302, .inl f30))] s.heap.size = A at hD hZ ⊢
  have hA : ∀ q : Nat, s.heap.size ≤ q → A q := fun q h => by rw [← hAe]; exact Or.inr h
  have hS : va_S A s.heap s.heap [] := va_S.rf
  have hl := lv_entry ([.ref y, .int (nI r), .int (nI n)]) (n := 3) (Nat.le_of_ble_eq_true rfl)
  rw [lg_entry_eq]
  generalize (lg_sl ([.ref y, .int (nI r), .int (nI n)]) ++ List.replicate (3 - (lg_sl ([.ref y, .int (nI r), .int (nI n)])).length) Slot.unset).toArray = ls at hl ⊢
  have hl : lv_has ls 3 [(0, .ref y), (1, .int (nI r)), (2, .int (nI n))] := hl
  refine lv_aload_n hx hb dM_residual_0 rfl (lv_at hl 0 rfl) ?_
  refine lv_aload_n hx hb dM_residual_1 rfl (lv_at hl 0 rfl) ?_
  refine lv_iload_n hx hb dM_residual_2 rfl (lv_at hl 1 rfl) ?_
  refine ro_i (va_Run.run (va_runV (As := [.int (nI r)]) (rest := [.ref y]) ⟨hx, hb, hml, hown, hT⟩ (m_noRow l D cT y yr yi ysb ybs (nI r)) ⟨callB_of 1 hT (tb_gd w1313) rfl rfl rfl (hT _ w13) (hT _ w1310) hM_noRow ⟨Nat.le_of_ble_eq_true rfl, Nat.le_of_ble_eq_true rfl⟩, (hT _ w1312), (hT _ wp30)⟩ (RO.preV (ci := 11) (q0 := 0) hZ hS (hP.sub (ws' := [(y, .inr (11, MO yr yi ysb ybs))]) [0] rfl) hK rfl rfl) rfl rfl hl.1 rfl (lv_room (Nat.le_of_ble_eq_true rfl)) dM_residual_3 ⟨Nat.le_of_ble_eq_true rfl, Nat.le_of_ble_eq_true rfl⟩)) ?_
  refine lv_if_ne (tgt := 21) hx hb dM_residual_6 rfl (fun h1 => absurd (bi_f (fun q => q hr0)) h1) (fun _ => ?_)
  refine lv_iload_n hx hb dM_residual_9 rfl (lv_at hl 2 rfl) ?_
  refine lv_iconst (v := 0) hx hb dM_residual_10 (by decide) ?_
  refine lv_aload_n hx hb dM_residual_11 rfl (lv_at hl 0 rfl) ?_
  refine va_get (D := D) (ci := 11) (v := .int (yi 17)) (C := R_M) (T := T_M) (N := 60) hx hb hT in_M hown hK hP 0 rfl rfl 17 (by decide) (hT _ w1121) (fun _ h9 => h9) rfl dM_residual_12 ?_
  refine ro_i (va_Run.run (va_runS (As := [.int (nI n), .int 0, .int (yi 17)]) (rest := [.ref y]) ⟨hx, hb, hml, hown, hT⟩ (m_in l D cT (nI n) 0 (yi 17)) ⟨callB_of 3 hT (tb_gd w1297) rfl rfl rfl (hT _ w13) (hT _ w1295) hM_in ⟨Nat.le_of_ble_eq_true rfl, Nat.le_of_ble_eq_true rfl⟩, (hT _ w1296)⟩ (RO.preS hZ hS ((show va_P D vwCl [] _ from fun _ _ h => nomatch h)) hK) rfl rfl hl.1 rfl (lv_room (Nat.le_of_ble_eq_true rfl)) dM_residual_15 ⟨Nat.le_of_ble_eq_true rfl, Nat.le_of_ble_eq_true rfl⟩)) ?_
  refine lv_if_ne (tgt := 25) hx hb dM_residual_18 rfl (fun _ => ?_) (fun h2 => absurd h2 (by rw [bi_t hn0]; decide))
  refine lv_iconst (v := 0) hx hb dM_residual_25 (by decide) ?_
  refine rw_i (wc := [(y, .inr (11, MO yr yi ysb ybs))]) (wr := [(yr 0, .inl (cT 0, 19, .inl fp)), (yr 29, .inl (cT 0, 302, .inl f0)), (yr 40, .inl (cT 0, 19, .inl g0)), (yr 30, .inl (cT 0, 302, .inl f2)), (yr 41, .inl (cT 0, 19, .inl g2)), (yr 4, .inl (cT 0, 48, .inl tg)), (yr 27, .inl (cT 0, 65472, .inl up)), (yr 28, .inl (cT 0, 9424, .inl lw)), (yr 19, .inl (cT 0, 496, .inl nc)), (yr 22, .inl (cT 0, 496, .inl nl)), (yr 23, .inl (cT 0, 496, .inl nr)), (yr 5, .inl (cT 0, 288, .inl vv)), (yr 21, .inl (cT 3, 496, .inl tl)), (yr 26, .inl (cT 3, 496, .inl kd)), (yr 20, .inl (cT 0, 496, .inl ed)), (yr 48, .inl (cT 2, 6000, .inl fo)), (yr 49, .inl (cT 2, 3000, .inl fd)), (yr 31, .inl (cT 0, 302, .inl f30))]) hP hD hS hA [0] [1, 2, 3, 4, 5, 6, 7, 8, 9, 10, 11, 12, 13, 14, 15, 16, 17, 18] rfl rfl (by decide) (by decide) (va_runV (As := [.int 0]) (rest := []) ⟨hx, hb, hml, hown, hT⟩ (m_ref0 l D cT y yr yi ysb ybs _) ⟨callB_of 1 hT (tb_gd w1301) rfl rfl rfl (hT _ w13) (hT _ w1298) hM_refused ⟨Nat.le_of_ble_eq_true rfl, Nat.le_of_ble_eq_true rfl⟩, (hT _ w1300), (hT _ wp29)⟩ (RW.preV (ci := 11) (q0 := 0) hZ hS (va_free (wc := [(y, .inr (11, MO yr yi ysb ybs))]) hD hS hA [0] rfl) (hP.sub (ws' := [(y, .inr (11, MO yr yi ysb ybs))]) [0] rfl) hK (hD.sub (ws' := [(y, .inr (11, MO yr yi ysb ybs))]) [0] (by decide) rfl) rfl rfl) rfl rfl hl.1 rfl (lv_room (Nat.le_of_ble_eq_true rfl)) dM_residual_26 ⟨Nat.le_of_ble_eq_true rfl, Nat.le_of_ble_eq_true rfl⟩) (fun ru3 u9 H locs hpu3 hP hD hS => ?_)
  have hpu3 : ru3 = 0 := hpu3
  have hP : va_P D vwCl [(yr 0, .inl (cT 0, 19, .inl fp)), (yr 29, .inl (cT 0, 302, .inl f0)), (yr 40, .inl (cT 0, 19, .inl g0)), (yr 30, .inl (cT 0, 302, .inl f2)), (yr 41, .inl (cT 0, 19, .inl g2)), (yr 4, .inl (cT 0, 48, .inl tg)), (yr 27, .inl (cT 0, 65472, .inl up)), (yr 28, .inl (cT 0, 9424, .inl lw)), (yr 19, .inl (cT 0, 496, .inl nc)), (yr 22, .inl (cT 0, 496, .inl nl)), (yr 23, .inl (cT 0, 496, .inl nr)), (yr 5, .inl (cT 0, 288, .inl vv)), (yr 21, .inl (cT 3, 496, .inl tl)), (yr 26, .inl (cT 3, 496, .inl kd)), (yr 20, .inl (cT 0, 496, .inl ed)), (yr 48, .inl (cT 2, 6000, .inl fo)), (yr 49, .inl (cT 2, 3000, .inl fd)), (yr 31, .inl (cT 0, 302, .inl f30)), (y, .inr (11, MO yr (va_up yi 1 0) ysb ybs))] _ := hP
  have hD : va_D A [(yr 0, .inl (cT 0, 19, .inl fp)), (yr 29, .inl (cT 0, 302, .inl f0)), (yr 40, .inl (cT 0, 19, .inl g0)), (yr 30, .inl (cT 0, 302, .inl f2)), (yr 41, .inl (cT 0, 19, .inl g2)), (yr 4, .inl (cT 0, 48, .inl tg)), (yr 27, .inl (cT 0, 65472, .inl up)), (yr 28, .inl (cT 0, 9424, .inl lw)), (yr 19, .inl (cT 0, 496, .inl nc)), (yr 22, .inl (cT 0, 496, .inl nl)), (yr 23, .inl (cT 0, 496, .inl nr)), (yr 5, .inl (cT 0, 288, .inl vv)), (yr 21, .inl (cT 3, 496, .inl tl)), (yr 26, .inl (cT 3, 496, .inl kd)), (yr 20, .inl (cT 0, 496, .inl ed)), (yr 48, .inl (cT 2, 6000, .inl fo)), (yr 49, .inl (cT 2, 3000, .inl fd)), (yr 31, .inl (cT 0, 302, .inl f30)), (y, .inr (11, MO yr (va_up yi 1 0) ysb ybs))] := hD
  refine lv_topi (fun y9 e9 => ?_)
  cases (show y9 = 0 from e9.trans hpu3)
  refine lv_if_eq (tgt := 34) hx hb dM_residual_29 rfl (fun _ => ?_) (fun h4 => absurd (by decide) h4)
  refine lv_aload_n hx hb dM_residual_34 rfl (lv_at hl 0 rfl) ?_
  refine lv_iload_n hx hb dM_residual_35 rfl (lv_at hl 1 rfl) ?_
  refine lv_iload_n hx hb dM_residual_36 rfl (lv_at hl 2 rfl) ?_
  refine lv_iconst (v := (-1)) hx hb dM_residual_37 (by decide) ?_
  refine lv_aload_n hx hb dM_residual_38 rfl (lv_at hl 0 rfl) ?_
  refine va_get (D := D) (ci := 11) (v := .ref (yr 4)) (C := R_M) (T := T_M) (N := 60) hx hb hT in_M hown hK hP 18 rfl rfl 4 (by decide) (hT _ w1108) (fun _ h9 => h9) rfl dM_residual_39 ?_
  refine lv_iload_n hx hb dM_residual_42 rfl (lv_at hl 1 rfl) ?_
  refine lq_iald (j := r) hx hb hK hP 5 0 rfl rfl rfl (by omega) (by omega) dM_residual_43 ?_
  refine rw_v (wc := [(y, .inr (11, MO yr (va_up yi 1 0) ysb ybs)), (yr 0, .inl (cT 0, 19, .inl fp)), (yr 29, .inl (cT 0, 302, .inl f0)), (yr 40, .inl (cT 0, 19, .inl g0)), (yr 30, .inl (cT 0, 302, .inl f2)), (yr 41, .inl (cT 0, 19, .inl g2)), (yr 27, .inl (cT 0, 65472, .inl up)), (yr 28, .inl (cT 0, 9424, .inl lw)), (yr 19, .inl (cT 0, 496, .inl nc)), (yr 22, .inl (cT 0, 496, .inl nl)), (yr 23, .inl (cT 0, 496, .inl nr)), (yr 5, .inl (cT 0, 288, .inl vv)), (yr 21, .inl (cT 3, 496, .inl tl)), (yr 26, .inl (cT 3, 496, .inl kd)), (yr 20, .inl (cT 0, 496, .inl ed))]) (wr := [(yr 4, .inl (cT 0, 48, .inl tg)), (yr 48, .inl (cT 2, 6000, .inl fo)), (yr 49, .inl (cT 2, 3000, .inl fd)), (yr 31, .inl (cT 0, 302, .inl f30))]) hP hD hS hA [18, 0, 1, 2, 3, 4, 6, 7, 8, 9, 10, 11, 12, 13, 14] [5, 15, 16, 17] rfl rfl (by decide) (by decide) (va_runV (As := [.int (nI r), .int (nI n), .int (-1), .int (tg r)]) (rest := []) ⟨hx, hb, hml, hown, hT⟩ (m_walkR l D cT y yr (va_up yi 1 0) ysb ybs fp nc nl nr tl kd ed vv up lw f0 g0 f2 g2 (tg r) n r bb nm dp go lf Pp sc X LX PB XB hPR hn16 hr48 hbb hx0 (by omega) hC hBB hT9 htl hgo hlf hlfb hNF _) ⟨callB_of 4 hT (tb_gd w1384) rfl rfl rfl (hT _ w13) (hT _ w1381) hM_walk ⟨Nat.le_of_ble_eq_true rfl, Nat.le_of_ble_eq_true rfl⟩, (hT _ w1383), (hT _ wp36)⟩ (RW.preV (ci := 11) (q0 := 0) hZ hS (va_free (wc := [(y, .inr (11, MO yr (va_up yi 1 0) ysb ybs)), (yr 0, .inl (cT 0, 19, .inl fp)), (yr 29, .inl (cT 0, 302, .inl f0)), (yr 40, .inl (cT 0, 19, .inl g0)), (yr 30, .inl (cT 0, 302, .inl f2)), (yr 41, .inl (cT 0, 19, .inl g2)), (yr 27, .inl (cT 0, 65472, .inl up)), (yr 28, .inl (cT 0, 9424, .inl lw)), (yr 19, .inl (cT 0, 496, .inl nc)), (yr 22, .inl (cT 0, 496, .inl nl)), (yr 23, .inl (cT 0, 496, .inl nr)), (yr 5, .inl (cT 0, 288, .inl vv)), (yr 21, .inl (cT 3, 496, .inl tl)), (yr 26, .inl (cT 3, 496, .inl kd)), (yr 20, .inl (cT 0, 496, .inl ed))]) hD hS hA [18, 0, 1, 2, 3, 4, 6, 7, 8, 9, 10, 11, 12, 13, 14] rfl) (hP.sub (ws' := [(y, .inr (11, MO yr (va_up yi 1 0) ysb ybs)), (yr 0, .inl (cT 0, 19, .inl fp)), (yr 29, .inl (cT 0, 302, .inl f0)), (yr 40, .inl (cT 0, 19, .inl g0)), (yr 30, .inl (cT 0, 302, .inl f2)), (yr 41, .inl (cT 0, 19, .inl g2)), (yr 27, .inl (cT 0, 65472, .inl up)), (yr 28, .inl (cT 0, 9424, .inl lw)), (yr 19, .inl (cT 0, 496, .inl nc)), (yr 22, .inl (cT 0, 496, .inl nl)), (yr 23, .inl (cT 0, 496, .inl nr)), (yr 5, .inl (cT 0, 288, .inl vv)), (yr 21, .inl (cT 3, 496, .inl tl)), (yr 26, .inl (cT 3, 496, .inl kd)), (yr 20, .inl (cT 0, 496, .inl ed))]) [18, 0, 1, 2, 3, 4, 6, 7, 8, 9, 10, 11, 12, 13, 14] rfl) hK (hD.sub (ws' := [(y, .inr (11, MO yr (va_up yi 1 0) ysb ybs)), (yr 0, .inl (cT 0, 19, .inl fp)), (yr 29, .inl (cT 0, 302, .inl f0)), (yr 40, .inl (cT 0, 19, .inl g0)), (yr 30, .inl (cT 0, 302, .inl f2)), (yr 41, .inl (cT 0, 19, .inl g2)), (yr 27, .inl (cT 0, 65472, .inl up)), (yr 28, .inl (cT 0, 9424, .inl lw)), (yr 19, .inl (cT 0, 496, .inl nc)), (yr 22, .inl (cT 0, 496, .inl nl)), (yr 23, .inl (cT 0, 496, .inl nr)), (yr 5, .inl (cT 0, 288, .inl vv)), (yr 21, .inl (cT 3, 496, .inl tl)), (yr 26, .inl (cT 3, 496, .inl kd)), (yr 20, .inl (cT 0, 496, .inl ed))]) [18, 0, 1, 2, 3, 4, 6, 7, 8, 9, 10, 11, 12, 13, 14] (by decide) rfl) rfl rfl) rfl rfl hl.1 rfl (lv_room (Nat.le_of_ble_eq_true rfl)) dM_residual_44 ⟨Nat.le_of_ble_eq_true rfl, Nat.le_of_ble_eq_true rfl⟩) (fun u9 H locs hpu5 hP hD hS => ?_)
  obtain ⟨z7u5, f7u5, g7u5, f8u5, g8u5⟩ := u9
  have hpu5 : MN f7u5 z7u5 ∧ LOK g7u5 bb ∧ RED z7u5 g7u5 ∧ z7u5 * (Pp n : Int) = X n * (dn g7u5 : Int) := hpu5
  have hP : va_P D vwCl [(yr 4, .inl (cT 0, 48, .inl tg)), (yr 48, .inl (cT 2, 6000, .inl fo)), (yr 49, .inl (cT 2, 3000, .inl fd)), (yr 31, .inl (cT 0, 302, .inl f30)), (y, .inr (11, MO yr (va_up yi 1 0) ysb ybs)), (yr 0, .inl (cT 0, 19, .inl fp)), (yr 29, .inl (cT 0, 302, .inl f7u5)), (yr 40, .inl (cT 0, 19, .inl g7u5)), (yr 30, .inl (cT 0, 302, .inl f8u5)), (yr 41, .inl (cT 0, 19, .inl g8u5)), (yr 27, .inl (cT 0, 65472, .inl up)), (yr 28, .inl (cT 0, 9424, .inl lw)), (yr 19, .inl (cT 0, 496, .inl nc)), (yr 22, .inl (cT 0, 496, .inl nl)), (yr 23, .inl (cT 0, 496, .inl nr)), (yr 5, .inl (cT 0, 288, .inl vv)), (yr 21, .inl (cT 3, 496, .inl tl)), (yr 26, .inl (cT 3, 496, .inl kd)), (yr 20, .inl (cT 0, 496, .inl ed))] _ := hP
  have hD : va_D A [(yr 4, .inl (cT 0, 48, .inl tg)), (yr 48, .inl (cT 2, 6000, .inl fo)), (yr 49, .inl (cT 2, 3000, .inl fd)), (yr 31, .inl (cT 0, 302, .inl f30)), (y, .inr (11, MO yr (va_up yi 1 0) ysb ybs)), (yr 0, .inl (cT 0, 19, .inl fp)), (yr 29, .inl (cT 0, 302, .inl f7u5)), (yr 40, .inl (cT 0, 19, .inl g7u5)), (yr 30, .inl (cT 0, 302, .inl f8u5)), (yr 41, .inl (cT 0, 19, .inl g8u5)), (yr 27, .inl (cT 0, 65472, .inl up)), (yr 28, .inl (cT 0, 9424, .inl lw)), (yr 19, .inl (cT 0, 496, .inl nc)), (yr 22, .inl (cT 0, 496, .inl nl)), (yr 23, .inl (cT 0, 496, .inl nr)), (yr 5, .inl (cT 0, 288, .inl vv)), (yr 21, .inl (cT 3, 496, .inl tl)), (yr 26, .inl (cT 3, 496, .inl kd)), (yr 20, .inl (cT 0, 496, .inl ed))] := hD
  obtain ⟨wN, wL, wR, wv⟩ := hpu5
  have wc := hC.2.2 n (Nat.le_refl _)
  have wb := red_le wc.1 wR wv
  refine lv_aload_n hx hb dM_residual_47 rfl (lv_at hl 0 rfl) ?_
  refine lv_aload_n hx hb dM_residual_48 rfl (lv_at hl 0 rfl) ?_
  refine va_get (D := D) (ci := 11) (v := .ref (yr 29)) (C := R_M) (T := T_M) (N := 60) hx hb hT in_M hown hK hP 4 rfl rfl 29 (by decide) (hT _ w1133) (fun _ h9 => h9) rfl dM_residual_49 ?_
  refine lv_aload_n hx hb dM_residual_52 rfl (lv_at hl 0 rfl) ?_
  refine va_get (D := D) (ci := 11) (v := .ref (yr 40)) (C := R_M) (T := T_M) (N := 60) hx hb hT in_M hown hK hP 4 rfl rfl 40 (by decide) (hT _ w1144) (fun _ h9 => h9) rfl dM_residual_53 ?_
  refine rw_i (wc := [(y, .inr (11, MO yr (va_up yi 1 0) ysb ybs)), (yr 0, .inl (cT 0, 19, .inl fp)), (yr 48, .inl (cT 2, 6000, .inl fo)), (yr 49, .inl (cT 2, 3000, .inl fd)), (yr 31, .inl (cT 0, 302, .inl f30)), (yr 29, .inl (cT 0, 302, .inl f7u5)), (yr 40, .inl (cT 0, 19, .inl g7u5))]) (wr := [(yr 4, .inl (cT 0, 48, .inl tg)), (yr 30, .inl (cT 0, 302, .inl f8u5)), (yr 41, .inl (cT 0, 19, .inl g8u5)), (yr 27, .inl (cT 0, 65472, .inl up)), (yr 28, .inl (cT 0, 9424, .inl lw)), (yr 19, .inl (cT 0, 496, .inl nc)), (yr 22, .inl (cT 0, 496, .inl nl)), (yr 23, .inl (cT 0, 496, .inl nr)), (yr 5, .inl (cT 0, 288, .inl vv)), (yr 21, .inl (cT 3, 496, .inl tl)), (yr 26, .inl (cT 3, 496, .inl kd)), (yr 20, .inl (cT 0, 496, .inl ed))]) hP hD hS hA [4, 5, 1, 2, 3, 6, 7] [0, 8, 9, 10, 11, 12, 13, 14, 15, 16, 17, 18] rfl rfl (by decide) (by decide) (va_runV (As := [.ref (yr 29), .ref (yr 40)]) (rest := []) ⟨hx, hb, hml, hown, hT⟩ (m_write l D cT y yr (va_up yi 1 0) ysb ybs fp fo fd f30 (yr 29) f7u5 z7u5 (yr 40) g7u5 bb hPR wN wL hbb (f250 (Nat.lt_of_le_of_lt (Nat.le_trans wb.1 wc.2.2) hXB)) (f250 (Nat.lt_of_le_of_lt (Nat.le_trans wb.2 wc.2.1) hPB)) _) ⟨callB_of 2 hT (tb_gd w1559) rfl rfl rfl (hT _ w13) (hT _ w1556) hM_write ⟨Nat.le_of_ble_eq_true rfl, Nat.le_of_ble_eq_true rfl⟩, (hT _ w1558), (hT _ wp62)⟩ (RW.preV (ci := 11) (q0 := 0) hZ hS (va_free (wc := [(y, .inr (11, MO yr (va_up yi 1 0) ysb ybs)), (yr 0, .inl (cT 0, 19, .inl fp)), (yr 48, .inl (cT 2, 6000, .inl fo)), (yr 49, .inl (cT 2, 3000, .inl fd)), (yr 31, .inl (cT 0, 302, .inl f30)), (yr 29, .inl (cT 0, 302, .inl f7u5)), (yr 40, .inl (cT 0, 19, .inl g7u5))]) hD hS hA [4, 5, 1, 2, 3, 6, 7] rfl) (hP.sub (ws' := [(y, .inr (11, MO yr (va_up yi 1 0) ysb ybs)), (yr 0, .inl (cT 0, 19, .inl fp)), (yr 48, .inl (cT 2, 6000, .inl fo)), (yr 49, .inl (cT 2, 3000, .inl fd)), (yr 31, .inl (cT 0, 302, .inl f30)), (yr 29, .inl (cT 0, 302, .inl f7u5)), (yr 40, .inl (cT 0, 19, .inl g7u5))]) [4, 5, 1, 2, 3, 6, 7] rfl) hK (hD.sub (ws' := [(y, .inr (11, MO yr (va_up yi 1 0) ysb ybs)), (yr 0, .inl (cT 0, 19, .inl fp)), (yr 48, .inl (cT 2, 6000, .inl fo)), (yr 49, .inl (cT 2, 3000, .inl fd)), (yr 31, .inl (cT 0, 302, .inl f30)), (yr 29, .inl (cT 0, 302, .inl f7u5)), (yr 40, .inl (cT 0, 19, .inl g7u5))]) [4, 5, 1, 2, 3, 6, 7] (by decide) rfl) rfl rfl) rfl rfl hl.1 rfl (lv_room (Nat.le_of_ble_eq_true rfl)) dM_residual_56 ⟨Nat.le_of_ble_eq_true rfl, Nat.le_of_ble_eq_true rfl⟩) (fun ru6 u9 H locs hpu6 hP hD hS => ?_)
  obtain ⟨L7u6, yi7u6, fo7u6, fd7u6, f7u6, f37u6⟩ := u9
  have hpu6 : ru6 = nI L7u6 ∧ L7u6 ≤ 5000 ∧ yi7u6 47 = nI L7u6 ∧ WRT fo7u6 L7u6 z7u5 (dn g7u5) ∧ ∀ j8, j8 ≠ 47 → yi7u6 j8 = (va_up yi 1 0) j8 := hpu6
  have hP : va_P D vwCl [(yr 4, .inl (cT 0, 48, .inl tg)), (yr 30, .inl (cT 0, 302, .inl f8u5)), (yr 41, .inl (cT 0, 19, .inl g8u5)), (yr 27, .inl (cT 0, 65472, .inl up)), (yr 28, .inl (cT 0, 9424, .inl lw)), (yr 19, .inl (cT 0, 496, .inl nc)), (yr 22, .inl (cT 0, 496, .inl nl)), (yr 23, .inl (cT 0, 496, .inl nr)), (yr 5, .inl (cT 0, 288, .inl vv)), (yr 21, .inl (cT 3, 496, .inl tl)), (yr 26, .inl (cT 3, 496, .inl kd)), (yr 20, .inl (cT 0, 496, .inl ed)), (y, .inr (11, MO yr yi7u6 ysb ybs)), (yr 0, .inl (cT 0, 19, .inl fp)), (yr 48, .inl (cT 2, 6000, .inl fo7u6)), (yr 49, .inl (cT 2, 3000, .inl fd7u6)), (yr 31, .inl (cT 0, 302, .inl f37u6)), (yr 29, .inl (cT 0, 302, .inl f7u6)), (yr 40, .inl (cT 0, 19, .inl g7u5))] _ := hP
  have hD : va_D A [(yr 4, .inl (cT 0, 48, .inl tg)), (yr 30, .inl (cT 0, 302, .inl f8u5)), (yr 41, .inl (cT 0, 19, .inl g8u5)), (yr 27, .inl (cT 0, 65472, .inl up)), (yr 28, .inl (cT 0, 9424, .inl lw)), (yr 19, .inl (cT 0, 496, .inl nc)), (yr 22, .inl (cT 0, 496, .inl nl)), (yr 23, .inl (cT 0, 496, .inl nr)), (yr 5, .inl (cT 0, 288, .inl vv)), (yr 21, .inl (cT 3, 496, .inl tl)), (yr 26, .inl (cT 3, 496, .inl kd)), (yr 20, .inl (cT 0, 496, .inl ed)), (y, .inr (11, MO yr yi7u6 ysb ybs)), (yr 0, .inl (cT 0, 19, .inl fp)), (yr 48, .inl (cT 2, 6000, .inl fo7u6)), (yr 49, .inl (cT 2, 3000, .inl fd7u6)), (yr 31, .inl (cT 0, 302, .inl f37u6)), (yr 29, .inl (cT 0, 302, .inl f7u6)), (yr 40, .inl (cT 0, 19, .inl g7u5))] := hD
  have hP9 := hP.sub (ws' := [(y, .inr (11, MO yr yi7u6 ysb ybs)), (yr 0, .inl (cT 0, 19, .inl fp)), (yr 29, .inl (cT 0, 302, .inl f7u6)), (yr 40, .inl (cT 0, 19, .inl g7u5)), (yr 30, .inl (cT 0, 302, .inl f8u5)), (yr 41, .inl (cT 0, 19, .inl g8u5)), (yr 4, .inl (cT 0, 48, .inl tg)), (yr 27, .inl (cT 0, 65472, .inl up)), (yr 28, .inl (cT 0, 9424, .inl lw)), (yr 19, .inl (cT 0, 496, .inl nc)), (yr 22, .inl (cT 0, 496, .inl nl)), (yr 23, .inl (cT 0, 496, .inl nr)), (yr 5, .inl (cT 0, 288, .inl vv)), (yr 21, .inl (cT 3, 496, .inl tl)), (yr 26, .inl (cT 3, 496, .inl kd)), (yr 20, .inl (cT 0, 496, .inl ed)), (yr 48, .inl (cT 2, 6000, .inl fo7u6)), (yr 49, .inl (cT 2, 3000, .inl fd7u6)), (yr 31, .inl (cT 0, 302, .inl f37u6))]) [12, 13, 17, 18, 1, 2, 0, 3, 4, 5, 6, 7, 8, 9, 10, 11, 14, 15, 16] rfl
  have hD9 := hD.sub (ws' := [(y, .inr (11, MO yr yi7u6 ysb ybs)), (yr 0, .inl (cT 0, 19, .inl fp)), (yr 29, .inl (cT 0, 302, .inl f7u6)), (yr 40, .inl (cT 0, 19, .inl g7u5)), (yr 30, .inl (cT 0, 302, .inl f8u5)), (yr 41, .inl (cT 0, 19, .inl g8u5)), (yr 4, .inl (cT 0, 48, .inl tg)), (yr 27, .inl (cT 0, 65472, .inl up)), (yr 28, .inl (cT 0, 9424, .inl lw)), (yr 19, .inl (cT 0, 496, .inl nc)), (yr 22, .inl (cT 0, 496, .inl nl)), (yr 23, .inl (cT 0, 496, .inl nr)), (yr 5, .inl (cT 0, 288, .inl vv)), (yr 21, .inl (cT 3, 496, .inl tl)), (yr 26, .inl (cT 3, 496, .inl kd)), (yr 20, .inl (cT 0, 496, .inl ed)), (yr 48, .inl (cT 2, 6000, .inl fo7u6)), (yr 49, .inl (cT 2, 3000, .inl fd7u6)), (yr 31, .inl (cT 0, 302, .inl f37u6))]) [12, 13, 17, 18, 1, 2, 0, 3, 4, 5, 6, 7, 8, 9, 10, 11, 14, 15, 16] (by decide) rfl
  refine W.widen (k := 0) (n := 0) (Nat.le_of_ble_eq_true rfl) (Nat.le_of_ble_eq_true rfl) ?_
  exact W.iret (v := ru6) hx hb hr (fun t9 ht9 hW9 => ⟨⟨ru6, (L7u6, z7u5, dn g7u5, yi7u6, fo7u6, fd7u6, f37u6, f7u6, g7u5, f8u5, g8u5), rfl, (show ru6 = nI L7u6 ∧ L7u6 ≤ 5000 ∧ yi7u6 47 = nI L7u6 ∧ yi7u6 1 = 0 ∧ YK2 yi yi7u6 ∧ RDC (X n) (Pp n) z7u5 (dn g7u5) ∧ WRT fo7u6 L7u6 z7u5 (dn g7u5) from (by obtain ⟨k1, k2, k3, k4, k5⟩ := hpu6; have k6 := yk2_mk k5; exact ⟨k1, k2, k3, k6.2, k6.1, ⟨g7u5, wR, rfl, wv⟩, k4⟩)), by rw [ht9]; exact hP9, hD9⟩, hS.F ht9⟩) hS.2.2 dM_residual_59
set_option maxHeartbeats 4000000 in
set_option maxRecDepth 100000 in
theorem y_resid_no (l : Launch) (D : va_G) (cT : Nat → ClassId) (y : Nat) (yr : Nat → Nat) (yi : Nat → Int32) (ysb : Int64) (ybs : Int64) (a1 : Int32) (v : Int32) (hq : ¬ ((0 ≤ a1 ∧ a1 ≤ yi 3 - 1) ∧ (0 ≤ v ∧ v ≤ yi 17))) (sz : Nat) : Met l yM_residual WM_residual ({ frames := 2, cells := 0, slots := 0, locals := 43 } : Room) (RW D vwCl [.ref y, .int a1, .int v] [(y, .inr (11, MO yr yi ysb ybs))] (TY cT) sz) (va_Qi (fun (r9 : Int32) (u9 : Unit) => r9 = 0) (BW D vwCl (va_A [(y, .inr (11, MO yr yi ysb ybs))] sz) (fun u9 : Unit => [(y, .inr (11, MO yr (va_up yi 1 1) ysb ybs))])) (va_A [(y, .inr (11, MO yr yi ysb ybs))] sz)) 0 0 (va_A [(y, .inr (11, MO yr yi ysb ybs))] sz) := by
  refine Met.ofW (cc := cM_residual) (maxL := 3) (ret := (some .int)) (by decide) rfl ?_
  intro p e s m args below meth c s₁ B hml hv
  obtain ⟨rfl, hsz, hZ, hP, hK, hD0⟩ := hv
  have hx := B.exec
  have hb := B.bytes
  have hr := B.returns
  have hts := atoms_spec (ws := WM_residual) B.pre
  have hT : ∀ w ∈ TB, w.before _ s = true := fun w h => hts w (List.mem_cons_of_mem _ h)
  have hown : s.vm.findClass R_M = some m.cls := findClass_of_methodNamed B.named
  have hlocks := B.notSynchronized
  subst hsz
  have hD := hD0.self (sz := s.heap.size)
  generalize hAe : va_A [(y, .inr (11, MO yr yi ysb ybs))] s.heap.size = A at hD hZ ⊢
  have hA : ∀ q : Nat, s.heap.size ≤ q → A q := fun q h => by rw [← hAe]; exact Or.inr h
  have hS : va_S A s.heap s.heap [] := va_S.rf
  have hl := lv_entry ([.ref y, .int a1, .int v]) (n := 3) (Nat.le_of_ble_eq_true rfl)
  rw [lg_entry_eq]
  generalize (lg_sl ([.ref y, .int a1, .int v]) ++ List.replicate (3 - (lg_sl ([.ref y, .int a1, .int v])).length) Slot.unset).toArray = ls at hl ⊢
  have hl : lv_has ls 3 [(0, .ref y), (1, .int a1), (2, .int v)] := hl
  refine lv_aload_n hx hb dM_residual_0 rfl (lv_at hl 0 rfl) ?_
  refine lv_aload_n hx hb dM_residual_1 rfl (lv_at hl 0 rfl) ?_
  refine lv_iload_n hx hb dM_residual_2 rfl (lv_at hl 1 rfl) ?_
  refine ro_i (va_Run.run (va_runV (As := [.int a1]) (rest := [.ref y]) ⟨hx, hb, hml, hown, hT⟩ (m_noRow l D cT y yr yi ysb ybs a1) ⟨callB_of 1 hT (tb_gd w1313) rfl rfl rfl (hT _ w13) (hT _ w1310) hM_noRow ⟨Nat.le_of_ble_eq_true rfl, Nat.le_of_ble_eq_true rfl⟩, (hT _ w1312), (hT _ wp30)⟩ (RO.preV (ci := 11) (q0 := 0) hZ hS (hP.sub (ws' := [(y, .inr (11, MO yr yi ysb ybs))]) [0] rfl) hK rfl rfl) rfl rfl hl.1 rfl (lv_room (Nat.le_of_ble_eq_true rfl)) dM_residual_3 ⟨Nat.le_of_ble_eq_true rfl, Nat.le_of_ble_eq_true rfl⟩)) ?_
  refine lv_if_ne (tgt := 21) hx hb dM_residual_6 rfl (fun h1 => ?_) (fun h1 => ?_)
  · refine lv_iconst (v := 1) hx hb dM_residual_21 (by decide) ?_
    refine lv_goto (tgt := 26) hx hb dM_residual_22 rfl ?_
    refine rw_i (wc := [(y, .inr (11, MO yr yi ysb ybs))]) (wr := []) hP hD hS hA [0] [] rfl rfl (by decide) (by decide) (va_runV (As := [.int 1]) (rest := []) ⟨hx, hb, hml, hown, hT⟩ (m_ref1 l D cT y yr yi ysb ybs _) ⟨callB_of 1 hT (tb_gd w1301) rfl rfl rfl (hT _ w13) (hT _ w1298) hM_refused ⟨Nat.le_of_ble_eq_true rfl, Nat.le_of_ble_eq_true rfl⟩, (hT _ w1300), (hT _ wp29)⟩ (RW.preV (ci := 11) (q0 := 0) hZ hS (va_free (wc := [(y, .inr (11, MO yr yi ysb ybs))]) hD hS hA [0] rfl) (hP.sub (ws' := [(y, .inr (11, MO yr yi ysb ybs))]) [0] rfl) hK (hD.sub (ws' := [(y, .inr (11, MO yr yi ysb ybs))]) [0] (by decide) rfl) rfl rfl) rfl rfl hl.1 rfl (lv_room (Nat.le_of_ble_eq_true rfl)) dM_residual_26 ⟨Nat.le_of_ble_eq_true rfl, Nat.le_of_ble_eq_true rfl⟩) (fun ru2 u9 H locs hpu2 hP hD hS => ?_)
    have hpu2 : ru2 = 1 := hpu2
    have hP : va_P D vwCl [(y, .inr (11, MO yr (va_up yi 1 1) ysb ybs))] _ := hP
    have hD : va_D A [(y, .inr (11, MO yr (va_up yi 1 1) ysb ybs))] := hD
    refine lv_topi (fun y9 e9 => ?_)
    cases (show y9 = 1 from e9.trans hpu2)
    refine lv_if_eq (tgt := 34) hx hb dM_residual_29 rfl (fun h3 => absurd h3 (by decide)) (fun _ => ?_)
    refine lv_iconst (v := 0) hx hb dM_residual_32 (by decide) ?_
    have hP9 := hP.sub (ws' := [(y, .inr (11, MO yr (va_up yi 1 1) ysb ybs))]) [0] rfl
    have hD9 := hD.sub (ws' := [(y, .inr (11, MO yr (va_up yi 1 1) ysb ybs))]) [0] (by decide) rfl
    refine W.widen (k := 0) (n := 0) (Nat.le_of_ble_eq_true rfl) (Nat.le_of_ble_eq_true rfl) ?_
    exact W.iret (v := 0) hx hb hr (fun t9 ht9 hW9 => ⟨⟨0, (), rfl, (show 0 = 0 from rfl), by rw [ht9]; exact hP9, hD9⟩, hS.F ht9⟩) hS.2.2 dM_residual_33
  · refine lv_iload_n hx hb dM_residual_9 rfl (lv_at hl 2 rfl) ?_
    refine lv_iconst (v := 0) hx hb dM_residual_10 (by decide) ?_
    refine lv_aload_n hx hb dM_residual_11 rfl (lv_at hl 0 rfl) ?_
    refine va_get (D := D) (ci := 11) (v := .int (yi 17)) (C := R_M) (T := T_M) (N := 60) hx hb hT in_M hown hK hP 0 rfl rfl 17 (by decide) (hT _ w1121) (fun _ h9 => h9) rfl dM_residual_12 ?_
    refine ro_i (va_Run.run (va_runS (As := [.int v, .int 0, .int (yi 17)]) (rest := [.ref y]) ⟨hx, hb, hml, hown, hT⟩ (m_in l D cT v 0 (yi 17)) ⟨callB_of 3 hT (tb_gd w1297) rfl rfl rfl (hT _ w13) (hT _ w1295) hM_in ⟨Nat.le_of_ble_eq_true rfl, Nat.le_of_ble_eq_true rfl⟩, (hT _ w1296)⟩ (RO.preS hZ hS ((show va_P D vwCl [] _ from fun _ _ h => nomatch h)) hK) rfl rfl hl.1 rfl (lv_room (Nat.le_of_ble_eq_true rfl)) dM_residual_15 ⟨Nat.le_of_ble_eq_true rfl, Nat.le_of_ble_eq_true rfl⟩)) ?_
    refine lv_if_ne (tgt := 25) hx hb dM_residual_18 rfl (fun h4 => ?_) (fun h4 => ?_)
    · refine lv_iconst (v := 0) hx hb dM_residual_25 (by decide) ?_
      refine rw_i (wc := [(y, .inr (11, MO yr yi ysb ybs))]) (wr := []) hP hD hS hA [0] [] rfl rfl (by decide) (by decide) (va_runV (As := [.int 0]) (rest := []) ⟨hx, hb, hml, hown, hT⟩ (m_ref0 l D cT y yr yi ysb ybs _) ⟨callB_of 1 hT (tb_gd w1301) rfl rfl rfl (hT _ w13) (hT _ w1298) hM_refused ⟨Nat.le_of_ble_eq_true rfl, Nat.le_of_ble_eq_true rfl⟩, (hT _ w1300), (hT _ wp29)⟩ (RW.preV (ci := 11) (q0 := 0) hZ hS (va_free (wc := [(y, .inr (11, MO yr yi ysb ybs))]) hD hS hA [0] rfl) (hP.sub (ws' := [(y, .inr (11, MO yr yi ysb ybs))]) [0] rfl) hK (hD.sub (ws' := [(y, .inr (11, MO yr yi ysb ybs))]) [0] (by decide) rfl) rfl rfl) rfl rfl hl.1 rfl (lv_room (Nat.le_of_ble_eq_true rfl)) dM_residual_26 ⟨Nat.le_of_ble_eq_true rfl, Nat.le_of_ble_eq_true rfl⟩) (fun ru5 u9 H locs hpu5 hP hD hS => ?_)
      have hpu5 : ru5 = 0 := hpu5
      have hP : va_P D vwCl [(y, .inr (11, MO yr (va_up yi 1 0) ysb ybs))] _ := hP
      have hD : va_D A [(y, .inr (11, MO yr (va_up yi 1 0) ysb ybs))] := hD
      refine lv_topi (fun y9 e9 => ?_)
      cases (show y9 = 0 from e9.trans hpu5)
      refine lv_if_eq (tgt := 34) hx hb dM_residual_29 rfl (fun _ => ?_) (fun h6 => absurd (by decide) h6)
      exact absurd (⟨nn_e (bi_0 h1), bi_1 h4⟩) hq
    · refine lv_iconst (v := 1) hx hb dM_residual_21 (by decide) ?_
      refine lv_goto (tgt := 26) hx hb dM_residual_22 rfl ?_
      refine rw_i (wc := [(y, .inr (11, MO yr yi ysb ybs))]) (wr := []) hP hD hS hA [0] [] rfl rfl (by decide) (by decide) (va_runV (As := [.int 1]) (rest := []) ⟨hx, hb, hml, hown, hT⟩ (m_ref1 l D cT y yr yi ysb ybs _) ⟨callB_of 1 hT (tb_gd w1301) rfl rfl rfl (hT _ w13) (hT _ w1298) hM_refused ⟨Nat.le_of_ble_eq_true rfl, Nat.le_of_ble_eq_true rfl⟩, (hT _ w1300), (hT _ wp29)⟩ (RW.preV (ci := 11) (q0 := 0) hZ hS (va_free (wc := [(y, .inr (11, MO yr yi ysb ybs))]) hD hS hA [0] rfl) (hP.sub (ws' := [(y, .inr (11, MO yr yi ysb ybs))]) [0] rfl) hK (hD.sub (ws' := [(y, .inr (11, MO yr yi ysb ybs))]) [0] (by decide) rfl) rfl rfl) rfl rfl hl.1 rfl (lv_room (Nat.le_of_ble_eq_true rfl)) dM_residual_26 ⟨Nat.le_of_ble_eq_true rfl, Nat.le_of_ble_eq_true rfl⟩) (fun ru7 u9 H locs hpu7 hP hD hS => ?_)
      have hpu7 : ru7 = 1 := hpu7
      have hP : va_P D vwCl [(y, .inr (11, MO yr (va_up yi 1 1) ysb ybs))] _ := hP
      have hD : va_D A [(y, .inr (11, MO yr (va_up yi 1 1) ysb ybs))] := hD
      refine lv_topi (fun y9 e9 => ?_)
      cases (show y9 = 1 from e9.trans hpu7)
      refine lv_if_eq (tgt := 34) hx hb dM_residual_29 rfl (fun h8 => absurd h8 (by decide)) (fun _ => ?_)
      refine lv_iconst (v := 0) hx hb dM_residual_32 (by decide) ?_
      have hP9 := hP.sub (ws' := [(y, .inr (11, MO yr (va_up yi 1 1) ysb ybs))]) [0] rfl
      have hD9 := hD.sub (ws' := [(y, .inr (11, MO yr (va_up yi 1 1) ysb ybs))]) [0] (by decide) rfl
      refine W.widen (k := 0) (n := 0) (Nat.le_of_ble_eq_true rfl) (Nat.le_of_ble_eq_true rfl) ?_
      exact W.iret (v := 0) hx hb hr (fun t9 ht9 hW9 => ⟨⟨0, (), rfl, (show 0 = 0 from rfl), by rw [ht9]; exact hP9, hD9⟩, hS.F ht9⟩) hS.2.2 dM_residual_33
set_option maxHeartbeats 4000000 in
set_option maxRecDepth 100000 in
theorem y_pred_ok (l : Launch) (D : va_G) (cT : Nat → ClassId) (y : Nat) (yr : Nat → Nat) (yi : Nat → Int32) (ysb : Int64) (ybs : Int64) (fp : Nat → Int32) (nc : Nat → Int32) (nl : Nat → Int32) (nr : Nat → Int32) (tl : Nat → Int32) (kd : Nat → Int32) (ed : Nat → Int32) (vv : Nat → Int32) (up : Nat → Int32) (lw : Nat → Int32) (f0 : Nat → Int32) (g0 : Nat → Int32) (f2 : Nat → Int32) (g2 : Nat → Int32) (fo : Nat → Int32) (fd : Nat → Int32) (f30 : Nat → Int32) (n : Nat) (r : Nat) (bb : Nat) (nm : Nat → Nat) (dp : Nat → Nat → Nat) (go : Nat → Nat → Bool) (lf : Nat → Nat) (Pp : Nat → Nat) (sc : Nat → Nat) (X : Nat → Int) (LX : Nat → Int) (PB : Nat) (XB : Nat) (hPR : PRI fp) (hn16 : n ≤ 16) (hr48 : r < 48) (hbb : bb < 2 ^ 30) (hC : CHN Pp sc X LX false n PB XB) (hBB : XB * PB + XB * (PB * PB) < 268435456 ^ 130) (hT9 : ∀ t, t < n → TWF nc nl nr (dp t) (31 * t) (nm t)) (htl : ∀ q, q < 496 → tl q = 0 ∨ tl q = 1) (hgo : ∀ t, t < n → ∀ k, k < nm t → ∀ c, c < 6 → nc (31 * t + k) = nI c → go t k = goB (tl (31 * t + k)) (kd (31 * t + k)) (ed (31 * t + k)) (vv c)) (hlf : ∀ t, t < n → lf t = lfw nc nl nr (go t) (31 * t) 4 0) (hlfb : ∀ t, t < n → lf t < 31) (hNF : ∀ t, t < n → NF up lw bb (31 * t + lf t) (LX t) (Pp (t + 1))) (hx0 : X 0 = (0 : Int32).toInt) (hXB : XB < 268435456 ^ 130) (hPB : PB < 268435456 ^ 130) (hn0 : 0 ≤ nI n ∧ nI n ≤ yi 17) (sz : Nat) : Met l yM_predict WM_predict ({ frames := 5, cells := 0, slots := 0, locals := 124 } : Room) (RW D vwCl [.ref y, .int (nI n)] [(y, .inr (11, MO yr yi ysb ybs)), (yr 0, .inl (cT 0, 19, .inl fp)), (yr 29, .inl (cT 0, 302, .inl f0)), (yr 40, .inl (cT 0, 19, .inl g0)), (yr 30, .inl (cT 0, 302, .inl f2)), (yr 41, .inl (cT 0, 19, .inl g2)), (yr 27, .inl (cT 0, 65472, .inl up)), (yr 28, .inl (cT 0, 9424, .inl lw)), (yr 19, .inl (cT 0, 496, .inl nc)), (yr 22, .inl (cT 0, 496, .inl nl)), (yr 23, .inl (cT 0, 496, .inl nr)), (yr 9, .inl (cT 0, 6, .inl vv)), (yr 21, .inl (cT 3, 496, .inl tl)), (yr 26, .inl (cT 3, 496, .inl kd)), (yr 20, .inl (cT 0, 496, .inl ed)), (yr 48, .inl (cT 2, 6000, .inl fo)), (yr 49, .inl (cT 2, 3000, .inl fd)), (yr 31, .inl (cT 0, 302, .inl f30))] (TY cT) sz) (va_Qi (fun (r9 : Int32) (u9 : Nat × Int × Nat × (Nat → Int32) × (Nat → Int32) × (Nat → Int32) × (Nat → Int32) × (Nat → Int32) × (Nat → Int32) × (Nat → Int32) × (Nat → Int32)) => r9 = nI u9.1 ∧ u9.1 ≤ 5000 ∧ u9.2.2.2.1 47 = nI u9.1 ∧ u9.2.2.2.1 1 = 0 ∧ YK2 yi u9.2.2.2.1 ∧ RDC (X n) (Pp n) u9.2.1 u9.2.2.1 ∧ WRT u9.2.2.2.2.1 u9.1 u9.2.1 u9.2.2.1) (BW D vwCl (va_A [(y, .inr (11, MO yr yi ysb ybs)), (yr 0, .inl (cT 0, 19, .inl fp)), (yr 29, .inl (cT 0, 302, .inl f0)), (yr 40, .inl (cT 0, 19, .inl g0)), (yr 30, .inl (cT 0, 302, .inl f2)), (yr 41, .inl (cT 0, 19, .inl g2)), (yr 27, .inl (cT 0, 65472, .inl up)), (yr 28, .inl (cT 0, 9424, .inl lw)), (yr 19, .inl (cT 0, 496, .inl nc)), (yr 22, .inl (cT 0, 496, .inl nl)), (yr 23, .inl (cT 0, 496, .inl nr)), (yr 9, .inl (cT 0, 6, .inl vv)), (yr 21, .inl (cT 3, 496, .inl tl)), (yr 26, .inl (cT 3, 496, .inl kd)), (yr 20, .inl (cT 0, 496, .inl ed)), (yr 48, .inl (cT 2, 6000, .inl fo)), (yr 49, .inl (cT 2, 3000, .inl fd)), (yr 31, .inl (cT 0, 302, .inl f30))] sz) (fun u9 : Nat × Int × Nat × (Nat → Int32) × (Nat → Int32) × (Nat → Int32) × (Nat → Int32) × (Nat → Int32) × (Nat → Int32) × (Nat → Int32) × (Nat → Int32) => [(y, .inr (11, MO yr u9.2.2.2.1 ysb ybs)), (yr 0, .inl (cT 0, 19, .inl fp)), (yr 29, .inl (cT 0, 302, .inl u9.2.2.2.2.2.2.2.1)), (yr 40, .inl (cT 0, 19, .inl u9.2.2.2.2.2.2.2.2.1)), (yr 30, .inl (cT 0, 302, .inl u9.2.2.2.2.2.2.2.2.2.1)), (yr 41, .inl (cT 0, 19, .inl u9.2.2.2.2.2.2.2.2.2.2)), (yr 27, .inl (cT 0, 65472, .inl up)), (yr 28, .inl (cT 0, 9424, .inl lw)), (yr 19, .inl (cT 0, 496, .inl nc)), (yr 22, .inl (cT 0, 496, .inl nl)), (yr 23, .inl (cT 0, 496, .inl nr)), (yr 9, .inl (cT 0, 6, .inl vv)), (yr 21, .inl (cT 3, 496, .inl tl)), (yr 26, .inl (cT 3, 496, .inl kd)), (yr 20, .inl (cT 0, 496, .inl ed)), (yr 48, .inl (cT 2, 6000, .inl u9.2.2.2.2.1)), (yr 49, .inl (cT 2, 3000, .inl u9.2.2.2.2.2.1)), (yr 31, .inl (cT 0, 302, .inl u9.2.2.2.2.2.2.1))])) (va_A [(y, .inr (11, MO yr yi ysb ybs)), (yr 0, .inl (cT 0, 19, .inl fp)), (yr 29, .inl (cT 0, 302, .inl f0)), (yr 40, .inl (cT 0, 19, .inl g0)), (yr 30, .inl (cT 0, 302, .inl f2)), (yr 41, .inl (cT 0, 19, .inl g2)), (yr 27, .inl (cT 0, 65472, .inl up)), (yr 28, .inl (cT 0, 9424, .inl lw)), (yr 19, .inl (cT 0, 496, .inl nc)), (yr 22, .inl (cT 0, 496, .inl nl)), (yr 23, .inl (cT 0, 496, .inl nr)), (yr 9, .inl (cT 0, 6, .inl vv)), (yr 21, .inl (cT 3, 496, .inl tl)), (yr 26, .inl (cT 3, 496, .inl kd)), (yr 20, .inl (cT 0, 496, .inl ed)), (yr 48, .inl (cT 2, 6000, .inl fo)), (yr 49, .inl (cT 2, 3000, .inl fd)), (yr 31, .inl (cT 0, 302, .inl f30))] sz)) 0 0 (va_A [(y, .inr (11, MO yr yi ysb ybs)), (yr 0, .inl (cT 0, 19, .inl fp)), (yr 29, .inl (cT 0, 302, .inl f0)), (yr 40, .inl (cT 0, 19, .inl g0)), (yr 30, .inl (cT 0, 302, .inl f2)), (yr 41, .inl (cT 0, 19, .inl g2)), (yr 27, .inl (cT 0, 65472, .inl up)), (yr 28, .inl (cT 0, 9424, .inl lw)), (yr 19, .inl (cT 0, 496, .inl nc)), (yr 22, .inl (cT 0, 496, .inl nl)), (yr 23, .inl (cT 0, 496, .inl nr)), (yr 9, .inl (cT 0, 6, .inl vv)), (yr 21, .inl (cT 3, 496, .inl tl)), (yr 26, .inl (cT 3, 496, .inl kd)), (yr 20, .inl (cT 0, 496, .inl ed)), (yr 48, .inl (cT 2, 6000, .inl fo)), (yr 49, .inl (cT 2, 3000, .inl fd)), (yr 31, .inl (cT 0, 302, .inl f30))] sz) := by
  refine Met.ofW (cc := cM_predict) (maxL := 2) (ret := (some .int)) (by decide) rfl ?_
  intro p e s m args below meth c s₁ B hml hv
  obtain ⟨rfl, hsz, hZ, hP, hK, hD0⟩ := hv
  have hx := B.exec
  have hb := B.bytes
  have hr := B.returns
  have hts := atoms_spec (ws := WM_predict) B.pre
  have hT : ∀ w ∈ TB, w.before _ s = true := fun w h => hts w (List.mem_cons_of_mem _ h)
  have hown : s.vm.findClass R_M = some m.cls := findClass_of_methodNamed B.named
  have hlocks := B.notSynchronized
  subst hsz
  have hD := hD0.self (sz := s.heap.size)
  generalize hAe : va_A [(y, .inr (11, MO yr yi ysb ybs)), (yr 0, .inl (cT 0, 19, .inl fp)), (yr 29, .inl (cT 0, 302, .inl f0)), (yr 40, .inl (cT 0, 19, .inl g0)), (yr 30, .inl (cT 0, 302, .inl f2)), (yr 41, .inl (cT 0, 19, .inl g2)), (yr 27, .inl (cT 0, 65472, .inl up)), (yr 28, .inl (cT 0, 9424, .inl lw)), (yr 19, .inl (cT 0, 496, .inl nc)), (yr 22, .inl (cT 0, 496, .inl nl)), (yr 23, .inl (cT 0, 496, .inl nr)), (yr 9, .inl (cT 0, 6, .inl vv)), (yr 21, .inl (cT 3, 496, .inl tl)), (yr 26, .inl (cT 3, 496, .inl kd)), (yr 20, .inl (cT 0, 496, .inl ed)), (yr 48, .inl (cT 2, 6000, .inl fo)), (yr 49, .inl (cT 2, 3000, .inl fd)), (yr 31, .inl (cT 0, 302, .inl f30))] s.heap.size = A at hD hZ ⊢
  have hA : ∀ q : Nat, s.heap.size ≤ q → A q := fun q h => by rw [← hAe]; exact Or.inr h
  have hS : va_S A s.heap s.heap [] := va_S.rf
  have hl := lv_entry ([.ref y, .int (nI n)]) (n := 2) (Nat.le_of_ble_eq_true rfl)
  rw [lg_entry_eq]
  generalize (lg_sl ([.ref y, .int (nI n)]) ++ List.replicate (2 - (lg_sl ([.ref y, .int (nI n)])).length) Slot.unset).toArray = ls at hl ⊢
  have hl : lv_has ls 2 [(0, .ref y), (1, .int (nI n))] := hl
  refine lv_aload_n hx hb dM_predict_0 rfl (lv_at hl 0 rfl) ?_
  refine lv_iload_n hx hb dM_predict_1 rfl (lv_at hl 1 rfl) ?_
  refine lv_iconst (v := 0) hx hb dM_predict_2 (by decide) ?_
  refine lv_aload_n hx hb dM_predict_3 rfl (lv_at hl 0 rfl) ?_
  refine va_get (D := D) (ci := 11) (v := .int (yi 17)) (C := R_M) (T := T_M) (N := 60) hx hb hT in_M hown hK hP 0 rfl rfl 17 (by decide) (hT _ w1121) (fun _ h9 => h9) rfl dM_predict_4 ?_
  refine ro_i (va_Run.run (va_runS (As := [.int (nI n), .int 0, .int (yi 17)]) (rest := [.ref y]) ⟨hx, hb, hml, hown, hT⟩ (m_in l D cT (nI n) 0 (yi 17)) ⟨callB_of 3 hT (tb_gd w1297) rfl rfl rfl (hT _ w13) (hT _ w1295) hM_in ⟨Nat.le_of_ble_eq_true rfl, Nat.le_of_ble_eq_true rfl⟩, (hT _ w1296)⟩ (RO.preS hZ hS ((show va_P D vwCl [] _ from fun _ _ h => nomatch h)) hK) rfl rfl hl.1 rfl (lv_room (Nat.le_of_ble_eq_true rfl)) dM_predict_7 ⟨Nat.le_of_ble_eq_true rfl, Nat.le_of_ble_eq_true rfl⟩)) ?_
  refine lv_if_eq (tgt := 17) hx hb dM_predict_10 rfl (fun h1 => absurd h1 (by rw [bi_t hn0]; decide)) (fun _ => ?_)
  refine lv_iconst (v := 0) hx hb dM_predict_13 (by decide) ?_
  refine lv_goto (tgt := 18) hx hb dM_predict_14 rfl ?_
  refine rw_i (wc := [(y, .inr (11, MO yr yi ysb ybs))]) (wr := [(yr 0, .inl (cT 0, 19, .inl fp)), (yr 29, .inl (cT 0, 302, .inl f0)), (yr 40, .inl (cT 0, 19, .inl g0)), (yr 30, .inl (cT 0, 302, .inl f2)), (yr 41, .inl (cT 0, 19, .inl g2)), (yr 27, .inl (cT 0, 65472, .inl up)), (yr 28, .inl (cT 0, 9424, .inl lw)), (yr 19, .inl (cT 0, 496, .inl nc)), (yr 22, .inl (cT 0, 496, .inl nl)), (yr 23, .inl (cT 0, 496, .inl nr)), (yr 9, .inl (cT 0, 6, .inl vv)), (yr 21, .inl (cT 3, 496, .inl tl)), (yr 26, .inl (cT 3, 496, .inl kd)), (yr 20, .inl (cT 0, 496, .inl ed)), (yr 48, .inl (cT 2, 6000, .inl fo)), (yr 49, .inl (cT 2, 3000, .inl fd)), (yr 31, .inl (cT 0, 302, .inl f30))]) hP hD hS hA [0] [1, 2, 3, 4, 5, 6, 7, 8, 9, 10, 11, 12, 13, 14, 15, 16, 17] rfl rfl (by decide) (by decide) (va_runV (As := [.int 0]) (rest := []) ⟨hx, hb, hml, hown, hT⟩ (m_ref0 l D cT y yr yi ysb ybs _) ⟨callB_of 1 hT (tb_gd w1301) rfl rfl rfl (hT _ w13) (hT _ w1298) hM_refused ⟨Nat.le_of_ble_eq_true rfl, Nat.le_of_ble_eq_true rfl⟩, (hT _ w1300), (hT _ wp29)⟩ (RW.preV (ci := 11) (q0 := 0) hZ hS (va_free (wc := [(y, .inr (11, MO yr yi ysb ybs))]) hD hS hA [0] rfl) (hP.sub (ws' := [(y, .inr (11, MO yr yi ysb ybs))]) [0] rfl) hK (hD.sub (ws' := [(y, .inr (11, MO yr yi ysb ybs))]) [0] (by decide) rfl) rfl rfl) rfl rfl hl.1 rfl (lv_room (Nat.le_of_ble_eq_true rfl)) dM_predict_18 ⟨Nat.le_of_ble_eq_true rfl, Nat.le_of_ble_eq_true rfl⟩) (fun ru2 u9 H locs hpu2 hP hD hS => ?_)
  have hpu2 : ru2 = 0 := hpu2
  have hP : va_P D vwCl [(yr 0, .inl (cT 0, 19, .inl fp)), (yr 29, .inl (cT 0, 302, .inl f0)), (yr 40, .inl (cT 0, 19, .inl g0)), (yr 30, .inl (cT 0, 302, .inl f2)), (yr 41, .inl (cT 0, 19, .inl g2)), (yr 27, .inl (cT 0, 65472, .inl up)), (yr 28, .inl (cT 0, 9424, .inl lw)), (yr 19, .inl (cT 0, 496, .inl nc)), (yr 22, .inl (cT 0, 496, .inl nl)), (yr 23, .inl (cT 0, 496, .inl nr)), (yr 9, .inl (cT 0, 6, .inl vv)), (yr 21, .inl (cT 3, 496, .inl tl)), (yr 26, .inl (cT 3, 496, .inl kd)), (yr 20, .inl (cT 0, 496, .inl ed)), (yr 48, .inl (cT 2, 6000, .inl fo)), (yr 49, .inl (cT 2, 3000, .inl fd)), (yr 31, .inl (cT 0, 302, .inl f30)), (y, .inr (11, MO yr (va_up yi 1 0) ysb ybs))] _ := hP
  have hD : va_D A [(yr 0, .inl (cT 0, 19, .inl fp)), (yr 29, .inl (cT 0, 302, .inl f0)), (yr 40, .inl (cT 0, 19, .inl g0)), (yr 30, .inl (cT 0, 302, .inl f2)), (yr 41, .inl (cT 0, 19, .inl g2)), (yr 27, .inl (cT 0, 65472, .inl up)), (yr 28, .inl (cT 0, 9424, .inl lw)), (yr 19, .inl (cT 0, 496, .inl nc)), (yr 22, .inl (cT 0, 496, .inl nl)), (yr 23, .inl (cT 0, 496, .inl nr)), (yr 9, .inl (cT 0, 6, .inl vv)), (yr 21, .inl (cT 3, 496, .inl tl)), (yr 26, .inl (cT 3, 496, .inl kd)), (yr 20, .inl (cT 0, 496, .inl ed)), (yr 48, .inl (cT 2, 6000, .inl fo)), (yr 49, .inl (cT 2, 3000, .inl fd)), (yr 31, .inl (cT 0, 302, .inl f30)), (y, .inr (11, MO yr (va_up yi 1 0) ysb ybs))] := hD
  refine lv_topi (fun y9 e9 => ?_)
  cases (show y9 = 0 from e9.trans hpu2)
  refine lv_if_eq (tgt := 26) hx hb dM_predict_21 rfl (fun _ => ?_) (fun h3 => absurd (by decide) h3)
  refine lv_aload_n hx hb dM_predict_26 rfl (lv_at hl 0 rfl) ?_
  refine lv_iconst (v := (-1)) hx hb dM_predict_27 (by decide) ?_
  refine lv_iload_n hx hb dM_predict_28 rfl (lv_at hl 1 rfl) ?_
  refine lv_iconst (v := 1) hx hb dM_predict_29 (by decide) ?_
  refine lv_iconst (v := 0) hx hb dM_predict_30 (by decide) ?_
  refine rw_v (wc := [(y, .inr (11, MO yr (va_up yi 1 0) ysb ybs)), (yr 0, .inl (cT 0, 19, .inl fp)), (yr 29, .inl (cT 0, 302, .inl f0)), (yr 40, .inl (cT 0, 19, .inl g0)), (yr 30, .inl (cT 0, 302, .inl f2)), (yr 41, .inl (cT 0, 19, .inl g2)), (yr 27, .inl (cT 0, 65472, .inl up)), (yr 28, .inl (cT 0, 9424, .inl lw)), (yr 19, .inl (cT 0, 496, .inl nc)), (yr 22, .inl (cT 0, 496, .inl nl)), (yr 23, .inl (cT 0, 496, .inl nr)), (yr 9, .inl (cT 0, 6, .inl vv)), (yr 21, .inl (cT 3, 496, .inl tl)), (yr 26, .inl (cT 3, 496, .inl kd)), (yr 20, .inl (cT 0, 496, .inl ed))]) (wr := [(yr 48, .inl (cT 2, 6000, .inl fo)), (yr 49, .inl (cT 2, 3000, .inl fd)), (yr 31, .inl (cT 0, 302, .inl f30))]) hP hD hS hA [17, 0, 1, 2, 3, 4, 5, 6, 7, 8, 9, 10, 11, 12, 13] [14, 15, 16] rfl rfl (by decide) (by decide) (va_runV (As := [.int (-1), .int (nI n), .int 1, .int 0]) (rest := []) ⟨hx, hb, hml, hown, hT⟩ (m_walkQ l D cT y yr (va_up yi 1 0) ysb ybs fp nc nl nr tl kd ed vv up lw f0 g0 f2 g2 0 n r bb nm dp go lf Pp sc X LX PB XB hPR hn16 hr48 hbb hx0 (by decide) hC hBB hT9 htl hgo hlf hlfb hNF _) ⟨callB_of 4 hT (tb_gd w1384) rfl rfl rfl (hT _ w13) (hT _ w1381) hM_walk ⟨Nat.le_of_ble_eq_true rfl, Nat.le_of_ble_eq_true rfl⟩, (hT _ w1383), (hT _ wp36)⟩ (RW.preV (ci := 11) (q0 := 0) hZ hS (va_free (wc := [(y, .inr (11, MO yr (va_up yi 1 0) ysb ybs)), (yr 0, .inl (cT 0, 19, .inl fp)), (yr 29, .inl (cT 0, 302, .inl f0)), (yr 40, .inl (cT 0, 19, .inl g0)), (yr 30, .inl (cT 0, 302, .inl f2)), (yr 41, .inl (cT 0, 19, .inl g2)), (yr 27, .inl (cT 0, 65472, .inl up)), (yr 28, .inl (cT 0, 9424, .inl lw)), (yr 19, .inl (cT 0, 496, .inl nc)), (yr 22, .inl (cT 0, 496, .inl nl)), (yr 23, .inl (cT 0, 496, .inl nr)), (yr 9, .inl (cT 0, 6, .inl vv)), (yr 21, .inl (cT 3, 496, .inl tl)), (yr 26, .inl (cT 3, 496, .inl kd)), (yr 20, .inl (cT 0, 496, .inl ed))]) hD hS hA [17, 0, 1, 2, 3, 4, 5, 6, 7, 8, 9, 10, 11, 12, 13] rfl) (hP.sub (ws' := [(y, .inr (11, MO yr (va_up yi 1 0) ysb ybs)), (yr 0, .inl (cT 0, 19, .inl fp)), (yr 29, .inl (cT 0, 302, .inl f0)), (yr 40, .inl (cT 0, 19, .inl g0)), (yr 30, .inl (cT 0, 302, .inl f2)), (yr 41, .inl (cT 0, 19, .inl g2)), (yr 27, .inl (cT 0, 65472, .inl up)), (yr 28, .inl (cT 0, 9424, .inl lw)), (yr 19, .inl (cT 0, 496, .inl nc)), (yr 22, .inl (cT 0, 496, .inl nl)), (yr 23, .inl (cT 0, 496, .inl nr)), (yr 9, .inl (cT 0, 6, .inl vv)), (yr 21, .inl (cT 3, 496, .inl tl)), (yr 26, .inl (cT 3, 496, .inl kd)), (yr 20, .inl (cT 0, 496, .inl ed))]) [17, 0, 1, 2, 3, 4, 5, 6, 7, 8, 9, 10, 11, 12, 13] rfl) hK (hD.sub (ws' := [(y, .inr (11, MO yr (va_up yi 1 0) ysb ybs)), (yr 0, .inl (cT 0, 19, .inl fp)), (yr 29, .inl (cT 0, 302, .inl f0)), (yr 40, .inl (cT 0, 19, .inl g0)), (yr 30, .inl (cT 0, 302, .inl f2)), (yr 41, .inl (cT 0, 19, .inl g2)), (yr 27, .inl (cT 0, 65472, .inl up)), (yr 28, .inl (cT 0, 9424, .inl lw)), (yr 19, .inl (cT 0, 496, .inl nc)), (yr 22, .inl (cT 0, 496, .inl nl)), (yr 23, .inl (cT 0, 496, .inl nr)), (yr 9, .inl (cT 0, 6, .inl vv)), (yr 21, .inl (cT 3, 496, .inl tl)), (yr 26, .inl (cT 3, 496, .inl kd)), (yr 20, .inl (cT 0, 496, .inl ed))]) [17, 0, 1, 2, 3, 4, 5, 6, 7, 8, 9, 10, 11, 12, 13] (by decide) rfl) rfl rfl) rfl rfl hl.1 rfl (lv_room (Nat.le_of_ble_eq_true rfl)) dM_predict_31 ⟨Nat.le_of_ble_eq_true rfl, Nat.le_of_ble_eq_true rfl⟩) (fun u9 H locs hpu4 hP hD hS => ?_)
  obtain ⟨z7u4, f7u4, g7u4, f8u4, g8u4⟩ := u9
  have hpu4 : MN f7u4 z7u4 ∧ LOK g7u4 bb ∧ RED z7u4 g7u4 ∧ z7u4 * (Pp n : Int) = X n * (dn g7u4 : Int) := hpu4
  have hP : va_P D vwCl [(yr 48, .inl (cT 2, 6000, .inl fo)), (yr 49, .inl (cT 2, 3000, .inl fd)), (yr 31, .inl (cT 0, 302, .inl f30)), (y, .inr (11, MO yr (va_up yi 1 0) ysb ybs)), (yr 0, .inl (cT 0, 19, .inl fp)), (yr 29, .inl (cT 0, 302, .inl f7u4)), (yr 40, .inl (cT 0, 19, .inl g7u4)), (yr 30, .inl (cT 0, 302, .inl f8u4)), (yr 41, .inl (cT 0, 19, .inl g8u4)), (yr 27, .inl (cT 0, 65472, .inl up)), (yr 28, .inl (cT 0, 9424, .inl lw)), (yr 19, .inl (cT 0, 496, .inl nc)), (yr 22, .inl (cT 0, 496, .inl nl)), (yr 23, .inl (cT 0, 496, .inl nr)), (yr 9, .inl (cT 0, 6, .inl vv)), (yr 21, .inl (cT 3, 496, .inl tl)), (yr 26, .inl (cT 3, 496, .inl kd)), (yr 20, .inl (cT 0, 496, .inl ed))] _ := hP
  have hD : va_D A [(yr 48, .inl (cT 2, 6000, .inl fo)), (yr 49, .inl (cT 2, 3000, .inl fd)), (yr 31, .inl (cT 0, 302, .inl f30)), (y, .inr (11, MO yr (va_up yi 1 0) ysb ybs)), (yr 0, .inl (cT 0, 19, .inl fp)), (yr 29, .inl (cT 0, 302, .inl f7u4)), (yr 40, .inl (cT 0, 19, .inl g7u4)), (yr 30, .inl (cT 0, 302, .inl f8u4)), (yr 41, .inl (cT 0, 19, .inl g8u4)), (yr 27, .inl (cT 0, 65472, .inl up)), (yr 28, .inl (cT 0, 9424, .inl lw)), (yr 19, .inl (cT 0, 496, .inl nc)), (yr 22, .inl (cT 0, 496, .inl nl)), (yr 23, .inl (cT 0, 496, .inl nr)), (yr 9, .inl (cT 0, 6, .inl vv)), (yr 21, .inl (cT 3, 496, .inl tl)), (yr 26, .inl (cT 3, 496, .inl kd)), (yr 20, .inl (cT 0, 496, .inl ed))] := hD
  obtain ⟨wN, wL, wR, wv⟩ := hpu4
  have wc := hC.2.2 n (Nat.le_refl _)
  have wb := red_le wc.1 wR wv
  refine lv_aload_n hx hb dM_predict_34 rfl (lv_at hl 0 rfl) ?_
  refine lv_aload_n hx hb dM_predict_35 rfl (lv_at hl 0 rfl) ?_
  refine va_get (D := D) (ci := 11) (v := .ref (yr 29)) (C := R_M) (T := T_M) (N := 60) hx hb hT in_M hown hK hP 3 rfl rfl 29 (by decide) (hT _ w1133) (fun _ h9 => h9) rfl dM_predict_36 ?_
  refine lv_aload_n hx hb dM_predict_39 rfl (lv_at hl 0 rfl) ?_
  refine va_get (D := D) (ci := 11) (v := .ref (yr 40)) (C := R_M) (T := T_M) (N := 60) hx hb hT in_M hown hK hP 3 rfl rfl 40 (by decide) (hT _ w1144) (fun _ h9 => h9) rfl dM_predict_40 ?_
  refine rw_i (wc := [(y, .inr (11, MO yr (va_up yi 1 0) ysb ybs)), (yr 0, .inl (cT 0, 19, .inl fp)), (yr 48, .inl (cT 2, 6000, .inl fo)), (yr 49, .inl (cT 2, 3000, .inl fd)), (yr 31, .inl (cT 0, 302, .inl f30)), (yr 29, .inl (cT 0, 302, .inl f7u4)), (yr 40, .inl (cT 0, 19, .inl g7u4))]) (wr := [(yr 30, .inl (cT 0, 302, .inl f8u4)), (yr 41, .inl (cT 0, 19, .inl g8u4)), (yr 27, .inl (cT 0, 65472, .inl up)), (yr 28, .inl (cT 0, 9424, .inl lw)), (yr 19, .inl (cT 0, 496, .inl nc)), (yr 22, .inl (cT 0, 496, .inl nl)), (yr 23, .inl (cT 0, 496, .inl nr)), (yr 9, .inl (cT 0, 6, .inl vv)), (yr 21, .inl (cT 3, 496, .inl tl)), (yr 26, .inl (cT 3, 496, .inl kd)), (yr 20, .inl (cT 0, 496, .inl ed))]) hP hD hS hA [3, 4, 0, 1, 2, 5, 6] [7, 8, 9, 10, 11, 12, 13, 14, 15, 16, 17] rfl rfl (by decide) (by decide) (va_runV (As := [.ref (yr 29), .ref (yr 40)]) (rest := []) ⟨hx, hb, hml, hown, hT⟩ (m_write l D cT y yr (va_up yi 1 0) ysb ybs fp fo fd f30 (yr 29) f7u4 z7u4 (yr 40) g7u4 bb hPR wN wL hbb (f250 (Nat.lt_of_le_of_lt (Nat.le_trans wb.1 wc.2.2) hXB)) (f250 (Nat.lt_of_le_of_lt (Nat.le_trans wb.2 wc.2.1) hPB)) _) ⟨callB_of 2 hT (tb_gd w1559) rfl rfl rfl (hT _ w13) (hT _ w1556) hM_write ⟨Nat.le_of_ble_eq_true rfl, Nat.le_of_ble_eq_true rfl⟩, (hT _ w1558), (hT _ wp62)⟩ (RW.preV (ci := 11) (q0 := 0) hZ hS (va_free (wc := [(y, .inr (11, MO yr (va_up yi 1 0) ysb ybs)), (yr 0, .inl (cT 0, 19, .inl fp)), (yr 48, .inl (cT 2, 6000, .inl fo)), (yr 49, .inl (cT 2, 3000, .inl fd)), (yr 31, .inl (cT 0, 302, .inl f30)), (yr 29, .inl (cT 0, 302, .inl f7u4)), (yr 40, .inl (cT 0, 19, .inl g7u4))]) hD hS hA [3, 4, 0, 1, 2, 5, 6] rfl) (hP.sub (ws' := [(y, .inr (11, MO yr (va_up yi 1 0) ysb ybs)), (yr 0, .inl (cT 0, 19, .inl fp)), (yr 48, .inl (cT 2, 6000, .inl fo)), (yr 49, .inl (cT 2, 3000, .inl fd)), (yr 31, .inl (cT 0, 302, .inl f30)), (yr 29, .inl (cT 0, 302, .inl f7u4)), (yr 40, .inl (cT 0, 19, .inl g7u4))]) [3, 4, 0, 1, 2, 5, 6] rfl) hK (hD.sub (ws' := [(y, .inr (11, MO yr (va_up yi 1 0) ysb ybs)), (yr 0, .inl (cT 0, 19, .inl fp)), (yr 48, .inl (cT 2, 6000, .inl fo)), (yr 49, .inl (cT 2, 3000, .inl fd)), (yr 31, .inl (cT 0, 302, .inl f30)), (yr 29, .inl (cT 0, 302, .inl f7u4)), (yr 40, .inl (cT 0, 19, .inl g7u4))]) [3, 4, 0, 1, 2, 5, 6] (by decide) rfl) rfl rfl) rfl rfl hl.1 rfl (lv_room (Nat.le_of_ble_eq_true rfl)) dM_predict_43 ⟨Nat.le_of_ble_eq_true rfl, Nat.le_of_ble_eq_true rfl⟩) (fun ru5 u9 H locs hpu5 hP hD hS => ?_)
  obtain ⟨L7u5, yi7u5, fo7u5, fd7u5, f7u5, f37u5⟩ := u9
  have hpu5 : ru5 = nI L7u5 ∧ L7u5 ≤ 5000 ∧ yi7u5 47 = nI L7u5 ∧ WRT fo7u5 L7u5 z7u4 (dn g7u4) ∧ ∀ j8, j8 ≠ 47 → yi7u5 j8 = (va_up yi 1 0) j8 := hpu5
  have hP : va_P D vwCl [(yr 30, .inl (cT 0, 302, .inl f8u4)), (yr 41, .inl (cT 0, 19, .inl g8u4)), (yr 27, .inl (cT 0, 65472, .inl up)), (yr 28, .inl (cT 0, 9424, .inl lw)), (yr 19, .inl (cT 0, 496, .inl nc)), (yr 22, .inl (cT 0, 496, .inl nl)), (yr 23, .inl (cT 0, 496, .inl nr)), (yr 9, .inl (cT 0, 6, .inl vv)), (yr 21, .inl (cT 3, 496, .inl tl)), (yr 26, .inl (cT 3, 496, .inl kd)), (yr 20, .inl (cT 0, 496, .inl ed)), (y, .inr (11, MO yr yi7u5 ysb ybs)), (yr 0, .inl (cT 0, 19, .inl fp)), (yr 48, .inl (cT 2, 6000, .inl fo7u5)), (yr 49, .inl (cT 2, 3000, .inl fd7u5)), (yr 31, .inl (cT 0, 302, .inl f37u5)), (yr 29, .inl (cT 0, 302, .inl f7u5)), (yr 40, .inl (cT 0, 19, .inl g7u4))] _ := hP
  have hD : va_D A [(yr 30, .inl (cT 0, 302, .inl f8u4)), (yr 41, .inl (cT 0, 19, .inl g8u4)), (yr 27, .inl (cT 0, 65472, .inl up)), (yr 28, .inl (cT 0, 9424, .inl lw)), (yr 19, .inl (cT 0, 496, .inl nc)), (yr 22, .inl (cT 0, 496, .inl nl)), (yr 23, .inl (cT 0, 496, .inl nr)), (yr 9, .inl (cT 0, 6, .inl vv)), (yr 21, .inl (cT 3, 496, .inl tl)), (yr 26, .inl (cT 3, 496, .inl kd)), (yr 20, .inl (cT 0, 496, .inl ed)), (y, .inr (11, MO yr yi7u5 ysb ybs)), (yr 0, .inl (cT 0, 19, .inl fp)), (yr 48, .inl (cT 2, 6000, .inl fo7u5)), (yr 49, .inl (cT 2, 3000, .inl fd7u5)), (yr 31, .inl (cT 0, 302, .inl f37u5)), (yr 29, .inl (cT 0, 302, .inl f7u5)), (yr 40, .inl (cT 0, 19, .inl g7u4))] := hD
  have hP9 := hP.sub (ws' := [(y, .inr (11, MO yr yi7u5 ysb ybs)), (yr 0, .inl (cT 0, 19, .inl fp)), (yr 29, .inl (cT 0, 302, .inl f7u5)), (yr 40, .inl (cT 0, 19, .inl g7u4)), (yr 30, .inl (cT 0, 302, .inl f8u4)), (yr 41, .inl (cT 0, 19, .inl g8u4)), (yr 27, .inl (cT 0, 65472, .inl up)), (yr 28, .inl (cT 0, 9424, .inl lw)), (yr 19, .inl (cT 0, 496, .inl nc)), (yr 22, .inl (cT 0, 496, .inl nl)), (yr 23, .inl (cT 0, 496, .inl nr)), (yr 9, .inl (cT 0, 6, .inl vv)), (yr 21, .inl (cT 3, 496, .inl tl)), (yr 26, .inl (cT 3, 496, .inl kd)), (yr 20, .inl (cT 0, 496, .inl ed)), (yr 48, .inl (cT 2, 6000, .inl fo7u5)), (yr 49, .inl (cT 2, 3000, .inl fd7u5)), (yr 31, .inl (cT 0, 302, .inl f37u5))]) [11, 12, 16, 17, 0, 1, 2, 3, 4, 5, 6, 7, 8, 9, 10, 13, 14, 15] rfl
  have hD9 := hD.sub (ws' := [(y, .inr (11, MO yr yi7u5 ysb ybs)), (yr 0, .inl (cT 0, 19, .inl fp)), (yr 29, .inl (cT 0, 302, .inl f7u5)), (yr 40, .inl (cT 0, 19, .inl g7u4)), (yr 30, .inl (cT 0, 302, .inl f8u4)), (yr 41, .inl (cT 0, 19, .inl g8u4)), (yr 27, .inl (cT 0, 65472, .inl up)), (yr 28, .inl (cT 0, 9424, .inl lw)), (yr 19, .inl (cT 0, 496, .inl nc)), (yr 22, .inl (cT 0, 496, .inl nl)), (yr 23, .inl (cT 0, 496, .inl nr)), (yr 9, .inl (cT 0, 6, .inl vv)), (yr 21, .inl (cT 3, 496, .inl tl)), (yr 26, .inl (cT 3, 496, .inl kd)), (yr 20, .inl (cT 0, 496, .inl ed)), (yr 48, .inl (cT 2, 6000, .inl fo7u5)), (yr 49, .inl (cT 2, 3000, .inl fd7u5)), (yr 31, .inl (cT 0, 302, .inl f37u5))]) [11, 12, 16, 17, 0, 1, 2, 3, 4, 5, 6, 7, 8, 9, 10, 13, 14, 15] (by decide) rfl
  refine W.widen (k := 0) (n := 0) (Nat.le_of_ble_eq_true rfl) (Nat.le_of_ble_eq_true rfl) ?_
  exact W.iret (v := ru5) hx hb hr (fun t9 ht9 hW9 => ⟨⟨ru5, (L7u5, z7u4, dn g7u4, yi7u5, fo7u5, fd7u5, f37u5, f7u5, g7u4, f8u4, g8u4), rfl, (show ru5 = nI L7u5 ∧ L7u5 ≤ 5000 ∧ yi7u5 47 = nI L7u5 ∧ yi7u5 1 = 0 ∧ YK2 yi yi7u5 ∧ RDC (X n) (Pp n) z7u4 (dn g7u4) ∧ WRT fo7u5 L7u5 z7u4 (dn g7u4) from (by obtain ⟨k1, k2, k3, k4, k5⟩ := hpu5; have k6 := yk2_mk k5; exact ⟨k1, k2, k3, k6.2, k6.1, ⟨g7u4, wR, rfl, wv⟩, k4⟩)), by rw [ht9]; exact hP9, hD9⟩, hS.F ht9⟩) hS.2.2 dM_predict_46
set_option maxHeartbeats 4000000 in
set_option maxRecDepth 100000 in
theorem y_pred_no (l : Launch) (D : va_G) (cT : Nat → ClassId) (y : Nat) (yr : Nat → Nat) (yi : Nat → Int32) (ysb : Int64) (ybs : Int64) (v : Int32) (hq : ¬ (0 ≤ v ∧ v ≤ yi 17)) (sz : Nat) : Met l yM_predict WM_predict ({ frames := 1, cells := 0, slots := 0, locals := 22 } : Room) (RW D vwCl [.ref y, .int v] [(y, .inr (11, MO yr yi ysb ybs))] (TY cT) sz) (va_Qi (fun (r9 : Int32) (u9 : Unit) => r9 = 0) (BW D vwCl (va_A [(y, .inr (11, MO yr yi ysb ybs))] sz) (fun u9 : Unit => [(y, .inr (11, MO yr (va_up yi 1 1) ysb ybs))])) (va_A [(y, .inr (11, MO yr yi ysb ybs))] sz)) 0 0 (va_A [(y, .inr (11, MO yr yi ysb ybs))] sz) := by
  refine Met.ofW (cc := cM_predict) (maxL := 2) (ret := (some .int)) (by decide) rfl ?_
  intro p e s m args below meth c s₁ B hml hv
  obtain ⟨rfl, hsz, hZ, hP, hK, hD0⟩ := hv
  have hx := B.exec
  have hb := B.bytes
  have hr := B.returns
  have hts := atoms_spec (ws := WM_predict) B.pre
  have hT : ∀ w ∈ TB, w.before _ s = true := fun w h => hts w (List.mem_cons_of_mem _ h)
  have hown : s.vm.findClass R_M = some m.cls := findClass_of_methodNamed B.named
  have hlocks := B.notSynchronized
  subst hsz
  have hD := hD0.self (sz := s.heap.size)
  generalize hAe : va_A [(y, .inr (11, MO yr yi ysb ybs))] s.heap.size = A at hD hZ ⊢
  have hA : ∀ q : Nat, s.heap.size ≤ q → A q := fun q h => by rw [← hAe]; exact Or.inr h
  have hS : va_S A s.heap s.heap [] := va_S.rf
  have hl := lv_entry ([.ref y, .int v]) (n := 2) (Nat.le_of_ble_eq_true rfl)
  rw [lg_entry_eq]
  generalize (lg_sl ([.ref y, .int v]) ++ List.replicate (2 - (lg_sl ([.ref y, .int v])).length) Slot.unset).toArray = ls at hl ⊢
  have hl : lv_has ls 2 [(0, .ref y), (1, .int v)] := hl
  refine lv_aload_n hx hb dM_predict_0 rfl (lv_at hl 0 rfl) ?_
  refine lv_iload_n hx hb dM_predict_1 rfl (lv_at hl 1 rfl) ?_
  refine lv_iconst (v := 0) hx hb dM_predict_2 (by decide) ?_
  refine lv_aload_n hx hb dM_predict_3 rfl (lv_at hl 0 rfl) ?_
  refine va_get (D := D) (ci := 11) (v := .int (yi 17)) (C := R_M) (T := T_M) (N := 60) hx hb hT in_M hown hK hP 0 rfl rfl 17 (by decide) (hT _ w1121) (fun _ h9 => h9) rfl dM_predict_4 ?_
  refine ro_i (va_Run.run (va_runS (As := [.int v, .int 0, .int (yi 17)]) (rest := [.ref y]) ⟨hx, hb, hml, hown, hT⟩ (m_in l D cT v 0 (yi 17)) ⟨callB_of 3 hT (tb_gd w1297) rfl rfl rfl (hT _ w13) (hT _ w1295) hM_in ⟨Nat.le_of_ble_eq_true rfl, Nat.le_of_ble_eq_true rfl⟩, (hT _ w1296)⟩ (RO.preS hZ hS ((show va_P D vwCl [] _ from fun _ _ h => nomatch h)) hK) rfl rfl hl.1 rfl (lv_room (Nat.le_of_ble_eq_true rfl)) dM_predict_7 ⟨Nat.le_of_ble_eq_true rfl, Nat.le_of_ble_eq_true rfl⟩)) ?_
  refine lv_if_eq (tgt := 17) hx hb dM_predict_10 rfl (fun h1 => ?_) (fun h1 => ?_)
  · refine lv_iconst (v := 1) hx hb dM_predict_17 (by decide) ?_
    refine rw_i (wc := [(y, .inr (11, MO yr yi ysb ybs))]) (wr := []) hP hD hS hA [0] [] rfl rfl (by decide) (by decide) (va_runV (As := [.int 1]) (rest := []) ⟨hx, hb, hml, hown, hT⟩ (m_ref1 l D cT y yr yi ysb ybs _) ⟨callB_of 1 hT (tb_gd w1301) rfl rfl rfl (hT _ w13) (hT _ w1298) hM_refused ⟨Nat.le_of_ble_eq_true rfl, Nat.le_of_ble_eq_true rfl⟩, (hT _ w1300), (hT _ wp29)⟩ (RW.preV (ci := 11) (q0 := 0) hZ hS (va_free (wc := [(y, .inr (11, MO yr yi ysb ybs))]) hD hS hA [0] rfl) (hP.sub (ws' := [(y, .inr (11, MO yr yi ysb ybs))]) [0] rfl) hK (hD.sub (ws' := [(y, .inr (11, MO yr yi ysb ybs))]) [0] (by decide) rfl) rfl rfl) rfl rfl hl.1 rfl (lv_room (Nat.le_of_ble_eq_true rfl)) dM_predict_18 ⟨Nat.le_of_ble_eq_true rfl, Nat.le_of_ble_eq_true rfl⟩) (fun ru2 u9 H locs hpu2 hP hD hS => ?_)
    have hpu2 : ru2 = 1 := hpu2
    have hP : va_P D vwCl [(y, .inr (11, MO yr (va_up yi 1 1) ysb ybs))] _ := hP
    have hD : va_D A [(y, .inr (11, MO yr (va_up yi 1 1) ysb ybs))] := hD
    refine lv_topi (fun y9 e9 => ?_)
    cases (show y9 = 1 from e9.trans hpu2)
    refine lv_if_eq (tgt := 26) hx hb dM_predict_21 rfl (fun h3 => absurd h3 (by decide)) (fun _ => ?_)
    refine lv_iconst (v := 0) hx hb dM_predict_24 (by decide) ?_
    have hP9 := hP.sub (ws' := [(y, .inr (11, MO yr (va_up yi 1 1) ysb ybs))]) [0] rfl
    have hD9 := hD.sub (ws' := [(y, .inr (11, MO yr (va_up yi 1 1) ysb ybs))]) [0] (by decide) rfl
    refine W.widen (k := 0) (n := 0) (Nat.le_of_ble_eq_true rfl) (Nat.le_of_ble_eq_true rfl) ?_
    exact W.iret (v := 0) hx hb hr (fun t9 ht9 hW9 => ⟨⟨0, (), rfl, (show 0 = 0 from rfl), by rw [ht9]; exact hP9, hD9⟩, hS.F ht9⟩) hS.2.2 dM_predict_25
  · refine lv_iconst (v := 0) hx hb dM_predict_13 (by decide) ?_
    refine lv_goto (tgt := 18) hx hb dM_predict_14 rfl ?_
    refine rw_i (wc := [(y, .inr (11, MO yr yi ysb ybs))]) (wr := []) hP hD hS hA [0] [] rfl rfl (by decide) (by decide) (va_runV (As := [.int 0]) (rest := []) ⟨hx, hb, hml, hown, hT⟩ (m_ref0 l D cT y yr yi ysb ybs _) ⟨callB_of 1 hT (tb_gd w1301) rfl rfl rfl (hT _ w13) (hT _ w1298) hM_refused ⟨Nat.le_of_ble_eq_true rfl, Nat.le_of_ble_eq_true rfl⟩, (hT _ w1300), (hT _ wp29)⟩ (RW.preV (ci := 11) (q0 := 0) hZ hS (va_free (wc := [(y, .inr (11, MO yr yi ysb ybs))]) hD hS hA [0] rfl) (hP.sub (ws' := [(y, .inr (11, MO yr yi ysb ybs))]) [0] rfl) hK (hD.sub (ws' := [(y, .inr (11, MO yr yi ysb ybs))]) [0] (by decide) rfl) rfl rfl) rfl rfl hl.1 rfl (lv_room (Nat.le_of_ble_eq_true rfl)) dM_predict_18 ⟨Nat.le_of_ble_eq_true rfl, Nat.le_of_ble_eq_true rfl⟩) (fun ru4 u9 H locs hpu4 hP hD hS => ?_)
    have hpu4 : ru4 = 0 := hpu4
    have hP : va_P D vwCl [(y, .inr (11, MO yr (va_up yi 1 0) ysb ybs))] _ := hP
    have hD : va_D A [(y, .inr (11, MO yr (va_up yi 1 0) ysb ybs))] := hD
    refine lv_topi (fun y9 e9 => ?_)
    cases (show y9 = 0 from e9.trans hpu4)
    refine lv_if_eq (tgt := 26) hx hb dM_predict_21 rfl (fun _ => ?_) (fun h5 => absurd (by decide) h5)
    exact absurd (bi_1 h1) hq
set_option maxHeartbeats 4000000 in
set_option maxRecDepth 100000 in
theorem y_count0 (l : Launch) (D : va_G) (cT : Nat → ClassId) (y : Nat) (yr : Nat → Nat) (yi : Nat → Int32) (ysb : Int64) (ybs : Int64) (sz : Nat) : Met l yM_countb WM_countb ({ frames := 1, cells := 0, slots := 0, locals := 22 } : Room) (RW D vwCl [.ref y, .int 0] [(y, .inr (11, MO yr yi ysb ybs))] (TY cT) sz) (va_Qi (fun (r9 : Int32) (u9 : Unit) => r9 = yi 2) (BW D vwCl (va_A [(y, .inr (11, MO yr yi ysb ybs))] sz) (fun u9 : Unit => [(y, .inr (11, MO yr (va_up yi 1 0) ysb ybs))])) (va_A [(y, .inr (11, MO yr yi ysb ybs))] sz)) 0 0 (va_A [(y, .inr (11, MO yr yi ysb ybs))] sz) := by
  refine Met.ofW (cc := cM_countb) (maxL := 2) (ret := (some .int)) (by decide) rfl ?_
  intro p e s m args below meth c s₁ B hml hv
  obtain ⟨rfl, hsz, hZ, hP, hK, hD0⟩ := hv
  have hx := B.exec
  have hb := B.bytes
  have hr := B.returns
  have hts := atoms_spec (ws := WM_countb) B.pre
  have hT : ∀ w ∈ TB, w.before _ s = true := fun w h => hts w (List.mem_cons_of_mem _ h)
  have hown : s.vm.findClass R_M = some m.cls := findClass_of_methodNamed B.named
  have hlocks := B.notSynchronized
  subst hsz
  have hD := hD0.self (sz := s.heap.size)
  generalize hAe : va_A [(y, .inr (11, MO yr yi ysb ybs))] s.heap.size = A at hD hZ ⊢
  have hA : ∀ q : Nat, s.heap.size ≤ q → A q := fun q h => by rw [← hAe]; exact Or.inr h
  have hS : va_S A s.heap s.heap [] := va_S.rf
  have hl := lv_entry ([.ref y, .int 0]) (n := 2) (Nat.le_of_ble_eq_true rfl)
  rw [lg_entry_eq]
  generalize (lg_sl ([.ref y, .int 0]) ++ List.replicate (2 - (lg_sl ([.ref y, .int 0])).length) Slot.unset).toArray = ls at hl ⊢
  have hl : lv_has ls 2 [(0, .ref y), (1, .int 0)] := hl
  refine lv_aload_n hx hb dM_countb_0 rfl (lv_at hl 0 rfl) ?_
  refine lv_iload_n hx hb dM_countb_1 rfl (lv_at hl 1 rfl) ?_
  refine lv_iconst (v := 0) hx hb dM_countb_2 (by decide) ?_
  refine lv_iconst (v := 4) hx hb dM_countb_3 (by decide) ?_
  refine ro_i (va_Run.run (va_runS (As := [.int 0, .int 0, .int 4]) (rest := [.ref y]) ⟨hx, hb, hml, hown, hT⟩ (m_in l D cT 0 0 4) ⟨callB_of 3 hT (tb_gd w1297) rfl rfl rfl (hT _ w13) (hT _ w1295) hM_in ⟨Nat.le_of_ble_eq_true rfl, Nat.le_of_ble_eq_true rfl⟩, (hT _ w1296)⟩ (RO.preS hZ hS ((show va_P D vwCl [] _ from fun _ _ h => nomatch h)) hK) rfl rfl hl.1 rfl (lv_room (Nat.le_of_ble_eq_true rfl)) dM_countb_4 ⟨Nat.le_of_ble_eq_true rfl, Nat.le_of_ble_eq_true rfl⟩)) ?_
  refine lv_if_eq (tgt := 14) hx hb dM_countb_7 rfl (fun h1 => absurd h1 (by rw [bi_t (by decide)]; decide)) (fun _ => ?_)
  refine lv_iconst (v := 0) hx hb dM_countb_10 (by decide) ?_
  refine lv_goto (tgt := 15) hx hb dM_countb_11 rfl ?_
  refine rw_i (wc := [(y, .inr (11, MO yr yi ysb ybs))]) (wr := []) hP hD hS hA [0] [] rfl rfl (by decide) (by decide) (va_runV (As := [.int 0]) (rest := []) ⟨hx, hb, hml, hown, hT⟩ (m_ref0 l D cT y yr yi ysb ybs _) ⟨callB_of 1 hT (tb_gd w1301) rfl rfl rfl (hT _ w13) (hT _ w1298) hM_refused ⟨Nat.le_of_ble_eq_true rfl, Nat.le_of_ble_eq_true rfl⟩, (hT _ w1300), (hT _ wp29)⟩ (RW.preV (ci := 11) (q0 := 0) hZ hS (va_free (wc := [(y, .inr (11, MO yr yi ysb ybs))]) hD hS hA [0] rfl) (hP.sub (ws' := [(y, .inr (11, MO yr yi ysb ybs))]) [0] rfl) hK (hD.sub (ws' := [(y, .inr (11, MO yr yi ysb ybs))]) [0] (by decide) rfl) rfl rfl) rfl rfl hl.1 rfl (lv_room (Nat.le_of_ble_eq_true rfl)) dM_countb_15 ⟨Nat.le_of_ble_eq_true rfl, Nat.le_of_ble_eq_true rfl⟩) (fun ru2 u9 H locs hpu2 hP hD hS => ?_)
  have hpu2 : ru2 = 0 := hpu2
  have hP : va_P D vwCl [(y, .inr (11, MO yr (va_up yi 1 0) ysb ybs))] _ := hP
  have hD : va_D A [(y, .inr (11, MO yr (va_up yi 1 0) ysb ybs))] := hD
  refine lv_topi (fun y9 e9 => ?_)
  cases (show y9 = 0 from e9.trans hpu2)
  refine lv_if_eq (tgt := 23) hx hb dM_countb_18 rfl (fun _ => ?_) (fun h3 => absurd (by decide) h3)
  refine lv_iload_n hx hb dM_countb_23 rfl (lv_at hl 1 rfl) ?_
  refine lv_tableIn (off := 32) (tgt := 56) hx hb dM_countb_24 (by decide) (by decide) rfl rfl ?_
  refine lv_aload_n hx hb dM_countb_56 rfl (lv_at hl 0 rfl) ?_
  refine va_get (D := D) (ci := 11) (v := .int (yi 2)) (C := R_M) (T := T_M) (N := 60) hx hb hT in_M hown hK hP 0 rfl rfl 2 (by decide) (hT _ w1106) (fun _ h9 => h9) rfl dM_countb_57 ?_
  have hP9 := hP.sub (ws' := [(y, .inr (11, MO yr (va_up yi 1 0) ysb ybs))]) [0] rfl
  have hD9 := hD.sub (ws' := [(y, .inr (11, MO yr (va_up yi 1 0) ysb ybs))]) [0] (by decide) rfl
  refine W.widen (k := 0) (n := 0) (Nat.le_of_ble_eq_true rfl) (Nat.le_of_ble_eq_true rfl) ?_
  exact W.iret (v := yi 2) hx hb hr (fun t9 ht9 hW9 => ⟨⟨yi 2, (), rfl, (show (yi 2) = yi 2 from rfl), by rw [ht9]; exact hP9, hD9⟩, hS.F ht9⟩) hS.2.2 dM_countb_60
set_option maxHeartbeats 4000000 in
set_option maxRecDepth 100000 in
theorem y_count1 (l : Launch) (D : va_G) (cT : Nat → ClassId) (y : Nat) (yr : Nat → Nat) (yi : Nat → Int32) (ysb : Int64) (ybs : Int64) (sz : Nat) : Met l yM_countb WM_countb ({ frames := 1, cells := 0, slots := 0, locals := 22 } : Room) (RW D vwCl [.ref y, .int 1] [(y, .inr (11, MO yr yi ysb ybs))] (TY cT) sz) (va_Qi (fun (r9 : Int32) (u9 : Unit) => r9 = yi 3) (BW D vwCl (va_A [(y, .inr (11, MO yr yi ysb ybs))] sz) (fun u9 : Unit => [(y, .inr (11, MO yr (va_up yi 1 0) ysb ybs))])) (va_A [(y, .inr (11, MO yr yi ysb ybs))] sz)) 0 0 (va_A [(y, .inr (11, MO yr yi ysb ybs))] sz) := by
  refine Met.ofW (cc := cM_countb) (maxL := 2) (ret := (some .int)) (by decide) rfl ?_
  intro p e s m args below meth c s₁ B hml hv
  obtain ⟨rfl, hsz, hZ, hP, hK, hD0⟩ := hv
  have hx := B.exec
  have hb := B.bytes
  have hr := B.returns
  have hts := atoms_spec (ws := WM_countb) B.pre
  have hT : ∀ w ∈ TB, w.before _ s = true := fun w h => hts w (List.mem_cons_of_mem _ h)
  have hown : s.vm.findClass R_M = some m.cls := findClass_of_methodNamed B.named
  have hlocks := B.notSynchronized
  subst hsz
  have hD := hD0.self (sz := s.heap.size)
  generalize hAe : va_A [(y, .inr (11, MO yr yi ysb ybs))] s.heap.size = A at hD hZ ⊢
  have hA : ∀ q : Nat, s.heap.size ≤ q → A q := fun q h => by rw [← hAe]; exact Or.inr h
  have hS : va_S A s.heap s.heap [] := va_S.rf
  have hl := lv_entry ([.ref y, .int 1]) (n := 2) (Nat.le_of_ble_eq_true rfl)
  rw [lg_entry_eq]
  generalize (lg_sl ([.ref y, .int 1]) ++ List.replicate (2 - (lg_sl ([.ref y, .int 1])).length) Slot.unset).toArray = ls at hl ⊢
  have hl : lv_has ls 2 [(0, .ref y), (1, .int 1)] := hl
  refine lv_aload_n hx hb dM_countb_0 rfl (lv_at hl 0 rfl) ?_
  refine lv_iload_n hx hb dM_countb_1 rfl (lv_at hl 1 rfl) ?_
  refine lv_iconst (v := 0) hx hb dM_countb_2 (by decide) ?_
  refine lv_iconst (v := 4) hx hb dM_countb_3 (by decide) ?_
  refine ro_i (va_Run.run (va_runS (As := [.int 1, .int 0, .int 4]) (rest := [.ref y]) ⟨hx, hb, hml, hown, hT⟩ (m_in l D cT 1 0 4) ⟨callB_of 3 hT (tb_gd w1297) rfl rfl rfl (hT _ w13) (hT _ w1295) hM_in ⟨Nat.le_of_ble_eq_true rfl, Nat.le_of_ble_eq_true rfl⟩, (hT _ w1296)⟩ (RO.preS hZ hS ((show va_P D vwCl [] _ from fun _ _ h => nomatch h)) hK) rfl rfl hl.1 rfl (lv_room (Nat.le_of_ble_eq_true rfl)) dM_countb_4 ⟨Nat.le_of_ble_eq_true rfl, Nat.le_of_ble_eq_true rfl⟩)) ?_
  refine lv_if_eq (tgt := 14) hx hb dM_countb_7 rfl (fun h1 => absurd h1 (by rw [bi_t (by decide)]; decide)) (fun _ => ?_)
  refine lv_iconst (v := 0) hx hb dM_countb_10 (by decide) ?_
  refine lv_goto (tgt := 15) hx hb dM_countb_11 rfl ?_
  refine rw_i (wc := [(y, .inr (11, MO yr yi ysb ybs))]) (wr := []) hP hD hS hA [0] [] rfl rfl (by decide) (by decide) (va_runV (As := [.int 0]) (rest := []) ⟨hx, hb, hml, hown, hT⟩ (m_ref0 l D cT y yr yi ysb ybs _) ⟨callB_of 1 hT (tb_gd w1301) rfl rfl rfl (hT _ w13) (hT _ w1298) hM_refused ⟨Nat.le_of_ble_eq_true rfl, Nat.le_of_ble_eq_true rfl⟩, (hT _ w1300), (hT _ wp29)⟩ (RW.preV (ci := 11) (q0 := 0) hZ hS (va_free (wc := [(y, .inr (11, MO yr yi ysb ybs))]) hD hS hA [0] rfl) (hP.sub (ws' := [(y, .inr (11, MO yr yi ysb ybs))]) [0] rfl) hK (hD.sub (ws' := [(y, .inr (11, MO yr yi ysb ybs))]) [0] (by decide) rfl) rfl rfl) rfl rfl hl.1 rfl (lv_room (Nat.le_of_ble_eq_true rfl)) dM_countb_15 ⟨Nat.le_of_ble_eq_true rfl, Nat.le_of_ble_eq_true rfl⟩) (fun ru2 u9 H locs hpu2 hP hD hS => ?_)
  have hpu2 : ru2 = 0 := hpu2
  have hP : va_P D vwCl [(y, .inr (11, MO yr (va_up yi 1 0) ysb ybs))] _ := hP
  have hD : va_D A [(y, .inr (11, MO yr (va_up yi 1 0) ysb ybs))] := hD
  refine lv_topi (fun y9 e9 => ?_)
  cases (show y9 = 0 from e9.trans hpu2)
  refine lv_if_eq (tgt := 23) hx hb dM_countb_18 rfl (fun _ => ?_) (fun h3 => absurd (by decide) h3)
  refine lv_iload_n hx hb dM_countb_23 rfl (lv_at hl 1 rfl) ?_
  refine lv_tableIn (off := 37) (tgt := 61) hx hb dM_countb_24 (by decide) (by decide) rfl rfl ?_
  refine lv_aload_n hx hb dM_countb_61 rfl (lv_at hl 0 rfl) ?_
  refine va_get (D := D) (ci := 11) (v := .int (yi 3)) (C := R_M) (T := T_M) (N := 60) hx hb hT in_M hown hK hP 0 rfl rfl 3 (by decide) (hT _ w1107) (fun _ h9 => h9) rfl dM_countb_62 ?_
  have hP9 := hP.sub (ws' := [(y, .inr (11, MO yr (va_up yi 1 0) ysb ybs))]) [0] rfl
  have hD9 := hD.sub (ws' := [(y, .inr (11, MO yr (va_up yi 1 0) ysb ybs))]) [0] (by decide) rfl
  refine W.widen (k := 0) (n := 0) (Nat.le_of_ble_eq_true rfl) (Nat.le_of_ble_eq_true rfl) ?_
  exact W.iret (v := yi 3) hx hb hr (fun t9 ht9 hW9 => ⟨⟨yi 3, (), rfl, (show (yi 3) = yi 3 from rfl), by rw [ht9]; exact hP9, hD9⟩, hS.F ht9⟩) hS.2.2 dM_countb_65
set_option maxHeartbeats 4000000 in
set_option maxRecDepth 100000 in
theorem y_count2 (l : Launch) (D : va_G) (cT : Nat → ClassId) (y : Nat) (yr : Nat → Nat) (yi : Nat → Int32) (ysb : Int64) (ybs : Int64) (sz : Nat) : Met l yM_countb WM_countb ({ frames := 1, cells := 0, slots := 0, locals := 22 } : Room) (RW D vwCl [.ref y, .int 2] [(y, .inr (11, MO yr yi ysb ybs))] (TY cT) sz) (va_Qi (fun (r9 : Int32) (u9 : Unit) => r9 = yi 17) (BW D vwCl (va_A [(y, .inr (11, MO yr yi ysb ybs))] sz) (fun u9 : Unit => [(y, .inr (11, MO yr (va_up yi 1 0) ysb ybs))])) (va_A [(y, .inr (11, MO yr yi ysb ybs))] sz)) 0 0 (va_A [(y, .inr (11, MO yr yi ysb ybs))] sz) := by
  refine Met.ofW (cc := cM_countb) (maxL := 2) (ret := (some .int)) (by decide) rfl ?_
  intro p e s m args below meth c s₁ B hml hv
  obtain ⟨rfl, hsz, hZ, hP, hK, hD0⟩ := hv
  have hx := B.exec
  have hb := B.bytes
  have hr := B.returns
  have hts := atoms_spec (ws := WM_countb) B.pre
  have hT : ∀ w ∈ TB, w.before _ s = true := fun w h => hts w (List.mem_cons_of_mem _ h)
  have hown : s.vm.findClass R_M = some m.cls := findClass_of_methodNamed B.named
  have hlocks := B.notSynchronized
  subst hsz
  have hD := hD0.self (sz := s.heap.size)
  generalize hAe : va_A [(y, .inr (11, MO yr yi ysb ybs))] s.heap.size = A at hD hZ ⊢
  have hA : ∀ q : Nat, s.heap.size ≤ q → A q := fun q h => by rw [← hAe]; exact Or.inr h
  have hS : va_S A s.heap s.heap [] := va_S.rf
  have hl := lv_entry ([.ref y, .int 2]) (n := 2) (Nat.le_of_ble_eq_true rfl)
  rw [lg_entry_eq]
  generalize (lg_sl ([.ref y, .int 2]) ++ List.replicate (2 - (lg_sl ([.ref y, .int 2])).length) Slot.unset).toArray = ls at hl ⊢
  have hl : lv_has ls 2 [(0, .ref y), (1, .int 2)] := hl
  refine lv_aload_n hx hb dM_countb_0 rfl (lv_at hl 0 rfl) ?_
  refine lv_iload_n hx hb dM_countb_1 rfl (lv_at hl 1 rfl) ?_
  refine lv_iconst (v := 0) hx hb dM_countb_2 (by decide) ?_
  refine lv_iconst (v := 4) hx hb dM_countb_3 (by decide) ?_
  refine ro_i (va_Run.run (va_runS (As := [.int 2, .int 0, .int 4]) (rest := [.ref y]) ⟨hx, hb, hml, hown, hT⟩ (m_in l D cT 2 0 4) ⟨callB_of 3 hT (tb_gd w1297) rfl rfl rfl (hT _ w13) (hT _ w1295) hM_in ⟨Nat.le_of_ble_eq_true rfl, Nat.le_of_ble_eq_true rfl⟩, (hT _ w1296)⟩ (RO.preS hZ hS ((show va_P D vwCl [] _ from fun _ _ h => nomatch h)) hK) rfl rfl hl.1 rfl (lv_room (Nat.le_of_ble_eq_true rfl)) dM_countb_4 ⟨Nat.le_of_ble_eq_true rfl, Nat.le_of_ble_eq_true rfl⟩)) ?_
  refine lv_if_eq (tgt := 14) hx hb dM_countb_7 rfl (fun h1 => absurd h1 (by rw [bi_t (by decide)]; decide)) (fun _ => ?_)
  refine lv_iconst (v := 0) hx hb dM_countb_10 (by decide) ?_
  refine lv_goto (tgt := 15) hx hb dM_countb_11 rfl ?_
  refine rw_i (wc := [(y, .inr (11, MO yr yi ysb ybs))]) (wr := []) hP hD hS hA [0] [] rfl rfl (by decide) (by decide) (va_runV (As := [.int 0]) (rest := []) ⟨hx, hb, hml, hown, hT⟩ (m_ref0 l D cT y yr yi ysb ybs _) ⟨callB_of 1 hT (tb_gd w1301) rfl rfl rfl (hT _ w13) (hT _ w1298) hM_refused ⟨Nat.le_of_ble_eq_true rfl, Nat.le_of_ble_eq_true rfl⟩, (hT _ w1300), (hT _ wp29)⟩ (RW.preV (ci := 11) (q0 := 0) hZ hS (va_free (wc := [(y, .inr (11, MO yr yi ysb ybs))]) hD hS hA [0] rfl) (hP.sub (ws' := [(y, .inr (11, MO yr yi ysb ybs))]) [0] rfl) hK (hD.sub (ws' := [(y, .inr (11, MO yr yi ysb ybs))]) [0] (by decide) rfl) rfl rfl) rfl rfl hl.1 rfl (lv_room (Nat.le_of_ble_eq_true rfl)) dM_countb_15 ⟨Nat.le_of_ble_eq_true rfl, Nat.le_of_ble_eq_true rfl⟩) (fun ru2 u9 H locs hpu2 hP hD hS => ?_)
  have hpu2 : ru2 = 0 := hpu2
  have hP : va_P D vwCl [(y, .inr (11, MO yr (va_up yi 1 0) ysb ybs))] _ := hP
  have hD : va_D A [(y, .inr (11, MO yr (va_up yi 1 0) ysb ybs))] := hD
  refine lv_topi (fun y9 e9 => ?_)
  cases (show y9 = 0 from e9.trans hpu2)
  refine lv_if_eq (tgt := 23) hx hb dM_countb_18 rfl (fun _ => ?_) (fun h3 => absurd (by decide) h3)
  refine lv_iload_n hx hb dM_countb_23 rfl (lv_at hl 1 rfl) ?_
  refine lv_tableIn (off := 42) (tgt := 66) hx hb dM_countb_24 (by decide) (by decide) rfl rfl ?_
  refine lv_aload_n hx hb dM_countb_66 rfl (lv_at hl 0 rfl) ?_
  refine va_get (D := D) (ci := 11) (v := .int (yi 17)) (C := R_M) (T := T_M) (N := 60) hx hb hT in_M hown hK hP 0 rfl rfl 17 (by decide) (hT _ w1121) (fun _ h9 => h9) rfl dM_countb_67 ?_
  have hP9 := hP.sub (ws' := [(y, .inr (11, MO yr (va_up yi 1 0) ysb ybs))]) [0] rfl
  have hD9 := hD.sub (ws' := [(y, .inr (11, MO yr (va_up yi 1 0) ysb ybs))]) [0] (by decide) rfl
  refine W.widen (k := 0) (n := 0) (Nat.le_of_ble_eq_true rfl) (Nat.le_of_ble_eq_true rfl) ?_
  exact W.iret (v := yi 17) hx hb hr (fun t9 ht9 hW9 => ⟨⟨yi 17, (), rfl, (show (yi 17) = yi 17 from rfl), by rw [ht9]; exact hP9, hD9⟩, hS.F ht9⟩) hS.2.2 dM_countb_70
set_option maxHeartbeats 4000000 in
set_option maxRecDepth 100000 in
theorem y_count4 (l : Launch) (D : va_G) (cT : Nat → ClassId) (y : Nat) (yr : Nat → Nat) (yi : Nat → Int32) (ysb : Int64) (ybs : Int64) (sz : Nat) : Met l yM_countb WM_countb ({ frames := 1, cells := 0, slots := 0, locals := 22 } : Room) (RW D vwCl [.ref y, .int 4] [(y, .inr (11, MO yr yi ysb ybs))] (TY cT) sz) (va_Qi (fun (r9 : Int32) (u9 : Unit) => r9 = yi 47) (BW D vwCl (va_A [(y, .inr (11, MO yr yi ysb ybs))] sz) (fun u9 : Unit => [(y, .inr (11, MO yr (va_up yi 1 0) ysb ybs))])) (va_A [(y, .inr (11, MO yr yi ysb ybs))] sz)) 0 0 (va_A [(y, .inr (11, MO yr yi ysb ybs))] sz) := by
  refine Met.ofW (cc := cM_countb) (maxL := 2) (ret := (some .int)) (by decide) rfl ?_
  intro p e s m args below meth c s₁ B hml hv
  obtain ⟨rfl, hsz, hZ, hP, hK, hD0⟩ := hv
  have hx := B.exec
  have hb := B.bytes
  have hr := B.returns
  have hts := atoms_spec (ws := WM_countb) B.pre
  have hT : ∀ w ∈ TB, w.before _ s = true := fun w h => hts w (List.mem_cons_of_mem _ h)
  have hown : s.vm.findClass R_M = some m.cls := findClass_of_methodNamed B.named
  have hlocks := B.notSynchronized
  subst hsz
  have hD := hD0.self (sz := s.heap.size)
  generalize hAe : va_A [(y, .inr (11, MO yr yi ysb ybs))] s.heap.size = A at hD hZ ⊢
  have hA : ∀ q : Nat, s.heap.size ≤ q → A q := fun q h => by rw [← hAe]; exact Or.inr h
  have hS : va_S A s.heap s.heap [] := va_S.rf
  have hl := lv_entry ([.ref y, .int 4]) (n := 2) (Nat.le_of_ble_eq_true rfl)
  rw [lg_entry_eq]
  generalize (lg_sl ([.ref y, .int 4]) ++ List.replicate (2 - (lg_sl ([.ref y, .int 4])).length) Slot.unset).toArray = ls at hl ⊢
  have hl : lv_has ls 2 [(0, .ref y), (1, .int 4)] := hl
  refine lv_aload_n hx hb dM_countb_0 rfl (lv_at hl 0 rfl) ?_
  refine lv_iload_n hx hb dM_countb_1 rfl (lv_at hl 1 rfl) ?_
  refine lv_iconst (v := 0) hx hb dM_countb_2 (by decide) ?_
  refine lv_iconst (v := 4) hx hb dM_countb_3 (by decide) ?_
  refine ro_i (va_Run.run (va_runS (As := [.int 4, .int 0, .int 4]) (rest := [.ref y]) ⟨hx, hb, hml, hown, hT⟩ (m_in l D cT 4 0 4) ⟨callB_of 3 hT (tb_gd w1297) rfl rfl rfl (hT _ w13) (hT _ w1295) hM_in ⟨Nat.le_of_ble_eq_true rfl, Nat.le_of_ble_eq_true rfl⟩, (hT _ w1296)⟩ (RO.preS hZ hS ((show va_P D vwCl [] _ from fun _ _ h => nomatch h)) hK) rfl rfl hl.1 rfl (lv_room (Nat.le_of_ble_eq_true rfl)) dM_countb_4 ⟨Nat.le_of_ble_eq_true rfl, Nat.le_of_ble_eq_true rfl⟩)) ?_
  refine lv_if_eq (tgt := 14) hx hb dM_countb_7 rfl (fun h1 => absurd h1 (by rw [bi_t (by decide)]; decide)) (fun _ => ?_)
  refine lv_iconst (v := 0) hx hb dM_countb_10 (by decide) ?_
  refine lv_goto (tgt := 15) hx hb dM_countb_11 rfl ?_
  refine rw_i (wc := [(y, .inr (11, MO yr yi ysb ybs))]) (wr := []) hP hD hS hA [0] [] rfl rfl (by decide) (by decide) (va_runV (As := [.int 0]) (rest := []) ⟨hx, hb, hml, hown, hT⟩ (m_ref0 l D cT y yr yi ysb ybs _) ⟨callB_of 1 hT (tb_gd w1301) rfl rfl rfl (hT _ w13) (hT _ w1298) hM_refused ⟨Nat.le_of_ble_eq_true rfl, Nat.le_of_ble_eq_true rfl⟩, (hT _ w1300), (hT _ wp29)⟩ (RW.preV (ci := 11) (q0 := 0) hZ hS (va_free (wc := [(y, .inr (11, MO yr yi ysb ybs))]) hD hS hA [0] rfl) (hP.sub (ws' := [(y, .inr (11, MO yr yi ysb ybs))]) [0] rfl) hK (hD.sub (ws' := [(y, .inr (11, MO yr yi ysb ybs))]) [0] (by decide) rfl) rfl rfl) rfl rfl hl.1 rfl (lv_room (Nat.le_of_ble_eq_true rfl)) dM_countb_15 ⟨Nat.le_of_ble_eq_true rfl, Nat.le_of_ble_eq_true rfl⟩) (fun ru2 u9 H locs hpu2 hP hD hS => ?_)
  have hpu2 : ru2 = 0 := hpu2
  have hP : va_P D vwCl [(y, .inr (11, MO yr (va_up yi 1 0) ysb ybs))] _ := hP
  have hD : va_D A [(y, .inr (11, MO yr (va_up yi 1 0) ysb ybs))] := hD
  refine lv_topi (fun y9 e9 => ?_)
  cases (show y9 = 0 from e9.trans hpu2)
  refine lv_if_eq (tgt := 23) hx hb dM_countb_18 rfl (fun _ => ?_) (fun h3 => absurd (by decide) h3)
  refine lv_iload_n hx hb dM_countb_23 rfl (lv_at hl 1 rfl) ?_
  refine lv_tableOut (tgt := 76) hx hb dM_countb_24 (Or.inr (by decide)) rfl ?_
  refine lv_aload_n hx hb dM_countb_76 rfl (lv_at hl 0 rfl) ?_
  refine va_get (D := D) (ci := 11) (v := .int (yi 47)) (C := R_M) (T := T_M) (N := 60) hx hb hT in_M hown hK hP 0 rfl rfl 47 (by decide) (hT _ w1151) (fun _ h9 => h9) rfl dM_countb_77 ?_
  have hP9 := hP.sub (ws' := [(y, .inr (11, MO yr (va_up yi 1 0) ysb ybs))]) [0] rfl
  have hD9 := hD.sub (ws' := [(y, .inr (11, MO yr (va_up yi 1 0) ysb ybs))]) [0] (by decide) rfl
  refine W.widen (k := 0) (n := 0) (Nat.le_of_ble_eq_true rfl) (Nat.le_of_ble_eq_true rfl) ?_
  exact W.iret (v := yi 47) hx hb hr (fun t9 ht9 hW9 => ⟨⟨yi 47, (), rfl, (show (yi 47) = yi 47 from rfl), by rw [ht9]; exact hP9, hD9⟩, hS.F ht9⟩) hS.2.2 dM_countb_80
set_option maxHeartbeats 4000000 in
set_option maxRecDepth 100000 in
theorem y_count3 (l : Launch) (D : va_G) (cT : Nat → ClassId) (y : Nat) (yr : Nat → Nat) (yi : Nat → Int32) (ysb : Int64) (ybs : Int64) (fp : Nat → Int32) (nc : Nat → Int32) (nl : Nat → Int32) (nr : Nat → Int32) (tl : Nat → Int32) (kd : Nat → Int32) (ed : Nat → Int32) (vv : Nat → Int32) (up : Nat → Int32) (lw : Nat → Int32) (f0 : Nat → Int32) (g0 : Nat → Int32) (f2 : Nat → Int32) (g2 : Nat → Int32) (gc : Nat → Int32) (ru : Nat → Int32) (rl : Nat → Int32) (T : Nat) (n : Nat) (bb : Nat) (nm : Nat → Nat) (dp : Nat → Nat → Nat) (go : Nat → Nat → Nat → Bool) (lf : Nat → Nat → Nat) (Pp : Nat → Nat) (sc : Nat → Nat) (X : Nat → Nat → Int) (LX : Nat → Nat → Int) (PB : Nat) (XB : Nat) (tg : Nat → Int32) (hPR : PRI fp) (hn : yi 3 = nI n) (hn48 : n ≤ 48) (hTT : yi 17 = nI T) (hT16 : T ≤ 16) (hbb : bb < 2 ^ 30) (htg0 : ∀ i, i < n → X i 0 = (tg i).toInt ∧ -1000 ≤ (tg i).toInt ∧ (tg i).toInt ≤ 1000) (hC : ∀ i, i < n → CHN Pp sc (X i) (LX i) true T PB XB) (hBB : XB * PB + XB * (PB * PB) < 268435456 ^ 130) (hXB : XB < 268435456 ^ 130) (hT9 : ∀ t, t < T → TWF nc nl nr (dp t) (31 * t) (nm t)) (htl : ∀ q, q < 496 → tl q = 0 ∨ tl q = 1) (hgo : ∀ i, i < n → ∀ t, t < T → ∀ k, k < nm t → ∀ c, c < 6 → nc (31 * t + k) = nI c → go i t k = goB (tl (31 * t + k)) (kd (31 * t + k)) (ed (31 * t + k)) (vv (6 * i + c))) (hlf : ∀ i, i < n → ∀ t, t < T → lf i t = lfw nc nl nr (go i t) (31 * t) 4 0) (hlfb : ∀ i, i < n → ∀ t, t < T → lf i t < 31) (hNF : ∀ i, i < n → ∀ t, t < T → NF up lw bb (31 * t + lf i t) (LX i t) (Pp (t + 1))) (hCfit : ∀ (g u : Nat → Int32) (zr : Nat → Int), LOK g bb → COMM u g n zr (fun j => X j T) (Pp T) → dn g < 268435456 ^ 250) (sz : Nat) : Met l yM_countb WM_countb ({ frames := 7, cells := 0, slots := 0, locals := 168 } : Room) (RW D vwCl [.ref y, .int 3] [(y, .inr (11, MO yr yi ysb ybs)), (yr 0, .inl (cT 0, 19, .inl fp)), (yr 29, .inl (cT 0, 302, .inl f0)), (yr 40, .inl (cT 0, 19, .inl g0)), (yr 30, .inl (cT 0, 302, .inl f2)), (yr 41, .inl (cT 0, 19, .inl g2)), (yr 44, .inl (cT 0, 19, .inl gc)), (yr 45, .inl (cT 0, 6336, .inl ru)), (yr 46, .inl (cT 0, 912, .inl rl)), (yr 4, .inl (cT 0, 48, .inl tg)), (yr 27, .inl (cT 0, 65472, .inl up)), (yr 28, .inl (cT 0, 9424, .inl lw)), (yr 19, .inl (cT 0, 496, .inl nc)), (yr 22, .inl (cT 0, 496, .inl nl)), (yr 23, .inl (cT 0, 496, .inl nr)), (yr 5, .inl (cT 0, 288, .inl vv)), (yr 21, .inl (cT 3, 496, .inl tl)), (yr 26, .inl (cT 3, 496, .inl kd)), (yr 20, .inl (cT 0, 496, .inl ed))] (TY cT) sz) (va_Qi (fun (r9 : Int32) (u9 : (Nat → Int) × (Nat → Int32) × (Nat → Int32) × (Nat → Int32) × (Nat → Int32) × (Nat → Int32) × (Nat → Int32) × (Nat → Int32)) => r9 = nI (bl (dn u9.2.1)) ∧ LOK u9.2.1 bb ∧ COMM u9.2.2.1 u9.2.1 n u9.1 (fun j8 => X j8 T) (Pp T)) (BW D vwCl (va_A [(y, .inr (11, MO yr yi ysb ybs)), (yr 0, .inl (cT 0, 19, .inl fp)), (yr 29, .inl (cT 0, 302, .inl f0)), (yr 40, .inl (cT 0, 19, .inl g0)), (yr 30, .inl (cT 0, 302, .inl f2)), (yr 41, .inl (cT 0, 19, .inl g2)), (yr 44, .inl (cT 0, 19, .inl gc)), (yr 45, .inl (cT 0, 6336, .inl ru)), (yr 46, .inl (cT 0, 912, .inl rl)), (yr 4, .inl (cT 0, 48, .inl tg)), (yr 27, .inl (cT 0, 65472, .inl up)), (yr 28, .inl (cT 0, 9424, .inl lw)), (yr 19, .inl (cT 0, 496, .inl nc)), (yr 22, .inl (cT 0, 496, .inl nl)), (yr 23, .inl (cT 0, 496, .inl nr)), (yr 5, .inl (cT 0, 288, .inl vv)), (yr 21, .inl (cT 3, 496, .inl tl)), (yr 26, .inl (cT 3, 496, .inl kd)), (yr 20, .inl (cT 0, 496, .inl ed))] sz) (fun u9 : (Nat → Int) × (Nat → Int32) × (Nat → Int32) × (Nat → Int32) × (Nat → Int32) × (Nat → Int32) × (Nat → Int32) × (Nat → Int32) => [(y, .inr (11, MO yr (va_up yi 1 0) ysb ybs)), (yr 0, .inl (cT 0, 19, .inl fp)), (yr 29, .inl (cT 0, 302, .inl u9.2.2.2.2.1)), (yr 40, .inl (cT 0, 19, .inl u9.2.2.2.2.2.1)), (yr 30, .inl (cT 0, 302, .inl u9.2.2.2.2.2.2.1)), (yr 41, .inl (cT 0, 19, .inl u9.2.2.2.2.2.2.2)), (yr 44, .inl (cT 0, 19, .inl u9.2.1)), (yr 45, .inl (cT 0, 6336, .inl u9.2.2.1)), (yr 46, .inl (cT 0, 912, .inl u9.2.2.2.1)), (yr 4, .inl (cT 0, 48, .inl tg)), (yr 27, .inl (cT 0, 65472, .inl up)), (yr 28, .inl (cT 0, 9424, .inl lw)), (yr 19, .inl (cT 0, 496, .inl nc)), (yr 22, .inl (cT 0, 496, .inl nl)), (yr 23, .inl (cT 0, 496, .inl nr)), (yr 5, .inl (cT 0, 288, .inl vv)), (yr 21, .inl (cT 3, 496, .inl tl)), (yr 26, .inl (cT 3, 496, .inl kd)), (yr 20, .inl (cT 0, 496, .inl ed))])) (va_A [(y, .inr (11, MO yr yi ysb ybs)), (yr 0, .inl (cT 0, 19, .inl fp)), (yr 29, .inl (cT 0, 302, .inl f0)), (yr 40, .inl (cT 0, 19, .inl g0)), (yr 30, .inl (cT 0, 302, .inl f2)), (yr 41, .inl (cT 0, 19, .inl g2)), (yr 44, .inl (cT 0, 19, .inl gc)), (yr 45, .inl (cT 0, 6336, .inl ru)), (yr 46, .inl (cT 0, 912, .inl rl)), (yr 4, .inl (cT 0, 48, .inl tg)), (yr 27, .inl (cT 0, 65472, .inl up)), (yr 28, .inl (cT 0, 9424, .inl lw)), (yr 19, .inl (cT 0, 496, .inl nc)), (yr 22, .inl (cT 0, 496, .inl nl)), (yr 23, .inl (cT 0, 496, .inl nr)), (yr 5, .inl (cT 0, 288, .inl vv)), (yr 21, .inl (cT 3, 496, .inl tl)), (yr 26, .inl (cT 3, 496, .inl kd)), (yr 20, .inl (cT 0, 496, .inl ed))] sz)) 0 0 (va_A [(y, .inr (11, MO yr yi ysb ybs)), (yr 0, .inl (cT 0, 19, .inl fp)), (yr 29, .inl (cT 0, 302, .inl f0)), (yr 40, .inl (cT 0, 19, .inl g0)), (yr 30, .inl (cT 0, 302, .inl f2)), (yr 41, .inl (cT 0, 19, .inl g2)), (yr 44, .inl (cT 0, 19, .inl gc)), (yr 45, .inl (cT 0, 6336, .inl ru)), (yr 46, .inl (cT 0, 912, .inl rl)), (yr 4, .inl (cT 0, 48, .inl tg)), (yr 27, .inl (cT 0, 65472, .inl up)), (yr 28, .inl (cT 0, 9424, .inl lw)), (yr 19, .inl (cT 0, 496, .inl nc)), (yr 22, .inl (cT 0, 496, .inl nl)), (yr 23, .inl (cT 0, 496, .inl nr)), (yr 5, .inl (cT 0, 288, .inl vv)), (yr 21, .inl (cT 3, 496, .inl tl)), (yr 26, .inl (cT 3, 496, .inl kd)), (yr 20, .inl (cT 0, 496, .inl ed))] sz) := by
  refine Met.ofW (cc := cM_countb) (maxL := 2) (ret := (some .int)) (by decide) rfl ?_
  intro p e s m args below meth c s₁ B hml hv
  obtain ⟨rfl, hsz, hZ, hP, hK, hD0⟩ := hv
  have hx := B.exec
  have hb := B.bytes
  have hr := B.returns
  have hts := atoms_spec (ws := WM_countb) B.pre
  have hT : ∀ w ∈ TB, w.before _ s = true := fun w h => hts w (List.mem_cons_of_mem _ h)
  have hown : s.vm.findClass R_M = some m.cls := findClass_of_methodNamed B.named
  have hlocks := B.notSynchronized
  subst hsz
  have hD := hD0.self (sz := s.heap.size)
  generalize hAe : va_A [(y, .inr (11, MO yr yi ysb ybs)), (yr 0, .inl (cT 0, 19, .inl fp)), (yr 29, .inl (cT 0, 302, .inl f0)), (yr 40, .inl (cT 0, 19, .inl g0)), (yr 30, .inl (cT 0, 302, .inl f2)), (yr 41, .inl (cT 0, 19, .inl g2)), (yr 44, .inl (cT 0, 19, .inl gc)), (yr 45, .inl (cT 0, 6336, .inl ru)), (yr 46, .inl (cT 0, 912, .inl rl)), (yr 4, .inl (cT 0, 48, .inl tg)), (yr 27, .inl (cT 0, 65472, .inl up)), (yr 28, .inl (cT 0, 9424, .inl lw)), (yr 19, .inl (cT 0, 496, .inl nc)), (yr 22, .inl (cT 0, 496, .inl nl)), (yr 23, .inl (cT 0, 496, .inl nr)), (yr 5, .inl (cT 0, 288, .inl vv)), (yr 21, .inl (cT 3, 496, .inl tl)), (yr 26, .inl (cT 3, 496, .inl kd)), (yr 20, .inl (cT 0, 496, .inl ed))] s.heap.size = A at hD hZ ⊢
  have hA : ∀ q : Nat, s.heap.size ≤ q → A q := fun q h => by rw [← hAe]; exact Or.inr h
  have hS : va_S A s.heap s.heap [] := va_S.rf
  have hl := lv_entry ([.ref y, .int 3]) (n := 2) (Nat.le_of_ble_eq_true rfl)
  rw [lg_entry_eq]
  generalize (lg_sl ([.ref y, .int 3]) ++ List.replicate (2 - (lg_sl ([.ref y, .int 3])).length) Slot.unset).toArray = ls at hl ⊢
  have hl : lv_has ls 2 [(0, .ref y), (1, .int 3)] := hl
  refine lv_aload_n hx hb dM_countb_0 rfl (lv_at hl 0 rfl) ?_
  refine lv_iload_n hx hb dM_countb_1 rfl (lv_at hl 1 rfl) ?_
  refine lv_iconst (v := 0) hx hb dM_countb_2 (by decide) ?_
  refine lv_iconst (v := 4) hx hb dM_countb_3 (by decide) ?_
  refine ro_i (va_Run.run (va_runS (As := [.int 3, .int 0, .int 4]) (rest := [.ref y]) ⟨hx, hb, hml, hown, hT⟩ (m_in l D cT 3 0 4) ⟨callB_of 3 hT (tb_gd w1297) rfl rfl rfl (hT _ w13) (hT _ w1295) hM_in ⟨Nat.le_of_ble_eq_true rfl, Nat.le_of_ble_eq_true rfl⟩, (hT _ w1296)⟩ (RO.preS hZ hS ((show va_P D vwCl [] _ from fun _ _ h => nomatch h)) hK) rfl rfl hl.1 rfl (lv_room (Nat.le_of_ble_eq_true rfl)) dM_countb_4 ⟨Nat.le_of_ble_eq_true rfl, Nat.le_of_ble_eq_true rfl⟩)) ?_
  refine lv_if_eq (tgt := 14) hx hb dM_countb_7 rfl (fun h1 => absurd h1 (by rw [bi_t (by decide)]; decide)) (fun _ => ?_)
  refine lv_iconst (v := 0) hx hb dM_countb_10 (by decide) ?_
  refine lv_goto (tgt := 15) hx hb dM_countb_11 rfl ?_
  refine rw_i (wc := [(y, .inr (11, MO yr yi ysb ybs))]) (wr := [(yr 0, .inl (cT 0, 19, .inl fp)), (yr 29, .inl (cT 0, 302, .inl f0)), (yr 40, .inl (cT 0, 19, .inl g0)), (yr 30, .inl (cT 0, 302, .inl f2)), (yr 41, .inl (cT 0, 19, .inl g2)), (yr 44, .inl (cT 0, 19, .inl gc)), (yr 45, .inl (cT 0, 6336, .inl ru)), (yr 46, .inl (cT 0, 912, .inl rl)), (yr 4, .inl (cT 0, 48, .inl tg)), (yr 27, .inl (cT 0, 65472, .inl up)), (yr 28, .inl (cT 0, 9424, .inl lw)), (yr 19, .inl (cT 0, 496, .inl nc)), (yr 22, .inl (cT 0, 496, .inl nl)), (yr 23, .inl (cT 0, 496, .inl nr)), (yr 5, .inl (cT 0, 288, .inl vv)), (yr 21, .inl (cT 3, 496, .inl tl)), (yr 26, .inl (cT 3, 496, .inl kd)), (yr 20, .inl (cT 0, 496, .inl ed))]) hP hD hS hA [0] [1, 2, 3, 4, 5, 6, 7, 8, 9, 10, 11, 12, 13, 14, 15, 16, 17, 18] rfl rfl (by decide) (by decide) (va_runV (As := [.int 0]) (rest := []) ⟨hx, hb, hml, hown, hT⟩ (m_ref0 l D cT y yr yi ysb ybs _) ⟨callB_of 1 hT (tb_gd w1301) rfl rfl rfl (hT _ w13) (hT _ w1298) hM_refused ⟨Nat.le_of_ble_eq_true rfl, Nat.le_of_ble_eq_true rfl⟩, (hT _ w1300), (hT _ wp29)⟩ (RW.preV (ci := 11) (q0 := 0) hZ hS (va_free (wc := [(y, .inr (11, MO yr yi ysb ybs))]) hD hS hA [0] rfl) (hP.sub (ws' := [(y, .inr (11, MO yr yi ysb ybs))]) [0] rfl) hK (hD.sub (ws' := [(y, .inr (11, MO yr yi ysb ybs))]) [0] (by decide) rfl) rfl rfl) rfl rfl hl.1 rfl (lv_room (Nat.le_of_ble_eq_true rfl)) dM_countb_15 ⟨Nat.le_of_ble_eq_true rfl, Nat.le_of_ble_eq_true rfl⟩) (fun ru2 u9 H locs hpu2 hP hD hS => ?_)
  have hpu2 : ru2 = 0 := hpu2
  have hP : va_P D vwCl [(yr 0, .inl (cT 0, 19, .inl fp)), (yr 29, .inl (cT 0, 302, .inl f0)), (yr 40, .inl (cT 0, 19, .inl g0)), (yr 30, .inl (cT 0, 302, .inl f2)), (yr 41, .inl (cT 0, 19, .inl g2)), (yr 44, .inl (cT 0, 19, .inl gc)), (yr 45, .inl (cT 0, 6336, .inl ru)), (yr 46, .inl (cT 0, 912, .inl rl)), (yr 4, .inl (cT 0, 48, .inl tg)), (yr 27, .inl (cT 0, 65472, .inl up)), (yr 28, .inl (cT 0, 9424, .inl lw)), (yr 19, .inl (cT 0, 496, .inl nc)), (yr 22, .inl (cT 0, 496, .inl nl)), (yr 23, .inl (cT 0, 496, .inl nr)), (yr 5, .inl (cT 0, 288, .inl vv)), (yr 21, .inl (cT 3, 496, .inl tl)), (yr 26, .inl (cT 3, 496, .inl kd)), (yr 20, .inl (cT 0, 496, .inl ed)), (y, .inr (11, MO yr (va_up yi 1 0) ysb ybs))] _ := hP
  have hD : va_D A [(yr 0, .inl (cT 0, 19, .inl fp)), (yr 29, .inl (cT 0, 302, .inl f0)), (yr 40, .inl (cT 0, 19, .inl g0)), (yr 30, .inl (cT 0, 302, .inl f2)), (yr 41, .inl (cT 0, 19, .inl g2)), (yr 44, .inl (cT 0, 19, .inl gc)), (yr 45, .inl (cT 0, 6336, .inl ru)), (yr 46, .inl (cT 0, 912, .inl rl)), (yr 4, .inl (cT 0, 48, .inl tg)), (yr 27, .inl (cT 0, 65472, .inl up)), (yr 28, .inl (cT 0, 9424, .inl lw)), (yr 19, .inl (cT 0, 496, .inl nc)), (yr 22, .inl (cT 0, 496, .inl nl)), (yr 23, .inl (cT 0, 496, .inl nr)), (yr 5, .inl (cT 0, 288, .inl vv)), (yr 21, .inl (cT 3, 496, .inl tl)), (yr 26, .inl (cT 3, 496, .inl kd)), (yr 20, .inl (cT 0, 496, .inl ed)), (y, .inr (11, MO yr (va_up yi 1 0) ysb ybs))] := hD
  refine lv_topi (fun y9 e9 => ?_)
  cases (show y9 = 0 from e9.trans hpu2)
  refine lv_if_eq (tgt := 23) hx hb dM_countb_18 rfl (fun _ => ?_) (fun h3 => absurd (by decide) h3)
  refine lv_iload_n hx hb dM_countb_23 rfl (lv_at hl 1 rfl) ?_
  refine lv_tableIn (off := 47) (tgt := 71) hx hb dM_countb_24 (by decide) (by decide) rfl rfl ?_
  refine lv_aload_n hx hb dM_countb_71 rfl (lv_at hl 0 rfl) ?_
  refine rw_i (wc := [(y, .inr (11, MO yr (va_up yi 1 0) ysb ybs)), (yr 0, .inl (cT 0, 19, .inl fp)), (yr 29, .inl (cT 0, 302, .inl f0)), (yr 40, .inl (cT 0, 19, .inl g0)), (yr 30, .inl (cT 0, 302, .inl f2)), (yr 41, .inl (cT 0, 19, .inl g2)), (yr 44, .inl (cT 0, 19, .inl gc)), (yr 45, .inl (cT 0, 6336, .inl ru)), (yr 46, .inl (cT 0, 912, .inl rl)), (yr 4, .inl (cT 0, 48, .inl tg)), (yr 27, .inl (cT 0, 65472, .inl up)), (yr 28, .inl (cT 0, 9424, .inl lw)), (yr 19, .inl (cT 0, 496, .inl nc)), (yr 22, .inl (cT 0, 496, .inl nl)), (yr 23, .inl (cT 0, 496, .inl nr)), (yr 5, .inl (cT 0, 288, .inl vv)), (yr 21, .inl (cT 3, 496, .inl tl)), (yr 26, .inl (cT 3, 496, .inl kd)), (yr 20, .inl (cT 0, 496, .inl ed))]) (wr := []) hP hD hS hA [18, 0, 1, 2, 3, 4, 5, 6, 7, 8, 9, 10, 11, 12, 13, 14, 15, 16, 17] [] rfl rfl (by decide) (by decide) (va_runV (As := []) (rest := []) ⟨hx, hb, hml, hown, hT⟩ (m_cbits l D cT y yr (va_up yi 1 0) ysb ybs fp nc nl nr tl kd ed vv up lw f0 g0 f2 g2 gc ru rl T n bb nm dp go lf Pp sc X LX PB XB tg hPR (yu (by decide) hn) hn48 (yu (by decide) hTT) hT16 hbb htg0 hC hBB hXB hT9 htl hgo hlf hlfb hNF hCfit _) ⟨callB_of 0 hT (tb_gd w1523) rfl rfl rfl (hT _ w13) (hT _ w1520) hM_commonBits ⟨Nat.le_of_ble_eq_true rfl, Nat.le_of_ble_eq_true rfl⟩, (hT _ w1522), (hT _ wp59)⟩ (RW.preV (ci := 11) (q0 := 0) hZ hS (va_free (wc := [(y, .inr (11, MO yr (va_up yi 1 0) ysb ybs)), (yr 0, .inl (cT 0, 19, .inl fp)), (yr 29, .inl (cT 0, 302, .inl f0)), (yr 40, .inl (cT 0, 19, .inl g0)), (yr 30, .inl (cT 0, 302, .inl f2)), (yr 41, .inl (cT 0, 19, .inl g2)), (yr 44, .inl (cT 0, 19, .inl gc)), (yr 45, .inl (cT 0, 6336, .inl ru)), (yr 46, .inl (cT 0, 912, .inl rl)), (yr 4, .inl (cT 0, 48, .inl tg)), (yr 27, .inl (cT 0, 65472, .inl up)), (yr 28, .inl (cT 0, 9424, .inl lw)), (yr 19, .inl (cT 0, 496, .inl nc)), (yr 22, .inl (cT 0, 496, .inl nl)), (yr 23, .inl (cT 0, 496, .inl nr)), (yr 5, .inl (cT 0, 288, .inl vv)), (yr 21, .inl (cT 3, 496, .inl tl)), (yr 26, .inl (cT 3, 496, .inl kd)), (yr 20, .inl (cT 0, 496, .inl ed))]) hD hS hA [18, 0, 1, 2, 3, 4, 5, 6, 7, 8, 9, 10, 11, 12, 13, 14, 15, 16, 17] rfl) (hP.sub (ws' := [(y, .inr (11, MO yr (va_up yi 1 0) ysb ybs)), (yr 0, .inl (cT 0, 19, .inl fp)), (yr 29, .inl (cT 0, 302, .inl f0)), (yr 40, .inl (cT 0, 19, .inl g0)), (yr 30, .inl (cT 0, 302, .inl f2)), (yr 41, .inl (cT 0, 19, .inl g2)), (yr 44, .inl (cT 0, 19, .inl gc)), (yr 45, .inl (cT 0, 6336, .inl ru)), (yr 46, .inl (cT 0, 912, .inl rl)), (yr 4, .inl (cT 0, 48, .inl tg)), (yr 27, .inl (cT 0, 65472, .inl up)), (yr 28, .inl (cT 0, 9424, .inl lw)), (yr 19, .inl (cT 0, 496, .inl nc)), (yr 22, .inl (cT 0, 496, .inl nl)), (yr 23, .inl (cT 0, 496, .inl nr)), (yr 5, .inl (cT 0, 288, .inl vv)), (yr 21, .inl (cT 3, 496, .inl tl)), (yr 26, .inl (cT 3, 496, .inl kd)), (yr 20, .inl (cT 0, 496, .inl ed))]) [18, 0, 1, 2, 3, 4, 5, 6, 7, 8, 9, 10, 11, 12, 13, 14, 15, 16, 17] rfl) hK (hD.sub (ws' := [(y, .inr (11, MO yr (va_up yi 1 0) ysb ybs)), (yr 0, .inl (cT 0, 19, .inl fp)), (yr 29, .inl (cT 0, 302, .inl f0)), (yr 40, .inl (cT 0, 19, .inl g0)), (yr 30, .inl (cT 0, 302, .inl f2)), (yr 41, .inl (cT 0, 19, .inl g2)), (yr 44, .inl (cT 0, 19, .inl gc)), (yr 45, .inl (cT 0, 6336, .inl ru)), (yr 46, .inl (cT 0, 912, .inl rl)), (yr 4, .inl (cT 0, 48, .inl tg)), (yr 27, .inl (cT 0, 65472, .inl up)), (yr 28, .inl (cT 0, 9424, .inl lw)), (yr 19, .inl (cT 0, 496, .inl nc)), (yr 22, .inl (cT 0, 496, .inl nl)), (yr 23, .inl (cT 0, 496, .inl nr)), (yr 5, .inl (cT 0, 288, .inl vv)), (yr 21, .inl (cT 3, 496, .inl tl)), (yr 26, .inl (cT 3, 496, .inl kd)), (yr 20, .inl (cT 0, 496, .inl ed))]) [18, 0, 1, 2, 3, 4, 5, 6, 7, 8, 9, 10, 11, 12, 13, 14, 15, 16, 17] (by decide) rfl) rfl rfl) rfl rfl hl.1 rfl (lv_room (Nat.le_of_ble_eq_true rfl)) dM_countb_72 ⟨Nat.le_of_ble_eq_true rfl, Nat.le_of_ble_eq_true rfl⟩) (fun ru4 u9 H locs hpu4 hP hD hS => ?_)
  obtain ⟨zr7u4, gc7u4, ru7u4, rl7u4, f7u4, g7u4, f8u4, g8u4⟩ := u9
  have hpu4 : ru4 = nI (bl (dn gc7u4)) ∧ LOK gc7u4 bb ∧ COMM ru7u4 gc7u4 n zr7u4 (fun j8 => X j8 T) (Pp T) := hpu4
  have hP : va_P D vwCl [(y, .inr (11, MO yr (va_up yi 1 0) ysb ybs)), (yr 0, .inl (cT 0, 19, .inl fp)), (yr 29, .inl (cT 0, 302, .inl f7u4)), (yr 40, .inl (cT 0, 19, .inl g7u4)), (yr 30, .inl (cT 0, 302, .inl f8u4)), (yr 41, .inl (cT 0, 19, .inl g8u4)), (yr 44, .inl (cT 0, 19, .inl gc7u4)), (yr 45, .inl (cT 0, 6336, .inl ru7u4)), (yr 46, .inl (cT 0, 912, .inl rl7u4)), (yr 4, .inl (cT 0, 48, .inl tg)), (yr 27, .inl (cT 0, 65472, .inl up)), (yr 28, .inl (cT 0, 9424, .inl lw)), (yr 19, .inl (cT 0, 496, .inl nc)), (yr 22, .inl (cT 0, 496, .inl nl)), (yr 23, .inl (cT 0, 496, .inl nr)), (yr 5, .inl (cT 0, 288, .inl vv)), (yr 21, .inl (cT 3, 496, .inl tl)), (yr 26, .inl (cT 3, 496, .inl kd)), (yr 20, .inl (cT 0, 496, .inl ed))] _ := hP
  have hD : va_D A [(y, .inr (11, MO yr (va_up yi 1 0) ysb ybs)), (yr 0, .inl (cT 0, 19, .inl fp)), (yr 29, .inl (cT 0, 302, .inl f7u4)), (yr 40, .inl (cT 0, 19, .inl g7u4)), (yr 30, .inl (cT 0, 302, .inl f8u4)), (yr 41, .inl (cT 0, 19, .inl g8u4)), (yr 44, .inl (cT 0, 19, .inl gc7u4)), (yr 45, .inl (cT 0, 6336, .inl ru7u4)), (yr 46, .inl (cT 0, 912, .inl rl7u4)), (yr 4, .inl (cT 0, 48, .inl tg)), (yr 27, .inl (cT 0, 65472, .inl up)), (yr 28, .inl (cT 0, 9424, .inl lw)), (yr 19, .inl (cT 0, 496, .inl nc)), (yr 22, .inl (cT 0, 496, .inl nl)), (yr 23, .inl (cT 0, 496, .inl nr)), (yr 5, .inl (cT 0, 288, .inl vv)), (yr 21, .inl (cT 3, 496, .inl tl)), (yr 26, .inl (cT 3, 496, .inl kd)), (yr 20, .inl (cT 0, 496, .inl ed))] := hD
  have hP9 := hP.sub (ws' := [(y, .inr (11, MO yr (va_up yi 1 0) ysb ybs)), (yr 0, .inl (cT 0, 19, .inl fp)), (yr 29, .inl (cT 0, 302, .inl f7u4)), (yr 40, .inl (cT 0, 19, .inl g7u4)), (yr 30, .inl (cT 0, 302, .inl f8u4)), (yr 41, .inl (cT 0, 19, .inl g8u4)), (yr 44, .inl (cT 0, 19, .inl gc7u4)), (yr 45, .inl (cT 0, 6336, .inl ru7u4)), (yr 46, .inl (cT 0, 912, .inl rl7u4)), (yr 4, .inl (cT 0, 48, .inl tg)), (yr 27, .inl (cT 0, 65472, .inl up)), (yr 28, .inl (cT 0, 9424, .inl lw)), (yr 19, .inl (cT 0, 496, .inl nc)), (yr 22, .inl (cT 0, 496, .inl nl)), (yr 23, .inl (cT 0, 496, .inl nr)), (yr 5, .inl (cT 0, 288, .inl vv)), (yr 21, .inl (cT 3, 496, .inl tl)), (yr 26, .inl (cT 3, 496, .inl kd)), (yr 20, .inl (cT 0, 496, .inl ed))]) [0, 1, 2, 3, 4, 5, 6, 7, 8, 9, 10, 11, 12, 13, 14, 15, 16, 17, 18] rfl
  have hD9 := hD.sub (ws' := [(y, .inr (11, MO yr (va_up yi 1 0) ysb ybs)), (yr 0, .inl (cT 0, 19, .inl fp)), (yr 29, .inl (cT 0, 302, .inl f7u4)), (yr 40, .inl (cT 0, 19, .inl g7u4)), (yr 30, .inl (cT 0, 302, .inl f8u4)), (yr 41, .inl (cT 0, 19, .inl g8u4)), (yr 44, .inl (cT 0, 19, .inl gc7u4)), (yr 45, .inl (cT 0, 6336, .inl ru7u4)), (yr 46, .inl (cT 0, 912, .inl rl7u4)), (yr 4, .inl (cT 0, 48, .inl tg)), (yr 27, .inl (cT 0, 65472, .inl up)), (yr 28, .inl (cT 0, 9424, .inl lw)), (yr 19, .inl (cT 0, 496, .inl nc)), (yr 22, .inl (cT 0, 496, .inl nl)), (yr 23, .inl (cT 0, 496, .inl nr)), (yr 5, .inl (cT 0, 288, .inl vv)), (yr 21, .inl (cT 3, 496, .inl tl)), (yr 26, .inl (cT 3, 496, .inl kd)), (yr 20, .inl (cT 0, 496, .inl ed))]) [0, 1, 2, 3, 4, 5, 6, 7, 8, 9, 10, 11, 12, 13, 14, 15, 16, 17, 18] (by decide) rfl
  refine W.widen (k := 0) (n := 0) (Nat.le_of_ble_eq_true rfl) (Nat.le_of_ble_eq_true rfl) ?_
  exact W.iret (v := ru4) hx hb hr (fun t9 ht9 hW9 => ⟨⟨ru4, (zr7u4, gc7u4, ru7u4, rl7u4, f7u4, g7u4, f8u4, g8u4), rfl, (show ru4 = nI (bl (dn gc7u4)) ∧ LOK gc7u4 bb ∧ COMM ru7u4 gc7u4 n zr7u4 (fun j8 => X j8 T) (Pp T) from hpu4), by rw [ht9]; exact hP9, hD9⟩, hS.F ht9⟩) hS.2.2 dM_countb_75
set_option maxHeartbeats 4000000 in
set_option maxRecDepth 100000 in
theorem y_count_no (l : Launch) (D : va_G) (cT : Nat → ClassId) (y : Nat) (yr : Nat → Nat) (yi : Nat → Int32) (ysb : Int64) (ybs : Int64) (v : Int32) (hq : ¬ (0 ≤ v ∧ v ≤ 4)) (sz : Nat) : Met l yM_countb WM_countb ({ frames := 1, cells := 0, slots := 0, locals := 22 } : Room) (RW D vwCl [.ref y, .int v] [(y, .inr (11, MO yr yi ysb ybs))] (TY cT) sz) (va_Qi (fun (r9 : Int32) (u9 : Unit) => r9 = 0) (BW D vwCl (va_A [(y, .inr (11, MO yr yi ysb ybs))] sz) (fun u9 : Unit => [(y, .inr (11, MO yr (va_up yi 1 1) ysb ybs))])) (va_A [(y, .inr (11, MO yr yi ysb ybs))] sz)) 0 0 (va_A [(y, .inr (11, MO yr yi ysb ybs))] sz) := by
  refine Met.ofW (cc := cM_countb) (maxL := 2) (ret := (some .int)) (by decide) rfl ?_
  intro p e s m args below meth c s₁ B hml hv
  obtain ⟨rfl, hsz, hZ, hP, hK, hD0⟩ := hv
  have hx := B.exec
  have hb := B.bytes
  have hr := B.returns
  have hts := atoms_spec (ws := WM_countb) B.pre
  have hT : ∀ w ∈ TB, w.before _ s = true := fun w h => hts w (List.mem_cons_of_mem _ h)
  have hown : s.vm.findClass R_M = some m.cls := findClass_of_methodNamed B.named
  have hlocks := B.notSynchronized
  subst hsz
  have hD := hD0.self (sz := s.heap.size)
  generalize hAe : va_A [(y, .inr (11, MO yr yi ysb ybs))] s.heap.size = A at hD hZ ⊢
  have hA : ∀ q : Nat, s.heap.size ≤ q → A q := fun q h => by rw [← hAe]; exact Or.inr h
  have hS : va_S A s.heap s.heap [] := va_S.rf
  have hl := lv_entry ([.ref y, .int v]) (n := 2) (Nat.le_of_ble_eq_true rfl)
  rw [lg_entry_eq]
  generalize (lg_sl ([.ref y, .int v]) ++ List.replicate (2 - (lg_sl ([.ref y, .int v])).length) Slot.unset).toArray = ls at hl ⊢
  have hl : lv_has ls 2 [(0, .ref y), (1, .int v)] := hl
  refine lv_aload_n hx hb dM_countb_0 rfl (lv_at hl 0 rfl) ?_
  refine lv_iload_n hx hb dM_countb_1 rfl (lv_at hl 1 rfl) ?_
  refine lv_iconst (v := 0) hx hb dM_countb_2 (by decide) ?_
  refine lv_iconst (v := 4) hx hb dM_countb_3 (by decide) ?_
  refine ro_i (va_Run.run (va_runS (As := [.int v, .int 0, .int 4]) (rest := [.ref y]) ⟨hx, hb, hml, hown, hT⟩ (m_in l D cT v 0 4) ⟨callB_of 3 hT (tb_gd w1297) rfl rfl rfl (hT _ w13) (hT _ w1295) hM_in ⟨Nat.le_of_ble_eq_true rfl, Nat.le_of_ble_eq_true rfl⟩, (hT _ w1296)⟩ (RO.preS hZ hS ((show va_P D vwCl [] _ from fun _ _ h => nomatch h)) hK) rfl rfl hl.1 rfl (lv_room (Nat.le_of_ble_eq_true rfl)) dM_countb_4 ⟨Nat.le_of_ble_eq_true rfl, Nat.le_of_ble_eq_true rfl⟩)) ?_
  refine lv_if_eq (tgt := 14) hx hb dM_countb_7 rfl (fun h1 => ?_) (fun h1 => ?_)
  · refine lv_iconst (v := 1) hx hb dM_countb_14 (by decide) ?_
    refine rw_i (wc := [(y, .inr (11, MO yr yi ysb ybs))]) (wr := []) hP hD hS hA [0] [] rfl rfl (by decide) (by decide) (va_runV (As := [.int 1]) (rest := []) ⟨hx, hb, hml, hown, hT⟩ (m_ref1 l D cT y yr yi ysb ybs _) ⟨callB_of 1 hT (tb_gd w1301) rfl rfl rfl (hT _ w13) (hT _ w1298) hM_refused ⟨Nat.le_of_ble_eq_true rfl, Nat.le_of_ble_eq_true rfl⟩, (hT _ w1300), (hT _ wp29)⟩ (RW.preV (ci := 11) (q0 := 0) hZ hS (va_free (wc := [(y, .inr (11, MO yr yi ysb ybs))]) hD hS hA [0] rfl) (hP.sub (ws' := [(y, .inr (11, MO yr yi ysb ybs))]) [0] rfl) hK (hD.sub (ws' := [(y, .inr (11, MO yr yi ysb ybs))]) [0] (by decide) rfl) rfl rfl) rfl rfl hl.1 rfl (lv_room (Nat.le_of_ble_eq_true rfl)) dM_countb_15 ⟨Nat.le_of_ble_eq_true rfl, Nat.le_of_ble_eq_true rfl⟩) (fun ru2 u9 H locs hpu2 hP hD hS => ?_)
    have hpu2 : ru2 = 1 := hpu2
    have hP : va_P D vwCl [(y, .inr (11, MO yr (va_up yi 1 1) ysb ybs))] _ := hP
    have hD : va_D A [(y, .inr (11, MO yr (va_up yi 1 1) ysb ybs))] := hD
    refine lv_topi (fun y9 e9 => ?_)
    cases (show y9 = 1 from e9.trans hpu2)
    refine lv_if_eq (tgt := 23) hx hb dM_countb_18 rfl (fun h3 => absurd h3 (by decide)) (fun _ => ?_)
    refine lv_iconst (v := 0) hx hb dM_countb_21 (by decide) ?_
    have hP9 := hP.sub (ws' := [(y, .inr (11, MO yr (va_up yi 1 1) ysb ybs))]) [0] rfl
    have hD9 := hD.sub (ws' := [(y, .inr (11, MO yr (va_up yi 1 1) ysb ybs))]) [0] (by decide) rfl
    refine W.widen (k := 0) (n := 0) (Nat.le_of_ble_eq_true rfl) (Nat.le_of_ble_eq_true rfl) ?_
    exact W.iret (v := 0) hx hb hr (fun t9 ht9 hW9 => ⟨⟨0, (), rfl, (show 0 = 0 from rfl), by rw [ht9]; exact hP9, hD9⟩, hS.F ht9⟩) hS.2.2 dM_countb_22
  · refine lv_iconst (v := 0) hx hb dM_countb_10 (by decide) ?_
    refine lv_goto (tgt := 15) hx hb dM_countb_11 rfl ?_
    refine rw_i (wc := [(y, .inr (11, MO yr yi ysb ybs))]) (wr := []) hP hD hS hA [0] [] rfl rfl (by decide) (by decide) (va_runV (As := [.int 0]) (rest := []) ⟨hx, hb, hml, hown, hT⟩ (m_ref0 l D cT y yr yi ysb ybs _) ⟨callB_of 1 hT (tb_gd w1301) rfl rfl rfl (hT _ w13) (hT _ w1298) hM_refused ⟨Nat.le_of_ble_eq_true rfl, Nat.le_of_ble_eq_true rfl⟩, (hT _ w1300), (hT _ wp29)⟩ (RW.preV (ci := 11) (q0 := 0) hZ hS (va_free (wc := [(y, .inr (11, MO yr yi ysb ybs))]) hD hS hA [0] rfl) (hP.sub (ws' := [(y, .inr (11, MO yr yi ysb ybs))]) [0] rfl) hK (hD.sub (ws' := [(y, .inr (11, MO yr yi ysb ybs))]) [0] (by decide) rfl) rfl rfl) rfl rfl hl.1 rfl (lv_room (Nat.le_of_ble_eq_true rfl)) dM_countb_15 ⟨Nat.le_of_ble_eq_true rfl, Nat.le_of_ble_eq_true rfl⟩) (fun ru4 u9 H locs hpu4 hP hD hS => ?_)
    have hpu4 : ru4 = 0 := hpu4
    have hP : va_P D vwCl [(y, .inr (11, MO yr (va_up yi 1 0) ysb ybs))] _ := hP
    have hD : va_D A [(y, .inr (11, MO yr (va_up yi 1 0) ysb ybs))] := hD
    refine lv_topi (fun y9 e9 => ?_)
    cases (show y9 = 0 from e9.trans hpu4)
    refine lv_if_eq (tgt := 23) hx hb dM_countb_18 rfl (fun _ => ?_) (fun h5 => absurd (by decide) h5)
    exact absurd (bi_1 h1) hq
