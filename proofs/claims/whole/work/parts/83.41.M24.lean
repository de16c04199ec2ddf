set_option maxHeartbeats 4000000 in
set_option maxRecDepth 100000 in
theorem m_isVal (l : Launch) (D : va_G) (cT : Nat → ClassId) (y : Nat) (yr : Nat → Nat) (yi : Nat → Int32) (ysb : Int64) (ybs : Int64) (ik : Nat → Int32) (c0 : Nat) (v : Int32) (hc6 : c0 < 6) : Met l yM_isValue WM_isValue ({ frames := 2, cells := 0, slots := 0, locals := 42 } : Room) (RO D vwCl [.ref y, .int (nI c0), .int v] [(y, .inr (11, MO yr yi ysb ybs)), (yr 6, .inl (cT 3, 6, .inl ik))] (TY cT)) (QcRead (bn (vokB (ik c0) v))) 0 0 (fun _ => False) := by
  refine Met.ofW (cc := cM_isValue) (maxL := 3) (ret := (some .boolean)) (by decide) rfl ?_
  intro p e s m args below meth c s₁ B hml hv
  obtain ⟨rfl, hZ, hP, hK⟩ := hv
  have hx := B.exec
  have hb := B.bytes
  have hr := B.returns
  have hts := atoms_spec (ws := WM_isValue) B.pre
  have hT : ∀ w ∈ TB, w.before _ s = true := fun w h => hts w (List.mem_cons_of_mem _ h)
  have hown : s.vm.findClass R_M = some m.cls := findClass_of_methodNamed B.named
  have hlocks := B.notSynchronized
  have hS : va_S (fun _ => False) s.heap s.heap [] := va_S.rf
  have hl := lv_entry ([.ref y, .int (nI c0), .int v]) (n := 3) (Nat.le_of_ble_eq_true rfl)
  rw [lg_entry_eq]
  generalize (lg_sl ([.ref y, .int (nI c0), .int v]) ++ List.replicate (3 - (lg_sl ([.ref y, .int (nI c0), .int v])).length) Slot.unset).toArray = ls at hl ⊢
  have hl : lv_has ls 3 [(0, .ref y), (1, .int (nI c0)), (2, .int v)] := hl
  refine lv_aload_n hx hb dM_isValue_0 rfl (lv_at hl 0 rfl) ?_
  refine va_get (D := D) (ci := 11) (v := .ref (yr 6)) (C := R_M) (T := T_M) (N := 60) hx hb hT in_M hown hK hP 0 rfl rfl 6 (by decide) (hT _ w1110) (fun _ h9 => h9) rfl dM_isValue_1 ?_
  refine lv_iload_n hx hb dM_isValue_4 rfl (lv_at hl 1 rfl) ?_
  refine lq_zald (j := c0) hx hb hK hP 1 3 rfl rfl rfl (by omega) (by omega) dM_isValue_5 ?_
  refine lv_if_eq (tgt := 19) hx hb dM_isValue_6 rfl (fun h1 => ?_) (fun h1 => ?_)
  · refine lv_iload_n hx hb dM_isValue_19 rfl (lv_at hl 2 rfl) ?_
    refine ro_i (va_Run.run (va_runS (As := [.int v]) (rest := []) ⟨hx, hb, hml, hown, hT⟩ (m_isNum l D cT v) ⟨callB_of 1 hT (tb_gd w1324) rfl rfl rfl (hT _ w13) (hT _ w1322) hM_isNumber ⟨Nat.le_of_ble_eq_true rfl, Nat.le_of_ble_eq_true rfl⟩, (hT _ w1323)⟩ (RO.preS hZ hS ((show va_P D vwCl [] _ from fun _ _ h => nomatch h)) hK) rfl rfl hl.1 rfl (lv_room (Nat.le_of_ble_eq_true rfl)) dM_isValue_20 ⟨Nat.le_of_ble_eq_true rfl, Nat.le_of_ble_eq_true rfl⟩)) ?_
    exact W.zret (v := bi ((-1000000) ≤ v ∧ v ≤ 1000000)) hx hb hr bi_n (fun t9 ht9 hW9 => ⟨by rw [vok_n h1], ht9⟩) (fun q h => nomatch h) dM_isValue_23
  · refine lv_iload_n hx hb dM_isValue_9 rfl (lv_at hl 2 rfl) ?_
    refine lv_iconst (v := 0) hx hb dM_isValue_10 (by decide) ?_
    refine lv_bipush (v := 11) hx hb dM_isValue_11 (by decide) ?_
    refine ro_i (va_Run.run (va_runS (As := [.int v, .int 0, .int 11]) (rest := []) ⟨hx, hb, hml, hown, hT⟩ (m_in l D cT v 0 11) ⟨callB_of 3 hT (tb_gd w1297) rfl rfl rfl (hT _ w13) (hT _ w1295) hM_in ⟨Nat.le_of_ble_eq_true rfl, Nat.le_of_ble_eq_true rfl⟩, (hT _ w1296)⟩ (RO.preS hZ hS ((show va_P D vwCl [] _ from fun _ _ h => nomatch h)) hK) rfl rfl hl.1 rfl (lv_room (Nat.le_of_ble_eq_true rfl)) dM_isValue_13 ⟨Nat.le_of_ble_eq_true rfl, Nat.le_of_ble_eq_true rfl⟩)) ?_
    refine lv_goto (tgt := 23) hx hb dM_isValue_16 rfl ?_
    exact W.zret (v := bi (0 ≤ v ∧ v ≤ 11)) hx hb hr bi_n (fun t9 ht9 hW9 => ⟨by rw [vok_k h1], ht9⟩) (fun q h => nomatch h) dM_isValue_23
set_option maxHeartbeats 4000000 in
set_option maxRecDepth 100000 in
theorem y_put_ok (l : Launch) (D : va_G) (cT : Nat → ClassId) (y : Nat) (yr : Nat → Nat) (yi : Nat → Int32) (ysb : Int64) (ybs : Int64) (ik : Nat → Int32) (vv : Nat → Int32) (r : Nat) (c0 : Nat) (v : Int32) (hc1 : 0 ≤ nI r ∧ nI r ≤ yi 3 - 1) (hr48 : r < 48) (hc2 : 0 ≤ nI c0 ∧ nI c0 ≤ yi 2 - 1) (hc6 : c0 < 6) (hv9 : v = (-2147483648) ∨ vokB (ik c0) v = true) (sz : Nat) : Met l yM_put WM_put ({ frames := 3, cells := 0, slots := 0, locals := 64 } : Room) (RW D vwCl [.ref y, .int (nI r), .int (nI c0), .int v] [(y, .inr (11, MO yr yi ysb ybs)), (yr 6, .inl (cT 3, 6, .inl ik)), (yr 5, .inl (cT 0, 288, .inl vv))] (TY cT) sz) (va_Qi (fun (r9 : Int32) (u9 : Unit) => r9 = vv (6 * r + c0)) (BW D vwCl (va_A [(y, .inr (11, MO yr yi ysb ybs)), (yr 6, .inl (cT 3, 6, .inl ik)), (yr 5, .inl (cT 0, 288, .inl vv))] sz) (fun u9 : Unit => [(y, .inr (11, MO yr (va_up yi 1 0) ysb ybs)), (yr 6, .inl (cT 3, 6, .inl ik)), (yr 5, .inl (cT 0, 288, .inl (upd vv (6 * r + c0) v)))])) (va_A [(y, .inr (11, MO yr yi ysb ybs)), (yr 6, .inl (cT 3, 6, .inl ik)), (yr 5, .inl (cT 0, 288, .inl vv))] sz)) 0 0 (va_A [(y, .inr (11, MO yr yi ysb ybs)), (yr 6, .inl (cT 3, 6, .inl ik)), (yr 5, .inl (cT 0, 288, .inl vv))] sz) := by
  refine Met.ofW (cc := cM_put) (maxL := 5) (ret := (some .int)) (by decide) rfl ?_
  intro p e s m args below meth c s₁ B hml hv
  obtain ⟨rfl, hsz, hZ, hP, hK, hD0⟩ := hv
  have hx := B.exec
  have hb := B.bytes
  have hr := B.returns
  have hts := atoms_spec (ws := WM_put) B.pre
  have hT : ∀ w ∈ TB, w.before _ s = true := fun w h => hts w (List.mem_cons_of_mem _ h)
  have hown : s.vm.findClass R_M = some m.cls := findClass_of_methodNamed B.named
  have hlocks := B.notSynchronized
  subst hsz
  have hD := hD0.self (sz := s.heap.size)
  generalize hAe : va_A [(y, .inr (11, MO yr yi ysb ybs)), (yr 6, .inl (cT 3, 6, .inl ik)), (yr 5, .inl (cT 0, 288, .inl vv))] s.heap.size = A at hD hZ ⊢
  have hA : ∀ q : Nat, s.heap.size ≤ q → A q := fun q h => by rw [← hAe]; exact Or.inr h
  have hS : va_S A s.heap s.heap [] := va_S.rf
  have hl := lv_entry ([.ref y, .int (nI r), .int (nI c0), .int v]) (n := 5) (Nat.le_of_ble_eq_true rfl)
  rw [lg_entry_eq]
  generalize (lg_sl ([.ref y, .int (nI r), .int (nI c0), .int v]) ++ List.replicate (5 - (lg_sl ([.ref y, .int (nI r), .int (nI c0), .int v])).length) Slot.unset).toArray = ls at hl ⊢
  have hl : lv_has ls 5 [(0, .ref y), (1, .int (nI r)), (2, .int (nI c0)), (3, .int v)] := hl
  refine lv_aload_n hx hb dM_put_0 rfl (lv_at hl 0 rfl) ?_
  refine lv_aload_n hx hb dM_put_1 rfl (lv_at hl 0 rfl) ?_
  refine lv_iload_n hx hb dM_put_2 rfl (lv_at hl 1 rfl) ?_
  refine ro_i (va_Run.run (va_runV (As := [.int (nI r)]) (rest := [.ref y]) ⟨hx, hb, hml, hown, hT⟩ (m_noRow l D cT y yr yi ysb ybs (nI r)) ⟨callB_of 1 hT (tb_gd w1313) rfl rfl rfl (hT _ w13) (hT _ w1310) hM_noRow ⟨Nat.le_of_ble_eq_true rfl, Nat.le_of_ble_eq_true rfl⟩, (hT _ w1312), (hT _ wp30)⟩ (RO.preV (ci := 11) (q0 := 0) hZ hS (hP.sub (ws' := [(y, .inr (11, MO yr yi ysb ybs))]) [0] rfl) hK rfl rfl) rfl rfl hl.1 rfl (lv_room (Nat.le_of_ble_eq_true rfl)) dM_put_3 ⟨Nat.le_of_ble_eq_true rfl, Nat.le_of_ble_eq_true rfl⟩)) ?_
  refine lv_if_ne (tgt := 32) hx hb dM_put_6 rfl (fun h1 => absurd (bi_f (fun q => q hc1)) h1) (fun _ => ?_)
  refine lv_aload_n hx hb dM_put_9 rfl (lv_at hl 0 rfl) ?_
  refine lv_iload_n hx hb dM_put_10 rfl (lv_at hl 2 rfl) ?_
  refine ro_i (va_Run.run (va_runV (As := [.int (nI c0)]) (rest := [.ref y]) ⟨hx, hb, hml, hown, hT⟩ (m_noColumn l D cT y yr yi ysb ybs (nI c0)) ⟨callB_of 1 hT (tb_gd w1317) rfl rfl rfl (hT _ w13) (hT _ w1314) hM_noColumn ⟨Nat.le_of_ble_eq_true rfl, Nat.le_of_ble_eq_true rfl⟩, (hT _ w1316), (hT _ wp31)⟩ (RO.preV (ci := 11) (q0 := 0) hZ hS (hP.sub (ws' := [(y, .inr (11, MO yr yi ysb ybs))]) [0] rfl) hK rfl rfl) rfl rfl hl.1 rfl (lv_room (Nat.le_of_ble_eq_true rfl)) dM_put_11 ⟨Nat.le_of_ble_eq_true rfl, Nat.le_of_ble_eq_true rfl⟩)) ?_
  refine lv_if_ne (tgt := 32) hx hb dM_put_14 rfl (fun h2 => absurd (bi_f (fun q => q hc2)) h2) (fun _ => ?_)
  refine lv_iload_n hx hb dM_put_17 rfl (lv_at hl 3 rfl) ?_
  refine lv_ldc (v := (-2147483648)) hx hb hown (hT _ w1103) dM_put_18 ?_
  refine lv_icmp_eq (tgt := 36) hx hb dM_put_20 rfl (fun h3 => ?_) (fun h3 => ?_)
  · refine lv_iconst (v := 0) hx hb dM_put_36 (by decide) ?_
    refine rw_i (wc := [(y, .inr (11, MO yr yi ysb ybs))]) (wr := [(yr 6, .inl (cT 3, 6, .inl ik)), (yr 5, .inl (cT 0, 288, .inl vv))]) hP hD hS hA [0] [1, 2] rfl rfl (by decide) (by decide) (va_runV (As := [.int 0]) (rest := []) ⟨hx, hb, hml, hown, hT⟩ (m_ref0 l D cT y yr yi ysb ybs _) ⟨callB_of 1 hT (tb_gd w1301) rfl rfl rfl (hT _ w13) (hT _ w1298) hM_refused ⟨Nat.le_of_ble_eq_true rfl, Nat.le_of_ble_eq_true rfl⟩, (hT _ w1300), (hT _ wp29)⟩ (RW.preV (ci := 11) (q0 := 0) hZ hS (va_free (wc := [(y, .inr (11, MO yr yi ysb ybs))]) hD hS hA [0] rfl) (hP.sub (ws' := [(y, .inr (11, MO yr yi ysb ybs))]) [0] rfl) hK (hD.sub (ws' := [(y, .inr (11, MO yr yi ysb ybs))]) [0] (by decide) rfl) rfl rfl) rfl rfl hl.1 rfl (lv_room (Nat.le_of_ble_eq_true rfl)) dM_put_37 ⟨Nat.le_of_ble_eq_true rfl, Nat.le_of_ble_eq_true rfl⟩) (fun ru4 u9 H locs hpu4 hP hD hS => ?_)
    have hpu4 : ru4 = 0 := hpu4
    have hP : va_P D vwCl [(yr 6, .inl (cT 3, 6, .inl ik)), (yr 5, .inl (cT 0, 288, .inl vv)), (y, .inr (11, MO yr (va_up yi 1 0) ysb ybs))] _ := hP
    have hD : va_D A [(yr 6, .inl (cT 3, 6, .inl ik)), (yr 5, .inl (cT 0, 288, .inl vv)), (y, .inr (11, MO yr (va_up yi 1 0) ysb ybs))] := hD
    refine lv_topi (fun y9 e9 => ?_)
    cases (show y9 = 0 from e9.trans hpu4)
    refine lv_if_eq (tgt := 45) hx hb dM_put_40 rfl (fun _ => ?_) (fun h5 => absurd (by decide) h5)
    refine lv_aload_n hx hb dM_put_45 rfl (lv_at hl 0 rfl) ?_
    refine va_get (D := D) (ci := 11) (v := .ref (yr 5)) (C := R_M) (T := T_M) (N := 60) hx hb hT in_M hown hK hP 2 rfl rfl 5 (by decide) (hT _ w1109) (fun _ h9 => h9) rfl dM_put_46 ?_
    refine lv_bipush (v := 6) hx hb dM_put_49 (by decide) ?_
    refine lv_iload_n hx hb dM_put_51 rfl (lv_at hl 1 rfl) ?_
    refine lv_imul hx hb dM_put_52 ?_
    refine lv_topi (fun y9 e9 => ?_)
    cases (show y9 = nI (6 * r) from e9.trans (pk_mul 6 r))
    refine lv_iload_n hx hb dM_put_53 rfl (lv_at hl 2 rfl) ?_
    refine lv_iadd hx hb dM_put_54 ?_
    refine lv_topi (fun y9 e9 => ?_)
    cases (show y9 = nI ((6 * r) + c0) from e9.trans (nI_add (6 * r) c0))
    refine lq_iald (j := (6 * r) + c0) hx hb hK hP 1 0 rfl rfl rfl (by omega) (by omega) dM_put_55 ?_
    refine lv_istore hx hb dM_put_56 hl (by decide) rfl (fun ls hl => ?_)
    have hl : lv_has ls 5 [(4, .int (vv ((6 * r) + c0))), (0, .ref y), (1, .int (nI r)), (2, .int (nI c0)), (3, .int v)] := hl
    refine lv_aload_n hx hb dM_put_58 rfl (lv_at hl 1 rfl) ?_
    refine va_get (D := D) (ci := 11) (v := .ref (yr 5)) (C := R_M) (T := T_M) (N := 60) hx hb hT in_M hown hK hP 2 rfl rfl 5 (by decide) (hT _ w1109) (fun _ h9 => h9) rfl dM_put_59 ?_
    refine lv_bipush (v := 6) hx hb dM_put_62 (by decide) ?_
    refine lv_iload_n hx hb dM_put_64 rfl (lv_at hl 2 rfl) ?_
    refine lv_imul hx hb dM_put_65 ?_
    refine lv_topi (fun y9 e9 => ?_)
    cases (show y9 = nI (6 * r) from e9.trans (pk_mul 6 r))
    refine lv_iload_n hx hb dM_put_66 rfl (lv_at hl 3 rfl) ?_
    refine lv_iadd hx hb dM_put_67 ?_
    refine lv_topi (fun y9 e9 => ?_)
    cases (show y9 = nI ((6 * r) + c0) from e9.trans (nI_add (6 * r) c0))
    refine lv_iload_n hx hb dM_put_68 rfl (lv_at hl 4 rfl) ?_
    refine lq_iast (j := (6 * r) + c0) hx hb hK hP hD hS 1 0 rfl rfl rfl (by omega) (by omega) dM_put_69 (fun H locs hP hD hS => ?_)
    have hP : va_P D vwCl [(yr 6, .inl (cT 3, 6, .inl ik)), (yr 5, .inl (cT 0, 288, .inl (upd vv ((6 * r) + c0) v))), (y, .inr (11, MO yr (va_up yi 1 0) ysb ybs))] _ := hP
    have hD : va_D A [(yr 6, .inl (cT 3, 6, .inl ik)), (yr 5, .inl (cT 0, 288, .inl (upd vv ((6 * r) + c0) v))), (y, .inr (11, MO yr (va_up yi 1 0) ysb ybs))] := hD
    refine lv_iload hx hb dM_put_70 (lv_at hl 0 rfl) ?_
    have hP9 := hP.sub (ws' := [(y, .inr (11, MO yr (va_up yi 1 0) ysb ybs)), (yr 6, .inl (cT 3, 6, .inl ik)), (yr 5, .inl (cT 0, 288, .inl (upd vv (6 * r + c0) v)))]) [2, 0, 1] rfl
    have hD9 := hD.sub (ws' := [(y, .inr (11, MO yr (va_up yi 1 0) ysb ybs)), (yr 6, .inl (cT 3, 6, .inl ik)), (yr 5, .inl (cT 0, 288, .inl (upd vv (6 * r + c0) v)))]) [2, 0, 1] (by decide) rfl
    refine W.widen (k := 0) (n := 0) (Nat.le_of_ble_eq_true rfl) (Nat.le_of_ble_eq_true rfl) ?_
    exact W.iret (v := vv ((6 * r) + c0)) hx hb hr (fun t9 ht9 hW9 => ⟨⟨vv ((6 * r) + c0), (), rfl, (show (vv ((6 * r) + c0)) = vv (6 * r + c0) from rfl), by rw [ht9]; exact hP9, hD9⟩, hS.F ht9⟩) hS.2.2 dM_put_72
  · refine lv_aload_n hx hb dM_put_23 rfl (lv_at hl 0 rfl) ?_
    refine lv_iload_n hx hb dM_put_24 rfl (lv_at hl 2 rfl) ?_
    refine lv_iload_n hx hb dM_put_25 rfl (lv_at hl 3 rfl) ?_
    refine ro_i (va_Run.run (va_runV (As := [.int (nI c0), .int v]) (rest := [.ref y]) ⟨hx, hb, hml, hown, hT⟩ (m_isVal l D cT y yr yi ysb ybs ik c0 v hc6) ⟨callB_of 2 hT (tb_gd w1321) rfl rfl rfl (hT _ w13) (hT _ w1318) hM_isValue ⟨Nat.le_of_ble_eq_true rfl, Nat.le_of_ble_eq_true rfl⟩, (hT _ w1320), (hT _ wp32)⟩ (RO.preV (ci := 11) (q0 := 0) hZ hS (hP.sub (ws' := [(y, .inr (11, MO yr yi ysb ybs)), (yr 6, .inl (cT 3, 6, .inl ik))]) [0, 1] rfl) hK rfl rfl) rfl rfl hl.1 rfl (lv_room (Nat.le_of_ble_eq_true rfl)) dM_put_26 ⟨Nat.le_of_ble_eq_true rfl, Nat.le_of_ble_eq_true rfl⟩)) ?_
    refine lv_if_ne (tgt := 36) hx hb dM_put_29 rfl (fun h6 => ?_) (fun h6 => ?_)
    · refine lv_iconst (v := 0) hx hb dM_put_36 (by decide) ?_
      refine rw_i (wc := [(y, .inr (11, MO yr yi ysb ybs))]) (wr := [(yr 6, .inl (cT 3, 6, .inl ik)), (yr 5, .inl (cT 0, 288, .inl vv))]) hP hD hS hA [0] [1, 2] rfl rfl (by decide) (by decide) (va_runV (As := [.int 0]) (rest := []) ⟨hx, hb, hml, hown, hT⟩ (m_ref0 l D cT y yr yi ysb ybs _) ⟨callB_of 1 hT (tb_gd w1301) rfl rfl rfl (hT _ w13) (hT _ w1298) hM_refused ⟨Nat.le_of_ble_eq_true rfl, Nat.le_of_ble_eq_true rfl⟩, (hT _ w1300), (hT _ wp29)⟩ (RW.preV (ci := 11) (q0 := 0) hZ hS (va_free (wc := [(y, .inr (11, MO yr yi ysb ybs))]) hD hS hA [0] rfl) (hP.sub (ws' := [(y, .inr (11, MO yr yi ysb ybs))]) [0] rfl) hK (hD.sub (ws' := [(y, .inr (11, MO yr yi ysb ybs))]) [0] (by decide) rfl) rfl rfl) rfl rfl hl.1 rfl (lv_room (Nat.le_of_ble_eq_true rfl)) dM_put_37 ⟨Nat.le_of_ble_eq_true rfl, Nat.le_of_ble_eq_true rfl⟩) (fun ru7 u9 H locs hpu7 hP hD hS => ?_)
      have hpu7 : ru7 = 0 := hpu7
      have hP : va_P D vwCl [(yr 6, .inl (cT 3, 6, .inl ik)), (yr 5, .inl (cT 0, 288, .inl vv)), (y, .inr (11, MO yr (va_up yi 1 0) ysb ybs))] _ := hP
      have hD : va_D A [(yr 6, .inl (cT 3, 6, .inl ik)), (yr 5, .inl (cT 0, 288, .inl vv)), (y, .inr (11, MO yr (va_up yi 1 0) ysb ybs))] := hD
      refine lv_topi (fun y9 e9 => ?_)
      cases (show y9 = 0 from e9.trans hpu7)
      refine lv_if_eq (tgt := 45) hx hb dM_put_40 rfl (fun _ => ?_) (fun h8 => absurd (by decide) h8)
      refine lv_aload_n hx hb dM_put_45 rfl (lv_at hl 0 rfl) ?_
      refine va_get (D := D) (ci := 11) (v := .ref (yr 5)) (C := R_M) (T := T_M) (N := 60) hx hb hT in_M hown hK hP 2 rfl rfl 5 (by decide) (hT _ w1109) (fun _ h9 => h9) rfl dM_put_46 ?_
      refine lv_bipush (v := 6) hx hb dM_put_49 (by decide) ?_
      refine lv_iload_n hx hb dM_put_51 rfl (lv_at hl 1 rfl) ?_
      refine lv_imul hx hb dM_put_52 ?_
      refine lv_topi (fun y9 e9 => ?_)
      cases (show y9 = nI (6 * r) from e9.trans (pk_mul 6 r))
      refine lv_iload_n hx hb dM_put_53 rfl (lv_at hl 2 rfl) ?_
      refine lv_iadd hx hb dM_put_54 ?_
      refine lv_topi (fun y9 e9 => ?_)
      cases (show y9 = nI ((6 * r) + c0) from e9.trans (nI_add (6 * r) c0))
      refine lq_iald (j := (6 * r) + c0) hx hb hK hP 1 0 rfl rfl rfl (by omega) (by omega) dM_put_55 ?_
      refine lv_istore hx hb dM_put_56 hl (by decide) rfl (fun ls hl => ?_)
      have hl : lv_has ls 5 [(4, .int (vv ((6 * r) + c0))), (0, .ref y), (1, .int (nI r)), (2, .int (nI c0)), (3, .int v)] := hl
      refine lv_aload_n hx hb dM_put_58 rfl (lv_at hl 1 rfl) ?_
      refine va_get (D := D) (ci := 11) (v := .ref (yr 5)) (C := R_M) (T := T_M) (N := 60) hx hb hT in_M hown hK hP 2 rfl rfl 5 (by decide) (hT _ w1109) (fun _ h9 => h9) rfl dM_put_59 ?_
      refine lv_bipush (v := 6) hx hb dM_put_62 (by decide) ?_
      refine lv_iload_n hx hb dM_put_64 rfl (lv_at hl 2 rfl) ?_
      refine lv_imul hx hb dM_put_65 ?_
      refine lv_topi (fun y9 e9 => ?_)
      cases (show y9 = nI (6 * r) from e9.trans (pk_mul 6 r))
      refine lv_iload_n hx hb dM_put_66 rfl (lv_at hl 3 rfl) ?_
      refine lv_iadd hx hb dM_put_67 ?_
      refine lv_topi (fun y9 e9 => ?_)
      cases (show y9 = nI ((6 * r) + c0) from e9.trans (nI_add (6 * r) c0))
      refine lv_iload_n hx hb dM_put_68 rfl (lv_at hl 4 rfl) ?_
      refine lq_iast (j := (6 * r) + c0) hx hb hK hP hD hS 1 0 rfl rfl rfl (by omega) (by omega) dM_put_69 (fun H locs hP hD hS => ?_)
      have hP : va_P D vwCl [(yr 6, .inl (cT 3, 6, .inl ik)), (yr 5, .inl (cT 0, 288, .inl (upd vv ((6 * r) + c0) v))), (y, .inr (11, MO yr (va_up yi 1 0) ysb ybs))] _ := hP
      have hD : va_D A [(yr 6, .inl (cT 3, 6, .inl ik)), (yr 5, .inl (cT 0, 288, .inl (upd vv ((6 * r) + c0) v))), (y, .inr (11, MO yr (va_up yi 1 0) ysb ybs))] := hD
      refine lv_iload hx hb dM_put_70 (lv_at hl 0 rfl) ?_
      have hP9 := hP.sub (ws' := [(y, .inr (11, MO yr (va_up yi 1 0) ysb ybs)), (yr 6, .inl (cT 3, 6, .inl ik)), (yr 5, .inl (cT 0, 288, .inl (upd vv (6 * r + c0) v)))]) [2, 0, 1] rfl
      have hD9 := hD.sub (ws' := [(y, .inr (11, MO yr (va_up yi 1 0) ysb ybs)), (yr 6, .inl (cT 3, 6, .inl ik)), (yr 5, .inl (cT 0, 288, .inl (upd vv (6 * r + c0) v)))]) [2, 0, 1] (by decide) rfl
      refine W.widen (k := 0) (n := 0) (Nat.le_of_ble_eq_true rfl) (Nat.le_of_ble_eq_true rfl) ?_
      exact W.iret (v := vv ((6 * r) + c0)) hx hb hr (fun t9 ht9 hW9 => ⟨⟨vv ((6 * r) + c0), (), rfl, (show (vv ((6 * r) + c0)) = vv (6 * r + c0) from rfl), by rw [ht9]; exact hP9, hD9⟩, hS.F ht9⟩) hS.2.2 dM_put_72
    · refine lv_iconst (v := 1) hx hb dM_put_32 (by decide) ?_
      refine lv_goto (tgt := 37) hx hb dM_put_33 rfl ?_
      refine rw_i (wc := [(y, .inr (11, MO yr yi ysb ybs))]) (wr := [(yr 6, .inl (cT 3, 6, .inl ik)), (yr 5, .inl (cT 0, 288, .inl vv))]) hP hD hS hA [0] [1, 2] rfl rfl (by decide) (by decide) (va_runV (As := [.int 1]) (rest := []) ⟨hx, hb, hml, hown, hT⟩ (m_ref1 l D cT y yr yi ysb ybs _) ⟨callB_of 1 hT (tb_gd w1301) rfl rfl rfl (hT _ w13) (hT _ w1298) hM_refused ⟨Nat.le_of_ble_eq_true rfl, Nat.le_of_ble_eq_true rfl⟩, (hT _ w1300), (hT _ wp29)⟩ (RW.preV (ci := 11) (q0 := 0) hZ hS (va_free (wc := [(y, .inr (11, MO yr yi ysb ybs))]) hD hS hA [0] rfl) (hP.sub (ws' := [(y, .inr (11, MO yr yi ysb ybs))]) [0] rfl) hK (hD.sub (ws' := [(y, .inr (11, MO yr yi ysb ybs))]) [0] (by decide) rfl) rfl rfl) rfl rfl hl.1 rfl (lv_room (Nat.le_of_ble_eq_true rfl)) dM_put_37 ⟨Nat.le_of_ble_eq_true rfl, Nat.le_of_ble_eq_true rfl⟩) (fun ru9 u9 H locs hpu9 hP hD hS => ?_)
      have hpu9 : ru9 = 1 := hpu9
      have hP : va_P D vwCl [(yr 6, .inl (cT 3, 6, .inl ik)), (yr 5, .inl (cT 0, 288, .inl vv)), (y, .inr (11, MO yr (va_up yi 1 1) ysb ybs))] _ := hP
      have hD : va_D A [(yr 6, .inl (cT 3, 6, .inl ik)), (yr 5, .inl (cT 0, 288, .inl vv)), (y, .inr (11, MO yr (va_up yi 1 1) ysb ybs))] := hD
      refine lv_topi (fun y9 e9 => ?_)
      cases (show y9 = 1 from e9.trans hpu9)
      refine lv_if_eq (tgt := 45) hx hb dM_put_40 rfl (fun h10 => absurd h10 (by decide)) (fun _ => ?_)
      exact absurd hv9 (fun q => q.elim h3 (fun r => by have q1 := bn_0.mp h6; rw [r] at q1; exact absurd q1 (by decide)))
set_option maxHeartbeats 4000000 in
set_option maxRecDepth 100000 in
theorem y_put_no (l : Launch) (D : va_G) (cT : Nat → ClassId) (y : Nat) (yr : Nat → Nat) (yi : Nat → Int32) (ysb : Int64) (ybs : Int64) (a1 : Int32) (a2 : Int32) (v : Int32) (hq : ¬ ((0 ≤ a1 ∧ a1 ≤ yi 3 - 1) ∧ (0 ≤ a2 ∧ a2 ≤ yi 2 - 1))) (sz : Nat) : Met l yM_put WM_put ({ frames := 2, cells := 0, slots := 0, locals := 43 } : Room) (RW D vwCl [.ref y, .int a1, .int a2, .int v] [(y, .inr (11, MO yr yi ysb ybs))] (TY cT) sz) (va_Qi (fun (r9 : Int32) (u9 : Unit) => r9 = 0) (BW D vwCl (va_A [(y, .inr (11, MO yr yi ysb ybs))] sz) (fun u9 : Unit => [(y, .inr (11, MO yr (va_up yi 1 1) ysb ybs))])) (va_A [(y, .inr (11, MO yr yi ysb ybs))] sz)) 0 0 (va_A [(y, .inr (11, MO yr yi ysb ybs))] sz) := by
  refine Met.ofW (cc := cM_put) (maxL := 5) (ret := (some .int)) (by decide) rfl ?_
  intro p e s m args below meth c s₁ B hml hv
  obtain ⟨rfl, hsz, hZ, hP, hK, hD0⟩ := hv
  have hx := B.exec
  have hb := B.bytes
  have hr := B.returns
  have hts := atoms_spec (ws := WM_put) B.pre
  have hT : ∀ w ∈ TB, w.before _ s = true := fun w h => hts w (List.mem_cons_of_mem _ h)
  have hown : s.vm.findClass R_M = some m.cls := findClass_of_methodNamed B.named
  have hlocks := B.notSynchronized
  subst hsz
  have hD := hD0.self (sz := s.heap.size)
  generalize hAe : va_A [(y, .inr (11, MO yr yi ysb ybs))] s.heap.size = A at hD hZ ⊢
  have hA : ∀ q : Nat, s.heap.size ≤ q → A q := fun q h => by rw [← hAe]; exact Or.inr h
  have hS : va_S A s.heap s.heap [] := va_S.rf
  have hl := lv_entry ([.ref y, .int a1, .int a2, .int v]) (n := 5) (Nat.le_of_ble_eq_true rfl)
  rw [lg_entry_eq]
  generalize (lg_sl ([.ref y, .int a1, .int a2, .int v]) ++ List.replicate (5 - (lg_sl ([.ref y, .int a1, .int a2, .int v])).length) Slot.unset).toArray = ls at hl ⊢
  have hl : lv_has ls 5 [(0, .ref y), (1, .int a1), (2, .int a2), (3, .int v)] := hl
  refine lv_aload_n hx hb dM_put_0 rfl (lv_at hl 0 rfl) ?_
  refine lv_aload_n hx hb dM_put_1 rfl (lv_at hl 0 rfl) ?_
  refine lv_iload_n hx hb dM_put_2 rfl (lv_at hl 1 rfl) ?_
  refine ro_i (va_Run.run (va_runV (As := [.int a1]) (rest := [.ref y]) ⟨hx, hb, hml, hown, hT⟩ (m_noRow l D cT y yr yi ysb ybs a1) ⟨callB_of 1 hT (tb_gd w1313) rfl rfl rfl (hT _ w13) (hT _ w1310) hM_noRow ⟨Nat.le_of_ble_eq_true rfl, Nat.le_of_ble_eq_true rfl⟩, (hT _ w1312), (hT _ wp30)⟩ (RO.preV (ci := 11) (q0 := 0) hZ hS (hP.sub (ws' := [(y, .inr (11, MO yr yi ysb ybs))]) [0] rfl) hK rfl rfl) rfl rfl hl.1 rfl (lv_room (Nat.le_of_ble_eq_true rfl)) dM_put_3 ⟨Nat.le_of_ble_eq_true rfl, Nat.le_of_ble_eq_true rfl⟩)) ?_
  refine lv_if_ne (tgt := 32) hx hb dM_put_6 rfl (fun h1 => ?_) (fun h1 => ?_)
  · refine lv_iconst (v := 1) hx hb dM_put_32 (by decide) ?_
    refine lv_goto (tgt := 37) hx hb dM_put_33 rfl ?_
    refine rw_i (wc := [(y, .inr (11, MO yr yi ysb ybs))]) (wr := []) hP hD hS hA [0] [] rfl rfl (by decide) (by decide) (va_runV (As := [.int 1]) (rest := []) ⟨hx, hb, hml, hown, hT⟩ (m_ref1 l D cT y yr yi ysb ybs _) ⟨callB_of 1 hT (tb_gd w1301) rfl rfl rfl (hT _ w13) (hT _ w1298) hM_refused ⟨Nat.le_of_ble_eq_true rfl, Nat.le_of_ble_eq_true rfl⟩, (hT _ w1300), (hT _ wp29)⟩ (RW.preV (ci := 11) (q0 := 0) hZ hS (va_free (wc := [(y, .inr (11, MO yr yi ysb ybs))]) hD hS hA [0] rfl) (hP.sub (ws' := [(y, .inr (11, MO yr yi ysb ybs))]) [0] rfl) hK (hD.sub (ws' := [(y, .inr (11, MO yr yi ysb ybs))]) [0] (by decide) rfl) rfl rfl) rfl rfl hl.1 rfl (lv_room (Nat.le_of_ble_eq_true rfl)) dM_put_37 ⟨Nat.le_of_ble_eq_true rfl, Nat.le_of_ble_eq_true rfl⟩) (fun ru2 u9 H locs hpu2 hP hD hS => ?_)
    have hpu2 : ru2 = 1 := hpu2
    have hP : va_P D vwCl [(y, .inr (11, MO yr (va_up yi 1 1) ysb ybs))] _ := hP
    have hD : va_D A [(y, .inr (11, MO yr (va_up yi 1 1) ysb ybs))] := hD
    refine lv_topi (fun y9 e9 => ?_)
    cases (show y9 = 1 from e9.trans hpu2)
    refine lv_if_eq (tgt := 45) hx hb dM_put_40 rfl (fun h3 => absurd h3 (by decide)) (fun _ => ?_)
    refine lv_iconst (v := 0) hx hb dM_put_43 (by decide) ?_
    have hP9 := hP.sub (ws' := [(y, .inr (11, MO yr (va_up yi 1 1) ysb ybs))]) [0] rfl
    have hD9 := hD.sub (ws' := [(y, .inr (11, MO yr (va_up yi 1 1) ysb ybs))]) [0] (by decide) rfl
    refine W.widen (k := 0) (n := 0) (Nat.le_of_ble_eq_true rfl) (Nat.le_of_ble_eq_true rfl) ?_
    exact W.iret (v := 0) hx hb hr (fun t9 ht9 hW9 => ⟨⟨0, (), rfl, (show 0 = 0 from rfl), by rw [ht9]; exact hP9, hD9⟩, hS.F ht9⟩) hS.2.2 dM_put_44
  · refine lv_aload_n hx hb dM_put_9 rfl (lv_at hl 0 rfl) ?_
    refine lv_iload_n hx hb dM_put_10 rfl (lv_at hl 2 rfl) ?_
    refine ro_i (va_Run.run (va_runV (As := [.int a2]) (rest := [.ref y]) ⟨hx, hb, hml, hown, hT⟩ (m_noColumn l D cT y yr yi ysb ybs a2) ⟨callB_of 1 hT (tb_gd w1317) rfl rfl rfl (hT _ w13) (hT _ w1314) hM_noColumn ⟨Nat.le_of_ble_eq_true rfl, Nat.le_of_ble_eq_true rfl⟩, (hT _ w1316), (hT _ wp31)⟩ (RO.preV (ci := 11) (q0 := 0) hZ hS (hP.sub (ws' := [(y, .inr (11, MO yr yi ysb ybs))]) [0] rfl) hK rfl rfl) rfl rfl hl.1 rfl (lv_room (Nat.le_of_ble_eq_true rfl)) dM_put_11 ⟨Nat.le_of_ble_eq_true rfl, Nat.le_of_ble_eq_true rfl⟩)) ?_
    refine lv_if_ne (tgt := 32) hx hb dM_put_14 rfl (fun h4 => ?_) (fun h4 => ?_)
    · refine lv_iconst (v := 1) hx hb dM_put_32 (by decide) ?_
      refine lv_goto (tgt := 37) hx hb dM_put_33 rfl ?_
      refine rw_i (wc := [(y, .inr (11, MO yr yi ysb ybs))]) (wr := []) hP hD hS hA [0] [] rfl rfl (by decide) (by decide) (va_runV (As := [.int 1]) (rest := []) ⟨hx, hb, hml, hown, hT⟩ (m_ref1 l D cT y yr yi ysb ybs _) ⟨callB_of 1 hT (tb_gd w1301) rfl rfl rfl (hT _ w13) (hT _ w1298) hM_refused ⟨Nat.le_of_ble_eq_true rfl, Nat.le_of_ble_eq_true rfl⟩, (hT _ w1300), (hT _ wp29)⟩ (RW.preV (ci := 11) (q0 := 0) hZ hS (va_free (wc := [(y, .inr (11, MO yr yi ysb ybs))]) hD hS hA [0] rfl) (hP.sub (ws' := [(y, .inr (11, MO yr yi ysb ybs))]) [0] rfl) hK (hD.sub (ws' := [(y, .inr (11, MO yr yi ysb ybs))]) [0] (by decide) rfl) rfl rfl) rfl rfl hl.1 rfl (lv_room (Nat.le_of_ble_eq_true rfl)) dM_put_37 ⟨Nat.le_of_ble_eq_true rfl, Nat.le_of_ble_eq_true rfl⟩) (fun ru5 u9 H locs hpu5 hP hD hS => ?_)
      have hpu5 : ru5 = 1 := hpu5
      have hP : va_P D vwCl [(y, .inr (11, MO yr (va_up yi 1 1) ysb ybs))] _ := hP
      have hD : va_D A [(y, .inr (11, MO yr (va_up yi 1 1) ysb ybs))] := hD
      refine lv_topi (fun y9 e9 => ?_)
      cases (show y9 = 1 from e9.trans hpu5)
      refine lv_if_eq (tgt := 45) hx hb dM_put_40 rfl (fun h6 => absurd h6 (by decide)) (fun _ => ?_)
      refine lv_iconst (v := 0) hx hb dM_put_43 (by decide) ?_
      have hP9 := hP.sub (ws' := [(y, .inr (11, MO yr (va_up yi 1 1) ysb ybs))]) [0] rfl
      have hD9 := hD.sub (ws' := [(y, .inr (11, MO yr (va_up yi 1 1) ysb ybs))]) [0] (by decide) rfl
      refine W.widen (k := 0) (n := 0) (Nat.le_of_ble_eq_true rfl) (Nat.le_of_ble_eq_true rfl) ?_
      exact W.iret (v := 0) hx hb hr (fun t9 ht9 hW9 => ⟨⟨0, (), rfl, (show 0 = 0 from rfl), by rw [ht9]; exact hP9, hD9⟩, hS.F ht9⟩) hS.2.2 dM_put_44
    · exact absurd ⟨nn_e (bi_0 h1), nn_e (bi_0 h4)⟩ hq
set_option maxHeartbeats 4000000 in
set_option maxRecDepth 100000 in
theorem y_put_nov (l : Launch) (D : va_G) (cT : Nat → ClassId) (y : Nat) (yr : Nat → Nat) (yi : Nat → Int32) (ysb : Int64) (ybs : Int64) (ik : Nat → Int32) (a1 : Int32) (c0 : Nat) (v : Int32) (hc1 : 0 ≤ a1 ∧ a1 ≤ yi 3 - 1) (hc2 : 0 ≤ nI c0 ∧ nI c0 ≤ yi 2 - 1) (hc6 : c0 < 6) (hv1 : ¬ v = (-2147483648)) (hv2 : vokB (ik c0) v = false) (sz : Nat) : Met l yM_put WM_put ({ frames := 3, cells := 0, slots := 0, locals := 64 } : Room) (RW D vwCl [.ref y, .int a1, .int (nI c0), .int v] [(y, .inr (11, MO yr yi ysb ybs)), (yr 6, .inl (cT 3, 6, .inl ik))] (TY cT) sz) (va_Qi (fun (r9 : Int32) (u9 : Unit) => r9 = 0) (BW D vwCl (va_A [(y, .inr (11, MO yr yi ysb ybs)), (yr 6, .inl (cT 3, 6, .inl ik))] sz) (fun u9 : Unit => [(y, .inr (11, MO yr (va_up yi 1 1) ysb ybs)), (yr 6, .inl (cT 3, 6, .inl ik))])) (va_A [(y, .inr (11, MO yr yi ysb ybs)), (yr 6, .inl (cT 3, 6, .inl ik))] sz)) 0 0 (va_A [(y, .inr (11, MO yr yi ysb ybs)), (yr 6, .inl (cT 3, 6, .inl ik))] sz) := by
  refine Met.ofW (cc := cM_put) (maxL := 5) (ret := (some .int)) (by decide) rfl ?_
  intro p e s m args below meth c s₁ B hml hv
  obtain ⟨rfl, hsz, hZ, hP, hK, hD0⟩ := hv
  have hx := B.exec
  have hb := B.bytes
  have hr := B.returns
  have hts := atoms_spec (ws := WM_put) B.pre
  have hT : ∀ w ∈ TB, w.before _ s = true := fun w h => hts w (List.mem_cons_of_mem _ h)
  have hown : s.vm.findClass R_M = some m.cls := findClass_of_methodNamed B.named
  have hlocks := B.notSynchronized
  subst hsz
  have hD := hD0.self (sz := s.heap.size)
  generalize hAe : va_A [(y, .inr (11, MO yr yi ysb ybs)), (yr 6, .inl (cT 3, 6, .inl ik))] s.heap.size = A at hD hZ ⊢
  have hA : ∀ q : Nat, s.heap.size ≤ q → A q := fun q h => by rw [← hAe]; exact Or.inr h
  have hS : va_S A s.heap s.heap [] := va_S.rf
  have hl := lv_entry ([.ref y, .int a1, .int (nI c0), .int v]) (n := 5) (Nat.le_of_ble_eq_true rfl)
  rw [lg_entry_eq]
  generalize (lg_sl ([.ref y, .int a1, .int (nI c0), .int v]) ++ List.replicate (5 - (lg_sl ([.ref y, .int a1, .int (nI c0), .int v])).length) Slot.unset).toArray = ls at hl ⊢
  have hl : lv_has ls 5 [(0, .ref y), (1, .int a1), (2, .int (nI c0)), (3, .int v)] := hl
  refine lv_aload_n hx hb dM_put_0 rfl (lv_at hl 0 rfl) ?_
  refine lv_aload_n hx hb dM_put_1 rfl (lv_at hl 0 rfl) ?_
  refine lv_iload_n hx hb dM_put_2 rfl (lv_at hl 1 rfl) ?_
  refine ro_i (va_Run.run (va_runV (As := [.int a1]) (rest := [.ref y]) ⟨hx, hb, hml, hown, hT⟩ (m_noRow l D cT y yr yi ysb ybs a1) ⟨callB_of 1 hT (tb_gd w1313) rfl rfl rfl (hT _ w13) (hT _ w1310) hM_noRow ⟨Nat.le_of_ble_eq_true rfl, Nat.le_of_ble_eq_true rfl⟩, (hT _ w1312), (hT _ wp30)⟩ (RO.preV (ci := 11) (q0 := 0) hZ hS (hP.sub (ws' := [(y, .inr (11, MO yr yi ysb ybs))]) [0] rfl) hK rfl rfl) rfl rfl hl.1 rfl (lv_room (Nat.le_of_ble_eq_true rfl)) dM_put_3 ⟨Nat.le_of_ble_eq_true rfl, Nat.le_of_ble_eq_true rfl⟩)) ?_
  refine lv_if_ne (tgt := 32) hx hb dM_put_6 rfl (fun h1 => absurd (bi_f (fun q => q hc1)) h1) (fun _ => ?_)
  refine lv_aload_n hx hb dM_put_9 rfl (lv_at hl 0 rfl) ?_
  refine lv_iload_n hx hb dM_put_10 rfl (lv_at hl 2 rfl) ?_
  refine ro_i (va_Run.run (va_runV (As := [.int (nI c0)]) (rest := [.ref y]) ⟨hx, hb, hml, hown, hT⟩ (m_noColumn l D cT y yr yi ysb ybs (nI c0)) ⟨callB_of 1 hT (tb_gd w1317) rfl rfl rfl (hT _ w13) (hT _ w1314) hM_noColumn ⟨Nat.le_of_ble_eq_true rfl, Nat.le_of_ble_eq_true rfl⟩, (hT _ w1316), (hT _ wp31)⟩ (RO.preV (ci := 11) (q0 := 0) hZ hS (hP.sub (ws' := [(y, .inr (11, MO yr yi ysb ybs))]) [0] rfl) hK rfl rfl) rfl rfl hl.1 rfl (lv_room (Nat.le_of_ble_eq_true rfl)) dM_put_11 ⟨Nat.le_of_ble_eq_true rfl, Nat.le_of_ble_eq_true rfl⟩)) ?_
  refine lv_if_ne (tgt := 32) hx hb dM_put_14 rfl (fun h2 => absurd (bi_f (fun q => q hc2)) h2) (fun _ => ?_)
  refine lv_iload_n hx hb dM_put_17 rfl (lv_at hl 3 rfl) ?_
  refine lv_ldc (v := (-2147483648)) hx hb hown (hT _ w1103) dM_put_18 ?_
  refine lv_icmp_eq (tgt := 36) hx hb dM_put_20 rfl (fun h3 => absurd h3 hv1) (fun _ => ?_)
  refine lv_aload_n hx hb dM_put_23 rfl (lv_at hl 0 rfl) ?_
  refine lv_iload_n hx hb dM_put_24 rfl (lv_at hl 2 rfl) ?_
  refine lv_iload_n hx hb dM_put_25 rfl (lv_at hl 3 rfl) ?_
  refine ro_i (va_Run.run (va_runV (As := [.int (nI c0), .int v]) (rest := [.ref y]) ⟨hx, hb, hml, hown, hT⟩ (m_isVal l D cT y yr yi ysb ybs ik c0 v hc6) ⟨callB_of 2 hT (tb_gd w1321) rfl rfl rfl (hT _ w13) (hT _ w1318) hM_isValue ⟨Nat.le_of_ble_eq_true rfl, Nat.le_of_ble_eq_true rfl⟩, (hT _ w1320), (hT _ wp32)⟩ (RO.preV (ci := 11) (q0 := 0) hZ hS (hP.sub (ws' := [(y, .inr (11, MO yr yi ysb ybs)), (yr 6, .inl (cT 3, 6, .inl ik))]) [0, 1] rfl) hK rfl rfl) rfl rfl hl.1 rfl (lv_room (Nat.le_of_ble_eq_true rfl)) dM_put_26 ⟨Nat.le_of_ble_eq_true rfl, Nat.le_of_ble_eq_true rfl⟩)) ?_
  refine lv_if_ne (tgt := 36) hx hb dM_put_29 rfl (fun h4 => absurd (bn_0.mpr hv2) h4) (fun _ => ?_)
  refine lv_iconst (v := 1) hx hb dM_put_32 (by decide) ?_
  refine lv_goto (tgt := 37) hx hb dM_put_33 rfl ?_
  refine rw_i (wc := [(y, .inr (11, MO yr yi ysb ybs))]) (wr := [(yr 6, .inl (cT 3, 6, .inl ik))]) hP hD hS hA [0] [1] rfl rfl (by decide) (by decide) (va_runV (As := [.int 1]) (rest := []) ⟨hx, hb, hml, hown, hT⟩ (m_ref1 l D cT y yr yi ysb ybs _) ⟨callB_of 1 hT (tb_gd w1301) rfl rfl rfl (hT _ w13) (hT _ w1298) hM_refused ⟨Nat.le_of_ble_eq_true rfl, Nat.le_of_ble_eq_true rfl⟩, (hT _ w1300), (hT _ wp29)⟩ (RW.preV (ci := 11) (q0 := 0) hZ hS (va_free (wc := [(y, .inr (11, MO yr yi ysb ybs))]) hD hS hA [0] rfl) (hP.sub (ws' := [(y, .inr (11, MO yr yi ysb ybs))]) [0] rfl) hK (hD.sub (ws' := [(y, .inr (11, MO yr yi ysb ybs))]) [0] (by decide) rfl) rfl rfl) rfl rfl hl.1 rfl (lv_room (Nat.le_of_ble_eq_true rfl)) dM_put_37 ⟨Nat.le_of_ble_eq_true rfl, Nat.le_of_ble_eq_true rfl⟩) (fun ru5 u9 H locs hpu5 hP hD hS => ?_)
  have hpu5 : ru5 = 1 := hpu5
  have hP : va_P D vwCl [(yr 6, .inl (cT 3, 6, .inl ik)), (y, .inr (11, MO yr (va_up yi 1 1) ysb ybs))] _ := hP
  have hD : va_D A [(yr 6, .inl (cT 3, 6, .inl ik)), (y, .inr (11, MO yr (va_up yi 1 1) ysb ybs))] := hD
  refine lv_topi (fun y9 e9 => ?_)
  cases (show y9 = 1 from e9.trans hpu5)
  refine lv_if_eq (tgt := 45) hx hb dM_put_40 rfl (fun h6 => absurd h6 (by decide)) (fun _ => ?_)
  refine lv_iconst (v := 0) hx hb dM_put_43 (by decide) ?_
  have hP9 := hP.sub (ws' := [(y, .inr (11, MO yr (va_up yi 1 1) ysb ybs)), (yr 6, .inl (cT 3, 6, .inl ik))]) [1, 0] rfl
  have hD9 := hD.sub (ws' := [(y, .inr (11, MO yr (va_up yi 1 1) ysb ybs)), (yr 6, .inl (cT 3, 6, .inl ik))]) [1, 0] (by decide) rfl
  refine W.widen (k := 0) (n := 0) (Nat.le_of_ble_eq_true rfl) (Nat.le_of_ble_eq_true rfl) ?_
  exact W.iret (v := 0) hx hb hr (fun t9 ht9 hW9 => ⟨⟨0, (), rfl, (show 0 = 0 from rfl), by rw [ht9]; exact hP9, hD9⟩, hS.F ht9⟩) hS.2.2 dM_put_44
set_option maxHeartbeats 4000000 in
set_option maxRecDepth 100000 in
theorem m_clear (l : Launch) (D : va_G) (cT : Nat → ClassId) (y : Nat) (yr : Nat → Nat) (yi : Nat → Int32) (ysb : Int64) (ybs : Int64) (ik : Nat → Int32) (em : Nat → Int32) (qs : Nat → Int32) (k : Int32) (sz : Nat) : Met l yM_clear WM_clear ({ frames := 0, cells := 0, slots := 0, locals := 0 } : Room) (RW D vwCl [.ref y, .int k] [(y, .inr (11, MO yr yi ysb ybs)), (yr 6, .inl (cT 3, 6, .inl ik)), (yr 8, .inl (cT 0, 6, .inl em)), (yr 9, .inl (cT 0, 6, .inl qs))] (TY cT) sz) (va_Qv (fun u9 : (Nat → Int32) × (Nat → Int32) × (Nat → Int32) => ∀ q8, q8 < 6 → u9.1 q8 = vp_nar .boolean 0 ∧ u9.2.1 q8 = 0 ∧ u9.2.2 q8 = (-2147483648)) (BW D vwCl (va_A [(y, .inr (11, MO yr yi ysb ybs)), (yr 6, .inl (cT 3, 6, .inl ik)), (yr 8, .inl (cT 0, 6, .inl em)), (yr 9, .inl (cT 0, 6, .inl qs))] sz) (fun u9 : (Nat → Int32) × (Nat → Int32) × (Nat → Int32) => [(y, .inr (11, MO yr (va_up (va_up (va_up (va_up (va_up (va_up (va_up (va_up (va_up (va_up yi 2 k) 3 0) 17 0) 47 0) 10 2) 11 1) 12 0) 13 1) 14 2) 16 (-1)) (-1) ybs)), (yr 6, .inl (cT 3, 6, .inl u9.1)), (yr 8, .inl (cT 0, 6, .inl u9.2.1)), (yr 9, .inl (cT 0, 6, .inl u9.2.2))])) (va_A [(y, .inr (11, MO yr yi ysb ybs)), (yr 6, .inl (cT 3, 6, .inl ik)), (yr 8, .inl (cT 0, 6, .inl em)), (yr 9, .inl (cT 0, 6, .inl qs))] sz)) 0 0 (va_A [(y, .inr (11, MO yr yi ysb ybs)), (yr 6, .inl (cT 3, 6, .inl ik)), (yr 8, .inl (cT 0, 6, .inl em)), (yr 9, .inl (cT 0, 6, .inl qs))] sz) := by
  refine Met.ofW (cc := cM_clear) (maxL := 3) (ret := none) (by decide) rfl ?_
  intro p e s m args below meth c s₁ B hml hv
  obtain ⟨rfl, hsz, hZ, hP, hK, hD0⟩ := hv
  have hx := B.exec
  have hb := B.bytes
  have hr := B.returns
  have hts := atoms_spec (ws := WM_clear) B.pre
  have hT : ∀ w ∈ TB, w.before _ s = true := fun w h => hts w (List.mem_cons_of_mem _ h)
  have hown : s.vm.findClass R_M = some m.cls := findClass_of_methodNamed B.named
  have hlocks := B.notSynchronized
  subst hsz
  have hD := hD0.self (sz := s.heap.size)
  generalize hAe : va_A [(y, .inr (11, MO yr yi ysb ybs)), (yr 6, .inl (cT 3, 6, .inl ik)), (yr 8, .inl (cT 0, 6, .inl em)), (yr 9, .inl (cT 0, 6, .inl qs))] s.heap.size = A at hD hZ ⊢
  have hA : ∀ q : Nat, s.heap.size ≤ q → A q := fun q h => by rw [← hAe]; exact Or.inr h
  have hS : va_S A s.heap s.heap [] := va_S.rf
  have hl := lv_entry ([.ref y, .int k]) (n := 3) (Nat.le_of_ble_eq_true rfl)
  rw [lg_entry_eq]
  generalize (lg_sl ([.ref y, .int k]) ++ List.replicate (3 - (lg_sl ([.ref y, .int k])).length) Slot.unset).toArray = ls at hl ⊢
  have hl : lv_has ls 3 [(0, .ref y), (1, .int k)] := hl
  refine lv_aload_n hx hb dM_clear_0 rfl (lv_at hl 0 rfl) ?_
  refine lv_iload_n hx hb dM_clear_1 rfl (lv_at hl 1 rfl) ?_
  refine va_put (D := D) (ci := 11) (v := .int k) (ty := .int) (C := R_M) (T := T_M) (N := 60) hx hb hT in_M ty_M ty_M_ok m_M hown hK hP hD hS 0 rfl rfl 2 (by decide) (hT _ w1106) (fun _ h9 => h9) rfl (by decide +kernel) rfl rfl (Nat.le_of_ble_eq_true rfl) dM_clear_2 (fun H locs hP hD hS => ?_)
  have hP : va_P D vwCl [(y, .inr (11, MO yr (va_up yi 2 k) ysb ybs)), (yr 6, .inl (cT 3, 6, .inl ik)), (yr 8, .inl (cT 0, 6, .inl em)), (yr 9, .inl (cT 0, 6, .inl qs))] _ := hP
  have hD : va_D A [(y, .inr (11, MO yr (va_up yi 2 k) ysb ybs)), (yr 6, .inl (cT 3, 6, .inl ik)), (yr 8, .inl (cT 0, 6, .inl em)), (yr 9, .inl (cT 0, 6, .inl qs))] := hD
  refine lv_aload_n hx hb dM_clear_5 rfl (lv_at hl 0 rfl) ?_
  refine lv_iconst (v := 0) hx hb dM_clear_6 (by decide) ?_
  refine va_put (D := D) (ci := 11) (v := .int 0) (ty := .int) (C := R_M) (T := T_M) (N := 60) hx hb hT in_M ty_M ty_M_ok m_M hown hK hP hD hS 0 rfl rfl 3 (by decide) (hT _ w1107) (fun _ h9 => h9) rfl (by decide +kernel) rfl rfl (Nat.le_of_ble_eq_true rfl) dM_clear_7 (fun H locs hP hD hS => ?_)
  have hP : va_P D vwCl [(y, .inr (11, MO yr (va_up (va_up yi 2 k) 3 0) ysb ybs)), (yr 6, .inl (cT 3, 6, .inl ik)), (yr 8, .inl (cT 0, 6, .inl em)), (yr 9, .inl (cT 0, 6, .inl qs))] _ := hP
  have hD : va_D A [(y, .inr (11, MO yr (va_up (va_up yi 2 k) 3 0) ysb ybs)), (yr 6, .inl (cT 3, 6, .inl ik)), (yr 8, .inl (cT 0, 6, .inl em)), (yr 9, .inl (cT 0, 6, .inl qs))] := hD
  refine lv_aload_n hx hb dM_clear_10 rfl (lv_at hl 0 rfl) ?_
  refine lv_iconst (v := 0) hx hb dM_clear_11 (by decide) ?_
  refine va_put (D := D) (ci := 11) (v := .int 0) (ty := .int) (C := R_M) (T := T_M) (N := 60) hx hb hT in_M ty_M ty_M_ok m_M hown hK hP hD hS 0 rfl rfl 17 (by decide) (hT _ w1121) (fun _ h9 => h9) rfl (by decide +kernel) rfl rfl (Nat.le_of_ble_eq_true rfl) dM_clear_12 (fun H locs hP hD hS => ?_)
  have hP : va_P D vwCl [(y, .inr (11, MO yr (va_up (va_up (va_up yi 2 k) 3 0) 17 0) ysb ybs)), (yr 6, .inl (cT 3, 6, .inl ik)), (yr 8, .inl (cT 0, 6, .inl em)), (yr 9, .inl (cT 0, 6, .inl qs))] _ := hP
  have hD : va_D A [(y, .inr (11, MO yr (va_up (va_up (va_up yi 2 k) 3 0) 17 0) ysb ybs)), (yr 6, .inl (cT 3, 6, .inl ik)), (yr 8, .inl (cT 0, 6, .inl em)), (yr 9, .inl (cT 0, 6, .inl qs))] := hD
  refine lv_aload_n hx hb dM_clear_15 rfl (lv_at hl 0 rfl) ?_
  refine lv_iconst (v := 0) hx hb dM_clear_16 (by decide) ?_
  refine va_put (D := D) (ci := 11) (v := .int 0) (ty := .int) (C := R_M) (T := T_M) (N := 60) hx hb hT in_M ty_M ty_M_ok m_M hown hK hP hD hS 0 rfl rfl 47 (by decide) (hT _ w1151) (fun _ h9 => h9) rfl (by decide +kernel) rfl rfl (Nat.le_of_ble_eq_true rfl) dM_clear_17 (fun H locs hP hD hS => ?_)
  have hP : va_P D vwCl [(y, .inr (11, MO yr (va_up (va_up (va_up (va_up yi 2 k) 3 0) 17 0) 47 0) ysb ybs)), (yr 6, .inl (cT 3, 6, .inl ik)), (yr 8, .inl (cT 0, 6, .inl em)), (yr 9, .inl (cT 0, 6, .inl qs))] _ := hP
  have hD : va_D A [(y, .inr (11, MO yr (va_up (va_up (va_up (va_up yi 2 k) 3 0) 17 0) 47 0) ysb ybs)), (yr 6, .inl (cT 3, 6, .inl ik)), (yr 8, .inl (cT 0, 6, .inl em)), (yr 9, .inl (cT 0, 6, .inl qs))] := hD
  refine lv_aload_n hx hb dM_clear_20 rfl (lv_at hl 0 rfl) ?_
  refine lv_iconst (v := 2) hx hb dM_clear_21 (by decide) ?_
  refine va_put (D := D) (ci := 11) (v := .int 2) (ty := .int) (C := R_M) (T := T_M) (N := 60) hx hb hT in_M ty_M ty_M_ok m_M hown hK hP hD hS 0 rfl rfl 10 (by decide) (hT _ w1114) (fun _ h9 => h9) rfl (by decide +kernel) rfl rfl (Nat.le_of_ble_eq_true rfl) dM_clear_22 (fun H locs hP hD hS => ?_)
  have hP : va_P D vwCl [(y, .inr (11, MO yr (va_up (va_up (va_up (va_up (va_up yi 2 k) 3 0) 17 0) 47 0) 10 2) ysb ybs)), (yr 6, .inl (cT 3, 6, .inl ik)), (yr 8, .inl (cT 0, 6, .inl em)), (yr 9, .inl (cT 0, 6, .inl qs))] _ := hP
  have hD : va_D A [(y, .inr (11, MO yr (va_up (va_up (va_up (va_up (va_up yi 2 k) 3 0) 17 0) 47 0) 10 2) ysb ybs)), (yr 6, .inl (cT 3, 6, .inl ik)), (yr 8, .inl (cT 0, 6, .inl em)), (yr 9, .inl (cT 0, 6, .inl qs))] := hD
  refine lv_aload_n hx hb dM_clear_25 rfl (lv_at hl 0 rfl) ?_
  refine lv_iconst (v := 1) hx hb dM_clear_26 (by decide) ?_
  refine va_put (D := D) (ci := 11) (v := .int 1) (ty := .int) (C := R_M) (T := T_M) (N := 60) hx hb hT in_M ty_M ty_M_ok m_M hown hK hP hD hS 0 rfl rfl 11 (by decide) (hT _ w1115) (fun _ h9 => h9) rfl (by decide +kernel) rfl rfl (Nat.le_of_ble_eq_true rfl) dM_clear_27 (fun H locs hP hD hS => ?_)
  have hP : va_P D vwCl [(y, .inr (11, MO yr (va_up (va_up (va_up (va_up (va_up (va_up yi 2 k) 3 0) 17 0) 47 0) 10 2) 11 1) ysb ybs)), (yr 6, .inl (cT 3, 6, .inl ik)), (yr 8, .inl (cT 0, 6, .inl em)), (yr 9, .inl (cT 0, 6, .inl qs))] _ := hP
  have hD : va_D A [(y, .inr (11, MO yr (va_up (va_up (va_up (va_up (va_up (va_up yi 2 k) 3 0) 17 0) 47 0) 10 2) 11 1) ysb ybs)), (yr 6, .inl (cT 3, 6, .inl ik)), (yr 8, .inl (cT 0, 6, .inl em)), (yr 9, .inl (cT 0, 6, .inl qs))] := hD
  refine lv_aload_n hx hb dM_clear_30 rfl (lv_at hl 0 rfl) ?_
  refine lv_iconst (v := 0) hx hb dM_clear_31 (by decide) ?_
  refine va_put (D := D) (ci := 11) (v := .int 0) (ty := .int) (C := R_M) (T := T_M) (N := 60) hx hb hT in_M ty_M ty_M_ok m_M hown hK hP hD hS 0 rfl rfl 12 (by decide) (hT _ w1116) (fun _ h9 => h9) rfl (by decide +kernel) rfl rfl (Nat.le_of_ble_eq_true rfl) dM_clear_32 (fun H locs hP hD hS => ?_)
  have hP : va_P D vwCl [(y, .inr (11, MO yr (va_up (va_up (va_up (va_up (va_up (va_up (va_up yi 2 k) 3 0) 17 0) 47 0) 10 2) 11 1) 12 0) ysb ybs)), (yr 6, .inl (cT 3, 6, .inl ik)), (yr 8, .inl (cT 0, 6, .inl em)), (yr 9, .inl (cT 0, 6, .inl qs))] _ := hP
  have hD : va_D A [(y, .inr (11, MO yr (va_up (va_up (va_up (va_up (va_up (va_up (va_up yi 2 k) 3 0) 17 0) 47 0) 10 2) 11 1) 12 0) ysb ybs)), (yr 6, .inl (cT 3, 6, .inl ik)), (yr 8, .inl (cT 0, 6, .inl em)), (yr 9, .inl (cT 0, 6, .inl qs))] := hD
  refine lv_aload_n hx hb dM_clear_35 rfl (lv_at hl 0 rfl) ?_
  refine lv_iconst (v := 1) hx hb dM_clear_36 (by decide) ?_
  refine va_put (D := D) (ci := 11) (v := .int 1) (ty := .int) (C := R_M) (T := T_M) (N := 60) hx hb hT in_M ty_M ty_M_ok m_M hown hK hP hD hS 0 rfl rfl 13 (by decide) (hT _ w1117) (fun _ h9 => h9) rfl (by decide +kernel) rfl rfl (Nat.le_of_ble_eq_true rfl) dM_clear_37 (fun H locs hP hD hS => ?_)
  have hP : va_P D vwCl [(y, .inr (11, MO yr (va_up (va_up (va_up (va_up (va_up (va_up (va_up (va_up yi 2 k) 3 0) 17 0) 47 0) 10 2) 11 1) 12 0) 13 1) ysb ybs)), (yr 6, .inl (cT 3, 6, .inl ik)), (yr 8, .inl (cT 0, 6, .inl em)), (yr 9, .inl (cT 0, 6, .inl qs))] _ := hP
  have hD : va_D A [(y, .inr (11, MO yr (va_up (va_up (va_up (va_up (va_up (va_up (va_up (va_up yi 2 k) 3 0) 17 0) 47 0) 10 2) 11 1) 12 0) 13 1) ysb ybs)), (yr 6, .inl (cT 3, 6, .inl ik)), (yr 8, .inl (cT 0, 6, .inl em)), (yr 9, .inl (cT 0, 6, .inl qs))] := hD
  refine lv_aload_n hx hb dM_clear_40 rfl (lv_at hl 0 rfl) ?_
  refine lv_iconst (v := 2) hx hb dM_clear_41 (by decide) ?_
  refine va_put (D := D) (ci := 11) (v := .int 2) (ty := .int) (C := R_M) (T := T_M) (N := 60) hx hb hT in_M ty_M ty_M_ok m_M hown hK hP hD hS 0 rfl rfl 14 (by decide) (hT _ w1118) (fun _ h9 => h9) rfl (by decide +kernel) rfl rfl (Nat.le_of_ble_eq_true rfl) dM_clear_42 (fun H locs hP hD hS => ?_)
  have hP : va_P D vwCl [(y, .inr (11, MO yr (va_up (va_up (va_up (va_up (va_up (va_up (va_up (va_up (va_up yi 2 k) 3 0) 17 0) 47 0) 10 2) 11 1) 12 0) 13 1) 14 2) ysb ybs)), (yr 6, .inl (cT 3, 6, .inl ik)), (yr 8, .inl (cT 0, 6, .inl em)), (yr 9, .inl (cT 0, 6, .inl qs))] _ := hP
  have hD : va_D A [(y, .inr (11, MO yr (va_up (va_up (va_up (va_up (va_up (va_up (va_up (va_up (va_up yi 2 k) 3 0) 17 0) 47 0) 10 2) 11 1) 12 0) 13 1) 14 2) ysb ybs)), (yr 6, .inl (cT 3, 6, .inl ik)), (yr 8, .inl (cT 0, 6, .inl em)), (yr 9, .inl (cT 0, 6, .inl qs))] := hD
  refine lv_aload_n hx hb dM_clear_45 rfl (lv_at hl 0 rfl) ?_
  refine lv_ldc2 (v := (-1)) hx hb hown (hT _ w1102) dM_clear_46 ?_
  refine va_put (D := D) (ci := 11) (v := .long (-1)) (ty := .long) (C := R_M) (T := T_M) (N := 60) hx hb hT in_M ty_M ty_M_ok m_M hown hK hP hD hS 0 rfl rfl 15 (by decide) (hT _ w1119) (fun _ h9 => h9) rfl (by decide +kernel) rfl rfl (Nat.le_of_ble_eq_true rfl) dM_clear_49 (fun H locs hP hD hS => ?_)
  have hP : va_P D vwCl [(y, .inr (11, MO yr (va_up (va_up (va_up (va_up (va_up (va_up (va_up (va_up (va_up yi 2 k) 3 0) 17 0) 47 0) 10 2) 11 1) 12 0) 13 1) 14 2) (-1) ybs)), (yr 6, .inl (cT 3, 6, .inl ik)), (yr 8, .inl (cT 0, 6, .inl em)), (yr 9, .inl (cT 0, 6, .inl qs))] _ := hP
  have hD : va_D A [(y, .inr (11, MO yr (va_up (va_up (va_up (va_up (va_up (va_up (va_up (va_up (va_up yi 2 k) 3 0) 17 0) 47 0) 10 2) 11 1) 12 0) 13 1) 14 2) (-1) ybs)), (yr 6, .inl (cT 3, 6, .inl ik)), (yr 8, .inl (cT 0, 6, .inl em)), (yr 9, .inl (cT 0, 6, .inl qs))] := hD
  refine lv_aload_n hx hb dM_clear_52 rfl (lv_at hl 0 rfl) ?_
  refine lv_iconst (v := (-1)) hx hb dM_clear_53 (by decide) ?_
  refine va_put (D := D) (ci := 11) (v := .int (-1)) (ty := .int) (C := R_M) (T := T_M) (N := 60) hx hb hT in_M ty_M ty_M_ok m_M hown hK hP hD hS 0 rfl rfl 16 (by decide) (hT _ w1120) (fun _ h9 => h9) rfl (by decide +kernel) rfl rfl (Nat.le_of_ble_eq_true rfl) dM_clear_54 (fun H locs hP hD hS => ?_)
  have hP : va_P D vwCl [(y, .inr (11, MO yr (va_up (va_up (va_up (va_up (va_up (va_up (va_up (va_up (va_up (va_up yi 2 k) 3 0) 17 0) 47 0) 10 2) 11 1) 12 0) 13 1) 14 2) 16 (-1)) (-1) ybs)), (yr 6, .inl (cT 3, 6, .inl ik)), (yr 8, .inl (cT 0, 6, .inl em)), (yr 9, .inl (cT 0, 6, .inl qs))] _ := hP
  have hD : va_D A [(y, .inr (11, MO yr (va_up (va_up (va_up (va_up (va_up (va_up (va_up (va_up (va_up (va_up yi 2 k) 3 0) 17 0) 47 0) 10 2) 11 1) 12 0) 13 1) 14 2) 16 (-1)) (-1) ybs)), (yr 6, .inl (cT 3, 6, .inl ik)), (yr 8, .inl (cT 0, 6, .inl em)), (yr 9, .inl (cT 0, 6, .inl qs))] := hD
  refine lv_iconst (v := 0) hx hb dM_clear_57 (by decide) ?_
  refine lv_istore_n hx hb dM_clear_58 rfl hl (by decide) rfl (fun ls hl => ?_)
  have hl : lv_has ls 3 [(2, .int 0), (0, .ref y), (1, .int k)] := hl
  refine lp_w (α := Nat × (Nat → Int32) × (Nat → Int32) × (Nat → Int32)) (fun a9 => a9.1 ≤ 6 ∧ ∀ q, q < a9.1 → a9.2.1 q = vp_nar .boolean 0 ∧ a9.2.2.1 q = 0 ∧ a9.2.2.2 q = (-2147483648)) (fun a9 => 6 - a9.1) (fun a9 => [(0, .ref y), (1, .int k), (2, .int (nI a9.1))]) (fun a9 => [(y, .inr (11, MO yr (va_up (va_up (va_up (va_up (va_up (va_up (va_up (va_up (va_up (va_up yi 2 k) 3 0) 17 0) 47 0) 10 2) 11 1) 12 0) 13 1) 14 2) 16 (-1)) (-1) ybs)), (yr 6, .inl (cT 3, 6, .inl a9.2.1)), (yr 8, .inl (cT 0, 6, .inl a9.2.2.1)), (yr 9, .inl (cT 0, 6, .inl a9.2.2.2))]) 59 ?_ (0, ik, em, qs) (show 0 ≤ 6 ∧ ∀ q, q < 0 → ik q = vp_nar .boolean 0 ∧ em q = 0 ∧ qs q = (-2147483648) from ⟨by omega, fun q h => absurd h (by omega)⟩) (lv_sub hl [1, 2, 0] rfl) hP hD hS
  intro a9 hI59 ih59 ls H locs hl hP hD hS
  obtain ⟨j, g1, g2, g3⟩ := a9
  have hI59 : j ≤ 6 ∧ ∀ q, q < j → g1 q = vp_nar .boolean 0 ∧ g2 q = 0 ∧ g3 q = (-2147483648) := hI59
  obtain ⟨ij, ig⟩ := hI59
  have hl : lv_has ls 3 [(0, .ref y), (1, .int k), (2, .int (nI j))] := hl
  have hP : va_P D vwCl [(y, .inr (11, MO yr (va_up (va_up (va_up (va_up (va_up (va_up (va_up (va_up (va_up (va_up yi 2 k) 3 0) 17 0) 47 0) 10 2) 11 1) 12 0) 13 1) 14 2) 16 (-1)) (-1) ybs)), (yr 6, .inl (cT 3, 6, .inl g1)), (yr 8, .inl (cT 0, 6, .inl g2)), (yr 9, .inl (cT 0, 6, .inl g3))] _ := hP
  have hD : va_D A [(y, .inr (11, MO yr (va_up (va_up (va_up (va_up (va_up (va_up (va_up (va_up (va_up (va_up yi 2 k) 3 0) 17 0) 47 0) 10 2) 11 1) 12 0) 13 1) 14 2) 16 (-1)) (-1) ybs)), (yr 6, .inl (cT 3, 6, .inl g1)), (yr 8, .inl (cT 0, 6, .inl g2)), (yr 9, .inl (cT 0, 6, .inl g3))] := hD
  refine lv_iload_n hx hb dM_clear_59 rfl (lv_at hl 2 rfl) ?_
  refine lv_bipush (v := 6) hx hb dM_clear_60 (by decide) ?_
  refine lv_icmp_ge (tgt := 93) hx hb dM_clear_62 rfl (fun h1 => ?_) (fun h1 => ?_)
  · have gh1 : 6 ≤ j := (nI_leI (a := 6) (b := j) (by omega) (by omega)).mp h1
    have hP9 := hP.sub (ws' := [(y, .inr (11, MO yr (va_up (va_up (va_up (va_up (va_up (va_up (va_up (va_up (va_up (va_up yi 2 k) 3 0) 17 0) 47 0) 10 2) 11 1) 12 0) 13 1) 14 2) 16 (-1)) (-1) ybs)), (yr 6, .inl (cT 3, 6, .inl g1)), (yr 8, .inl (cT 0, 6, .inl g2)), (yr 9, .inl (cT 0, 6, .inl g3))]) [0, 1, 2, 3] rfl
    have hD9 := hD.sub (ws' := [(y, .inr (11, MO yr (va_up (va_up (va_up (va_up (va_up (va_up (va_up (va_up (va_up (va_up yi 2 k) 3 0) 17 0) 47 0) 10 2) 11 1) 12 0) 13 1) 14 2) 16 (-1)) (-1) ybs)), (yr 6, .inl (cT 3, 6, .inl g1)), (yr 8, .inl (cT 0, 6, .inl g2)), (yr 9, .inl (cT 0, 6, .inl g3))]) [0, 1, 2, 3] (by decide) rfl
    refine W.widen (k := 0) (n := 0) (Nat.le_of_ble_eq_true rfl) (Nat.le_of_ble_eq_true rfl) ?_
    exact W.vret hx hb hr (fun t9 ht9 hW9 => ⟨⟨(g1, g2, g3), rfl, (show ∀ q8, q8 < 6 → g1 q8 = vp_nar .boolean 0 ∧ g2 q8 = 0 ∧ g3 q8 = (-2147483648) from fun q h => ig q (by omega)), by rw [ht9]; exact hP9, hD9⟩, hS.F ht9⟩) hS.2.2 dM_clear_93
  · have gh1 : j < 6 := Nat.not_le.mp (fun q => h1 ((nI_leI (a := 6) (b := j) (by omega) (by omega)).mpr q))
    refine lv_aload_n hx hb dM_clear_65 rfl (lv_at hl 0 rfl) ?_
    refine va_get (D := D) (ci := 11) (v := .ref (yr 6)) (C := R_M) (T := T_M) (N := 60) hx hb hT in_M hown hK hP 0 rfl rfl 6 (by decide) (hT _ w1110) (fun _ h9 => h9) rfl dM_clear_66 ?_
    refine lv_iload_n hx hb dM_clear_69 rfl (lv_at hl 2 rfl) ?_
    refine lv_iconst (v := 0) hx hb dM_clear_70 (by decide) ?_
    refine lq_zast (j := j) hx hb hK hP hD hS 1 3 rfl rfl rfl (by omega) (by omega) dM_clear_71 (fun H locs hP hD hS => ?_)
    have hP : va_P D vwCl [(y, .inr (11, MO yr (va_up (va_up (va_up (va_up (va_up (va_up (va_up (va_up (va_up (va_up yi 2 k) 3 0) 17 0) 47 0) 10 2) 11 1) 12 0) 13 1) 14 2) 16 (-1)) (-1) ybs)), (yr 6, .inl (cT 3, 6, .inl (upd g1 j (vp_nar .boolean 0)))), (yr 8, .inl (cT 0, 6, .inl g2)), (yr 9, .inl (cT 0, 6, .inl g3))] _ := hP
    have hD : va_D A [(y, .inr (11, MO yr (va_up (va_up (va_up (va_up (va_up (va_up (va_up (va_up (va_up (va_up yi 2 k) 3 0) 17 0) 47 0) 10 2) 11 1) 12 0) 13 1) 14 2) 16 (-1)) (-1) ybs)), (yr 6, .inl (cT 3, 6, .inl (upd g1 j (vp_nar .boolean 0)))), (yr 8, .inl (cT 0, 6, .inl g2)), (yr 9, .inl (cT 0, 6, .inl g3))] := hD
    refine lv_aload_n hx hb dM_clear_72 rfl (lv_at hl 0 rfl) ?_
    refine va_get (D := D) (ci := 11) (v := .ref (yr 8)) (C := R_M) (T := T_M) (N := 60) hx hb hT in_M hown hK hP 0 rfl rfl 8 (by decide) (hT _ w1112) (fun _ h9 => h9) rfl dM_clear_73 ?_
    refine lv_iload_n hx hb dM_clear_76 rfl (lv_at hl 2 rfl) ?_
    refine lv_iconst (v := 0) hx hb dM_clear_77 (by decide) ?_
    refine lq_iast (j := j) hx hb hK hP hD hS 2 0 rfl rfl rfl (by omega) (by omega) dM_clear_78 (fun H locs hP hD hS => ?_)
    have hP : va_P D vwCl [(y, .inr (11, MO yr (va_up (va_up (va_up (va_up (va_up (va_up (va_up (va_up (va_up (va_up yi 2 k) 3 0) 17 0) 47 0) 10 2) 11 1) 12 0) 13 1) 14 2) 16 (-1)) (-1) ybs)), (yr 6, .inl (cT 3, 6, .inl (upd g1 j (vp_nar .boolean 0)))), (yr 8, .inl (cT 0, 6, .inl (upd g2 j 0))), (yr 9, .inl (cT 0, 6, .inl g3))] _ := hP
    have hD : va_D A [(y, .inr (11, MO yr (va_up (va_up (va_up (va_up (va_up (va_up (va_up (va_up (va_up (va_up yi 2 k) 3 0) 17 0) 47 0) 10 2) 11 1) 12 0) 13 1) 14 2) 16 (-1)) (-1) ybs)), (yr 6, .inl (cT 3, 6, .inl (upd g1 j (vp_nar .boolean 0)))), (yr 8, .inl (cT 0, 6, .inl (upd g2 j 0))), (yr 9, .inl (cT 0, 6, .inl g3))] := hD
    refine lv_aload_n hx hb dM_clear_79 rfl (lv_at hl 0 rfl) ?_
    refine va_get (D := D) (ci := 11) (v := .ref (yr 9)) (C := R_M) (T := T_M) (N := 60) hx hb hT in_M hown hK hP 0 rfl rfl 9 (by decide) (hT _ w1113) (fun _ h9 => h9) rfl dM_clear_80 ?_
    refine lv_iload_n hx hb dM_clear_83 rfl (lv_at hl 2 rfl) ?_
    refine lv_ldc (v := (-2147483648)) hx hb hown (hT _ w1103) dM_clear_84 ?_
    refine lq_iast (j := j) hx hb hK hP hD hS 3 0 rfl rfl rfl (by omega) (by omega) dM_clear_86 (fun H locs hP hD hS => ?_)
    have hP : va_P D vwCl [(y, .inr (11, MO yr (va_up (va_up (va_up (va_up (va_up (va_up (va_up (va_up (va_up (va_up yi 2 k) 3 0) 17 0) 47 0) 10 2) 11 1) 12 0) 13 1) 14 2) 16 (-1)) (-1) ybs)), (yr 6, .inl (cT 3, 6, .inl (upd g1 j (vp_nar .boolean 0)))), (yr 8, .inl (cT 0, 6, .inl (upd g2 j 0))), (yr 9, .inl (cT 0, 6, .inl (upd g3 j (-2147483648))))] _ := hP
    have hD : va_D A [(y, .inr (11, MO yr (va_up (va_up (va_up (va_up (va_up (va_up (va_up (va_up (va_up (va_up yi 2 k) 3 0) 17 0) 47 0) 10 2) 11 1) 12 0) 13 1) 14 2) 16 (-1)) (-1) ybs)), (yr 6, .inl (cT 3, 6, .inl (upd g1 j (vp_nar .boolean 0)))), (yr 8, .inl (cT 0, 6, .inl (upd g2 j 0))), (yr 9, .inl (cT 0, 6, .inl (upd g3 j (-2147483648))))] := hD
    refine lv_iinc (k := 2) (v := nI (j + 1)) hx hb dM_clear_87 hl rfl (nI_1 j) (by decide) rfl (fun ls hl => ?_)
    have hl : lv_has ls 3 [(2, .int (nI (j + 1))), (0, .ref y), (1, .int k)] := hl
    refine lv_goto (tgt := 59) hx hb dM_clear_90 rfl ?_
    exact ih59 (j + 1, upd g1 j (vp_nar .boolean 0), upd g2 j 0, upd g3 j (-2147483648)) (show (j + 1) ≤ 6 ∧ ∀ q, q < (j + 1) → (upd g1 j (vp_nar .boolean 0)) q = vp_nar .boolean 0 ∧ (upd g2 j 0) q = 0 ∧ (upd g3 j (-2147483648)) q = (-2147483648) from ⟨by omega, fun q h => (by by_cases r : q = j; (subst r; exact ⟨pk_us, pk_us, pk_us⟩); (obtain ⟨z1, z2, z3⟩ := ig q (by omega); exact ⟨(pk_un r).trans z1, (pk_un r).trans z2, (pk_un r).trans z3⟩))⟩) (show 6 - (j + 1) < 6 - j from (by omega)) ls H locs (lv_sub hl [1, 2, 0] rfl) hP hD hS
set_option maxHeartbeats 4000000 in
set_option maxRecDepth 100000 in
theorem y_begin_ok (l : Launch) (D : va_G) (cT : Nat → ClassId) (y : Nat) (yr : Nat → Nat) (yi : Nat → Int32) (ysb : Int64) (ybs : Int64) (ik : Nat → Int32) (em : Nat → Int32) (qs : Nat → Int32) (k : Int32) (hk6 : 1 ≤ k ∧ k ≤ 6) (sz : Nat) : Met l yM_begin WM_begin ({ frames := 1, cells := 0, slots := 0, locals := 22 } : Room) (RW D vwCl [.ref y, .int k] [(y, .inr (11, MO yr yi ysb ybs)), (yr 6, .inl (cT 3, 6, .inl ik)), (yr 8, .inl (cT 0, 6, .inl em)), (yr 9, .inl (cT 0, 6, .inl qs))] (TY cT) sz) (va_Qv (fun u9 : (Nat → Int32) × (Nat → Int32) × (Nat → Int32) => ∀ q8, q8 < 6 → u9.1 q8 = vp_nar .boolean 0 ∧ u9.2.1 q8 = 0 ∧ u9.2.2 q8 = (-2147483648)) (BW D vwCl (va_A [(y, .inr (11, MO yr yi ysb ybs)), (yr 6, .inl (cT 3, 6, .inl ik)), (yr 8, .inl (cT 0, 6, .inl em)), (yr 9, .inl (cT 0, 6, .inl qs))] sz) (fun u9 : (Nat → Int32) × (Nat → Int32) × (Nat → Int32) => [(y, .inr (11, MO yr (va_up (va_up (va_up (va_up (va_up (va_up (va_up (va_up (va_up (va_up (va_up yi 1 0) 2 k) 3 0) 17 0) 47 0) 10 2) 11 1) 12 0) 13 1) 14 2) 16 (-1)) (-1) ybs)), (yr 6, .inl (cT 3, 6, .inl u9.1)), (yr 8, .inl (cT 0, 6, .inl u9.2.1)), (yr 9, .inl (cT 0, 6, .inl u9.2.2))])) (va_A [(y, .inr (11, MO yr yi ysb ybs)), (yr 6, .inl (cT 3, 6, .inl ik)), (yr 8, .inl (cT 0, 6, .inl em)), (yr 9, .inl (cT 0, 6, .inl qs))] sz)) 0 0 (va_A [(y, .inr (11, MO yr yi ysb ybs)), (yr 6, .inl (cT 3, 6, .inl ik)), (yr 8, .inl (cT 0, 6, .inl em)), (yr 9, .inl (cT 0, 6, .inl qs))] sz) := by
  refine Met.ofW (cc := cM_begin) (maxL := 2) (ret := none) (by decide) rfl ?_
  intro p e s m args below meth c s₁ B hml hv
  obtain ⟨rfl, hsz, hZ, hP, hK, hD0⟩ := hv
  have hx := B.exec
  have hb := B.bytes
  have hr := B.returns
  have hts := atoms_spec (ws := WM_begin) B.pre
  have hT : ∀ w ∈ TB, w.before _ s = true := fun w h => hts w (List.mem_cons_of_mem _ h)
  have hown : s.vm.findClass R_M = some m.cls := findClass_of_methodNamed B.named
  have hlocks := B.notSynchronized
  subst hsz
  have hD := hD0.self (sz := s.heap.size)
  generalize hAe : va_A [(y, .inr (11, MO yr yi ysb ybs)), (yr 6, .inl (cT 3, 6, .inl ik)), (yr 8, .inl (cT 0, 6, .inl em)), (yr 9, .inl (cT 0, 6, .inl qs))] s.heap.size = A at hD hZ ⊢
  have hA : ∀ q : Nat, s.heap.size ≤ q → A q := fun q h => by rw [← hAe]; exact Or.inr h
  have hS : va_S A s.heap s.heap [] := va_S.rf
  have hl := lv_entry ([.ref y, .int k]) (n := 2) (Nat.le_of_ble_eq_true rfl)
  rw [lg_entry_eq]
  generalize (lg_sl ([.ref y, .int k]) ++ List.replicate (2 - (lg_sl ([.ref y, .int k])).length) Slot.unset).toArray = ls at hl ⊢
  have hl : lv_has ls 2 [(0, .ref y), (1, .int k)] := hl
  refine lv_aload_n hx hb dM_begin_0 rfl (lv_at hl 0 rfl) ?_
  refine lv_iload_n hx hb dM_begin_1 rfl (lv_at hl 1 rfl) ?_
  refine lv_iconst (v := 1) hx hb dM_begin_2 (by decide) ?_
  refine lv_bipush (v := 6) hx hb dM_begin_3 (by decide) ?_
  refine ro_i (va_Run.run (va_runS (As := [.int k, .int 1, .int 6]) (rest := [.ref y]) ⟨hx, hb, hml, hown, hT⟩ (m_in l D cT k 1 6) ⟨callB_of 3 hT (tb_gd w1297) rfl rfl rfl (hT _ w13) (hT _ w1295) hM_in ⟨Nat.le_of_ble_eq_true rfl, Nat.le_of_ble_eq_true rfl⟩, (hT _ w1296)⟩ (RO.preS hZ hS ((show va_P D vwCl [] _ from fun _ _ h => nomatch h)) hK) rfl rfl hl.1 rfl (lv_room (Nat.le_of_ble_eq_true rfl)) dM_begin_5 ⟨Nat.le_of_ble_eq_true rfl, Nat.le_of_ble_eq_true rfl⟩)) ?_
  refine lv_if_eq (tgt := 15) hx hb dM_begin_8 rfl (fun h1 => absurd h1 (by rw [bi_t hk6]; decide)) (fun _ => ?_)
  refine lv_iconst (v := 0) hx hb dM_begin_11 (by decide) ?_
  refine lv_goto (tgt := 16) hx hb dM_begin_12 rfl ?_
  refine rw_i (wc := [(y, .inr (11, MO yr yi ysb ybs))]) (wr := [(yr 6, .inl (cT 3, 6, .inl ik)), (yr 8, .inl (cT 0, 6, .inl em)), (yr 9, .inl (cT 0, 6, .inl qs))]) hP hD hS hA [0] [1, 2, 3] rfl rfl (by decide) (by decide) (va_runV (As := [.int 0]) (rest := []) ⟨hx, hb, hml, hown, hT⟩ (m_ref0 l D cT y yr yi ysb ybs _) ⟨callB_of 1 hT (tb_gd w1301) rfl rfl rfl (hT _ w13) (hT _ w1298) hM_refused ⟨Nat.le_of_ble_eq_true rfl, Nat.le_of_ble_eq_true rfl⟩, (hT _ w1300), (hT _ wp29)⟩ (RW.preV (ci := 11) (q0 := 0) hZ hS (va_free (wc := [(y, .inr (11, MO yr yi ysb ybs))]) hD hS hA [0] rfl) (hP.sub (ws' := [(y, .inr (11, MO yr yi ysb ybs))]) [0] rfl) hK (hD.sub (ws' := [(y, .inr (11, MO yr yi ysb ybs))]) [0] (by decide) rfl) rfl rfl) rfl rfl hl.1 rfl (lv_room (Nat.le_of_ble_eq_true rfl)) dM_begin_16 ⟨Nat.le_of_ble_eq_true rfl, Nat.le_of_ble_eq_true rfl⟩) (fun ru2 u9 H locs hpu2 hP hD hS => ?_)
  have hpu2 : ru2 = 0 := hpu2
  have hP : va_P D vwCl [(yr 6, .inl (cT 3, 6, .inl ik)), (yr 8, .inl (cT 0, 6, .inl em)), (yr 9, .inl (cT 0, 6, .inl qs)), (y, .inr (11, MO yr (va_up yi 1 0) ysb ybs))] _ := hP
  have hD : va_D A [(yr 6, .inl (cT 3, 6, .inl ik)), (yr 8, .inl (cT 0, 6, .inl em)), (yr 9, .inl (cT 0, 6, .inl qs)), (y, .inr (11, MO yr (va_up yi 1 0) ysb ybs))] := hD
  refine lv_topi (fun y9 e9 => ?_)
  cases (show y9 = 0 from e9.trans hpu2)
  refine lv_if_ne (tgt := 27) hx hb dM_begin_19 rfl (fun h3 => absurd (by decide) h3) (fun _ => ?_)
  refine lv_aload_n hx hb dM_begin_22 rfl (lv_at hl 0 rfl) ?_
  refine lv_iload_n hx hb dM_begin_23 rfl (lv_at hl 1 rfl) ?_
  refine rw_v (wc := [(y, .inr (11, MO yr (va_up yi 1 0) ysb ybs)), (yr 6, .inl (cT 3, 6, .inl ik)), (yr 8, .inl (cT 0, 6, .inl em)), (yr 9, .inl (cT 0, 6, .inl qs))]) (wr := []) hP hD hS hA [3, 0, 1, 2] [] rfl rfl (by decide) (by decide) (va_runV (As := [.int k]) (rest := []) ⟨hx, hb, hml, hown, hT⟩ (m_clear l D cT y yr (va_up yi 1 0) ysb ybs ik em qs k _) ⟨callB_of 1 hT (tb_gd w1101) rfl rfl rfl (hT _ w13) (hT _ w1098) hM_clear ⟨Nat.le_of_ble_eq_true rfl, Nat.le_of_ble_eq_true rfl⟩, (hT _ w1100), (hT _ wp28)⟩ (RW.preV (ci := 11) (q0 := 0) hZ hS (va_free (wc := [(y, .inr (11, MO yr (va_up yi 1 0) ysb ybs)), (yr 6, .inl (cT 3, 6, .inl ik)), (yr 8, .inl (cT 0, 6, .inl em)), (yr 9, .inl (cT 0, 6, .inl qs))]) hD hS hA [3, 0, 1, 2] rfl) (hP.sub (ws' := [(y, .inr (11, MO yr (va_up yi 1 0) ysb ybs)), (yr 6, .inl (cT 3, 6, .inl ik)), (yr 8, .inl (cT 0, 6, .inl em)), (yr 9, .inl (cT 0, 6, .inl qs))]) [3, 0, 1, 2] rfl) hK (hD.sub (ws' := [(y, .inr (11, MO yr (va_up yi 1 0) ysb ybs)), (yr 6, .inl (cT 3, 6, .inl ik)), (yr 8, .inl (cT 0, 6, .inl em)), (yr 9, .inl (cT 0, 6, .inl qs))]) [3, 0, 1, 2] (by decide) rfl) rfl rfl) rfl rfl hl.1 rfl (lv_room (Nat.le_of_ble_eq_true rfl)) dM_begin_24 ⟨Nat.le_of_ble_eq_true rfl, Nat.le_of_ble_eq_true rfl⟩) (fun u9 H locs hpu4 hP hD hS => ?_)
  obtain ⟨h1u4, h2u4, h3u4⟩ := u9
  have hpu4 : ∀ q8, q8 < 6 → h1u4 q8 = vp_nar .boolean 0 ∧ h2u4 q8 = 0 ∧ h3u4 q8 = (-2147483648) := hpu4
  have hP : va_P D vwCl [(y, .inr (11, MO yr (va_up (va_up (va_up (va_up (va_up (va_up (va_up (va_up (va_up (va_up (va_up yi 1 0) 2 k) 3 0) 17 0) 47 0) 10 2) 11 1) 12 0) 13 1) 14 2) 16 (-1)) (-1) ybs)), (yr 6, .inl (cT 3, 6, .inl h1u4)), (yr 8, .inl (cT 0, 6, .inl h2u4)), (yr 9, .inl (cT 0, 6, .inl h3u4))] _ := hP
  have hD : va_D A [(y, .inr (11, MO yr (va_up (va_up (va_up (va_up (va_up (va_up (va_up (va_up (va_up (va_up (va_up yi 1 0) 2 k) 3 0) 17 0) 47 0) 10 2) 11 1) 12 0) 13 1) 14 2) 16 (-1)) (-1) ybs)), (yr 6, .inl (cT 3, 6, .inl h1u4)), (yr 8, .inl (cT 0, 6, .inl h2u4)), (yr 9, .inl (cT 0, 6, .inl h3u4))] := hD
  have hP9 := hP.sub (ws' := [(y, .inr (11, MO yr (va_up (va_up (va_up (va_up (va_up (va_up (va_up (va_up (va_up (va_up (va_up yi 1 0) 2 k) 3 0) 17 0) 47 0) 10 2) 11 1) 12 0) 13 1) 14 2) 16 (-1)) (-1) ybs)), (yr 6, .inl (cT 3, 6, .inl h1u4)), (yr 8, .inl (cT 0, 6, .inl h2u4)), (yr 9, .inl (cT 0, 6, .inl h3u4))]) [0, 1, 2, 3] rfl
  have hD9 := hD.sub (ws' := [(y, .inr (11, MO yr (va_up (va_up (va_up (va_up (va_up (va_up (va_up (va_up (va_up (va_up (va_up yi 1 0) 2 k) 3 0) 17 0) 47 0) 10 2) 11 1) 12 0) 13 1) 14 2) 16 (-1)) (-1) ybs)), (yr 6, .inl (cT 3, 6, .inl h1u4)), (yr 8, .inl (cT 0, 6, .inl h2u4)), (yr 9, .inl (cT 0, 6, .inl h3u4))]) [0, 1, 2, 3] (by decide) rfl
  refine W.widen (k := 0) (n := 0) (Nat.le_of_ble_eq_true rfl) (Nat.le_of_ble_eq_true rfl) ?_
  exact W.vret hx hb hr (fun t9 ht9 hW9 => ⟨⟨(h1u4, h2u4, h3u4), rfl, (show ∀ q8, q8 < 6 → h1u4 q8 = vp_nar .boolean 0 ∧ h2u4 q8 = 0 ∧ h3u4 q8 = (-2147483648) from hpu4), by rw [ht9]; exact hP9, hD9⟩, hS.F ht9⟩) hS.2.2 dM_begin_27
set_option maxHeartbeats 4000000 in
set_option maxRecDepth 100000 in
theorem y_begin_no (l : Launch) (D : va_G) (cT : Nat → ClassId) (y : Nat) (yr : Nat → Nat) (yi : Nat → Int32) (ysb : Int64) (ybs : Int64) (k : Int32) (hq : ¬ (1 ≤ k ∧ k ≤ 6)) (sz : Nat) : Met l yM_begin WM_begin ({ frames := 1, cells := 0, slots := 0, locals := 22 } : Room) (RW D vwCl [.ref y, .int k] [(y, .inr (11, MO yr yi ysb ybs))] (TY cT) sz) (va_Qv (fun u9 : Unit => True) (BW D vwCl (va_A [(y, .inr (11, MO yr yi ysb ybs))] sz) (fun u9 : Unit => [(y, .inr (11, MO yr (va_up yi 1 1) ysb ybs))])) (va_A [(y, .inr (11, MO yr yi ysb ybs))] sz)) 0 0 (va_A [(y, .inr (11, MO yr yi ysb ybs))] sz) := by
  refine Met.ofW (cc := cM_begin) (maxL := 2) (ret := none) (by decide) rfl ?_
  intro p e s m args below meth c s₁ B hml hv
  obtain ⟨rfl, hsz, hZ, hP, hK, hD0⟩ := hv
  have hx := B.exec
  have hb := B.bytes
  have hr := B.returns
  have hts := atoms_spec (ws := WM_begin) B.pre
  have hT : ∀ w ∈ TB, w.before _ s = true := fun w h => hts w (List.mem_cons_of_mem _ h)
  have hown : s.vm.findClass R_M = some m.cls := findClass_of_methodNamed B.named
  have hlocks := B.notSynchronized
  subst hsz
  have hD := hD0.self (sz := s.heap.size)
  generalize hAe : va_A [(y, .inr (11, MO yr yi ysb ybs))] s.heap.size = A at hD hZ ⊢
  have hA : ∀ q : Nat, s.heap.size ≤ q → A q := fun q h => by rw [← hAe]; exact Or.inr h
  have hS : va_S A s.heap s.heap [] := va_S.rf
  have hl := lv_entry ([.ref y, .int k]) (n := 2) (Nat.le_of_ble_eq_true rfl)
  rw [lg_entry_eq]
  generalize (lg_sl ([.ref y, .int k]) ++ List.replicate (2 - (lg_sl ([.ref y, .int k])).length) Slot.unset).toArray = ls at hl ⊢
  have hl : lv_has ls 2 [(0, .ref y), (1, .int k)] := hl
  refine lv_aload_n hx hb dM_begin_0 rfl (lv_at hl 0 rfl) ?_
  refine lv_iload_n hx hb dM_begin_1 rfl (lv_at hl 1 rfl) ?_
  refine lv_iconst (v := 1) hx hb dM_begin_2 (by decide) ?_
  refine lv_bipush (v := 6) hx hb dM_begin_3 (by decide) ?_
  refine ro_i (va_Run.run (va_runS (As := [.int k, .int 1, .int 6]) (rest := [.ref y]) ⟨hx, hb, hml, hown, hT⟩ (m_in l D cT k 1 6) ⟨callB_of 3 hT (tb_gd w1297) rfl rfl rfl (hT _ w13) (hT _ w1295) hM_in ⟨Nat.le_of_ble_eq_true rfl, Nat.le_of_ble_eq_true rfl⟩, (hT _ w1296)⟩ (RO.preS hZ hS ((show va_P D vwCl [] _ from fun _ _ h => nomatch h)) hK) rfl rfl hl.1 rfl (lv_room (Nat.le_of_ble_eq_true rfl)) dM_begin_5 ⟨Nat.le_of_ble_eq_true rfl, Nat.le_of_ble_eq_true rfl⟩)) ?_
  refine lv_if_eq (tgt := 15) hx hb dM_begin_8 rfl (fun h1 => ?_) (fun h1 => ?_)
  · refine lv_iconst (v := 1) hx hb dM_begin_15 (by decide) ?_
    refine rw_i (wc := [(y, .inr (11, MO yr yi ysb ybs))]) (wr := []) hP hD hS hA [0] [] rfl rfl (by decide) (by decide) (va_runV (As := [.int 1]) (rest := []) ⟨hx, hb, hml, hown, hT⟩ (m_ref1 l D cT y yr yi ysb ybs _) ⟨callB_of 1 hT (tb_gd w1301) rfl rfl rfl (hT _ w13) (hT _ w1298) hM_refused ⟨Nat.le_of_ble_eq_true rfl, Nat.le_of_ble_eq_true rfl⟩, (hT _ w1300), (hT _ wp29)⟩ (RW.preV (ci := 11) (q0 := 0) hZ hS (va_free (wc := [(y, .inr (11, MO yr yi ysb ybs))]) hD hS hA [0] rfl) (hP.sub (ws' := [(y, .inr (11, MO yr yi ysb ybs))]) [0] rfl) hK (hD.sub (ws' := [(y, .inr (11, MO yr yi ysb ybs))]) [0] (by decide) rfl) rfl rfl) rfl rfl hl.1 rfl (lv_room (Nat.le_of_ble_eq_true rfl)) dM_begin_16 ⟨Nat.le_of_ble_eq_true rfl, Nat.le_of_ble_eq_true rfl⟩) (fun ru2 u9 H locs hpu2 hP hD hS => ?_)
    have hpu2 : ru2 = 1 := hpu2
    have hP : va_P D vwCl [(y, .inr (11, MO yr (va_up yi 1 1) ysb ybs))] _ := hP
    have hD : va_D A [(y, .inr (11, MO yr (va_up yi 1 1) ysb ybs))] := hD
    refine lv_topi (fun y9 e9 => ?_)
    cases (show y9 = 1 from e9.trans hpu2)
    refine lv_if_ne (tgt := 27) hx hb dM_begin_19 rfl (fun _ => ?_) (fun h3 => absurd h3 (by decide))
    have hP9 := hP.sub (ws' := [(y, .inr (11, MO yr (va_up yi 1 1) ysb ybs))]) [0] rfl
    have hD9 := hD.sub (ws' := [(y, .inr (11, MO yr (va_up yi 1 1) ysb ybs))]) [0] (by decide) rfl
    refine W.widen (k := 0) (n := 0) (Nat.le_of_ble_eq_true rfl) (Nat.le_of_ble_eq_true rfl) ?_
    exact W.vret hx hb hr (fun t9 ht9 hW9 => ⟨⟨(), rfl, (show True from trivial), by rw [ht9]; exact hP9, hD9⟩, hS.F ht9⟩) hS.2.2 dM_begin_27
  · refine lv_iconst (v := 0) hx hb dM_begin_11 (by decide) ?_
    refine lv_goto (tgt := 16) hx hb dM_begin_12 rfl ?_
    refine rw_i (wc := [(y, .inr (11, MO yr yi ysb ybs))]) (wr := []) hP hD hS hA [0] [] rfl rfl (by decide) (by decide) (va_runV (As := [.int 0]) (rest := []) ⟨hx, hb, hml, hown, hT⟩ (m_ref0 l D cT y yr yi ysb ybs _) ⟨callB_of 1 hT (tb_gd w1301) rfl rfl rfl (hT _ w13) (hT _ w1298) hM_refused ⟨Nat.le_of_ble_eq_true rfl, Nat.le_of_ble_eq_true rfl⟩, (hT _ w1300), (hT _ wp29)⟩ (RW.preV (ci := 11) (q0 := 0) hZ hS (va_free (wc := [(y, .inr (11, MO yr yi ysb ybs))]) hD hS hA [0] rfl) (hP.sub (ws' := [(y, .inr (11, MO yr yi ysb ybs))]) [0] rfl) hK (hD.sub (ws' := [(y, .inr (11, MO yr yi ysb ybs))]) [0] (by decide) rfl) rfl rfl) rfl rfl hl.1 rfl (lv_room (Nat.le_of_ble_eq_true rfl)) dM_begin_16 ⟨Nat.le_of_ble_eq_true rfl, Nat.le_of_ble_eq_true rfl⟩) (fun ru4 u9 H locs hpu4 hP hD hS => ?_)
    have hpu4 : ru4 = 0 := hpu4
    have hP : va_P D vwCl [(y, .inr (11, MO yr (va_up yi 1 0) ysb ybs))] _ := hP
    have hD : va_D A [(y, .inr (11, MO yr (va_up yi 1 0) ysb ybs))] := hD
    refine lv_topi (fun y9 e9 => ?_)
    cases (show y9 = 0 from e9.trans hpu4)
    refine lv_if_ne (tgt := 27) hx hb dM_begin_19 rfl (fun h5 => absurd (by decide) h5) (fun _ => ?_)
    exact absurd (bi_1 h1) hq
set_option maxHeartbeats 4000000 in
set_option maxRecDepth 100000 in
theorem y_add_ok (l : Launch) (D : va_G) (cT : Nat → ClassId) (y : Nat) (yr : Nat → Nat) (yi : Nat → Int32) (ysb : Int64) (ybs : Int64) (tg : Nat → Int32) (vv : Nat → Int32) (n : Nat) (v : Int32) (hn : yi 3 = nI n) (hn48 : n < 48) (hv9 : (-1000) ≤ v ∧ v ≤ 1000) (sz : Nat) : Met l yM_addb WM_addb ({ frames := 1, cells := 0, slots := 0, locals := 22 } : Room) (RW D vwCl [.ref y, .int v] [(y, .inr (11, MO yr yi ysb ybs)), (yr 4, .inl (cT 0, 48, .inl tg)), (yr 5, .inl (cT 0, 288, .inl vv))] (TY cT) sz) (va_Qi (fun (r9 : Int32) (u9 : (Nat → Int32)) => r9 = nI n ∧ (∀ q8, q8 < 6 → u9 (6 * n + q8) = (-2147483648)) ∧ ∀ q8, q8 < 6 * n ∨ 6 * n + 6 ≤ q8 → u9 q8 = vv q8) (BW D vwCl (va_A [(y, .inr (11, MO yr yi ysb ybs)), (yr 4, .inl (cT 0, 48, .inl tg)), (yr 5, .inl (cT 0, 288, .inl vv))] sz) (fun u9 : (Nat → Int32) => [(y, .inr (11, MO yr (va_up (va_up yi 1 0) 3 (nI (n + 1))) ysb ybs)), (yr 4, .inl (cT 0, 48, .inl (upd tg n v))), (yr 5, .inl (cT 0, 288, .inl u9))])) (va_A [(y, .inr (11, MO yr yi ysb ybs)), (yr 4, .inl (cT 0, 48, .inl tg)), (yr 5, .inl (cT 0, 288, .inl vv))] sz)) 0 0 (va_A [(y, .inr (11, MO yr yi ysb ybs)), (yr 4, .inl (cT 0, 48, .inl tg)), (yr 5, .inl (cT 0, 288, .inl vv))] sz) := by
  refine Met.ofW (cc := cM_addb) (maxL := 3) (ret := (some .int)) (by decide) rfl ?_
  intro p e s m args below meth c s₁ B hml hv
  obtain ⟨rfl, hsz, hZ, hP, hK, hD0⟩ := hv
  have hx := B.exec
  have hb := B.bytes
  have hr := B.returns
  have hts := atoms_spec (ws := WM_addb) B.pre
  have hT : ∀ w ∈ TB, w.before _ s = true := fun w h => hts w (List.mem_cons_of_mem _ h)
  have hown : s.vm.findClass R_M = some m.cls := findClass_of_methodNamed B.named
  have hlocks := B.notSynchronized
  subst hsz
  have hD := hD0.self (sz := s.heap.size)
  generalize hAe : va_A [(y, .inr (11, MO yr yi ysb ybs)), (yr 4, .inl (cT 0, 48, .inl tg)), (yr 5, .inl (cT 0, 288, .inl vv))] s.heap.size = A at hD hZ ⊢
  have hA : ∀ q : Nat, s.heap.size ≤ q → A q := fun q h => by rw [← hAe]; exact Or.inr h
  have hS : va_S A s.heap s.heap [] := va_S.rf
  have hl := lv_entry ([.ref y, .int v]) (n := 3) (Nat.le_of_ble_eq_true rfl)
  rw [lg_entry_eq]
  generalize (lg_sl ([.ref y, .int v]) ++ List.replicate (3 - (lg_sl ([.ref y, .int v])).length) Slot.unset).toArray = ls at hl ⊢
  have hl : lv_has ls 3 [(0, .ref y), (1, .int v)] := hl
  refine lv_aload_n hx hb dM_addb_0 rfl (lv_at hl 0 rfl) ?_
  refine lv_iload_n hx hb dM_addb_1 rfl (lv_at hl 1 rfl) ?_
  refine lv_sipush (v := (-1000)) hx hb dM_addb_2 (by decide) ?_
  refine lv_sipush (v := 1000) hx hb dM_addb_5 (by decide) ?_
  refine ro_i (va_Run.run (va_runS (As := [.int v, .int (-1000), .int 1000]) (rest := [.ref y]) ⟨hx, hb, hml, hown, hT⟩ (m_in l D cT v (-1000) 1000) ⟨callB_of 3 hT (tb_gd w1297) rfl rfl rfl (hT _ w13) (hT _ w1295) hM_in ⟨Nat.le_of_ble_eq_true rfl, Nat.le_of_ble_eq_true rfl⟩, (hT _ w1296)⟩ (RO.preS hZ hS ((show va_P D vwCl [] _ from fun _ _ h => nomatch h)) hK) rfl rfl hl.1 rfl (lv_room (Nat.le_of_ble_eq_true rfl)) dM_addb_8 ⟨Nat.le_of_ble_eq_true rfl, Nat.le_of_ble_eq_true rfl⟩)) ?_
  refine lv_if_ne (tgt := 18) hx hb dM_addb_11 rfl (fun _ => ?_) (fun h1 => absurd h1 (by rw [bi_t hv9]; decide))
  refine lv_aload_n hx hb dM_addb_18 rfl (lv_at hl 0 rfl) ?_
  refine va_get (D := D) (ci := 11) (v := .int (yi 3)) (C := R_M) (T := T_M) (N := 60) hx hb hT in_M hown hK hP 0 rfl rfl 3 (by decide) (hT _ w1107) (fun _ h9 => h9) rfl dM_addb_19 ?_
  refine lv_topi (fun y9 e9 => ?_)
  cases (show y9 = nI n from e9.trans hn)
  refine lv_bipush (v := 48) hx hb dM_addb_22 (by decide) ?_
  refine lv_icmp_ne (tgt := 31) hx hb dM_addb_24 rfl (fun _ => ?_) (fun h2 => absurd h2 (fun q => absurd ((nI_eq (b := 48) (by omega) (by decide)).mp q) (by omega)))
  refine lv_iconst (v := 0) hx hb dM_addb_31 (by decide) ?_
  refine rw_i (wc := [(y, .inr (11, MO yr yi ysb ybs))]) (wr := [(yr 4, .inl (cT 0, 48, .inl tg)), (yr 5, .inl (cT 0, 288, .inl vv))]) hP hD hS hA [0] [1, 2] rfl rfl (by decide) (by decide) (va_runV (As := [.int 0]) (rest := []) ⟨hx, hb, hml, hown, hT⟩ (m_ref0 l D cT y yr yi ysb ybs _) ⟨callB_of 1 hT (tb_gd w1301) rfl rfl rfl (hT _ w13) (hT _ w1298) hM_refused ⟨Nat.le_of_ble_eq_true rfl, Nat.le_of_ble_eq_true rfl⟩, (hT _ w1300), (hT _ wp29)⟩ (RW.preV (ci := 11) (q0 := 0) hZ hS (va_free (wc := [(y, .inr (11, MO yr yi ysb ybs))]) hD hS hA [0] rfl) (hP.sub (ws' := [(y, .inr (11, MO yr yi ysb ybs))]) [0] rfl) hK (hD.sub (ws' := [(y, .inr (11, MO yr yi ysb ybs))]) [0] (by decide) rfl) rfl rfl) rfl rfl hl.1 rfl (lv_room (Nat.le_of_ble_eq_true rfl)) dM_addb_32 ⟨Nat.le_of_ble_eq_true rfl, Nat.le_of_ble_eq_true rfl⟩) (fun ru3 u9 H locs hpu3 hP hD hS => ?_)
  have hpu3 : ru3 = 0 := hpu3
  have hP : va_P D vwCl [(yr 4, .inl (cT 0, 48, .inl tg)), (yr 5, .inl (cT 0, 288, .inl vv)), (y, .inr (11, MO yr (va_up yi 1 0) ysb ybs))] _ := hP
  have hD : va_D A [(yr 4, .inl (cT 0, 48, .inl tg)), (yr 5, .inl (cT 0, 288, .inl vv)), (y, .inr (11, MO yr (va_up yi 1 0) ysb ybs))] := hD
  refine lv_topi (fun y9 e9 => ?_)
  cases (show y9 = 0 from e9.trans hpu3)
  refine lv_if_eq (tgt := 40) hx hb dM_addb_35 rfl (fun _ => ?_) (fun h4 => absurd (by decide) h4)
  refine lv_aload_n hx hb dM_addb_40 rfl (lv_at hl 0 rfl) ?_
  refine va_get (D := D) (ci := 11) (v := .ref (yr 4)) (C := R_M) (T := T_M) (N := 60) hx hb hT in_M hown hK hP 2 rfl rfl 4 (by decide) (hT _ w1108) (fun _ h9 => h9) rfl dM_addb_41 ?_
  refine lv_aload_n hx hb dM_addb_44 rfl (lv_at hl 0 rfl) ?_
  refine va_get (D := D) (ci := 11) (v := .int (yi 3)) (C := R_M) (T := T_M) (N := 60) hx hb hT in_M hown hK hP 2 rfl rfl 3 (by decide) (hT _ w1107) (fun _ h9 => h9) rfl dM_addb_45 ?_
  refine lv_topi (fun y9 e9 => ?_)
  cases (show y9 = nI n from e9.trans hn)
  refine lv_iload_n hx hb dM_addb_48 rfl (lv_at hl 1 rfl) ?_
  refine lq_iast (j := n) hx hb hK hP hD hS 0 0 rfl rfl rfl (by omega) (by omega) dM_addb_49 (fun H locs hP hD hS => ?_)
  have hP : va_P D vwCl [(yr 4, .inl (cT 0, 48, .inl (upd tg n v))), (yr 5, .inl (cT 0, 288, .inl vv)), (y, .inr (11, MO yr (va_up yi 1 0) ysb ybs))] _ := hP
  have hD : va_D A [(yr 4, .inl (cT 0, 48, .inl (upd tg n v))), (yr 5, .inl (cT 0, 288, .inl vv)), (y, .inr (11, MO yr (va_up yi 1 0) ysb ybs))] := hD
  refine lv_iconst (v := 0) hx hb dM_addb_50 (by decide) ?_
  refine lv_istore_n hx hb dM_addb_51 rfl hl (by decide) rfl (fun ls hl => ?_)
  have hl : lv_has ls 3 [(2, .int 0), (0, .ref y), (1, .int v)] := hl
  refine lp_w (α := Nat × (Nat → Int32)) (fun a9 => a9.1 ≤ 6 ∧ (∀ q, q < a9.1 → a9.2 (6 * n + q) = (-2147483648)) ∧ ∀ q, q < 6 * n ∨ 6 * n + 6 ≤ q → a9.2 q = vv q) (fun a9 => 6 - a9.1) (fun a9 => [(0, .ref y), (1, .int v), (2, .int (nI a9.1))]) (fun a9 => [(yr 4, .inl (cT 0, 48, .inl (upd tg n v))), (yr 5, .inl (cT 0, 288, .inl a9.2)), (y, .inr (11, MO yr (va_up yi 1 0) ysb ybs))]) 52 ?_ (0, vv) (show 0 ≤ 6 ∧ (∀ q, q < 0 → vv (6 * n + q) = (-2147483648)) ∧ ∀ q, q < 6 * n ∨ 6 * n + 6 ≤ q → vv q = vv q from ⟨by omega, fun q h => absurd h (by omega), fun _ _ => rfl⟩) (lv_sub hl [1, 2, 0] rfl) hP hD hS
  intro a9 hI52 ih52 ls H locs hl hP hD hS
  obtain ⟨j, g⟩ := a9
  have hI52 : j ≤ 6 ∧ (∀ q, q < j → g (6 * n + q) = (-2147483648)) ∧ ∀ q, q < 6 * n ∨ 6 * n + 6 ≤ q → g q = vv q := hI52
  obtain ⟨ij, ig, io⟩ := hI52
  have hl : lv_has ls 3 [(0, .ref y), (1, .int v), (2, .int (nI j))] := hl
  have hP : va_P D vwCl [(yr 4, .inl (cT 0, 48, .inl (upd tg n v))), (yr 5, .inl (cT 0, 288, .inl g)), (y, .inr (11, MO yr (va_up yi 1 0) ysb ybs))] _ := hP
  have hD : va_D A [(yr 4, .inl (cT 0, 48, .inl (upd tg n v))), (yr 5, .inl (cT 0, 288, .inl g)), (y, .inr (11, MO yr (va_up yi 1 0) ysb ybs))] := hD
  refine lv_iload_n hx hb dM_addb_52 rfl (lv_at hl 2 rfl) ?_
  refine lv_bipush (v := 6) hx hb dM_addb_53 (by decide) ?_
  refine lv_icmp_ge (tgt := 80) hx hb dM_addb_55 rfl (fun h5 => ?_) (fun h5 => ?_)
  · have gh5 : 6 ≤ j := (nI_leI (a := 6) (b := j) (by omega) (by omega)).mp h5
    refine lv_aload_n hx hb dM_addb_80 rfl (lv_at hl 0 rfl) ?_
    refine lv_dup hx hb dM_addb_81 rfl ?_
    refine va_get (D := D) (ci := 11) (v := .int (yi 3)) (C := R_M) (T := T_M) (N := 60) hx hb hT in_M hown hK hP 2 rfl rfl 3 (by decide) (hT _ w1107) (fun _ h9 => h9) rfl dM_addb_82 ?_
    refine lv_topi (fun y9 e9 => ?_)
    cases (show y9 = nI n from e9.trans hn)
    refine lv_iconst (v := 1) hx hb dM_addb_85 (by decide) ?_
    refine lv_iadd hx hb dM_addb_86 ?_
    refine lv_topi (fun y9 e9 => ?_)
    cases (show y9 = nI (n + 1) from e9.trans (nI_add n 1))
    refine va_put (D := D) (ci := 11) (v := .int (nI (n + 1))) (ty := .int) (C := R_M) (T := T_M) (N := 60) hx hb hT in_M ty_M ty_M_ok m_M hown hK hP hD hS 2 rfl rfl 3 (by decide) (hT _ w1107) (fun _ h9 => h9) rfl (by decide +kernel) rfl rfl (Nat.le_of_ble_eq_true rfl) dM_addb_87 (fun H locs hP hD hS => ?_)
    have hP : va_P D vwCl [(yr 4, .inl (cT 0, 48, .inl (upd tg n v))), (yr 5, .inl (cT 0, 288, .inl g)), (y, .inr (11, MO yr (va_up (va_up yi 1 0) 3 (nI (n + 1))) ysb ybs))] _ := hP
    have hD : va_D A [(yr 4, .inl (cT 0, 48, .inl (upd tg n v))), (yr 5, .inl (cT 0, 288, .inl g)), (y, .inr (11, MO yr (va_up (va_up yi 1 0) 3 (nI (n + 1))) ysb ybs))] := hD
    refine lv_aload_n hx hb dM_addb_90 rfl (lv_at hl 0 rfl) ?_
    refine va_get (D := D) (ci := 11) (v := .int (nI (n + 1))) (C := R_M) (T := T_M) (N := 60) hx hb hT in_M hown hK hP 2 rfl rfl 3 (by decide) (hT _ w1107) (fun _ h9 => h9) rfl dM_addb_91 ?_
    refine lv_iconst (v := 1) hx hb dM_addb_94 (by decide) ?_
    refine lv_isub hx hb dM_addb_95 ?_
    refine lv_topi (fun y9 e9 => ?_)
    cases (show y9 = nI n from e9.trans (nI_pred n))
    have hP9 := hP.sub (ws' := [(y, .inr (11, MO yr (va_up (va_up yi 1 0) 3 (nI (n + 1))) ysb ybs)), (yr 4, .inl (cT 0, 48, .inl (upd tg n v))), (yr 5, .inl (cT 0, 288, .inl g))]) [2, 0, 1] rfl
    have hD9 := hD.sub (ws' := [(y, .inr (11, MO yr (va_up (va_up yi 1 0) 3 (nI (n + 1))) ysb ybs)), (yr 4, .inl (cT 0, 48, .inl (upd tg n v))), (yr 5, .inl (cT 0, 288, .inl g))]) [2, 0, 1] (by decide) rfl
    refine W.widen (k := 0) (n := 0) (Nat.le_of_ble_eq_true rfl) (Nat.le_of_ble_eq_true rfl) ?_
    exact W.iret (v := nI n) hx hb hr (fun t9 ht9 hW9 => ⟨⟨nI n, g, rfl, (show (nI n) = nI n ∧ (∀ q8, q8 < 6 → g (6 * n + q8) = (-2147483648)) ∧ ∀ q8, q8 < 6 * n ∨ 6 * n + 6 ≤ q8 → g q8 = vv q8 from ⟨rfl, fun q h => ig q (by omega), io⟩), by rw [ht9]; exact hP9, hD9⟩, hS.F ht9⟩) hS.2.2 dM_addb_96
  · have gh5 : j < 6 := Nat.not_le.mp (fun q => h5 ((nI_leI (a := 6) (b := j) (by omega) (by omega)).mpr q))
    refine lv_aload_n hx hb dM_addb_58 rfl (lv_at hl 0 rfl) ?_
    refine va_get (D := D) (ci := 11) (v := .ref (yr 5)) (C := R_M) (T := T_M) (N := 60) hx hb hT in_M hown hK hP 2 rfl rfl 5 (by decide) (hT _ w1109) (fun _ h9 => h9) rfl dM_addb_59 ?_
    refine lv_bipush (v := 6) hx hb dM_addb_62 (by decide) ?_
    refine lv_aload_n hx hb dM_addb_64 rfl (lv_at hl 0 rfl) ?_
    refine va_get (D := D) (ci := 11) (v := .int (yi 3)) (C := R_M) (T := T_M) (N := 60) hx hb hT in_M hown hK hP 2 rfl rfl 3 (by decide) (hT _ w1107) (fun _ h9 => h9) rfl dM_addb_65 ?_
    refine lv_topi (fun y9 e9 => ?_)
    cases (show y9 = nI n from e9.trans hn)
    refine lv_imul hx hb dM_addb_68 ?_
    refine lv_topi (fun y9 e9 => ?_)
    cases (show y9 = nI (6 * n) from e9.trans (pk_mul 6 n))
    refine lv_iload_n hx hb dM_addb_69 rfl (lv_at hl 2 rfl) ?_
    refine lv_iadd hx hb dM_addb_70 ?_
    refine lv_topi (fun y9 e9 => ?_)
    cases (show y9 = nI ((6 * n) + j) from e9.trans (nI_add (6 * n) j))
    refine lv_ldc (v := (-2147483648)) hx hb hown (hT _ w1103) dM_addb_71 ?_
    refine lq_iast (j := (6 * n) + j) hx hb hK hP hD hS 1 0 rfl rfl rfl (by omega) (by omega) dM_addb_73 (fun H locs hP hD hS => ?_)
    have hP : va_P D vwCl [(yr 4, .inl (cT 0, 48, .inl (upd tg n v))), (yr 5, .inl (cT 0, 288, .inl (upd g ((6 * n) + j) (-2147483648)))), (y, .inr (11, MO yr (va_up yi 1 0) ysb ybs))] _ := hP
    have hD : va_D A [(yr 4, .inl (cT 0, 48, .inl (upd tg n v))), (yr 5, .inl (cT 0, 288, .inl (upd g ((6 * n) + j) (-2147483648)))), (y, .inr (11, MO yr (va_up yi 1 0) ysb ybs))] := hD
    refine lv_iinc (k := 2) (v := nI (j + 1)) hx hb dM_addb_74 hl rfl (nI_1 j) (by decide) rfl (fun ls hl => ?_)
    have hl : lv_has ls 3 [(2, .int (nI (j + 1))), (0, .ref y), (1, .int v)] := hl
    refine lv_goto (tgt := 52) hx hb dM_addb_77 rfl ?_
    exact ih52 (j + 1, upd g (6 * n + j) (-2147483648)) (show (j + 1) ≤ 6 ∧ (∀ q, q < (j + 1) → (upd g (6 * n + j) (-2147483648)) (6 * n + q) = (-2147483648)) ∧ ∀ q, q < 6 * n ∨ 6 * n + 6 ≤ q → (upd g (6 * n + j) (-2147483648)) q = vv q from ⟨by omega, fun q h => (by by_cases r : q = j; (subst r; exact pk_us); (exact (pk_un (by omega)).trans (ig q (by omega)))), fun q h => (pk_un (by omega)).trans (io q h)⟩) (show 6 - (j + 1) < 6 - j from (by omega)) ls H locs (lv_sub hl [1, 2, 0] rfl) hP hD hS
