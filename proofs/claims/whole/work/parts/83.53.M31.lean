set_option maxHeartbeats 4000000 in
set_option maxRecDepth 100000 in
theorem y_kinds_ok (l : Launch) (D : va_G) (cT : Nat → ClassId) (y : Nat) (yr : Nat → Nat) (yi : Nat → Int32) (ysb : Int64) (ybs : Int64) (ik : Nat → Int32) (em : Nat → Int32) (vv : Nat → Int32) (c0 : Nat) (isv : Int32) (n : Nat) (hn : yi 3 = nI n) (hn48 : n ≤ 48) (hc0 : 0 ≤ nI c0 ∧ nI c0 ≤ yi 2 - 1) (hc6 : c0 < 6) (hik : ik c0 = 0 ∨ ik c0 = 1) (hk9 : isv = 0 ∨ KAL vv c0 n) (sz : Nat) : Met l yM_kinds WM_kinds ({ frames := 2, cells := 0, slots := 0, locals := 43 } : Room) (RW D vwCl [.ref y, .int (nI c0), .int isv] [(y, .inr (11, MO yr yi ysb ybs)), (yr 6, .inl (cT 3, 6, .inl ik)), (yr 8, .inl (cT 0, 6, .inl em)), (yr 5, .inl (cT 0, 288, .inl vv))] (TY cT) sz) (va_Qi (fun (r9 : Int32) (u9 : Unit) => r9 = ik c0) (BW D vwCl (va_A [(y, .inr (11, MO yr yi ysb ybs)), (yr 6, .inl (cT 3, 6, .inl ik)), (yr 8, .inl (cT 0, 6, .inl em)), (yr 5, .inl (cT 0, 288, .inl vv))] sz) (fun u9 : Unit => [(y, .inr (11, MO yr (va_up yi 1 0) ysb ybs)), (yr 6, .inl (cT 3, 6, .inl (upd ik c0 (vp_nar .boolean isv)))), (yr 8, .inl (cT 0, 6, .inl (upd em c0 0))), (yr 5, .inl (cT 0, 288, .inl vv))])) (va_A [(y, .inr (11, MO yr yi ysb ybs)), (yr 6, .inl (cT 3, 6, .inl ik)), (yr 8, .inl (cT 0, 6, .inl em)), (yr 5, .inl (cT 0, 288, .inl vv))] sz)) 0 0 (va_A [(y, .inr (11, MO yr yi ysb ybs)), (yr 6, .inl (cT 3, 6, .inl ik)), (yr 8, .inl (cT 0, 6, .inl em)), (yr 5, .inl (cT 0, 288, .inl vv))] sz) := by
  refine Met.ofW (cc := cM_kinds) (maxL := 6) (ret := (some .boolean)) (by decide) rfl ?_
  intro p e s m args below meth c s₁ B hml hv
  obtain ⟨rfl, hsz, hZ, hP, hK, hD0⟩ := hv
  have hx := B.exec
  have hb := B.bytes
  have hr := B.returns
  have hts := atoms_spec (ws := WM_kinds) B.pre
  have hT : ∀ w ∈ TB, w.before _ s = true := fun w h => hts w (List.mem_cons_of_mem _ h)
  have hown : s.vm.findClass R_M = some m.cls := findClass_of_methodNamed B.named
  have hlocks := B.notSynchronized
  subst hsz
  have hD := hD0.self (sz := s.heap.size)
  generalize hAe : va_A [(y, .inr (11, MO yr yi ysb ybs)), (yr 6, .inl (cT 3, 6, .inl ik)), (yr 8, .inl (cT 0, 6, .inl em)), (yr 5, .inl (cT 0, 288, .inl vv))] s.heap.size = A at hD hZ ⊢
  have hA : ∀ q : Nat, s.heap.size ≤ q → A q := fun q h => by rw [← hAe]; exact Or.inr h
  have hS : va_S A s.heap s.heap [] := va_S.rf
  have hl := lv_entry ([.ref y, .int (nI c0), .int isv]) (n := 6) (Nat.le_of_ble_eq_true rfl)
  rw [lg_entry_eq]
  generalize (lg_sl ([.ref y, .int (nI c0), .int isv]) ++ List.replicate (6 - (lg_sl ([.ref y, .int (nI c0), .int isv])).length) Slot.unset).toArray = ls at hl ⊢
  have hl : lv_has ls 6 [(0, .ref y), (1, .int (nI c0)), (2, .int isv)] := hl
  refine lv_iconst (v := 0) hx hb dM_kinds_0 (by decide) ?_
  refine lv_istore_n hx hb dM_kinds_1 rfl hl (by decide) rfl (fun ls hl => ?_)
  have hl : lv_has ls 6 [(3, .int 0), (0, .ref y), (1, .int (nI c0)), (2, .int isv)] := hl
  refine lv_iconst (v := 0) hx hb dM_kinds_2 (by decide) ?_
  refine lv_istore hx hb dM_kinds_3 hl (by decide) rfl (fun ls hl => ?_)
  have hl : lv_has ls 6 [(4, .int 0), (3, .int 0), (0, .ref y), (1, .int (nI c0)), (2, .int isv)] := hl
  refine lp_r (α := Nat × Bool) (fun a9 => a9.1 ≤ n ∧ (a9.2 = false ↔ KAL vv c0 a9.1)) (fun a9 => n - a9.1) (fun a9 => [(0, .ref y), (1, .int (nI c0)), (2, .int isv), (3, .int (bn a9.2)), (4, .int (nI a9.1))]) 5 ?_ (0, false) (show 0 ≤ n ∧ (false = false ↔ KAL vv c0 0) from ⟨by omega, ⟨fun _ q h => absurd h (by omega), fun _ => rfl⟩⟩) (lv_sub hl [2, 3, 4, 1, 0] rfl)
  intro a9 hI5 ih5 ls hl
  obtain ⟨r, bad⟩ := a9
  have hI5 : r ≤ n ∧ (bad = false ↔ KAL vv c0 r) := hI5
  obtain ⟨ir, ib⟩ := hI5
  have hl : lv_has ls 6 [(0, .ref y), (1, .int (nI c0)), (2, .int isv), (3, .int (bn bad)), (4, .int (nI r))] := hl
  refine lv_iload hx hb dM_kinds_5 (lv_at hl 4 rfl) ?_
  refine lv_aload_n hx hb dM_kinds_7 rfl (lv_at hl 0 rfl) ?_
  refine va_get (D := D) (ci := 11) (v := .int (yi 3)) (C := R_M) (T := T_M) (N := 60) hx hb hT in_M hown hK hP 0 rfl rfl 3 (by decide) (hT _ w1107) (fun _ h9 => h9) rfl dM_kinds_8 ?_
  refine lv_topi (fun y9 e9 => ?_)
  cases (show y9 = nI n from e9.trans hn)
  refine lv_icmp_ge (tgt := 70) hx hb dM_kinds_11 rfl (fun h1 => ?_) (fun h1 => ?_)
  · have gh1 : n ≤ r := (nI_leI (a := n) (b := r) (by omega) (by omega)).mp h1
    refine lv_aload_n hx hb dM_kinds_70 rfl (lv_at hl 0 rfl) ?_
    refine lv_aload_n hx hb dM_kinds_71 rfl (lv_at hl 0 rfl) ?_
    refine lv_iload_n hx hb dM_kinds_72 rfl (lv_at hl 1 rfl) ?_
    refine ro_i (va_Run.run (va_runV (As := [.int (nI c0)]) (rest := [.ref y]) ⟨hx, hb, hml, hown, hT⟩ (m_noColumn l D cT y yr yi ysb ybs (nI c0)) ⟨callB_of 1 hT (tb_gd w1317) rfl rfl rfl (hT _ w13) (hT _ w1314) hM_noColumn ⟨Nat.le_of_ble_eq_true rfl, Nat.le_of_ble_eq_true rfl⟩, (hT _ w1316), (hT _ wp31)⟩ (RO.preV (ci := 11) (q0 := 0) hZ hS (hP.sub (ws' := [(y, .inr (11, MO yr yi ysb ybs))]) [0] rfl) hK rfl rfl) rfl rfl hl.1 rfl (lv_room (Nat.le_of_ble_eq_true rfl)) dM_kinds_73 ⟨Nat.le_of_ble_eq_true rfl, Nat.le_of_ble_eq_true rfl⟩)) ?_
    refine lv_if_eq (tgt := 83) hx hb dM_kinds_76 rfl (fun _ => ?_) (fun h2 => absurd (bi_f (fun q => q hc0)) h2)
    refine lv_iload_n hx hb dM_kinds_83 rfl (lv_at hl 2 rfl) ?_
    refine lv_if_eq (tgt := 95) hx hb dM_kinds_84 rfl (fun h3 => ?_) (fun h3 => ?_)
    · refine lv_iconst (v := 0) hx hb dM_kinds_95 (by decide) ?_
      refine rw_i (wc := [(y, .inr (11, MO yr yi ysb ybs))]) (wr := [(yr 6, .inl (cT 3, 6, .inl ik)), (yr 8, .inl (cT 0, 6, .inl em)), (yr 5, .inl (cT 0, 288, .inl vv))]) hP hD hS hA [0] [1, 2, 3] rfl rfl (by decide) (by decide) (va_runV (As := [.int 0]) (rest := []) ⟨hx, hb, hml, hown, hT⟩ (m_ref0 l D cT y yr yi ysb ybs _) ⟨callB_of 1 hT (tb_gd w1301) rfl rfl rfl (hT _ w13) (hT _ w1298) hM_refused ⟨Nat.le_of_ble_eq_true rfl, Nat.le_of_ble_eq_true rfl⟩, (hT _ w1300), (hT _ wp29)⟩ (RW.preV (ci := 11) (q0 := 0) hZ hS (va_free (wc := [(y, .inr (11, MO yr yi ysb ybs))]) hD hS hA [0] rfl) (hP.sub (ws' := [(y, .inr (11, MO yr yi ysb ybs))]) [0] rfl) hK (hD.sub (ws' := [(y, .inr (11, MO yr yi ysb ybs))]) [0] (by decide) rfl) rfl rfl) rfl rfl hl.1 rfl (lv_room (Nat.le_of_ble_eq_true rfl)) dM_kinds_96 ⟨Nat.le_of_ble_eq_true rfl, Nat.le_of_ble_eq_true rfl⟩) (fun ru4 u9 H locs hpu4 hP hD hS => ?_)
      have hpu4 : ru4 = 0 := hpu4
      have hP : va_P D vwCl [(yr 6, .inl (cT 3, 6, .inl ik)), (yr 8, .inl (cT 0, 6, .inl em)), (yr 5, .inl (cT 0, 288, .inl vv)), (y, .inr (11, MO yr (va_up yi 1 0) ysb ybs))] _ := hP
      have hD : va_D A [(yr 6, .inl (cT 3, 6, .inl ik)), (yr 8, .inl (cT 0, 6, .inl em)), (yr 5, .inl (cT 0, 288, .inl vv)), (y, .inr (11, MO yr (va_up yi 1 0) ysb ybs))] := hD
      refine lv_topi (fun y9 e9 => ?_)
      cases (show y9 = 0 from e9.trans hpu4)
      refine lv_if_eq (tgt := 104) hx hb dM_kinds_99 rfl (fun _ => ?_) (fun h5 => absurd (by decide) h5)
      refine lv_aload_n hx hb dM_kinds_104 rfl (lv_at hl 0 rfl) ?_
      refine va_get (D := D) (ci := 11) (v := .ref (yr 6)) (C := R_M) (T := T_M) (N := 60) hx hb hT in_M hown hK hP 3 rfl rfl 6 (by decide) (hT _ w1110) (fun _ h9 => h9) rfl dM_kinds_105 ?_
      refine lv_iload_n hx hb dM_kinds_108 rfl (lv_at hl 1 rfl) ?_
      refine lq_zald (j := c0) hx hb hK hP 0 3 rfl rfl rfl (by omega) (by omega) dM_kinds_109 ?_
      refine lv_istore hx hb dM_kinds_110 hl (by decide) rfl (fun ls hl => ?_)
      have hl : lv_has ls 6 [(4, .int (ik c0)), (0, .ref y), (1, .int (nI c0)), (2, .int isv), (3, .int (bn bad))] := hl
      refine lv_aload_n hx hb dM_kinds_112 rfl (lv_at hl 1 rfl) ?_
      refine va_get (D := D) (ci := 11) (v := .ref (yr 6)) (C := R_M) (T := T_M) (N := 60) hx hb hT in_M hown hK hP 3 rfl rfl 6 (by decide) (hT _ w1110) (fun _ h9 => h9) rfl dM_kinds_113 ?_
      refine lv_iload_n hx hb dM_kinds_116 rfl (lv_at hl 2 rfl) ?_
      refine lv_iload_n hx hb dM_kinds_117 rfl (lv_at hl 3 rfl) ?_
      refine lq_zast (j := c0) hx hb hK hP hD hS 0 3 rfl rfl rfl (by omega) (by omega) dM_kinds_118 (fun H locs hP hD hS => ?_)
      have hP : va_P D vwCl [(yr 6, .inl (cT 3, 6, .inl (upd ik c0 (vp_nar .boolean isv)))), (yr 8, .inl (cT 0, 6, .inl em)), (yr 5, .inl (cT 0, 288, .inl vv)), (y, .inr (11, MO yr (va_up yi 1 0) ysb ybs))] _ := hP
      have hD : va_D A [(yr 6, .inl (cT 3, 6, .inl (upd ik c0 (vp_nar .boolean isv)))), (yr 8, .inl (cT 0, 6, .inl em)), (yr 5, .inl (cT 0, 288, .inl vv)), (y, .inr (11, MO yr (va_up yi 1 0) ysb ybs))] := hD
      refine lv_aload_n hx hb dM_kinds_119 rfl (lv_at hl 1 rfl) ?_
      refine va_get (D := D) (ci := 11) (v := .ref (yr 8)) (C := R_M) (T := T_M) (N := 60) hx hb hT in_M hown hK hP 3 rfl rfl 8 (by decide) (hT _ w1112) (fun _ h9 => h9) rfl dM_kinds_120 ?_
      refine lv_iload_n hx hb dM_kinds_123 rfl (lv_at hl 2 rfl) ?_
      refine lv_iconst (v := 0) hx hb dM_kinds_124 (by decide) ?_
      refine lq_iast (j := c0) hx hb hK hP hD hS 1 0 rfl rfl rfl (by omega) (by omega) dM_kinds_125 (fun H locs hP hD hS => ?_)
      have hP : va_P D vwCl [(yr 6, .inl (cT 3, 6, .inl (upd ik c0 (vp_nar .boolean isv)))), (yr 8, .inl (cT 0, 6, .inl (upd em c0 0))), (yr 5, .inl (cT 0, 288, .inl vv)), (y, .inr (11, MO yr (va_up yi 1 0) ysb ybs))] _ := hP
      have hD : va_D A [(yr 6, .inl (cT 3, 6, .inl (upd ik c0 (vp_nar .boolean isv)))), (yr 8, .inl (cT 0, 6, .inl (upd em c0 0))), (yr 5, .inl (cT 0, 288, .inl vv)), (y, .inr (11, MO yr (va_up yi 1 0) ysb ybs))] := hD
      refine lv_iload hx hb dM_kinds_126 (lv_at hl 0 rfl) ?_
      have hP9 := hP.sub (ws' := [(y, .inr (11, MO yr (va_up yi 1 0) ysb ybs)), (yr 6, .inl (cT 3, 6, .inl (upd ik c0 (vp_nar .boolean isv)))), (yr 8, .inl (cT 0, 6, .inl (upd em c0 0))), (yr 5, .inl (cT 0, 288, .inl vv))]) [3, 0, 1, 2] rfl
      have hD9 := hD.sub (ws' := [(y, .inr (11, MO yr (va_up yi 1 0) ysb ybs)), (yr 6, .inl (cT 3, 6, .inl (upd ik c0 (vp_nar .boolean isv)))), (yr 8, .inl (cT 0, 6, .inl (upd em c0 0))), (yr 5, .inl (cT 0, 288, .inl vv))]) [3, 0, 1, 2] (by decide) rfl
      refine W.widen (k := 0) (n := 0) (Nat.le_of_ble_eq_true rfl) (Nat.le_of_ble_eq_true rfl) ?_
      exact W.zret (v := ik c0) hx hb hr (nar_z hik) (fun t9 ht9 hW9 => ⟨⟨ik c0, (), rfl, (show (ik c0) = ik c0 from rfl), by rw [ht9]; exact hP9, hD9⟩, hS.F ht9⟩) hS.2.2 dM_kinds_128
    · refine lv_iload_n hx hb dM_kinds_87 rfl (lv_at hl 3 rfl) ?_
      refine lv_if_eq (tgt := 95) hx hb dM_kinds_88 rfl (fun h6 => ?_) (fun h6 => ?_)
      · refine lv_iconst (v := 0) hx hb dM_kinds_95 (by decide) ?_
        refine rw_i (wc := [(y, .inr (11, MO yr yi ysb ybs))]) (wr := [(yr 6, .inl (cT 3, 6, .inl ik)), (yr 8, .inl (cT 0, 6, .inl em)), (yr 5, .inl (cT 0, 288, .inl vv))]) hP hD hS hA [0] [1, 2, 3] rfl rfl (by decide) (by decide) (va_runV (As := [.int 0]) (rest := []) ⟨hx, hb, hml, hown, hT⟩ (m_ref0 l D cT y yr yi ysb ybs _) ⟨callB_of 1 hT (tb_gd w1301) rfl rfl rfl (hT _ w13) (hT _ w1298) hM_refused ⟨Nat.le_of_ble_eq_true rfl, Nat.le_of_ble_eq_true rfl⟩, (hT _ w1300), (hT _ wp29)⟩ (RW.preV (ci := 11) (q0 := 0) hZ hS (va_free (wc := [(y, .inr (11, MO yr yi ysb ybs))]) hD hS hA [0] rfl) (hP.sub (ws' := [(y, .inr (11, MO yr yi ysb ybs))]) [0] rfl) hK (hD.sub (ws' := [(y, .inr (11, MO yr yi ysb ybs))]) [0] (by decide) rfl) rfl rfl) rfl rfl hl.1 rfl (lv_room (Nat.le_of_ble_eq_true rfl)) dM_kinds_96 ⟨Nat.le_of_ble_eq_true rfl, Nat.le_of_ble_eq_true rfl⟩) (fun ru7 u9 H locs hpu7 hP hD hS => ?_)
        have hpu7 : ru7 = 0 := hpu7
        have hP : va_P D vwCl [(yr 6, .inl (cT 3, 6, .inl ik)), (yr 8, .inl (cT 0, 6, .inl em)), (yr 5, .inl (cT 0, 288, .inl vv)), (y, .inr (11, MO yr (va_up yi 1 0) ysb ybs))] _ := hP
        have hD : va_D A [(yr 6, .inl (cT 3, 6, .inl ik)), (yr 8, .inl (cT 0, 6, .inl em)), (yr 5, .inl (cT 0, 288, .inl vv)), (y, .inr (11, MO yr (va_up yi 1 0) ysb ybs))] := hD
        refine lv_topi (fun y9 e9 => ?_)
        cases (show y9 = 0 from e9.trans hpu7)
        refine lv_if_eq (tgt := 104) hx hb dM_kinds_99 rfl (fun _ => ?_) (fun h8 => absurd (by decide) h8)
        refine lv_aload_n hx hb dM_kinds_104 rfl (lv_at hl 0 rfl) ?_
        refine va_get (D := D) (ci := 11) (v := .ref (yr 6)) (C := R_M) (T := T_M) (N := 60) hx hb hT in_M hown hK hP 3 rfl rfl 6 (by decide) (hT _ w1110) (fun _ h9 => h9) rfl dM_kinds_105 ?_
        refine lv_iload_n hx hb dM_kinds_108 rfl (lv_at hl 1 rfl) ?_
        refine lq_zald (j := c0) hx hb hK hP 0 3 rfl rfl rfl (by omega) (by omega) dM_kinds_109 ?_
        refine lv_istore hx hb dM_kinds_110 hl (by decide) rfl (fun ls hl => ?_)
        have hl : lv_has ls 6 [(4, .int (ik c0)), (0, .ref y), (1, .int (nI c0)), (2, .int isv), (3, .int (bn bad))] := hl
        refine lv_aload_n hx hb dM_kinds_112 rfl (lv_at hl 1 rfl) ?_
        refine va_get (D := D) (ci := 11) (v := .ref (yr 6)) (C := R_M) (T := T_M) (N := 60) hx hb hT in_M hown hK hP 3 rfl rfl 6 (by decide) (hT _ w1110) (fun _ h9 => h9) rfl dM_kinds_113 ?_
        refine lv_iload_n hx hb dM_kinds_116 rfl (lv_at hl 2 rfl) ?_
        refine lv_iload_n hx hb dM_kinds_117 rfl (lv_at hl 3 rfl) ?_
        refine lq_zast (j := c0) hx hb hK hP hD hS 0 3 rfl rfl rfl (by omega) (by omega) dM_kinds_118 (fun H locs hP hD hS => ?_)
        have hP : va_P D vwCl [(yr 6, .inl (cT 3, 6, .inl (upd ik c0 (vp_nar .boolean isv)))), (yr 8, .inl (cT 0, 6, .inl em)), (yr 5, .inl (cT 0, 288, .inl vv)), (y, .inr (11, MO yr (va_up yi 1 0) ysb ybs))] _ := hP
        have hD : va_D A [(yr 6, .inl (cT 3, 6, .inl (upd ik c0 (vp_nar .boolean isv)))), (yr 8, .inl (cT 0, 6, .inl em)), (yr 5, .inl (cT 0, 288, .inl vv)), (y, .inr (11, MO yr (va_up yi 1 0) ysb ybs))] := hD
        refine lv_aload_n hx hb dM_kinds_119 rfl (lv_at hl 1 rfl) ?_
        refine va_get (D := D) (ci := 11) (v := .ref (yr 8)) (C := R_M) (T := T_M) (N := 60) hx hb hT in_M hown hK hP 3 rfl rfl 8 (by decide) (hT _ w1112) (fun _ h9 => h9) rfl dM_kinds_120 ?_
        refine lv_iload_n hx hb dM_kinds_123 rfl (lv_at hl 2 rfl) ?_
        refine lv_iconst (v := 0) hx hb dM_kinds_124 (by decide) ?_
        refine lq_iast (j := c0) hx hb hK hP hD hS 1 0 rfl rfl rfl (by omega) (by omega) dM_kinds_125 (fun H locs hP hD hS => ?_)
        have hP : va_P D vwCl [(yr 6, .inl (cT 3, 6, .inl (upd ik c0 (vp_nar .boolean isv)))), (yr 8, .inl (cT 0, 6, .inl (upd em c0 0))), (yr 5, .inl (cT 0, 288, .inl vv)), (y, .inr (11, MO yr (va_up yi 1 0) ysb ybs))] _ := hP
        have hD : va_D A [(yr 6, .inl (cT 3, 6, .inl (upd ik c0 (vp_nar .boolean isv)))), (yr 8, .inl (cT 0, 6, .inl (upd em c0 0))), (yr 5, .inl (cT 0, 288, .inl vv)), (y, .inr (11, MO yr (va_up yi 1 0) ysb ybs))] := hD
        refine lv_iload hx hb dM_kinds_126 (lv_at hl 0 rfl) ?_
        have hP9 := hP.sub (ws' := [(y, .inr (11, MO yr (va_up yi 1 0) ysb ybs)), (yr 6, .inl (cT 3, 6, .inl (upd ik c0 (vp_nar .boolean isv)))), (yr 8, .inl (cT 0, 6, .inl (upd em c0 0))), (yr 5, .inl (cT 0, 288, .inl vv))]) [3, 0, 1, 2] rfl
        have hD9 := hD.sub (ws' := [(y, .inr (11, MO yr (va_up yi 1 0) ysb ybs)), (yr 6, .inl (cT 3, 6, .inl (upd ik c0 (vp_nar .boolean isv)))), (yr 8, .inl (cT 0, 6, .inl (upd em c0 0))), (yr 5, .inl (cT 0, 288, .inl vv))]) [3, 0, 1, 2] (by decide) rfl
        refine W.widen (k := 0) (n := 0) (Nat.le_of_ble_eq_true rfl) (Nat.le_of_ble_eq_true rfl) ?_
        exact W.zret (v := ik c0) hx hb hr (nar_z hik) (fun t9 ht9 hW9 => ⟨⟨ik c0, (), rfl, (show (ik c0) = ik c0 from rfl), by rw [ht9]; exact hP9, hD9⟩, hS.F ht9⟩) hS.2.2 dM_kinds_128
      · exact absurd (hk9.elim (fun q => absurd q h3) (fun q => bn_0.mpr (ib.mpr (fun q1 h1 => q q1 (by omega))))) h6
  · have gh1 : r < n := Nat.not_le.mp (fun q => h1 ((nI_leI (a := n) (b := r) (by omega) (by omega)).mpr q))
    refine lv_aload_n hx hb dM_kinds_14 rfl (lv_at hl 0 rfl) ?_
    refine lv_iload_n hx hb dM_kinds_15 rfl (lv_at hl 1 rfl) ?_
    refine ro_i (va_Run.run (va_runV (As := [.int (nI c0)]) (rest := []) ⟨hx, hb, hml, hown, hT⟩ (m_noColumn l D cT y yr yi ysb ybs (nI c0)) ⟨callB_of 1 hT (tb_gd w1317) rfl rfl rfl (hT _ w13) (hT _ w1314) hM_noColumn ⟨Nat.le_of_ble_eq_true rfl, Nat.le_of_ble_eq_true rfl⟩, (hT _ w1316), (hT _ wp31)⟩ (RO.preV (ci := 11) (q0 := 0) hZ hS (hP.sub (ws' := [(y, .inr (11, MO yr yi ysb ybs))]) [0] rfl) hK rfl rfl) rfl rfl hl.1 rfl (lv_room (Nat.le_of_ble_eq_true rfl)) dM_kinds_16 ⟨Nat.le_of_ble_eq_true rfl, Nat.le_of_ble_eq_true rfl⟩)) ?_
    refine lv_if_ne (tgt := 70) hx hb dM_kinds_19 rfl (fun h9 => absurd (bi_f (fun q => q hc0)) h9) (fun _ => ?_)
    refine lv_aload_n hx hb dM_kinds_22 rfl (lv_at hl 0 rfl) ?_
    refine va_get (D := D) (ci := 11) (v := .ref (yr 5)) (C := R_M) (T := T_M) (N := 60) hx hb hT in_M hown hK hP 0 rfl rfl 5 (by decide) (hT _ w1109) (fun _ h9 => h9) rfl dM_kinds_23 ?_
    refine lv_bipush (v := 6) hx hb dM_kinds_26 (by decide) ?_
    refine lv_iload hx hb dM_kinds_28 (lv_at hl 4 rfl) ?_
    refine lv_imul hx hb dM_kinds_30 ?_
    refine lv_topi (fun y9 e9 => ?_)
    cases (show y9 = nI (6 * r) from e9.trans (pk_mul 6 r))
    refine lv_iload_n hx hb dM_kinds_31 rfl (lv_at hl 1 rfl) ?_
    refine lv_iadd hx hb dM_kinds_32 ?_
    refine lv_topi (fun y9 e9 => ?_)
    cases (show y9 = nI ((6 * r) + c0) from e9.trans (nI_add (6 * r) c0))
    refine lq_iald (j := (6 * r) + c0) hx hb hK hP 3 0 rfl rfl rfl (by omega) (by omega) dM_kinds_33 ?_
    refine lv_istore hx hb dM_kinds_34 hl (by decide) rfl (fun ls hl => ?_)
    have hl : lv_has ls 6 [(5, .int (vv ((6 * r) + c0))), (0, .ref y), (1, .int (nI c0)), (2, .int isv), (3, .int (bn bad)), (4, .int (nI r))] := hl
    refine lp_cut (fun x9 : Int32 => x9 = bn (kb bad (vv ((6 * r) + c0)))) (fun x9 => [.int x9]) 63 ls (fun x9 e9 => ?_) (fun hct10 => ?_)
    · cases (show x9 = bn (kb bad (vv ((6 * r) + c0))) from e9)
      refine lv_istore_n hx hb dM_kinds_63 rfl hl (by decide) rfl (fun ls hl => ?_)
      have hl : lv_has ls 6 [(3, .int (bn (kb bad (vv ((6 * r) + c0))))), (5, .int (vv ((6 * r) + c0))), (0, .ref y), (1, .int (nI c0)), (2, .int isv), (4, .int (nI r))] := hl
      refine lv_iinc (k := 5) (v := nI (r + 1)) hx hb dM_kinds_64 hl rfl (nI_1 r) (by decide) rfl (fun ls hl => ?_)
      have hl : lv_has ls 6 [(4, .int (nI (r + 1))), (3, .int (bn (kb bad (vv ((6 * r) + c0))))), (5, .int (vv ((6 * r) + c0))), (0, .ref y), (1, .int (nI c0)), (2, .int isv)] := hl
      refine lv_goto (tgt := 5) hx hb dM_kinds_67 rfl ?_
      exact ih5 (r + 1, kb bad (vv ((6 * r) + c0))) (show (r + 1) ≤ n ∧ ((kb bad (vv ((6 * r) + c0))) = false ↔ KAL vv c0 (r + 1)) from ⟨by omega, kal_s ib⟩) (show n - (r + 1) < n - r from (by omega)) ls (lv_sub hl [3, 4, 5, 1, 0] rfl)
    · refine lv_iload_n hx hb dM_kinds_36 rfl (lv_at hl 4 rfl) ?_
      refine lv_if_ne (tgt := 58) hx hb dM_kinds_37 rfl (fun h11 => ?_) (fun h11 => ?_)
      · refine lv_iconst (v := 1) hx hb dM_kinds_58 (by decide) ?_
        refine lv_goto (tgt := 63) hx hb dM_kinds_59 rfl ?_
        exact hct10 _ (kb_t h11)
      · refine lv_iload hx hb dM_kinds_40 (lv_at hl 0 rfl) ?_
        refine lv_ldc (v := (-2147483648)) hx hb hown (hT _ w1103) dM_kinds_42 ?_
        refine lv_icmp_eq (tgt := 62) hx hb dM_kinds_44 rfl (fun h12 => ?_) (fun h12 => ?_)
        · refine lv_iconst (v := 0) hx hb dM_kinds_62 (by decide) ?_
          exact hct10 _ (kb_m h11 h12)
        · refine lv_iload hx hb dM_kinds_47 (lv_at hl 0 rfl) ?_
          refine lv_iconst (v := 0) hx hb dM_kinds_49 (by decide) ?_
          refine lv_bipush (v := 11) hx hb dM_kinds_50 (by decide) ?_
          refine ro_i (va_Run.run (va_runS (As := [.int (vv ((6 * r) + c0)), .int 0, .int 11]) (rest := []) ⟨hx, hb, hml, hown, hT⟩ (m_in l D cT (vv ((6 * r) + c0)) 0 11) ⟨callB_of 3 hT (tb_gd w1297) rfl rfl rfl (hT _ w13) (hT _ w1295) hM_in ⟨Nat.le_of_ble_eq_true rfl, Nat.le_of_ble_eq_true rfl⟩, (hT _ w1296)⟩ (RO.preS hZ hS ((show va_P D vwCl [] _ from fun _ _ h => nomatch h)) hK) rfl rfl hl.1 rfl (lv_room (Nat.le_of_ble_eq_true rfl)) dM_kinds_52 ⟨Nat.le_of_ble_eq_true rfl, Nat.le_of_ble_eq_true rfl⟩)) ?_
          refine lv_if_ne (tgt := 62) hx hb dM_kinds_55 rfl (fun h13 => ?_) (fun h13 => ?_)
          · refine lv_iconst (v := 0) hx hb dM_kinds_62 (by decide) ?_
            exact hct10 _ (kb_i h11 (bi_1 h13))
          · refine lv_iconst (v := 1) hx hb dM_kinds_58 (by decide) ?_
            refine lv_goto (tgt := 63) hx hb dM_kinds_59 rfl ?_
            exact hct10 _ (kb_o h12 (bi_0 h13))
set_option maxHeartbeats 4000000 in
set_option maxRecDepth 100000 in
theorem y_kinds_no2 (l : Launch) (D : va_G) (cT : Nat → ClassId) (y : Nat) (yr : Nat → Nat) (yi : Nat → Int32) (ysb : Int64) (ybs : Int64) (vv : Nat → Int32) (c0 : Nat) (isv : Int32) (n : Nat) (hn : yi 3 = nI n) (hn48 : n ≤ 48) (hc0 : 0 ≤ nI c0 ∧ nI c0 ≤ yi 2 - 1) (hc6 : c0 < 6) (hk9 : ¬ isv = 0 ∧ ¬ KAL vv c0 n) (sz : Nat) : Met l yM_kinds WM_kinds ({ frames := 2, cells := 0, slots := 0, locals := 43 } : Room) (RW D vwCl [.ref y, .int (nI c0), .int isv] [(y, .inr (11, MO yr yi ysb ybs)), (yr 5, .inl (cT 0, 288, .inl vv))] (TY cT) sz) (va_Qi (fun (r9 : Int32) (u9 : Unit) => r9 = 0) (BW D vwCl (va_A [(y, .inr (11, MO yr yi ysb ybs)), (yr 5, .inl (cT 0, 288, .inl vv))] sz) (fun u9 : Unit => [(y, .inr (11, MO yr (va_up yi 1 2) ysb ybs)), (yr 5, .inl (cT 0, 288, .inl vv))])) (va_A [(y, .inr (11, MO yr yi ysb ybs)), (yr 5, .inl (cT 0, 288, .inl vv))] sz)) 0 0 (va_A [(y, .inr (11, MO yr yi ysb ybs)), (yr 5, .inl (cT 0, 288, .inl vv))] sz) := by
  refine Met.ofW (cc := cM_kinds) (maxL := 6) (ret := (some .boolean)) (by decide) rfl ?_
  intro p e s m args below meth c s₁ B hml hv
  obtain ⟨rfl, hsz, hZ, hP, hK, hD0⟩ := hv
  have hx := B.exec
  have hb := B.bytes
  have hr := B.returns
  have hts := atoms_spec (ws := WM_kinds) B.pre
  have hT : ∀ w ∈ TB, w.before _ s = true := fun w h => hts w (List.mem_cons_of_mem _ h)
  have hown : s.vm.findClass R_M = some m.cls := findClass_of_methodNamed B.named
  have hlocks := B.notSynchronized
  subst hsz
  have hD := hD0.self (sz := s.heap.size)
  generalize hAe : va_A [(y, .inr (11, MO yr yi ysb ybs)), (yr 5, .inl (cT 0, 288, .inl vv))] s.heap.size = A at hD hZ ⊢
  have hA : ∀ q : Nat, s.heap.size ≤ q → A q := fun q h => by rw [← hAe]; exact Or.inr h
  have hS : va_S A s.heap s.heap [] := va_S.rf
  have hl := lv_entry ([.ref y, .int (nI c0), .int isv]) (n := 6) (Nat.le_of_ble_eq_true rfl)
  rw [lg_entry_eq]
  generalize (lg_sl ([.ref y, .int (nI c0), .int isv]) ++ List.replicate (6 - (lg_sl ([.ref y, .int (nI c0), .int isv])).length) Slot.unset).toArray = ls at hl ⊢
  have hl : lv_has ls 6 [(0, .ref y), (1, .int (nI c0)), (2, .int isv)] := hl
  refine lv_iconst (v := 0) hx hb dM_kinds_0 (by decide) ?_
  refine lv_istore_n hx hb dM_kinds_1 rfl hl (by decide) rfl (fun ls hl => ?_)
  have hl : lv_has ls 6 [(3, .int 0), (0, .ref y), (1, .int (nI c0)), (2, .int isv)] := hl
  refine lv_iconst (v := 0) hx hb dM_kinds_2 (by decide) ?_
  refine lv_istore hx hb dM_kinds_3 hl (by decide) rfl (fun ls hl => ?_)
  have hl : lv_has ls 6 [(4, .int 0), (3, .int 0), (0, .ref y), (1, .int (nI c0)), (2, .int isv)] := hl
  refine lp_r (α := Nat × Bool) (fun a9 => a9.1 ≤ n ∧ (a9.2 = false ↔ KAL vv c0 a9.1)) (fun a9 => n - a9.1) (fun a9 => [(0, .ref y), (1, .int (nI c0)), (2, .int isv), (3, .int (bn a9.2)), (4, .int (nI a9.1))]) 5 ?_ (0, false) (show 0 ≤ n ∧ (false = false ↔ KAL vv c0 0) from ⟨by omega, ⟨fun _ q h => absurd h (by omega), fun _ => rfl⟩⟩) (lv_sub hl [2, 3, 4, 1, 0] rfl)
  intro a9 hI5 ih5 ls hl
  obtain ⟨r, bad⟩ := a9
  have hI5 : r ≤ n ∧ (bad = false ↔ KAL vv c0 r) := hI5
  obtain ⟨ir, ib⟩ := hI5
  have hl : lv_has ls 6 [(0, .ref y), (1, .int (nI c0)), (2, .int isv), (3, .int (bn bad)), (4, .int (nI r))] := hl
  refine lv_iload hx hb dM_kinds_5 (lv_at hl 4 rfl) ?_
  refine lv_aload_n hx hb dM_kinds_7 rfl (lv_at hl 0 rfl) ?_
  refine va_get (D := D) (ci := 11) (v := .int (yi 3)) (C := R_M) (T := T_M) (N := 60) hx hb hT in_M hown hK hP 0 rfl rfl 3 (by decide) (hT _ w1107) (fun _ h9 => h9) rfl dM_kinds_8 ?_
  refine lv_topi (fun y9 e9 => ?_)
  cases (show y9 = nI n from e9.trans hn)
  refine lv_icmp_ge (tgt := 70) hx hb dM_kinds_11 rfl (fun h1 => ?_) (fun h1 => ?_)
  · have gh1 : n ≤ r := (nI_leI (a := n) (b := r) (by omega) (by omega)).mp h1
    refine lv_aload_n hx hb dM_kinds_70 rfl (lv_at hl 0 rfl) ?_
    refine lv_aload_n hx hb dM_kinds_71 rfl (lv_at hl 0 rfl) ?_
    refine lv_iload_n hx hb dM_kinds_72 rfl (lv_at hl 1 rfl) ?_
    refine ro_i (va_Run.run (va_runV (As := [.int (nI c0)]) (rest := [.ref y]) ⟨hx, hb, hml, hown, hT⟩ (m_noColumn l D cT y yr yi ysb ybs (nI c0)) ⟨callB_of 1 hT (tb_gd w1317) rfl rfl rfl (hT _ w13) (hT _ w1314) hM_noColumn ⟨Nat.le_of_ble_eq_true rfl, Nat.le_of_ble_eq_true rfl⟩, (hT _ w1316), (hT _ wp31)⟩ (RO.preV (ci := 11) (q0 := 0) hZ hS (hP.sub (ws' := [(y, .inr (11, MO yr yi ysb ybs))]) [0] rfl) hK rfl rfl) rfl rfl hl.1 rfl (lv_room (Nat.le_of_ble_eq_true rfl)) dM_kinds_73 ⟨Nat.le_of_ble_eq_true rfl, Nat.le_of_ble_eq_true rfl⟩)) ?_
    refine lv_if_eq (tgt := 83) hx hb dM_kinds_76 rfl (fun _ => ?_) (fun h2 => absurd (bi_f (fun q => q hc0)) h2)
    refine lv_iload_n hx hb dM_kinds_83 rfl (lv_at hl 2 rfl) ?_
    refine lv_if_eq (tgt := 95) hx hb dM_kinds_84 rfl (fun h3 => absurd h3 hk9.1) (fun _ => ?_)
    refine lv_iload_n hx hb dM_kinds_87 rfl (lv_at hl 3 rfl) ?_
    refine lv_if_eq (tgt := 95) hx hb dM_kinds_88 rfl (fun h4 => ?_) (fun h4 => ?_)
    · exact absurd (show KAL vv c0 n by rw [show n = r by omega]; exact ib.mp (bn_0.mp h4)) hk9.2
    · refine lv_iconst (v := 2) hx hb dM_kinds_91 (by decide) ?_
      refine lv_goto (tgt := 96) hx hb dM_kinds_92 rfl ?_
      refine rw_i (wc := [(y, .inr (11, MO yr yi ysb ybs))]) (wr := [(yr 5, .inl (cT 0, 288, .inl vv))]) hP hD hS hA [0] [1] rfl rfl (by decide) (by decide) (va_runV (As := [.int 2]) (rest := []) ⟨hx, hb, hml, hown, hT⟩ (m_ref2 l D cT y yr yi ysb ybs _) ⟨callB_of 1 hT (tb_gd w1301) rfl rfl rfl (hT _ w13) (hT _ w1298) hM_refused ⟨Nat.le_of_ble_eq_true rfl, Nat.le_of_ble_eq_true rfl⟩, (hT _ w1300), (hT _ wp29)⟩ (RW.preV (ci := 11) (q0 := 0) hZ hS (va_free (wc := [(y, .inr (11, MO yr yi ysb ybs))]) hD hS hA [0] rfl) (hP.sub (ws' := [(y, .inr (11, MO yr yi ysb ybs))]) [0] rfl) hK (hD.sub (ws' := [(y, .inr (11, MO yr yi ysb ybs))]) [0] (by decide) rfl) rfl rfl) rfl rfl hl.1 rfl (lv_room (Nat.le_of_ble_eq_true rfl)) dM_kinds_96 ⟨Nat.le_of_ble_eq_true rfl, Nat.le_of_ble_eq_true rfl⟩) (fun ru5 u9 H locs hpu5 hP hD hS => ?_)
      have hpu5 : ru5 = 1 := hpu5
      have hP : va_P D vwCl [(yr 5, .inl (cT 0, 288, .inl vv)), (y, .inr (11, MO yr (va_up yi 1 2) ysb ybs))] _ := hP
      have hD : va_D A [(yr 5, .inl (cT 0, 288, .inl vv)), (y, .inr (11, MO yr (va_up yi 1 2) ysb ybs))] := hD
      refine lv_topi (fun y9 e9 => ?_)
      cases (show y9 = 1 from e9.trans hpu5)
      refine lv_if_eq (tgt := 104) hx hb dM_kinds_99 rfl (fun h6 => absurd h6 (by decide)) (fun _ => ?_)
      refine lv_iconst (v := 0) hx hb dM_kinds_102 (by decide) ?_
      have hP9 := hP.sub (ws' := [(y, .inr (11, MO yr (va_up yi 1 2) ysb ybs)), (yr 5, .inl (cT 0, 288, .inl vv))]) [1, 0] rfl
      have hD9 := hD.sub (ws' := [(y, .inr (11, MO yr (va_up yi 1 2) ysb ybs)), (yr 5, .inl (cT 0, 288, .inl vv))]) [1, 0] (by decide) rfl
      refine W.widen (k := 0) (n := 0) (Nat.le_of_ble_eq_true rfl) (Nat.le_of_ble_eq_true rfl) ?_
      exact W.zret (v := 0) hx hb hr rfl (fun t9 ht9 hW9 => ⟨⟨0, (), rfl, (show 0 = 0 from rfl), by rw [ht9]; exact hP9, hD9⟩, hS.F ht9⟩) hS.2.2 dM_kinds_103
  · have gh1 : r < n := Nat.not_le.mp (fun q => h1 ((nI_leI (a := n) (b := r) (by omega) (by omega)).mpr q))
    refine lv_aload_n hx hb dM_kinds_14 rfl (lv_at hl 0 rfl) ?_
    refine lv_iload_n hx hb dM_kinds_15 rfl (lv_at hl 1 rfl) ?_
    refine ro_i (va_Run.run (va_runV (As := [.int (nI c0)]) (rest := []) ⟨hx, hb, hml, hown, hT⟩ (m_noColumn l D cT y yr yi ysb ybs (nI c0)) ⟨callB_of 1 hT (tb_gd w1317) rfl rfl rfl (hT _ w13) (hT _ w1314) hM_noColumn ⟨Nat.le_of_ble_eq_true rfl, Nat.le_of_ble_eq_true rfl⟩, (hT _ w1316), (hT _ wp31)⟩ (RO.preV (ci := 11) (q0 := 0) hZ hS (hP.sub (ws' := [(y, .inr (11, MO yr yi ysb ybs))]) [0] rfl) hK rfl rfl) rfl rfl hl.1 rfl (lv_room (Nat.le_of_ble_eq_true rfl)) dM_kinds_16 ⟨Nat.le_of_ble_eq_true rfl, Nat.le_of_ble_eq_true rfl⟩)) ?_
    refine lv_if_ne (tgt := 70) hx hb dM_kinds_19 rfl (fun h7 => absurd (bi_f (fun q => q hc0)) h7) (fun _ => ?_)
    refine lv_aload_n hx hb dM_kinds_22 rfl (lv_at hl 0 rfl) ?_
    refine va_get (D := D) (ci := 11) (v := .ref (yr 5)) (C := R_M) (T := T_M) (N := 60) hx hb hT in_M hown hK hP 0 rfl rfl 5 (by decide) (hT _ w1109) (fun _ h9 => h9) rfl dM_kinds_23 ?_
    refine lv_bipush (v := 6) hx hb dM_kinds_26 (by decide) ?_
    refine lv_iload hx hb dM_kinds_28 (lv_at hl 4 rfl) ?_
    refine lv_imul hx hb dM_kinds_30 ?_
    refine lv_topi (fun y9 e9 => ?_)
    cases (show y9 = nI (6 * r) from e9.trans (pk_mul 6 r))
    refine lv_iload_n hx hb dM_kinds_31 rfl (lv_at hl 1 rfl) ?_
    refine lv_iadd hx hb dM_kinds_32 ?_
    refine lv_topi (fun y9 e9 => ?_)
    cases (show y9 = nI ((6 * r) + c0) from e9.trans (nI_add (6 * r) c0))
    refine lq_iald (j := (6 * r) + c0) hx hb hK hP 1 0 rfl rfl rfl (by omega) (by omega) dM_kinds_33 ?_
    refine lv_istore hx hb dM_kinds_34 hl (by decide) rfl (fun ls hl => ?_)
    have hl : lv_has ls 6 [(5, .int (vv ((6 * r) + c0))), (0, .ref y), (1, .int (nI c0)), (2, .int isv), (3, .int (bn bad)), (4, .int (nI r))] := hl
    refine lp_cut (fun x9 : Int32 => x9 = bn (kb bad (vv ((6 * r) + c0)))) (fun x9 => [.int x9]) 63 ls (fun x9 e9 => ?_) (fun hct8 => ?_)
    · cases (show x9 = bn (kb bad (vv ((6 * r) + c0))) from e9)
      refine lv_istore_n hx hb dM_kinds_63 rfl hl (by decide) rfl (fun ls hl => ?_)
      have hl : lv_has ls 6 [(3, .int (bn (kb bad (vv ((6 * r) + c0))))), (5, .int (vv ((6 * r) + c0))), (0, .ref y), (1, .int (nI c0)), (2, .int isv), (4, .int (nI r))] := hl
      refine lv_iinc (k := 5) (v := nI (r + 1)) hx hb dM_kinds_64 hl rfl (nI_1 r) (by decide) rfl (fun ls hl => ?_)
      have hl : lv_has ls 6 [(4, .int (nI (r + 1))), (3, .int (bn (kb bad (vv ((6 * r) + c0))))), (5, .int (vv ((6 * r) + c0))), (0, .ref y), (1, .int (nI c0)), (2, .int isv)] := hl
      refine lv_goto (tgt := 5) hx hb dM_kinds_67 rfl ?_
      exact ih5 (r + 1, kb bad (vv ((6 * r) + c0))) (show (r + 1) ≤ n ∧ ((kb bad (vv ((6 * r) + c0))) = false ↔ KAL vv c0 (r + 1)) from ⟨by omega, kal_s ib⟩) (show n - (r + 1) < n - r from (by omega)) ls (lv_sub hl [3, 4, 5, 1, 0] rfl)
    · refine lv_iload_n hx hb dM_kinds_36 rfl (lv_at hl 4 rfl) ?_
      refine lv_if_ne (tgt := 58) hx hb dM_kinds_37 rfl (fun h9 => ?_) (fun h9 => ?_)
      · refine lv_iconst (v := 1) hx hb dM_kinds_58 (by decide) ?_
        refine lv_goto (tgt := 63) hx hb dM_kinds_59 rfl ?_
        exact hct8 _ (kb_t h9)
      · refine lv_iload hx hb dM_kinds_40 (lv_at hl 0 rfl) ?_
        refine lv_ldc (v := (-2147483648)) hx hb hown (hT _ w1103) dM_kinds_42 ?_
        refine lv_icmp_eq (tgt := 62) hx hb dM_kinds_44 rfl (fun h10 => ?_) (fun h10 => ?_)
        · refine lv_iconst (v := 0) hx hb dM_kinds_62 (by decide) ?_
          exact hct8 _ (kb_m h9 h10)
        · refine lv_iload hx hb dM_kinds_47 (lv_at hl 0 rfl) ?_
          refine lv_iconst (v := 0) hx hb dM_kinds_49 (by decide) ?_
          refine lv_bipush (v := 11) hx hb dM_kinds_50 (by decide) ?_
          refine ro_i (va_Run.run (va_runS (As := [.int (vv ((6 * r) + c0)), .int 0, .int 11]) (rest := []) ⟨hx, hb, hml, hown, hT⟩ (m_in l D cT (vv ((6 * r) + c0)) 0 11) ⟨callB_of 3 hT (tb_gd w1297) rfl rfl rfl (hT _ w13) (hT _ w1295) hM_in ⟨Nat.le_of_ble_eq_true rfl, Nat.le_of_ble_eq_true rfl⟩, (hT _ w1296)⟩ (RO.preS hZ hS ((show va_P D vwCl [] _ from fun _ _ h => nomatch h)) hK) rfl rfl hl.1 rfl (lv_room (Nat.le_of_ble_eq_true rfl)) dM_kinds_52 ⟨Nat.le_of_ble_eq_true rfl, Nat.le_of_ble_eq_true rfl⟩)) ?_
          refine lv_if_ne (tgt := 62) hx hb dM_kinds_55 rfl (fun h11 => ?_) (fun h11 => ?_)
          · refine lv_iconst (v := 0) hx hb dM_kinds_62 (by decide) ?_
            exact hct8 _ (kb_i h9 (bi_1 h11))
          · refine lv_iconst (v := 1) hx hb dM_kinds_58 (by decide) ?_
            refine lv_goto (tgt := 63) hx hb dM_kinds_59 rfl ?_
            exact hct8 _ (kb_o h10 (bi_0 h11))
set_option maxHeartbeats 4000000 in
set_option maxRecDepth 100000 in
theorem y_kinds_no1 (l : Launch) (D : va_G) (cT : Nat → ClassId) (y : Nat) (yr : Nat → Nat) (yi : Nat → Int32) (ysb : Int64) (ybs : Int64) (a1 : Int32) (isv : Int32) (hq : ¬ (0 ≤ a1 ∧ a1 ≤ yi 2 - 1)) (sz : Nat) : Met l yM_kinds WM_kinds ({ frames := 2, cells := 0, slots := 0, locals := 43 } : Room) (RW D vwCl [.ref y, .int a1, .int isv] [(y, .inr (11, MO yr yi ysb ybs))] (TY cT) sz) (va_Qi (fun (r9 : Int32) (u9 : Unit) => r9 = 0) (BW D vwCl (va_A [(y, .inr (11, MO yr yi ysb ybs))] sz) (fun u9 : Unit => [(y, .inr (11, MO yr (va_up yi 1 1) ysb ybs))])) (va_A [(y, .inr (11, MO yr yi ysb ybs))] sz)) 0 0 (va_A [(y, .inr (11, MO yr yi ysb ybs))] sz) := by
  refine Met.ofW (cc := cM_kinds) (maxL := 6) (ret := (some .boolean)) (by decide) rfl ?_
  intro p e s m args below meth c s₁ B hml hv
  obtain ⟨rfl, hsz, hZ, hP, hK, hD0⟩ := hv
  have hx := B.exec
  have hb := B.bytes
  have hr := B.returns
  have hts := atoms_spec (ws := WM_kinds) B.pre
  have hT : ∀ w ∈ TB, w.before _ s = true := fun w h => hts w (List.mem_cons_of_mem _ h)
  have hown : s.vm.findClass R_M = some m.cls := findClass_of_methodNamed B.named
  have hlocks := B.notSynchronized
  subst hsz
  have hD := hD0.self (sz := s.heap.size)
  generalize hAe : va_A [(y, .inr (11, MO yr yi ysb ybs))] s.heap.size = A at hD hZ ⊢
  have hA : ∀ q : Nat, s.heap.size ≤ q → A q := fun q h => by rw [← hAe]; exact Or.inr h
  have hS : va_S A s.heap s.heap [] := va_S.rf
  have hl := lv_entry ([.ref y, .int a1, .int isv]) (n := 6) (Nat.le_of_ble_eq_true rfl)
  rw [lg_entry_eq]
  generalize (lg_sl ([.ref y, .int a1, .int isv]) ++ List.replicate (6 - (lg_sl ([.ref y, .int a1, .int isv])).length) Slot.unset).toArray = ls at hl ⊢
  have hl : lv_has ls 6 [(0, .ref y), (1, .int a1), (2, .int isv)] := hl
  refine lv_iconst (v := 0) hx hb dM_kinds_0 (by decide) ?_
  refine lv_istore_n hx hb dM_kinds_1 rfl hl (by decide) rfl (fun ls hl => ?_)
  have hl : lv_has ls 6 [(3, .int 0), (0, .ref y), (1, .int a1), (2, .int isv)] := hl
  refine lv_iconst (v := 0) hx hb dM_kinds_2 (by decide) ?_
  refine lv_istore hx hb dM_kinds_3 hl (by decide) rfl (fun ls hl => ?_)
  have hl : lv_has ls 6 [(4, .int 0), (3, .int 0), (0, .ref y), (1, .int a1), (2, .int isv)] := hl
  refine lp_r (α := Nat) (fun a9 => a9 = 0) (fun a9 => 0) (fun a9 => [(0, .ref y), (1, .int a1), (2, .int isv), (3, .int 0), (4, .int (nI a9))]) 5 ?_ 0 (show 0 = 0 from rfl) (lv_sub hl [2, 3, 4, 1, 0] rfl)
  intro a9 hI5 ih5 ls hl
  obtain ⟨r, rfl⟩ : ∃ q9, q9 = a9 := ⟨_, rfl⟩
  have hI5 : r = 0 := hI5
  have hl : lv_has ls 6 [(0, .ref y), (1, .int a1), (2, .int isv), (3, .int 0), (4, .int (nI r))] := hl
  refine lv_iload hx hb dM_kinds_5 (lv_at hl 4 rfl) ?_
  refine lv_aload_n hx hb dM_kinds_7 rfl (lv_at hl 0 rfl) ?_
  refine va_get (D := D) (ci := 11) (v := .int (yi 3)) (C := R_M) (T := T_M) (N := 60) hx hb hT in_M hown hK hP 0 rfl rfl 3 (by decide) (hT _ w1107) (fun _ h9 => h9) rfl dM_kinds_8 ?_
  refine lv_icmp_ge (tgt := 70) hx hb dM_kinds_11 rfl (fun h1 => ?_) (fun h1 => ?_)
  · refine lv_aload_n hx hb dM_kinds_70 rfl (lv_at hl 0 rfl) ?_
    refine lv_aload_n hx hb dM_kinds_71 rfl (lv_at hl 0 rfl) ?_
    refine lv_iload_n hx hb dM_kinds_72 rfl (lv_at hl 1 rfl) ?_
    refine ro_i (va_Run.run (va_runV (As := [.int a1]) (rest := [.ref y]) ⟨hx, hb, hml, hown, hT⟩ (m_noColumn l D cT y yr yi ysb ybs a1) ⟨callB_of 1 hT (tb_gd w1317) rfl rfl rfl (hT _ w13) (hT _ w1314) hM_noColumn ⟨Nat.le_of_ble_eq_true rfl, Nat.le_of_ble_eq_true rfl⟩, (hT _ w1316), (hT _ wp31)⟩ (RO.preV (ci := 11) (q0 := 0) hZ hS (hP.sub (ws' := [(y, .inr (11, MO yr yi ysb ybs))]) [0] rfl) hK rfl rfl) rfl rfl hl.1 rfl (lv_room (Nat.le_of_ble_eq_true rfl)) dM_kinds_73 ⟨Nat.le_of_ble_eq_true rfl, Nat.le_of_ble_eq_true rfl⟩)) ?_
    refine lv_if_eq (tgt := 83) hx hb dM_kinds_76 rfl (fun h2 => absurd h2 (by rw [bi_t hq]; decide)) (fun _ => ?_)
    refine lv_iconst (v := 1) hx hb dM_kinds_79 (by decide) ?_
    refine lv_goto (tgt := 96) hx hb dM_kinds_80 rfl ?_
    refine rw_i (wc := [(y, .inr (11, MO yr yi ysb ybs))]) (wr := []) hP hD hS hA [0] [] rfl rfl (by decide) (by decide) (va_runV (As := [.int 1]) (rest := []) ⟨hx, hb, hml, hown, hT⟩ (m_ref1 l D cT y yr yi ysb ybs _) ⟨callB_of 1 hT (tb_gd w1301) rfl rfl rfl (hT _ w13) (hT _ w1298) hM_refused ⟨Nat.le_of_ble_eq_true rfl, Nat.le_of_ble_eq_true rfl⟩, (hT _ w1300), (hT _ wp29)⟩ (RW.preV (ci := 11) (q0 := 0) hZ hS (va_free (wc := [(y, .inr (11, MO yr yi ysb ybs))]) hD hS hA [0] rfl) (hP.sub (ws' := [(y, .inr (11, MO yr yi ysb ybs))]) [0] rfl) hK (hD.sub (ws' := [(y, .inr (11, MO yr yi ysb ybs))]) [0] (by decide) rfl) rfl rfl) rfl rfl hl.1 rfl (lv_room (Nat.le_of_ble_eq_true rfl)) dM_kinds_96 ⟨Nat.le_of_ble_eq_true rfl, Nat.le_of_ble_eq_true rfl⟩) (fun ru3 u9 H locs hpu3 hP hD hS => ?_)
    have hpu3 : ru3 = 1 := hpu3
    have hP : va_P D vwCl [(y, .inr (11, MO yr (va_up yi 1 1) ysb ybs))] _ := hP
    have hD : va_D A [(y, .inr (11, MO yr (va_up yi 1 1) ysb ybs))] := hD
    refine lv_topi (fun y9 e9 => ?_)
    cases (show y9 = 1 from e9.trans hpu3)
    refine lv_if_eq (tgt := 104) hx hb dM_kinds_99 rfl (fun h4 => absurd h4 (by decide)) (fun _ => ?_)
    refine lv_iconst (v := 0) hx hb dM_kinds_102 (by decide) ?_
    have hP9 := hP.sub (ws' := [(y, .inr (11, MO yr (va_up yi 1 1) ysb ybs))]) [0] rfl
    have hD9 := hD.sub (ws' := [(y, .inr (11, MO yr (va_up yi 1 1) ysb ybs))]) [0] (by decide) rfl
    refine W.widen (k := 0) (n := 0) (Nat.le_of_ble_eq_true rfl) (Nat.le_of_ble_eq_true rfl) ?_
    exact W.zret (v := 0) hx hb hr rfl (fun t9 ht9 hW9 => ⟨⟨0, (), rfl, (show 0 = 0 from rfl), by rw [ht9]; exact hP9, hD9⟩, hS.F ht9⟩) hS.2.2 dM_kinds_103
  · refine lv_aload_n hx hb dM_kinds_14 rfl (lv_at hl 0 rfl) ?_
    refine lv_iload_n hx hb dM_kinds_15 rfl (lv_at hl 1 rfl) ?_
    refine ro_i (va_Run.run (va_runV (As := [.int a1]) (rest := []) ⟨hx, hb, hml, hown, hT⟩ (m_noColumn l D cT y yr yi ysb ybs a1) ⟨callB_of 1 hT (tb_gd w1317) rfl rfl rfl (hT _ w13) (hT _ w1314) hM_noColumn ⟨Nat.le_of_ble_eq_true rfl, Nat.le_of_ble_eq_true rfl⟩, (hT _ w1316), (hT _ wp31)⟩ (RO.preV (ci := 11) (q0 := 0) hZ hS (hP.sub (ws' := [(y, .inr (11, MO yr yi ysb ybs))]) [0] rfl) hK rfl rfl) rfl rfl hl.1 rfl (lv_room (Nat.le_of_ble_eq_true rfl)) dM_kinds_16 ⟨Nat.le_of_ble_eq_true rfl, Nat.le_of_ble_eq_true rfl⟩)) ?_
    refine lv_if_ne (tgt := 70) hx hb dM_kinds_19 rfl (fun _ => ?_) (fun h5 => absurd h5 (by rw [bi_t hq]; decide))
    refine lv_aload_n hx hb dM_kinds_70 rfl (lv_at hl 0 rfl) ?_
    refine lv_aload_n hx hb dM_kinds_71 rfl (lv_at hl 0 rfl) ?_
    refine lv_iload_n hx hb dM_kinds_72 rfl (lv_at hl 1 rfl) ?_
    refine ro_i (va_Run.run (va_runV (As := [.int a1]) (rest := [.ref y]) ⟨hx, hb, hml, hown, hT⟩ (m_noColumn l D cT y yr yi ysb ybs a1) ⟨callB_of 1 hT (tb_gd w1317) rfl rfl rfl (hT _ w13) (hT _ w1314) hM_noColumn ⟨Nat.le_of_ble_eq_true rfl, Nat.le_of_ble_eq_true rfl⟩, (hT _ w1316), (hT _ wp31)⟩ (RO.preV (ci := 11) (q0 := 0) hZ hS (hP.sub (ws' := [(y, .inr (11, MO yr yi ysb ybs))]) [0] rfl) hK rfl rfl) rfl rfl hl.1 rfl (lv_room (Nat.le_of_ble_eq_true rfl)) dM_kinds_73 ⟨Nat.le_of_ble_eq_true rfl, Nat.le_of_ble_eq_true rfl⟩)) ?_
    refine lv_if_eq (tgt := 83) hx hb dM_kinds_76 rfl (fun h6 => absurd h6 (by rw [bi_t hq]; decide)) (fun _ => ?_)
    refine lv_iconst (v := 1) hx hb dM_kinds_79 (by decide) ?_
    refine lv_goto (tgt := 96) hx hb dM_kinds_80 rfl ?_
    refine rw_i (wc := [(y, .inr (11, MO yr yi ysb ybs))]) (wr := []) hP hD hS hA [0] [] rfl rfl (by decide) (by decide) (va_runV (As := [.int 1]) (rest := []) ⟨hx, hb, hml, hown, hT⟩ (m_ref1 l D cT y yr yi ysb ybs _) ⟨callB_of 1 hT (tb_gd w1301) rfl rfl rfl (hT _ w13) (hT _ w1298) hM_refused ⟨Nat.le_of_ble_eq_true rfl, Nat.le_of_ble_eq_true rfl⟩, (hT _ w1300), (hT _ wp29)⟩ (RW.preV (ci := 11) (q0 := 0) hZ hS (va_free (wc := [(y, .inr (11, MO yr yi ysb ybs))]) hD hS hA [0] rfl) (hP.sub (ws' := [(y, .inr (11, MO yr yi ysb ybs))]) [0] rfl) hK (hD.sub (ws' := [(y, .inr (11, MO yr yi ysb ybs))]) [0] (by decide) rfl) rfl rfl) rfl rfl hl.1 rfl (lv_room (Nat.le_of_ble_eq_true rfl)) dM_kinds_96 ⟨Nat.le_of_ble_eq_true rfl, Nat.le_of_ble_eq_true rfl⟩) (fun ru7 u9 H locs hpu7 hP hD hS => ?_)
    have hpu7 : ru7 = 1 := hpu7
    have hP : va_P D vwCl [(y, .inr (11, MO yr (va_up yi 1 1) ysb ybs))] _ := hP
    have hD : va_D A [(y, .inr (11, MO yr (va_up yi 1 1) ysb ybs))] := hD
    refine lv_topi (fun y9 e9 => ?_)
    cases (show y9 = 1 from e9.trans hpu7)
    refine lv_if_eq (tgt := 104) hx hb dM_kinds_99 rfl (fun h8 => absurd h8 (by decide)) (fun _ => ?_)
    refine lv_iconst (v := 0) hx hb dM_kinds_102 (by decide) ?_
    have hP9 := hP.sub (ws' := [(y, .inr (11, MO yr (va_up yi 1 1) ysb ybs))]) [0] rfl
    have hD9 := hD.sub (ws' := [(y, .inr (11, MO yr (va_up yi 1 1) ysb ybs))]) [0] (by decide) rfl
    refine W.widen (k := 0) (n := 0) (Nat.le_of_ble_eq_true rfl) (Nat.le_of_ble_eq_true rfl) ?_
    exact W.zret (v := 0) hx hb hr rfl (fun t9 ht9 hW9 => ⟨⟨0, (), rfl, (show 0 = 0 from rfl), by rw [ht9]; exact hP9, hD9⟩, hS.F ht9⟩) hS.2.2 dM_kinds_103
set_option maxHeartbeats 4000000 in
set_option maxRecDepth 100000 in
theorem m_inOrder (l : Launch) (D : va_G) (cT : Nat → ClassId) (y : Nat) (yr : Nat → Nat) (yi : Nat → Int32) (ysb : Int64) (ybs : Int64) (vv : Nat → Int32) (c0 : Nat) (pl : Nat) (n : Nat) (hn : yi 3 = nI n) (hn48 : n ≤ 48) (hc6 : c0 < 6) (hpl : pl < 2 ^ 30) : Met l yM_inOrder WM_inOrder ({ frames := 0, cells := 0, slots := 0, locals := 0 } : Room) (RO D vwCl [.ref y, .int (nI c0), .int (nI pl)] [(y, .inr (11, MO yr yi ysb ybs)), (yr 5, .inl (cT 0, 288, .inl vv))] (TY cT)) (QcRead (ioF vv c0 n pl n)) 0 0 (fun _ => False) := by
  refine Met.ofW (cc := cM_inOrder) (maxL := 9) (ret := (some .int)) (by decide) rfl ?_
  intro p e s m args below meth c s₁ B hml hv
  obtain ⟨rfl, hZ, hP, hK⟩ := hv
  have hx := B.exec
  have hb := B.bytes
  have hr := B.returns
  have hts := atoms_spec (ws := WM_inOrder) B.pre
  have hT : ∀ w ∈ TB, w.before _ s = true := fun w h => hts w (List.mem_cons_of_mem _ h)
  have hown : s.vm.findClass R_M = some m.cls := findClass_of_methodNamed B.named
  have hlocks := B.notSynchronized
  have hS : va_S (fun _ => False) s.heap s.heap [] := va_S.rf
  have hl := lv_entry ([.ref y, .int (nI c0), .int (nI pl)]) (n := 9) (Nat.le_of_ble_eq_true rfl)
  rw [lg_entry_eq]
  generalize (lg_sl ([.ref y, .int (nI c0), .int (nI pl)]) ++ List.replicate (9 - (lg_sl ([.ref y, .int (nI c0), .int (nI pl)])).length) Slot.unset).toArray = ls at hl ⊢
  have hl : lv_has ls 9 [(0, .ref y), (1, .int (nI c0)), (2, .int (nI pl))] := hl
  refine lv_iconst (v := 0) hx hb dM_inOrder_0 (by decide) ?_
  refine lv_istore_n hx hb dM_inOrder_1 rfl hl (by decide) rfl (fun ls hl => ?_)
  have hl : lv_has ls 9 [(3, .int 0), (0, .ref y), (1, .int (nI c0)), (2, .int (nI pl))] := hl
  refine lp_r (α := Nat) (fun a9 => a9 ≤ n ∧ ioF vv c0 n pl (n - a9) = ioF vv c0 n pl n) (fun a9 => n - a9) (fun a9 => [(0, .ref y), (1, .int (nI c0)), (2, .int (nI pl)), (3, .int (nI a9))]) 2 ?_ 0 (show 0 ≤ n ∧ ioF vv c0 n pl (n - 0) = ioF vv c0 n pl n from ⟨by omega, rfl⟩) (lv_sub hl [1, 2, 3, 0] rfl)
  intro a9 hI2 ih2 ls hl
  obtain ⟨r, rfl⟩ : ∃ q9, q9 = a9 := ⟨_, rfl⟩
  have hI2 : r ≤ n ∧ ioF vv c0 n pl (n - r) = ioF vv c0 n pl n := hI2
  obtain ⟨ir, iv⟩ := hI2
  have hl : lv_has ls 9 [(0, .ref y), (1, .int (nI c0)), (2, .int (nI pl)), (3, .int (nI r))] := hl
  refine lv_iload_n hx hb dM_inOrder_2 rfl (lv_at hl 3 rfl) ?_
  refine lv_aload_n hx hb dM_inOrder_3 rfl (lv_at hl 0 rfl) ?_
  refine va_get (D := D) (ci := 11) (v := .int (yi 3)) (C := R_M) (T := T_M) (N := 60) hx hb hT in_M hown hK hP 0 rfl rfl 3 (by decide) (hT _ w1107) (fun _ h9 => h9) rfl dM_inOrder_4 ?_
  refine lv_topi (fun y9 e9 => ?_)
  cases (show y9 = nI n from e9.trans hn)
  refine lv_icmp_ge (tgt := 133) hx hb dM_inOrder_7 rfl (fun h1 => ?_) (fun h1 => ?_)
  · have gh1 : n ≤ r := (nI_leI (a := n) (b := r) (by omega) (by omega)).mp h1
    refine lv_iconst (v := 0) hx hb dM_inOrder_133 (by decide) ?_
    exact W.iret (v := 0) hx hb hr (fun t9 ht9 hW9 => ⟨by rw [← iv, show n - r = 0 by omega]; rfl, ht9⟩) (fun q h => nomatch h) dM_inOrder_134
  · have gh1 : r < n := Nat.not_le.mp (fun q => h1 ((nI_leI (a := n) (b := r) (by omega) (by omega)).mpr q))
    refine lv_aload_n hx hb dM_inOrder_10 rfl (lv_at hl 0 rfl) ?_
    refine va_get (D := D) (ci := 11) (v := .ref (yr 5)) (C := R_M) (T := T_M) (N := 60) hx hb hT in_M hown hK hP 0 rfl rfl 5 (by decide) (hT _ w1109) (fun _ h9 => h9) rfl dM_inOrder_11 ?_
    refine lv_bipush (v := 6) hx hb dM_inOrder_14 (by decide) ?_
    refine lv_iload_n hx hb dM_inOrder_16 rfl (lv_at hl 3 rfl) ?_
    refine lv_imul hx hb dM_inOrder_17 ?_
    refine lv_topi (fun y9 e9 => ?_)
    cases (show y9 = nI (6 * r) from e9.trans (pk_mul 6 r))
    refine lv_iload_n hx hb dM_inOrder_18 rfl (lv_at hl 1 rfl) ?_
    refine lv_iadd hx hb dM_inOrder_19 ?_
    refine lv_topi (fun y9 e9 => ?_)
    cases (show y9 = nI ((6 * r) + c0) from e9.trans (nI_add (6 * r) c0))
    refine lq_iald (j := (6 * r) + c0) hx hb hK hP 1 0 rfl rfl rfl (by omega) (by omega) dM_inOrder_20 ?_
    refine lv_istore hx hb dM_inOrder_21 hl (by decide) rfl (fun ls hl => ?_)
    have hl : lv_has ls 9 [(4, .int (vv ((6 * r) + c0))), (0, .ref y), (1, .int (nI c0)), (2, .int (nI pl)), (3, .int (nI r))] := hl
    refine lv_iconst (v := 0) hx hb dM_inOrder_23 (by decide) ?_
    refine lv_istore hx hb dM_inOrder_24 hl (by decide) rfl (fun ls hl => ?_)
    have hl : lv_has ls 9 [(5, .int 0), (4, .int (vv ((6 * r) + c0))), (0, .ref y), (1, .int (nI c0)), (2, .int (nI pl)), (3, .int (nI r))] := hl
    refine lv_iconst (v := 0) hx hb dM_inOrder_26 (by decide) ?_
    refine lv_istore hx hb dM_inOrder_27 hl (by decide) rfl (fun ls hl => ?_)
    have hl : lv_has ls 9 [(6, .int 0), (5, .int 0), (4, .int (vv ((6 * r) + c0))), (0, .ref y), (1, .int (nI c0)), (2, .int (nI pl)), (3, .int (nI r))] := hl
    refine lv_iconst (v := 0) hx hb dM_inOrder_29 (by decide) ?_
    refine lv_istore hx hb dM_inOrder_30 hl (by decide) rfl (fun ls hl => ?_)
    have hl : lv_has ls 9 [(7, .int 0), (6, .int 0), (5, .int 0), (4, .int (vv ((6 * r) + c0))), (0, .ref y), (1, .int (nI c0)), (2, .int (nI pl)), (3, .int (nI r))] := hl
    refine lp_r (α := Nat) (fun a9 => a9 ≤ n) (fun a9 => n - a9) (fun a9 => [(0, .ref y), (1, .int (nI c0)), (2, .int (nI pl)), (3, .int (nI r)), (4, .int (vv ((6 * r) + c0))), (5, .int (nI (blw vv c0 (vv ((6 * r) + c0)) a9))), (6, .int (nI (sme vv c0 (vv ((6 * r) + c0)) a9))), (7, .int (nI a9))]) 32 ?_ 0 (show 0 ≤ n from by omega) (lv_sub hl [4, 5, 6, 7, 3, 2, 1, 0] rfl)
    intro a9 hI32 ih32 ls hl
    obtain ⟨j, rfl⟩ : ∃ q9, q9 = a9 := ⟨_, rfl⟩
    have hI32 : j ≤ n := hI32
    have hl : lv_has ls 9 [(0, .ref y), (1, .int (nI c0)), (2, .int (nI pl)), (3, .int (nI r)), (4, .int (vv ((6 * r) + c0))), (5, .int (nI (blw vv c0 (vv ((6 * r) + c0)) j))), (6, .int (nI (sme vv c0 (vv ((6 * r) + c0)) j))), (7, .int (nI j))] := hl
    refine lv_iload hx hb dM_inOrder_32 (lv_at hl 7 rfl) ?_
    refine lv_aload_n hx hb dM_inOrder_34 rfl (lv_at hl 0 rfl) ?_
    refine va_get (D := D) (ci := 11) (v := .int (yi 3)) (C := R_M) (T := T_M) (N := 60) hx hb hT in_M hown hK hP 0 rfl rfl 3 (by decide) (hT _ w1107) (fun _ h9 => h9) rfl dM_inOrder_35 ?_
    refine lv_topi (fun y9 e9 => ?_)
    cases (show y9 = nI n from e9.trans hn)
    refine lv_icmp_ge (tgt := 102) hx hb dM_inOrder_38 rfl (fun h2 => ?_) (fun h2 => ?_)
    · have gh2 : n ≤ j := (nI_leI (a := n) (b := j) (by omega) (by omega)).mp h2
      have eq9 : j = n := by omega
      have hb1 := blw_le vv c0 (vv ((6 * r) + c0)) n
      have hb2 := sme_le vv c0 (vv ((6 * r) + c0)) n
      have hl : lv_has ls 9 [(0, .ref y), (1, .int (nI c0)), (2, .int (nI pl)), (3, .int (nI r)), (4, .int (vv ((6 * r) + c0))), (5, .int (nI (blw vv c0 (vv ((6 * r) + c0)) n))), (6, .int (nI (sme vv c0 (vv ((6 * r) + c0)) j))), (7, .int (nI j))] := by
        rw [show blw vv c0 (vv ((6 * r) + c0)) n = blw vv c0 (vv ((6 * r) + c0)) j by rw [eq9]]; exact hl
      have hl : lv_has ls 9 [(0, .ref y), (1, .int (nI c0)), (2, .int (nI pl)), (3, .int (nI r)), (4, .int (vv ((6 * r) + c0))), (5, .int (nI (blw vv c0 (vv ((6 * r) + c0)) n))), (6, .int (nI (sme vv c0 (vv ((6 * r) + c0)) n))), (7, .int (nI j))] := by
        rw [show sme vv c0 (vv ((6 * r) + c0)) n = sme vv c0 (vv ((6 * r) + c0)) j by rw [eq9]]; exact hl
      refine lv_iload hx hb dM_inOrder_102 (lv_at hl 4 rfl) ?_
      refine lv_ldc (v := (-2147483648)) hx hb hown (hT _ w1103) dM_inOrder_104 ?_
      refine lv_icmp_eq (tgt := 127) hx hb dM_inOrder_106 rfl (fun h3 => ?_) (fun h3 => ?_)
      · refine lv_iinc (k := 3) (v := nI (r + 1)) hx hb dM_inOrder_127 hl rfl (nI_1 r) (by decide) rfl (fun ls hl => ?_)
        have hl : lv_has ls 9 [(3, .int (nI (r + 1))), (0, .ref y), (1, .int (nI c0)), (2, .int (nI pl)), (4, .int (vv ((6 * r) + c0))), (5, .int (nI (blw vv c0 (vv ((6 * r) + c0)) n))), (6, .int (nI (sme vv c0 (vv ((6 * r) + c0)) n))), (7, .int (nI j))] := hl
        refine lv_goto (tgt := 2) hx hb dM_inOrder_130 rfl ?_
        exact ih2 (r + 1) (show (r + 1) ≤ n ∧ ioF vv c0 n pl (n - (r + 1)) = ioF vv c0 n pl n from ⟨by omega, (ioF_n (by omega) (fun h => h.1 h3)).symm.trans iv⟩) (show n - (r + 1) < n - r from (by omega)) ls (lv_sub hl [1, 2, 3, 0] rfl)
      · refine lv_iload hx hb dM_inOrder_109 (lv_at hl 5 rfl) ?_
        refine lv_iload_n hx hb dM_inOrder_111 rfl (lv_at hl 2 rfl) ?_
        refine lv_icmp_gt (tgt := 127) hx hb dM_inOrder_112 rfl (fun h4 => ?_) (fun h4 => ?_)
        · have gh4 : pl < blw vv c0 (vv ((6 * r) + c0)) n := (nI_ltI (a := pl) (b := blw vv c0 (vv ((6 * r) + c0)) n) (by omega) (by omega)).mp h4
          refine lv_iinc (k := 3) (v := nI (r + 1)) hx hb dM_inOrder_127 hl rfl (nI_1 r) (by decide) rfl (fun ls hl => ?_)
          have hl : lv_has ls 9 [(3, .int (nI (r + 1))), (0, .ref y), (1, .int (nI c0)), (2, .int (nI pl)), (4, .int (vv ((6 * r) + c0))), (5, .int (nI (blw vv c0 (vv ((6 * r) + c0)) n))), (6, .int (nI (sme vv c0 (vv ((6 * r) + c0)) n))), (7, .int (nI j))] := hl
          refine lv_goto (tgt := 2) hx hb dM_inOrder_130 rfl ?_
          exact ih2 (r + 1) (show (r + 1) ≤ n ∧ ioF vv c0 n pl (n - (r + 1)) = ioF vv c0 n pl n from ⟨by omega, (ioF_n (by omega) (fun h => absurd h.2 (by omega))).symm.trans iv⟩) (show n - (r + 1) < n - r from (by omega)) ls (lv_sub hl [1, 2, 3, 0] rfl)
        · have gh4 : blw vv c0 (vv ((6 * r) + c0)) n ≤ pl := Nat.not_lt.mp (fun q => h4 ((nI_ltI (a := pl) (b := blw vv c0 (vv ((6 * r) + c0)) n) (by omega) (by omega)).mpr q))
          refine lv_iload_n hx hb dM_inOrder_115 rfl (lv_at hl 2 rfl) ?_
          refine lv_iload hx hb dM_inOrder_116 (lv_at hl 5 rfl) ?_
          refine lv_iload hx hb dM_inOrder_118 (lv_at hl 6 rfl) ?_
          refine lv_iadd hx hb dM_inOrder_120 ?_
          refine lv_topi (fun y9 e9 => ?_)
          cases (show y9 = nI ((blw vv c0 (vv ((6 * r) + c0)) n) + (sme vv c0 (vv ((6 * r) + c0)) n)) from e9.trans (nI_add (blw vv c0 (vv ((6 * r) + c0)) n) (sme vv c0 (vv ((6 * r) + c0)) n)))
          refine lv_icmp_ge (tgt := 127) hx hb dM_inOrder_121 rfl (fun h5 => ?_) (fun h5 => ?_)
          · have gh5 : (blw vv c0 (vv ((6 * r) + c0)) n) + (sme vv c0 (vv ((6 * r) + c0)) n) ≤ pl := (nI_leI (a := (blw vv c0 (vv ((6 * r) + c0)) n) + (sme vv c0 (vv ((6 * r) + c0)) n)) (b := pl) (by omega) (by omega)).mp h5
            refine lv_iinc (k := 3) (v := nI (r + 1)) hx hb dM_inOrder_127 hl rfl (nI_1 r) (by decide) rfl (fun ls hl => ?_)
            have hl : lv_has ls 9 [(3, .int (nI (r + 1))), (0, .ref y), (1, .int (nI c0)), (2, .int (nI pl)), (4, .int (vv ((6 * r) + c0))), (5, .int (nI (blw vv c0 (vv ((6 * r) + c0)) n))), (6, .int (nI (sme vv c0 (vv ((6 * r) + c0)) n))), (7, .int (nI j))] := hl
            refine lv_goto (tgt := 2) hx hb dM_inOrder_130 rfl ?_
            exact ih2 (r + 1) (show (r + 1) ≤ n ∧ ioF vv c0 n pl (n - (r + 1)) = ioF vv c0 n pl n from ⟨by omega, (ioF_n (by omega) (fun h => absurd h.2 (by omega))).symm.trans iv⟩) (show n - (r + 1) < n - r from (by omega)) ls (lv_sub hl [1, 2, 3, 0] rfl)
          · have gh5 : pl < (blw vv c0 (vv ((6 * r) + c0)) n) + (sme vv c0 (vv ((6 * r) + c0)) n) := Nat.not_le.mp (fun q => h5 ((nI_leI (a := (blw vv c0 (vv ((6 * r) + c0)) n) + (sme vv c0 (vv ((6 * r) + c0)) n)) (b := pl) (by omega) (by omega)).mpr q))
            refine lv_iload hx hb dM_inOrder_124 (lv_at hl 4 rfl) ?_
            exact W.iret (v := vv ((6 * r) + c0)) hx hb hr (fun t9 ht9 hW9 => ⟨by rw [← iv, ioF_y (show r < n by omega) ⟨h3, by omega, by omega⟩], ht9⟩) (fun q h => nomatch h) dM_inOrder_126
    · have gh2 : j < n := Nat.not_le.mp (fun q => h2 ((nI_leI (a := n) (b := j) (by omega) (by omega)).mpr q))
      refine lv_aload_n hx hb dM_inOrder_41 rfl (lv_at hl 0 rfl) ?_
      refine va_get (D := D) (ci := 11) (v := .ref (yr 5)) (C := R_M) (T := T_M) (N := 60) hx hb hT in_M hown hK hP 0 rfl rfl 5 (by decide) (hT _ w1109) (fun _ h9 => h9) rfl dM_inOrder_42 ?_
      refine lv_bipush (v := 6) hx hb dM_inOrder_45 (by decide) ?_
      refine lv_iload hx hb dM_inOrder_47 (lv_at hl 7 rfl) ?_
      refine lv_imul hx hb dM_inOrder_49 ?_
      refine lv_topi (fun y9 e9 => ?_)
      cases (show y9 = nI (6 * j) from e9.trans (pk_mul 6 j))
      refine lv_iload_n hx hb dM_inOrder_50 rfl (lv_at hl 1 rfl) ?_
      refine lv_iadd hx hb dM_inOrder_51 ?_
      refine lv_topi (fun y9 e9 => ?_)
      cases (show y9 = nI ((6 * j) + c0) from e9.trans (nI_add (6 * j) c0))
      refine lq_iald (j := (6 * j) + c0) hx hb hK hP 1 0 rfl rfl rfl (by omega) (by omega) dM_inOrder_52 ?_
      refine lv_istore hx hb dM_inOrder_53 hl (by decide) rfl (fun ls hl => ?_)
      have hl : lv_has ls 9 [(8, .int (vv ((6 * j) + c0))), (0, .ref y), (1, .int (nI c0)), (2, .int (nI pl)), (3, .int (nI r)), (4, .int (vv ((6 * r) + c0))), (5, .int (nI (blw vv c0 (vv ((6 * r) + c0)) j))), (6, .int (nI (sme vv c0 (vv ((6 * r) + c0)) j))), (7, .int (nI j))] := hl
      refine lv_iload hx hb dM_inOrder_55 (lv_at hl 6 rfl) ?_
      refine lv_iload hx hb dM_inOrder_57 (lv_at hl 0 rfl) ?_
      refine lv_ldc (v := (-2147483648)) hx hb hown (hT _ w1103) dM_inOrder_59 ?_
      refine lv_icmp_eq (tgt := 75) hx hb dM_inOrder_61 rfl (fun h6 => ?_) (fun h6 => ?_)
      · refine lv_iconst (v := 0) hx hb dM_inOrder_75 (by decide) ?_
        refine lv_iadd hx hb dM_inOrder_76 ?_
        refine lv_topi (fun y9 e9 => ?_)
        cases (show y9 = nI (blw vv c0 (vv ((6 * r) + c0)) j) from e9.trans (nI_add (blw vv c0 (vv ((6 * r) + c0)) j) 0))
        refine lv_topi (fun y9 e9 => ?_)
        cases (show y9 = nI (blw vv c0 (vv ((6 * r) + c0)) (j + 1)) from e9.trans (congrArg nI (by show _ = blw vv c0 _ j + _; rw [if_neg (fun h => h.1 h6), Nat.add_zero])))
        refine lv_istore hx hb dM_inOrder_77 hl (by decide) rfl (fun ls hl => ?_)
        have hl : lv_has ls 9 [(5, .int (nI (blw vv c0 (vv ((6 * r) + c0)) (j + 1)))), (8, .int (vv ((6 * j) + c0))), (0, .ref y), (1, .int (nI c0)), (2, .int (nI pl)), (3, .int (nI r)), (4, .int (vv ((6 * r) + c0))), (6, .int (nI (sme vv c0 (vv ((6 * r) + c0)) j))), (7, .int (nI j))] := hl
        refine lv_iload hx hb dM_inOrder_79 (lv_at hl 7 rfl) ?_
        refine lv_iload hx hb dM_inOrder_81 (lv_at hl 1 rfl) ?_
        refine lv_iload hx hb dM_inOrder_83 (lv_at hl 6 rfl) ?_
        refine lv_icmp_ne (tgt := 92) hx hb dM_inOrder_85 rfl (fun h7 => ?_) (fun h7 => ?_)
        · refine lv_iconst (v := 0) hx hb dM_inOrder_92 (by decide) ?_
          refine lv_iadd hx hb dM_inOrder_93 ?_
          refine lv_topi (fun y9 e9 => ?_)
          cases (show y9 = nI (sme vv c0 (vv ((6 * r) + c0)) j) from e9.trans (nI_add (sme vv c0 (vv ((6 * r) + c0)) j) 0))
          refine lv_topi (fun y9 e9 => ?_)
          cases (show y9 = nI (sme vv c0 (vv ((6 * r) + c0)) (j + 1)) from e9.trans (congrArg nI (by show _ = sme vv c0 _ j + _; rw [if_neg h7, Nat.add_zero])))
          refine lv_istore hx hb dM_inOrder_94 hl (by decide) rfl (fun ls hl => ?_)
          have hl : lv_has ls 9 [(6, .int (nI (sme vv c0 (vv ((6 * r) + c0)) (j + 1)))), (5, .int (nI (blw vv c0 (vv ((6 * r) + c0)) (j + 1)))), (8, .int (vv ((6 * j) + c0))), (0, .ref y), (1, .int (nI c0)), (2, .int (nI pl)), (3, .int (nI r)), (4, .int (vv ((6 * r) + c0))), (7, .int (nI j))] := hl
          refine lv_iinc (k := 8) (v := nI (j + 1)) hx hb dM_inOrder_96 hl rfl (nI_1 j) (by decide) rfl (fun ls hl => ?_)
          have hl : lv_has ls 9 [(7, .int (nI (j + 1))), (6, .int (nI (sme vv c0 (vv ((6 * r) + c0)) (j + 1)))), (5, .int (nI (blw vv c0 (vv ((6 * r) + c0)) (j + 1)))), (8, .int (vv ((6 * j) + c0))), (0, .ref y), (1, .int (nI c0)), (2, .int (nI pl)), (3, .int (nI r)), (4, .int (vv ((6 * r) + c0)))] := hl
          refine lv_goto (tgt := 32) hx hb dM_inOrder_99 rfl ?_
          exact ih32 (j + 1) (show (j + 1) ≤ n from by omega) (show n - (j + 1) < n - j from (by omega)) ls (lv_sub hl [4, 5, 6, 7, 8, 2, 1, 0] rfl)
        · refine lv_iconst (v := 1) hx hb dM_inOrder_88 (by decide) ?_
          refine lv_goto (tgt := 93) hx hb dM_inOrder_89 rfl ?_
          refine lv_iadd hx hb dM_inOrder_93 ?_
          refine lv_topi (fun y9 e9 => ?_)
          cases (show y9 = nI ((sme vv c0 (vv ((6 * r) + c0)) j) + 1) from e9.trans (nI_add (sme vv c0 (vv ((6 * r) + c0)) j) 1))
          refine lv_topi (fun y9 e9 => ?_)
          cases (show y9 = nI (sme vv c0 (vv ((6 * r) + c0)) (j + 1)) from e9.trans (congrArg nI (by show _ = sme vv c0 _ j + _; rw [if_pos h7])))
          refine lv_istore hx hb dM_inOrder_94 hl (by decide) rfl (fun ls hl => ?_)
          have hl : lv_has ls 9 [(6, .int (nI (sme vv c0 (vv ((6 * r) + c0)) (j + 1)))), (5, .int (nI (blw vv c0 (vv ((6 * r) + c0)) (j + 1)))), (8, .int (vv ((6 * j) + c0))), (0, .ref y), (1, .int (nI c0)), (2, .int (nI pl)), (3, .int (nI r)), (4, .int (vv ((6 * r) + c0))), (7, .int (nI j))] := hl
          refine lv_iinc (k := 8) (v := nI (j + 1)) hx hb dM_inOrder_96 hl rfl (nI_1 j) (by decide) rfl (fun ls hl => ?_)
          have hl : lv_has ls 9 [(7, .int (nI (j + 1))), (6, .int (nI (sme vv c0 (vv ((6 * r) + c0)) (j + 1)))), (5, .int (nI (blw vv c0 (vv ((6 * r) + c0)) (j + 1)))), (8, .int (vv ((6 * j) + c0))), (0, .ref y), (1, .int (nI c0)), (2, .int (nI pl)), (3, .int (nI r)), (4, .int (vv ((6 * r) + c0)))] := hl
          refine lv_goto (tgt := 32) hx hb dM_inOrder_99 rfl ?_
          exact ih32 (j + 1) (show (j + 1) ≤ n from by omega) (show n - (j + 1) < n - j from (by omega)) ls (lv_sub hl [4, 5, 6, 7, 8, 2, 1, 0] rfl)
      · refine lv_iload hx hb dM_inOrder_64 (lv_at hl 0 rfl) ?_
        refine lv_iload hx hb dM_inOrder_66 (lv_at hl 5 rfl) ?_
        refine lv_icmp_ge (tgt := 75) hx hb dM_inOrder_68 rfl (fun h8 => ?_) (fun h8 => ?_)
        · refine lv_iconst (v := 0) hx hb dM_inOrder_75 (by decide) ?_
          refine lv_iadd hx hb dM_inOrder_76 ?_
          refine lv_topi (fun y9 e9 => ?_)
          cases (show y9 = nI (blw vv c0 (vv ((6 * r) + c0)) j) from e9.trans (nI_add (blw vv c0 (vv ((6 * r) + c0)) j) 0))
          refine lv_topi (fun y9 e9 => ?_)
          cases (show y9 = nI (blw vv c0 (vv ((6 * r) + c0)) (j + 1)) from e9.trans (congrArg nI (by show _ = blw vv c0 _ j + _; rw [if_neg (fun h => Int32.not_lt.mpr h8 h.2), Nat.add_zero])))
          refine lv_istore hx hb dM_inOrder_77 hl (by decide) rfl (fun ls hl => ?_)
          have hl : lv_has ls 9 [(5, .int (nI (blw vv c0 (vv ((6 * r) + c0)) (j + 1)))), (8, .int (vv ((6 * j) + c0))), (0, .ref y), (1, .int (nI c0)), (2, .int (nI pl)), (3, .int (nI r)), (4, .int (vv ((6 * r) + c0))), (6, .int (nI (sme vv c0 (vv ((6 * r) + c0)) j))), (7, .int (nI j))] := hl
          refine lv_iload hx hb dM_inOrder_79 (lv_at hl 7 rfl) ?_
          refine lv_iload hx hb dM_inOrder_81 (lv_at hl 1 rfl) ?_
          refine lv_iload hx hb dM_inOrder_83 (lv_at hl 6 rfl) ?_
          refine lv_icmp_ne (tgt := 92) hx hb dM_inOrder_85 rfl (fun h9 => ?_) (fun h9 => ?_)
          · refine lv_iconst (v := 0) hx hb dM_inOrder_92 (by decide) ?_
            refine lv_iadd hx hb dM_inOrder_93 ?_
            refine lv_topi (fun y9 e9 => ?_)
            cases (show y9 = nI (sme vv c0 (vv ((6 * r) + c0)) j) from e9.trans (nI_add (sme vv c0 (vv ((6 * r) + c0)) j) 0))
            refine lv_topi (fun y9 e9 => ?_)
            cases (show y9 = nI (sme vv c0 (vv ((6 * r) + c0)) (j + 1)) from e9.trans (congrArg nI (by show _ = sme vv c0 _ j + _; rw [if_neg h9, Nat.add_zero])))
            refine lv_istore hx hb dM_inOrder_94 hl (by decide) rfl (fun ls hl => ?_)
            have hl : lv_has ls 9 [(6, .int (nI (sme vv c0 (vv ((6 * r) + c0)) (j + 1)))), (5, .int (nI (blw vv c0 (vv ((6 * r) + c0)) (j + 1)))), (8, .int (vv ((6 * j) + c0))), (0, .ref y), (1, .int (nI c0)), (2, .int (nI pl)), (3, .int (nI r)), (4, .int (vv ((6 * r) + c0))), (7, .int (nI j))] := hl
            refine lv_iinc (k := 8) (v := nI (j + 1)) hx hb dM_inOrder_96 hl rfl (nI_1 j) (by decide) rfl (fun ls hl => ?_)
            have hl : lv_has ls 9 [(7, .int (nI (j + 1))), (6, .int (nI (sme vv c0 (vv ((6 * r) + c0)) (j + 1)))), (5, .int (nI (blw vv c0 (vv ((6 * r) + c0)) (j + 1)))), (8, .int (vv ((6 * j) + c0))), (0, .ref y), (1, .int (nI c0)), (2, .int (nI pl)), (3, .int (nI r)), (4, .int (vv ((6 * r) + c0)))] := hl
            refine lv_goto (tgt := 32) hx hb dM_inOrder_99 rfl ?_
            exact ih32 (j + 1) (show (j + 1) ≤ n from by omega) (show n - (j + 1) < n - j from (by omega)) ls (lv_sub hl [4, 5, 6, 7, 8, 2, 1, 0] rfl)
          · refine lv_iconst (v := 1) hx hb dM_inOrder_88 (by decide) ?_
            refine lv_goto (tgt := 93) hx hb dM_inOrder_89 rfl ?_
            refine lv_iadd hx hb dM_inOrder_93 ?_
            refine lv_topi (fun y9 e9 => ?_)
            cases (show y9 = nI ((sme vv c0 (vv ((6 * r) + c0)) j) + 1) from e9.trans (nI_add (sme vv c0 (vv ((6 * r) + c0)) j) 1))
            refine lv_topi (fun y9 e9 => ?_)
            cases (show y9 = nI (sme vv c0 (vv ((6 * r) + c0)) (j + 1)) from e9.trans (congrArg nI (by show _ = sme vv c0 _ j + _; rw [if_pos h9])))
            refine lv_istore hx hb dM_inOrder_94 hl (by decide) rfl (fun ls hl => ?_)
            have hl : lv_has ls 9 [(6, .int (nI (sme vv c0 (vv ((6 * r) + c0)) (j + 1)))), (5, .int (nI (blw vv c0 (vv ((6 * r) + c0)) (j + 1)))), (8, .int (vv ((6 * j) + c0))), (0, .ref y), (1, .int (nI c0)), (2, .int (nI pl)), (3, .int (nI r)), (4, .int (vv ((6 * r) + c0))), (7, .int (nI j))] := hl
            refine lv_iinc (k := 8) (v := nI (j + 1)) hx hb dM_inOrder_96 hl rfl (nI_1 j) (by decide) rfl (fun ls hl => ?_)
            have hl : lv_has ls 9 [(7, .int (nI (j + 1))), (6, .int (nI (sme vv c0 (vv ((6 * r) + c0)) (j + 1)))), (5, .int (nI (blw vv c0 (vv ((6 * r) + c0)) (j + 1)))), (8, .int (vv ((6 * j) + c0))), (0, .ref y), (1, .int (nI c0)), (2, .int (nI pl)), (3, .int (nI r)), (4, .int (vv ((6 * r) + c0)))] := hl
            refine lv_goto (tgt := 32) hx hb dM_inOrder_99 rfl ?_
            exact ih32 (j + 1) (show (j + 1) ≤ n from by omega) (show n - (j + 1) < n - j from (by omega)) ls (lv_sub hl [4, 5, 6, 7, 8, 2, 1, 0] rfl)
        · refine lv_iconst (v := 1) hx hb dM_inOrder_71 (by decide) ?_
          refine lv_goto (tgt := 76) hx hb dM_inOrder_72 rfl ?_
          refine lv_iadd hx hb dM_inOrder_76 ?_
          refine lv_topi (fun y9 e9 => ?_)
          cases (show y9 = nI ((blw vv c0 (vv ((6 * r) + c0)) j) + 1) from e9.trans (nI_add (blw vv c0 (vv ((6 * r) + c0)) j) 1))
          refine lv_topi (fun y9 e9 => ?_)
          cases (show y9 = nI (blw vv c0 (vv ((6 * r) + c0)) (j + 1)) from e9.trans (congrArg nI (by show _ = blw vv c0 _ j + _; rw [if_pos ⟨h6, Int32.not_le.mp h8⟩])))
          refine lv_istore hx hb dM_inOrder_77 hl (by decide) rfl (fun ls hl => ?_)
          have hl : lv_has ls 9 [(5, .int (nI (blw vv c0 (vv ((6 * r) + c0)) (j + 1)))), (8, .int (vv ((6 * j) + c0))), (0, .ref y), (1, .int (nI c0)), (2, .int (nI pl)), (3, .int (nI r)), (4, .int (vv ((6 * r) + c0))), (6, .int (nI (sme vv c0 (vv ((6 * r) + c0)) j))), (7, .int (nI j))] := hl
          refine lv_iload hx hb dM_inOrder_79 (lv_at hl 7 rfl) ?_
          refine lv_iload hx hb dM_inOrder_81 (lv_at hl 1 rfl) ?_
          refine lv_iload hx hb dM_inOrder_83 (lv_at hl 6 rfl) ?_
          refine lv_icmp_ne (tgt := 92) hx hb dM_inOrder_85 rfl (fun h10 => ?_) (fun h10 => ?_)
          · refine lv_iconst (v := 0) hx hb dM_inOrder_92 (by decide) ?_
            refine lv_iadd hx hb dM_inOrder_93 ?_
            refine lv_topi (fun y9 e9 => ?_)
            cases (show y9 = nI (sme vv c0 (vv ((6 * r) + c0)) j) from e9.trans (nI_add (sme vv c0 (vv ((6 * r) + c0)) j) 0))
            refine lv_topi (fun y9 e9 => ?_)
            cases (show y9 = nI (sme vv c0 (vv ((6 * r) + c0)) (j + 1)) from e9.trans (congrArg nI (by show _ = sme vv c0 _ j + _; rw [if_neg h10, Nat.add_zero])))
            refine lv_istore hx hb dM_inOrder_94 hl (by decide) rfl (fun ls hl => ?_)
            have hl : lv_has ls 9 [(6, .int (nI (sme vv c0 (vv ((6 * r) + c0)) (j + 1)))), (5, .int (nI (blw vv c0 (vv ((6 * r) + c0)) (j + 1)))), (8, .int (vv ((6 * j) + c0))), (0, .ref y), (1, .int (nI c0)), (2, .int (nI pl)), (3, .int (nI r)), (4, .int (vv ((6 * r) + c0))), (7, .int (nI j))] := hl
            refine lv_iinc (k := 8) (v := nI (j + 1)) hx hb dM_inOrder_96 hl rfl (nI_1 j) (by decide) rfl (fun ls hl => ?_)
            have hl : lv_has ls 9 [(7, .int (nI (j + 1))), (6, .int (nI (sme vv c0 (vv ((6 * r) + c0)) (j + 1)))), (5, .int (nI (blw vv c0 (vv ((6 * r) + c0)) (j + 1)))), (8, .int (vv ((6 * j) + c0))), (0, .ref y), (1, .int (nI c0)), (2, .int (nI pl)), (3, .int (nI r)), (4, .int (vv ((6 * r) + c0)))] := hl
            refine lv_goto (tgt := 32) hx hb dM_inOrder_99 rfl ?_
            exact ih32 (j + 1) (show (j + 1) ≤ n from by omega) (show n - (j + 1) < n - j from (by omega)) ls (lv_sub hl [4, 5, 6, 7, 8, 2, 1, 0] rfl)
          · refine lv_iconst (v := 1) hx hb dM_inOrder_88 (by decide) ?_
            refine lv_goto (tgt := 93) hx hb dM_inOrder_89 rfl ?_
            refine lv_iadd hx hb dM_inOrder_93 ?_
            refine lv_topi (fun y9 e9 => ?_)
            cases (show y9 = nI ((sme vv c0 (vv ((6 * r) + c0)) j) + 1) from e9.trans (nI_add (sme vv c0 (vv ((6 * r) + c0)) j) 1))
            refine lv_topi (fun y9 e9 => ?_)
            cases (show y9 = nI (sme vv c0 (vv ((6 * r) + c0)) (j + 1)) from e9.trans (congrArg nI (by show _ = sme vv c0 _ j + _; rw [if_pos h10])))
            refine lv_istore hx hb dM_inOrder_94 hl (by decide) rfl (fun ls hl => ?_)
            have hl : lv_has ls 9 [(6, .int (nI (sme vv c0 (vv ((6 * r) + c0)) (j + 1)))), (5, .int (nI (blw vv c0 (vv ((6 * r) + c0)) (j + 1)))), (8, .int (vv ((6 * j) + c0))), (0, .ref y), (1, .int (nI c0)), (2, .int (nI pl)), (3, .int (nI r)), (4, .int (vv ((6 * r) + c0))), (7, .int (nI j))] := hl
            refine lv_iinc (k := 8) (v := nI (j + 1)) hx hb dM_inOrder_96 hl rfl (nI_1 j) (by decide) rfl (fun ls hl => ?_)
            have hl : lv_has ls 9 [(7, .int (nI (j + 1))), (6, .int (nI (sme vv c0 (vv ((6 * r) + c0)) (j + 1)))), (5, .int (nI (blw vv c0 (vv ((6 * r) + c0)) (j + 1)))), (8, .int (vv ((6 * j) + c0))), (0, .ref y), (1, .int (nI c0)), (2, .int (nI pl)), (3, .int (nI r)), (4, .int (vv ((6 * r) + c0)))] := hl
            refine lv_goto (tgt := 32) hx hb dM_inOrder_99 rfl ?_
            exact ih32 (j + 1) (show (j + 1) ≤ n from by omega) (show n - (j + 1) < n - j from (by omega)) ls (lv_sub hl [4, 5, 6, 7, 8, 2, 1, 0] rfl)
