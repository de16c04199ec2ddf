set_option maxHeartbeats 4000000 in
set_option maxRecDepth 100000 in
theorem y_cut_ok (l : Launch) (D : va_G) (cT : Nat → ClassId) (y : Nat) (yr : Nat → Nat) (yi : Nat → Int32) (ysb : Int64) (ybs : Int64) (ik : Nat → Int32) (em : Nat → Int32) (eg : Nat → Int32) (vv : Nat → Int32) (c0 : Nat) (bc : Int32) (nn : Nat) (n : Nat) (hn : yi 3 = nI n) (hn48 : n ≤ 48) (hc0 : 0 ≤ nI c0 ∧ nI c0 ≤ yi 2 - 1) (hc6 : c0 < 6) (hnn : 2 ≤ nI nn ∧ nI nn ≤ 12) (hnn2 : 2 ≤ nn ∧ nn ≤ 12) (hik : ik c0 = 0) (sz : Nat) : Met l yM_cut WM_cut ({ frames := 2, cells := 0, slots := 0, locals := 43 } : Room) (RW D vwCl [.ref y, .int (nI c0), .int bc, .int (nI nn)] [(y, .inr (11, MO yr yi ysb ybs)), (yr 6, .inl (cT 3, 6, .inl ik)), (yr 8, .inl (cT 0, 6, .inl em)), (yr 7, .inl (cT 0, 66, .inl eg)), (yr 5, .inl (cT 0, 288, .inl vv))] (TY cT) sz) (va_Qi (fun (r9 : Int32) (u9 : Nat × (Nat → Int32) × (Nat → Int32)) => r9 = nI u9.1 ∧ u9.1 ≤ 11 ∧ u9.2.1 c0 = nI u9.1 ∧ (∀ q8, q8 ≠ c0 → u9.2.1 q8 = em q8) ∧ (u9.1, u9.2.2) = cutF bc vv c0 n nn eg) (BW D vwCl (va_A [(y, .inr (11, MO yr yi ysb ybs)), (yr 6, .inl (cT 3, 6, .inl ik)), (yr 8, .inl (cT 0, 6, .inl em)), (yr 7, .inl (cT 0, 66, .inl eg)), (yr 5, .inl (cT 0, 288, .inl vv))] sz) (fun u9 : Nat × (Nat → Int32) × (Nat → Int32) => [(y, .inr (11, MO yr (va_up yi 1 0) ysb ybs)), (yr 6, .inl (cT 3, 6, .inl ik)), (yr 8, .inl (cT 0, 6, .inl u9.2.1)), (yr 7, .inl (cT 0, 66, .inl u9.2.2)), (yr 5, .inl (cT 0, 288, .inl vv))])) (va_A [(y, .inr (11, MO yr yi ysb ybs)), (yr 6, .inl (cT 3, 6, .inl ik)), (yr 8, .inl (cT 0, 6, .inl em)), (yr 7, .inl (cT 0, 66, .inl eg)), (yr 5, .inl (cT 0, 288, .inl vv))] sz)) 0 0 (va_A [(y, .inr (11, MO yr yi ysb ybs)), (yr 6, .inl (cT 3, 6, .inl ik)), (yr 8, .inl (cT 0, 6, .inl em)), (yr 7, .inl (cT 0, 66, .inl eg)), (yr 5, .inl (cT 0, 288, .inl vv))] sz) := by
  refine Met.ofW (cc := cM_cut) (maxL := 11) (ret := (some .int)) (by decide) rfl ?_
  intro p e s m args below meth c s₁ B hml hv
  obtain ⟨rfl, hsz, hZ, hP, hK, hD0⟩ := hv
  have hx := B.exec
  have hb := B.bytes
  have hr := B.returns
  have hts := atoms_spec (ws := WM_cut) B.pre
  have hT : ∀ w ∈ TB, w.before _ s = true := fun w h => hts w (List.mem_cons_of_mem _ h)
  have hown : s.vm.findClass R_M = some m.cls := findClass_of_methodNamed B.named
  have hlocks := B.notSynchronized
  subst hsz
  have hD := hD0.self (sz := s.heap.size)
  generalize hAe : va_A [(y, .inr (11, MO yr yi ysb ybs)), (yr 6, .inl (cT 3, 6, .inl ik)), (yr 8, .inl (cT 0, 6, .inl em)), (yr 7, .inl (cT 0, 66, .inl eg)), (yr 5, .inl (cT 0, 288, .inl vv))] s.heap.size = A at hD hZ ⊢
  have hA : ∀ q : Nat, s.heap.size ≤ q → A q := fun q h => by rw [← hAe]; exact Or.inr h
  have hS : va_S A s.heap s.heap [] := va_S.rf
  have hl := lv_entry ([.ref y, .int (nI c0), .int bc, .int (nI nn)]) (n := 11) (Nat.le_of_ble_eq_true rfl)
  rw [lg_entry_eq]
  generalize (lg_sl ([.ref y, .int (nI c0), .int bc, .int (nI nn)]) ++ List.replicate (11 - (lg_sl ([.ref y, .int (nI c0), .int bc, .int (nI nn)])).length) Slot.unset).toArray = ls at hl ⊢
  have hl : lv_has ls 11 [(0, .ref y), (1, .int (nI c0)), (2, .int bc), (3, .int (nI nn))] := hl
  refine lv_aload_n hx hb dM_cut_0 rfl (lv_at hl 0 rfl) ?_
  refine lv_aload_n hx hb dM_cut_1 rfl (lv_at hl 0 rfl) ?_
  refine lv_iload_n hx hb dM_cut_2 rfl (lv_at hl 1 rfl) ?_
  refine ro_i (va_Run.run (va_runV (As := [.int (nI c0)]) (rest := [.ref y]) ⟨hx, hb, hml, hown, hT⟩ (m_noColumn l D cT y yr yi ysb ybs (nI c0)) ⟨callB_of 1 hT (tb_gd w1317) rfl rfl rfl (hT _ w13) (hT _ w1314) hM_noColumn ⟨Nat.le_of_ble_eq_true rfl, Nat.le_of_ble_eq_true rfl⟩, (hT _ w1316), (hT _ wp31)⟩ (RO.preV (ci := 11) (q0 := 0) hZ hS (hP.sub (ws' := [(y, .inr (11, MO yr yi ysb ybs))]) [0] rfl) hK rfl rfl) rfl rfl hl.1 rfl (lv_room (Nat.le_of_ble_eq_true rfl)) dM_cut_3 ⟨Nat.le_of_ble_eq_true rfl, Nat.le_of_ble_eq_true rfl⟩)) ?_
  refine lv_if_ne (tgt := 19) hx hb dM_cut_6 rfl (fun h1 => absurd (bi_f (fun q => q hc0)) h1) (fun _ => ?_)
  refine lv_iload_n hx hb dM_cut_9 rfl (lv_at hl 3 rfl) ?_
  refine lv_iconst (v := 2) hx hb dM_cut_10 (by decide) ?_
  refine lv_bipush (v := 12) hx hb dM_cut_11 (by decide) ?_
  refine ro_i (va_Run.run (va_runS (As := [.int (nI nn), .int 2, .int 12]) (rest := [.ref y]) ⟨hx, hb, hml, hown, hT⟩ (m_in l D cT (nI nn) 2 12) ⟨callB_of 3 hT (tb_gd w1297) rfl rfl rfl (hT _ w13) (hT _ w1295) hM_in ⟨Nat.le_of_ble_eq_true rfl, Nat.le_of_ble_eq_true rfl⟩, (hT _ w1296)⟩ (RO.preS hZ hS ((show va_P D vwCl [] _ from fun _ _ h => nomatch h)) hK) rfl rfl hl.1 rfl (lv_room (Nat.le_of_ble_eq_true rfl)) dM_cut_13 ⟨Nat.le_of_ble_eq_true rfl, Nat.le_of_ble_eq_true rfl⟩)) ?_
  refine lv_if_ne (tgt := 23) hx hb dM_cut_16 rfl (fun _ => ?_) (fun h2 => absurd h2 (by rw [bi_t hnn]; decide))
  refine lv_aload_n hx hb dM_cut_23 rfl (lv_at hl 0 rfl) ?_
  refine va_get (D := D) (ci := 11) (v := .ref (yr 6)) (C := R_M) (T := T_M) (N := 60) hx hb hT in_M hown hK hP 0 rfl rfl 6 (by decide) (hT _ w1110) (fun _ h9 => h9) rfl dM_cut_24 ?_
  refine lv_iload_n hx hb dM_cut_27 rfl (lv_at hl 1 rfl) ?_
  refine lq_zald (j := c0) hx hb hK hP 1 3 rfl rfl rfl (by omega) (by omega) dM_cut_28 ?_
  refine lv_if_eq (tgt := 36) hx hb dM_cut_29 rfl (fun _ => ?_) (fun h3 => absurd hik h3)
  refine lv_iconst (v := 0) hx hb dM_cut_36 (by decide) ?_
  refine rw_i (wc := [(y, .inr (11, MO yr yi ysb ybs))]) (wr := [(yr 6, .inl (cT 3, 6, .inl ik)), (yr 8, .inl (cT 0, 6, .inl em)), (yr 7, .inl (cT 0, 66, .inl eg)), (yr 5, .inl (cT 0, 288, .inl vv))]) hP hD hS hA [0] [1, 2, 3, 4] rfl rfl (by decide) (by decide) (va_runV (As := [.int 0]) (rest := []) ⟨hx, hb, hml, hown, hT⟩ (m_ref0 l D cT y yr yi ysb ybs _) ⟨callB_of 1 hT (tb_gd w1301) rfl rfl rfl (hT _ w13) (hT _ w1298) hM_refused ⟨Nat.le_of_ble_eq_true rfl, Nat.le_of_ble_eq_true rfl⟩, (hT _ w1300), (hT _ wp29)⟩ (RW.preV (ci := 11) (q0 := 0) hZ hS (va_free (wc := [(y, .inr (11, MO yr yi ysb ybs))]) hD hS hA [0] rfl) (hP.sub (ws' := [(y, .inr (11, MO yr yi ysb ybs))]) [0] rfl) hK (hD.sub (ws' := [(y, .inr (11, MO yr yi ysb ybs))]) [0] (by decide) rfl) rfl rfl) rfl rfl hl.1 rfl (lv_room (Nat.le_of_ble_eq_true rfl)) dM_cut_37 ⟨Nat.le_of_ble_eq_true rfl, Nat.le_of_ble_eq_true rfl⟩) (fun ru4 u9 H locs hpu4 hP hD hS => ?_)
  have hpu4 : ru4 = 0 := hpu4
  have hP : va_P D vwCl [(yr 6, .inl (cT 3, 6, .inl ik)), (yr 8, .inl (cT 0, 6, .inl em)), (yr 7, .inl (cT 0, 66, .inl eg)), (yr 5, .inl (cT 0, 288, .inl vv)), (y, .inr (11, MO yr (va_up yi 1 0) ysb ybs))] _ := hP
  have hD : va_D A [(yr 6, .inl (cT 3, 6, .inl ik)), (yr 8, .inl (cT 0, 6, .inl em)), (yr 7, .inl (cT 0, 66, .inl eg)), (yr 5, .inl (cT 0, 288, .inl vv)), (y, .inr (11, MO yr (va_up yi 1 0) ysb ybs))] := hD
  refine lv_topi (fun y9 e9 => ?_)
  cases (show y9 = 0 from e9.trans hpu4)
  refine lv_if_eq (tgt := 45) hx hb dM_cut_40 rfl (fun _ => ?_) (fun h5 => absurd (by decide) h5)
  refine lv_aload_n hx hb dM_cut_45 rfl (lv_at hl 0 rfl) ?_
  refine va_get (D := D) (ci := 11) (v := .ref (yr 8)) (C := R_M) (T := T_M) (N := 60) hx hb hT in_M hown hK hP 4 rfl rfl 8 (by decide) (hT _ w1112) (fun _ h9 => h9) rfl dM_cut_46 ?_
  refine lv_iload_n hx hb dM_cut_49 rfl (lv_at hl 1 rfl) ?_
  refine lv_iconst (v := 0) hx hb dM_cut_50 (by decide) ?_
  refine lq_iast (j := c0) hx hb hK hP hD hS 1 0 rfl rfl rfl (by omega) (by omega) dM_cut_51 (fun H locs hP hD hS => ?_)
  have hP : va_P D vwCl [(yr 6, .inl (cT 3, 6, .inl ik)), (yr 8, .inl (cT 0, 6, .inl (upd em c0 0))), (yr 7, .inl (cT 0, 66, .inl eg)), (yr 5, .inl (cT 0, 288, .inl vv)), (y, .inr (11, MO yr (va_up yi 1 0) ysb ybs))] _ := hP
  have hD : va_D A [(yr 6, .inl (cT 3, 6, .inl ik)), (yr 8, .inl (cT 0, 6, .inl (upd em c0 0))), (yr 7, .inl (cT 0, 66, .inl eg)), (yr 5, .inl (cT 0, 288, .inl vv)), (y, .inr (11, MO yr (va_up yi 1 0) ysb ybs))] := hD
  refine lv_iconst (v := 0) hx hb dM_cut_52 (by decide) ?_
  refine lv_istore hx hb dM_cut_53 hl (by decide) rfl (fun ls hl => ?_)
  have hl : lv_has ls 11 [(4, .int 0), (0, .ref y), (1, .int (nI c0)), (2, .int bc), (3, .int (nI nn))] := hl
  refine lv_iconst (v := 0) hx hb dM_cut_55 (by decide) ?_
  refine lv_istore hx hb dM_cut_56 hl (by decide) rfl (fun ls hl => ?_)
  have hl : lv_has ls 11 [(5, .int 0), (4, .int 0), (0, .ref y), (1, .int (nI c0)), (2, .int bc), (3, .int (nI nn))] := hl
  refine lv_iconst (v := 0) hx hb dM_cut_58 (by decide) ?_
  refine lv_istore hx hb dM_cut_59 hl (by decide) rfl (fun ls hl => ?_)
  have hl : lv_has ls 11 [(6, .int 0), (5, .int 0), (4, .int 0), (0, .ref y), (1, .int (nI c0)), (2, .int bc), (3, .int (nI nn))] := hl
  refine lv_iconst (v := 0) hx hb dM_cut_61 (by decide) ?_
  refine lv_istore hx hb dM_cut_62 hl (by decide) rfl (fun ls hl => ?_)
  have hl : lv_has ls 11 [(7, .int 0), (6, .int 0), (5, .int 0), (4, .int 0), (0, .ref y), (1, .int (nI c0)), (2, .int bc), (3, .int (nI nn))] := hl
  refine lp_r (α := Nat) (fun a9 => a9 ≤ n) (fun a9 => n - a9) (fun a9 => [(0, .ref y), (1, .int (nI c0)), (2, .int bc), (3, .int (nI nn)), (4, .int (nI ((mnx vv c0 a9).1))), (5, .int ((mnx vv c0 a9).2.1)), (6, .int ((mnx vv c0 a9).2.2)), (7, .int (nI a9))]) 64 ?_ 0 (show 0 ≤ n from by omega) (lv_sub hl [4, 5, 6, 7, 3, 2, 1, 0] rfl)
  intro a9 hI64 ih64 ls hl
  obtain ⟨r, rfl⟩ : ∃ q9, q9 = a9 := ⟨_, rfl⟩
  have hI64 : r ≤ n := hI64
  have hl : lv_has ls 11 [(0, .ref y), (1, .int (nI c0)), (2, .int bc), (3, .int (nI nn)), (4, .int (nI ((mnx vv c0 r).1))), (5, .int ((mnx vv c0 r).2.1)), (6, .int ((mnx vv c0 r).2.2)), (7, .int (nI r))] := hl
  have hm9 := mnx_le vv c0 r
  refine lv_iload hx hb dM_cut_64 (lv_at hl 7 rfl) ?_
  refine lv_aload_n hx hb dM_cut_66 rfl (lv_at hl 0 rfl) ?_
  refine va_get (D := D) (ci := 11) (v := .int (yi 3)) (C := R_M) (T := T_M) (N := 60) hx hb hT in_M hown hK hP 4 rfl rfl 3 (by decide) (hT _ w1107) (fun _ h9 => h9) rfl dM_cut_67 ?_
  refine lv_topi (fun y9 e9 => ?_)
  cases (show y9 = nI n from e9.trans hn)
  refine lv_icmp_ge (tgt := 145) hx hb dM_cut_70 rfl (fun h6 => ?_) (fun h6 => ?_)
  · have gh6 : n ≤ r := (nI_leI (a := n) (b := r) (by omega) (by omega)).mp h6
    have er : r = n := by omega
    have hl : lv_has ls 11 [(0, .ref y), (1, .int (nI c0)), (2, .int bc), (3, .int (nI nn)), (4, .int (nI ((mnx vv c0 n).1))), (5, .int ((mnx vv c0 r).2.1)), (6, .int ((mnx vv c0 r).2.2)), (7, .int (nI r))] := by
      rw [show (mnx vv c0 n).1 = (mnx vv c0 r).1 by rw [er]]; exact hl
    have hl : lv_has ls 11 [(0, .ref y), (1, .int (nI c0)), (2, .int bc), (3, .int (nI nn)), (4, .int (nI ((mnx vv c0 n).1))), (5, .int ((mnx vv c0 n).2.1)), (6, .int ((mnx vv c0 r).2.2)), (7, .int (nI r))] := by
      rw [show (mnx vv c0 n).2.1 = (mnx vv c0 r).2.1 by rw [er]]; exact hl
    have hl : lv_has ls 11 [(0, .ref y), (1, .int (nI c0)), (2, .int bc), (3, .int (nI nn)), (4, .int (nI ((mnx vv c0 n).1))), (5, .int ((mnx vv c0 n).2.1)), (6, .int ((mnx vv c0 n).2.2)), (7, .int (nI r))] := by
      rw [show (mnx vv c0 n).2.2 = (mnx vv c0 r).2.2 by rw [er]]; exact hl
    have hmk := mnx_le vv c0 n
    refine lv_iconst (v := 1) hx hb dM_cut_145 (by decide) ?_
    refine lv_istore hx hb dM_cut_146 hl (by decide) rfl (fun ls hl => ?_)
    have hl : lv_has ls 11 [(7, .int 1), (0, .ref y), (1, .int (nI c0)), (2, .int bc), (3, .int (nI nn)), (4, .int (nI ((mnx vv c0 n).1))), (5, .int ((mnx vv c0 n).2.1)), (6, .int ((mnx vv c0 n).2.2))] := hl
    refine lp_w (α := Nat × (Nat → Int32) × (Nat → Int32) × Nat) (fun a9 => a9.1 + 1 ≤ nn ∧ a9.2.1 c0 = nI a9.2.2.2 ∧ (∀ q, q ≠ c0 → a9.2.1 q = em q) ∧ (a9.2.2.2, a9.2.2.1) = ctE (ctv bc vv c0 n nn) (mnx vv c0 n).2.1 (11 * c0) eg a9.1 ∧ (a9.1 = 0 ∨ 0 < (mnx vv c0 n).1)) (fun a9 => nn - a9.1) (fun a9 => [(0, .ref y), (1, .int (nI c0)), (2, .int bc), (3, .int (nI nn)), (4, .int (nI ((mnx vv c0 n).1))), (5, .int ((mnx vv c0 n).2.1)), (6, .int ((mnx vv c0 n).2.2)), (7, .int (nI (a9.1 + 1)))]) (fun a9 => [(yr 6, .inl (cT 3, 6, .inl ik)), (yr 8, .inl (cT 0, 6, .inl a9.2.1)), (yr 7, .inl (cT 0, 66, .inl a9.2.2.1)), (yr 5, .inl (cT 0, 288, .inl vv)), (y, .inr (11, MO yr (va_up yi 1 0) ysb ybs))]) 148 ?_ (0, upd em c0 0, eg, 0) (show 0 + 1 ≤ nn ∧ (upd em c0 0) c0 = nI 0 ∧ (∀ q, q ≠ c0 → (upd em c0 0) q = em q) ∧ (0, eg) = ctE (ctv bc vv c0 n nn) (mnx vv c0 n).2.1 (11 * c0) eg 0 ∧ (0 = 0 ∨ 0 < (mnx vv c0 n).1) from ⟨by omega, pk_us, fun q h => pk_un h, rfl, Or.inl rfl⟩) (lv_sub hl [1, 2, 3, 4, 5, 6, 7, 0] rfl) hP hD hS
    intro a9 hI148 ih148 ls H locs hl hP hD hS
    obtain ⟨k, emk, egk, me⟩ := a9
    have hI148 : k + 1 ≤ nn ∧ emk c0 = nI me ∧ (∀ q, q ≠ c0 → emk q = em q) ∧ (me, egk) = ctE (ctv bc vv c0 n nn) (mnx vv c0 n).2.1 (11 * c0) eg k ∧ (k = 0 ∨ 0 < (mnx vv c0 n).1) := hI148
    obtain ⟨ik9, im, io, ie, i0⟩ := hI148
    have hl : lv_has ls 11 [(0, .ref y), (1, .int (nI c0)), (2, .int bc), (3, .int (nI nn)), (4, .int (nI ((mnx vv c0 n).1))), (5, .int ((mnx vv c0 n).2.1)), (6, .int ((mnx vv c0 n).2.2)), (7, .int (nI (k + 1)))] := hl
    have hP : va_P D vwCl [(yr 6, .inl (cT 3, 6, .inl ik)), (yr 8, .inl (cT 0, 6, .inl emk)), (yr 7, .inl (cT 0, 66, .inl egk)), (yr 5, .inl (cT 0, 288, .inl vv)), (y, .inr (11, MO yr (va_up yi 1 0) ysb ybs))] _ := hP
    have hD : va_D A [(yr 6, .inl (cT 3, 6, .inl ik)), (yr 8, .inl (cT 0, 6, .inl emk)), (yr 7, .inl (cT 0, 66, .inl egk)), (yr 5, .inl (cT 0, 288, .inl vv)), (y, .inr (11, MO yr (va_up yi 1 0) ysb ybs))] := hD
    have ie1 := congrArg Prod.fst ie
    have ie2 := congrArg Prod.snd ie
    have hme : me ≤ k := by have q0 := ctE_le (ctv bc vv c0 n nn) (mnx vv c0 n).2.1 (11 * c0) eg k; rw [← ie1] at q0; exact q0
    refine lv_iload hx hb dM_cut_148 (lv_at hl 7 rfl) ?_
    refine lv_iload_n hx hb dM_cut_150 rfl (lv_at hl 3 rfl) ?_
    refine lv_icmp_ge (tgt := 302) hx hb dM_cut_151 rfl (fun h7 => ?_) (fun h7 => ?_)
    · have gh7 : nn ≤ k + 1 := (nI_leI (a := nn) (b := k + 1) (by omega) (by omega)).mp h7
      refine lv_aload_n hx hb dM_cut_302 rfl (lv_at hl 0 rfl) ?_
      refine va_get (D := D) (ci := 11) (v := .ref (yr 8)) (C := R_M) (T := T_M) (N := 60) hx hb hT in_M hown hK hP 4 rfl rfl 8 (by decide) (hT _ w1112) (fun _ h9 => h9) rfl dM_cut_303 ?_
      refine lv_iload_n hx hb dM_cut_306 rfl (lv_at hl 1 rfl) ?_
      refine lq_iald (j := c0) hx hb hK hP 1 0 rfl rfl rfl (by omega) (by omega) dM_cut_307 ?_
      refine lv_topi (fun y9 e9 => ?_)
      cases (show y9 = nI me from e9.trans im)
      have hP9 := hP.sub (ws' := [(y, .inr (11, MO yr (va_up yi 1 0) ysb ybs)), (yr 6, .inl (cT 3, 6, .inl ik)), (yr 8, .inl (cT 0, 6, .inl emk)), (yr 7, .inl (cT 0, 66, .inl egk)), (yr 5, .inl (cT 0, 288, .inl vv))]) [4, 0, 1, 2, 3] rfl
      have hD9 := hD.sub (ws' := [(y, .inr (11, MO yr (va_up yi 1 0) ysb ybs)), (yr 6, .inl (cT 3, 6, .inl ik)), (yr 8, .inl (cT 0, 6, .inl emk)), (yr 7, .inl (cT 0, 66, .inl egk)), (yr 5, .inl (cT 0, 288, .inl vv))]) [4, 0, 1, 2, 3] (by decide) rfl
      refine W.widen (k := 0) (n := 0) (Nat.le_of_ble_eq_true rfl) (Nat.le_of_ble_eq_true rfl) ?_
      exact W.iret (v := nI me) hx hb hr (fun t9 ht9 hW9 => ⟨⟨nI me, (me, emk, egk), rfl, (show (nI me) = nI me ∧ me ≤ 11 ∧ emk c0 = nI me ∧ (∀ q8, q8 ≠ c0 → emk q8 = em q8) ∧ (me, egk) = cutF bc vv c0 n nn eg from ⟨rfl, by omega, im, io, by unfold cutF; rcases i0 with q | q; (by_cases h9 : (mnx vv c0 n).1 = 0; (rw [if_pos h9]; rw [q] at ie; exact ie); (rw [if_neg h9, show nn - 1 = k by omega]; exact ie)); (rw [if_neg (by omega), show nn - 1 = k by omega]; exact ie)⟩), by rw [ht9]; exact hP9, hD9⟩, hS.F ht9⟩) hS.2.2 dM_cut_308
    · have gh7 : k + 1 < nn := Nat.not_le.mp (fun q => h7 ((nI_leI (a := nn) (b := k + 1) (by omega) (by omega)).mpr q))
      refine lv_iload hx hb dM_cut_154 (lv_at hl 4 rfl) ?_
      refine lv_if_le (tgt := 302) hx hb dM_cut_156 rfl (fun h8 => ?_) (fun h8 => ?_)
      · have gh8 : (mnx vv c0 n).1 ≤ 0 := (nI_leI (a := (mnx vv c0 n).1) (b := 0) (by omega) (by omega)).mp h8
        refine lv_aload_n hx hb dM_cut_302 rfl (lv_at hl 0 rfl) ?_
        refine va_get (D := D) (ci := 11) (v := .ref (yr 8)) (C := R_M) (T := T_M) (N := 60) hx hb hT in_M hown hK hP 4 rfl rfl 8 (by decide) (hT _ w1112) (fun _ h9 => h9) rfl dM_cut_303 ?_
        refine lv_iload_n hx hb dM_cut_306 rfl (lv_at hl 1 rfl) ?_
        refine lq_iald (j := c0) hx hb hK hP 1 0 rfl rfl rfl (by omega) (by omega) dM_cut_307 ?_
        refine lv_topi (fun y9 e9 => ?_)
        cases (show y9 = nI me from e9.trans im)
        have hP9 := hP.sub (ws' := [(y, .inr (11, MO yr (va_up yi 1 0) ysb ybs)), (yr 6, .inl (cT 3, 6, .inl ik)), (yr 8, .inl (cT 0, 6, .inl emk)), (yr 7, .inl (cT 0, 66, .inl egk)), (yr 5, .inl (cT 0, 288, .inl vv))]) [4, 0, 1, 2, 3] rfl
        have hD9 := hD.sub (ws' := [(y, .inr (11, MO yr (va_up yi 1 0) ysb ybs)), (yr 6, .inl (cT 3, 6, .inl ik)), (yr 8, .inl (cT 0, 6, .inl emk)), (yr 7, .inl (cT 0, 66, .inl egk)), (yr 5, .inl (cT 0, 288, .inl vv))]) [4, 0, 1, 2, 3] (by decide) rfl
        refine W.widen (k := 0) (n := 0) (Nat.le_of_ble_eq_true rfl) (Nat.le_of_ble_eq_true rfl) ?_
        exact W.iret (v := nI me) hx hb hr (fun t9 ht9 hW9 => ⟨⟨nI me, (me, emk, egk), rfl, (show (nI me) = nI me ∧ me ≤ 11 ∧ emk c0 = nI me ∧ (∀ q8, q8 ≠ c0 → emk q8 = em q8) ∧ (me, egk) = cutF bc vv c0 n nn eg from ⟨rfl, by omega, im, io, by unfold cutF; rw [if_pos (by omega)]; rcases i0 with q | q; (rw [q] at ie; exact ie); (omega)⟩), by rw [ht9]; exact hP9, hD9⟩, hS.F ht9⟩) hS.2.2 dM_cut_308
      · have gh8 : 0 < (mnx vv c0 n).1 := Nat.not_le.mp (fun q => h8 ((nI_leI (a := (mnx vv c0 n).1) (b := 0) (by omega) (by omega)).mpr q))
        have hkm : (k + 1) * (mnx vv c0 n).1 ≤ 12 * 48 := Nat.mul_le_mul (by omega) (by omega)
        have hdv : (k + 1) * (mnx vv c0 n).1 / nn < 2 ^ 30 := Nat.lt_of_le_of_lt (Nat.div_le_self _ _) (by omega)
        refine lp_cut (fun x9 : Int32 => x9 = ctv bc vv c0 n nn (k + 1)) (fun x9 => [.int x9]) 198 ls (fun x9 e9 => ?_) (fun hct9 => ?_)
        · cases (show x9 = ctv bc vv c0 n nn (k + 1) from e9)
          refine lv_istore hx hb dM_cut_198 hl (by decide) rfl (fun ls hl => ?_)
          have hl : lv_has ls 11 [(8, .int (ctv bc vv c0 n nn (k + 1))), (0, .ref y), (1, .int (nI c0)), (2, .int bc), (3, .int (nI nn)), (4, .int (nI ((mnx vv c0 n).1))), (5, .int ((mnx vv c0 n).2.1)), (6, .int ((mnx vv c0 n).2.2)), (7, .int (nI (k + 1)))] := hl
          refine lp_cut (fun x9 : Int32 => x9 = bn (decide (ctv bc vv c0 n nn (k + 1) = (mnx vv c0 n).2.1))) (fun x9 => [.int x9]) 212 ls (fun x9 e9 => ?_) (fun hct10 => ?_)
          · cases (show x9 = bn (decide (ctv bc vv c0 n nn (k + 1) = (mnx vv c0 n).2.1)) from e9)
            refine lv_istore hx hb dM_cut_212 hl (by decide) rfl (fun ls hl => ?_)
            have hl : lv_has ls 11 [(9, .int (bn (decide (ctv bc vv c0 n nn (k + 1) = (mnx vv c0 n).2.1)))), (8, .int (ctv bc vv c0 n nn (k + 1))), (0, .ref y), (1, .int (nI c0)), (2, .int bc), (3, .int (nI nn)), (4, .int (nI ((mnx vv c0 n).1))), (5, .int ((mnx vv c0 n).2.1)), (6, .int ((mnx vv c0 n).2.2)), (7, .int (nI (k + 1)))] := hl
            refine lv_iconst (v := 0) hx hb dM_cut_214 (by decide) ?_
            refine lv_istore hx hb dM_cut_215 hl (by decide) rfl (fun ls hl => ?_)
            have hl : lv_has ls 11 [(10, .int 0), (9, .int (bn (decide (ctv bc vv c0 n nn (k + 1) = (mnx vv c0 n).2.1)))), (8, .int (ctv bc vv c0 n nn (k + 1))), (0, .ref y), (1, .int (nI c0)), (2, .int bc), (3, .int (nI nn)), (4, .int (nI ((mnx vv c0 n).1))), (5, .int ((mnx vv c0 n).2.1)), (6, .int ((mnx vv c0 n).2.2)), (7, .int (nI (k + 1)))] := hl
            refine lp_r (α := Nat × Bool) (fun a9 => a9.1 ≤ me ∧ (a9.2 = true ↔ oldE (ctv bc vv c0 n nn (k + 1)) (mnx vv c0 n).2.1 (11 * c0) me egk a9.1)) (fun a9 => me - a9.1) (fun a9 => [(0, .ref y), (1, .int (nI c0)), (2, .int bc), (3, .int (nI nn)), (4, .int (nI ((mnx vv c0 n).1))), (5, .int ((mnx vv c0 n).2.1)), (6, .int ((mnx vv c0 n).2.2)), (7, .int (nI (k + 1))), (8, .int (ctv bc vv c0 n nn (k + 1))), (9, .int (bn a9.2)), (10, .int (nI a9.1))]) 217 ?_ (0, decide (ctv bc vv c0 n nn (k + 1) = (mnx vv c0 n).2.1)) (show 0 ≤ me ∧ ((decide (ctv bc vv c0 n nn (k + 1) = (mnx vv c0 n).2.1)) = true ↔ oldE (ctv bc vv c0 n nn (k + 1)) (mnx vv c0 n).2.1 (11 * c0) me egk 0) from ⟨by omega, ⟨fun h => Or.inl (of_decide_eq_true h), fun h => h.elim (fun q => decide_eq_true q) (fun ⟨_, q, _⟩ => absurd q (by omega))⟩⟩) (lv_sub hl [3, 4, 5, 6, 7, 8, 9, 10, 2, 1, 0] rfl)
            intro a9 hI217 ih217 ls hl
            obtain ⟨i, ob⟩ := a9
            have hI217 : i ≤ me ∧ (ob = true ↔ oldE (ctv bc vv c0 n nn (k + 1)) (mnx vv c0 n).2.1 (11 * c0) me egk i) := hI217
            obtain ⟨ji, jo⟩ := hI217
            have hl : lv_has ls 11 [(0, .ref y), (1, .int (nI c0)), (2, .int bc), (3, .int (nI nn)), (4, .int (nI ((mnx vv c0 n).1))), (5, .int ((mnx vv c0 n).2.1)), (6, .int ((mnx vv c0 n).2.2)), (7, .int (nI (k + 1))), (8, .int (ctv bc vv c0 n nn (k + 1))), (9, .int (bn ob)), (10, .int (nI i))] := hl
            refine lv_iload hx hb dM_cut_217 (lv_at hl 10 rfl) ?_
            refine lv_aload_n hx hb dM_cut_219 rfl (lv_at hl 0 rfl) ?_
            refine va_get (D := D) (ci := 11) (v := .ref (yr 8)) (C := R_M) (T := T_M) (N := 60) hx hb hT in_M hown hK hP 4 rfl rfl 8 (by decide) (hT _ w1112) (fun _ h9 => h9) rfl dM_cut_220 ?_
            refine lv_iload_n hx hb dM_cut_223 rfl (lv_at hl 1 rfl) ?_
            refine lq_iald (j := c0) hx hb hK hP 1 0 rfl rfl rfl (by omega) (by omega) dM_cut_224 ?_
            refine lv_topi (fun y9 e9 => ?_)
            cases (show y9 = nI me from e9.trans im)
            refine lv_icmp_ge (tgt := 263) hx hb dM_cut_225 rfl (fun h11 => ?_) (fun h11 => ?_)
            · have gh11 : me ≤ i := (nI_leI (a := me) (b := i) (by omega) (by omega)).mp h11
              refine lv_iload hx hb dM_cut_263 (lv_at hl 9 rfl) ?_
              refine lv_if_ne (tgt := 296) hx hb dM_cut_265 rfl (fun h12 => ?_) (fun h12 => ?_)
              · have ei : i = me := by omega
                have old9 := jo.mp (bn_1 h12)
                rw [ei] at old9
                refine lv_iinc (k := 7) (v := nI (k + 1 + 1)) hx hb dM_cut_296 hl rfl (nI_1 (k + 1)) (by decide) rfl (fun ls hl => ?_)
                have hl : lv_has ls 11 [(7, .int (nI (k + 1 + 1))), (0, .ref y), (1, .int (nI c0)), (2, .int bc), (3, .int (nI nn)), (4, .int (nI ((mnx vv c0 n).1))), (5, .int ((mnx vv c0 n).2.1)), (6, .int ((mnx vv c0 n).2.2)), (8, .int (ctv bc vv c0 n nn (k + 1))), (9, .int (bn ob)), (10, .int (nI i))] := hl
                refine lv_goto (tgt := 148) hx hb dM_cut_299 rfl ?_
                exact ih148 (k + 1, emk, egk, me) (show (k + 1) + 1 ≤ nn ∧ emk c0 = nI me ∧ (∀ q, q ≠ c0 → emk q = em q) ∧ (me, egk) = ctE (ctv bc vv c0 n nn) (mnx vv c0 n).2.1 (11 * c0) eg (k + 1) ∧ ((k + 1) = 0 ∨ 0 < (mnx vv c0 n).1) from ⟨by omega, im, io, by rw [ctE_o (by rw [← ie1, ← ie2]; exact old9)]; exact ie, Or.inr (by omega)⟩) (show nn - (k + 1) < nn - k from (by omega)) ls H locs (lv_sub hl [1, 2, 3, 4, 5, 6, 7, 0] rfl) hP hD hS
              · refine lv_aload_n hx hb dM_cut_268 rfl (lv_at hl 0 rfl) ?_
                refine va_get (D := D) (ci := 11) (v := .ref (yr 7)) (C := R_M) (T := T_M) (N := 60) hx hb hT in_M hown hK hP 4 rfl rfl 7 (by decide) (hT _ w1111) (fun _ h9 => h9) rfl dM_cut_269 ?_
                refine lv_bipush (v := 11) hx hb dM_cut_272 (by decide) ?_
                refine lv_iload_n hx hb dM_cut_274 rfl (lv_at hl 1 rfl) ?_
                refine lv_imul hx hb dM_cut_275 ?_
                refine lv_topi (fun y9 e9 => ?_)
                cases (show y9 = nI (11 * c0) from e9.trans (pk_mul 11 c0))
                refine lv_aload_n hx hb dM_cut_276 rfl (lv_at hl 0 rfl) ?_
                refine va_get (D := D) (ci := 11) (v := .ref (yr 8)) (C := R_M) (T := T_M) (N := 60) hx hb hT in_M hown hK hP 4 rfl rfl 8 (by decide) (hT _ w1112) (fun _ h9 => h9) rfl dM_cut_277 ?_
                refine lv_iload_n hx hb dM_cut_280 rfl (lv_at hl 1 rfl) ?_
                refine lq_iald (j := c0) hx hb hK hP 1 0 rfl rfl rfl (by omega) (by omega) dM_cut_281 ?_
                refine lv_topi (fun y9 e9 => ?_)
                cases (show y9 = nI me from e9.trans im)
                refine lv_iadd hx hb dM_cut_282 ?_
                refine lv_topi (fun y9 e9 => ?_)
                cases (show y9 = nI ((11 * c0) + me) from e9.trans (nI_add (11 * c0) me))
                refine lv_iload hx hb dM_cut_283 (lv_at hl 8 rfl) ?_
                refine lq_iast (j := (11 * c0) + me) hx hb hK hP hD hS 2 0 rfl rfl rfl (by omega) (by omega) dM_cut_285 (fun H locs hP hD hS => ?_)
                have hP : va_P D vwCl [(yr 6, .inl (cT 3, 6, .inl ik)), (yr 8, .inl (cT 0, 6, .inl emk)), (yr 7, .inl (cT 0, 66, .inl (upd egk ((11 * c0) + me) (ctv bc vv c0 n nn (k + 1))))), (yr 5, .inl (cT 0, 288, .inl vv)), (y, .inr (11, MO yr (va_up yi 1 0) ysb ybs))] _ := hP
                have hD : va_D A [(yr 6, .inl (cT 3, 6, .inl ik)), (yr 8, .inl (cT 0, 6, .inl emk)), (yr 7, .inl (cT 0, 66, .inl (upd egk ((11 * c0) + me) (ctv bc vv c0 n nn (k + 1))))), (yr 5, .inl (cT 0, 288, .inl vv)), (y, .inr (11, MO yr (va_up yi 1 0) ysb ybs))] := hD
                refine lv_aload_n hx hb dM_cut_286 rfl (lv_at hl 0 rfl) ?_
                refine va_get (D := D) (ci := 11) (v := .ref (yr 8)) (C := R_M) (T := T_M) (N := 60) hx hb hT in_M hown hK hP 4 rfl rfl 8 (by decide) (hT _ w1112) (fun _ h9 => h9) rfl dM_cut_287 ?_
                refine lv_iload_n hx hb dM_cut_290 rfl (lv_at hl 1 rfl) ?_
                refine lv_dup2_11 hx hb dM_cut_291 rfl rfl ?_
                refine lq_iald (j := c0) hx hb hK hP 1 0 rfl rfl rfl (by omega) (by omega) dM_cut_292 ?_
                refine lv_topi (fun y9 e9 => ?_)
                cases (show y9 = nI me from e9.trans im)
                refine lv_iconst (v := 1) hx hb dM_cut_293 (by decide) ?_
                refine lv_iadd hx hb dM_cut_294 ?_
                refine lv_topi (fun y9 e9 => ?_)
                cases (show y9 = nI (me + 1) from e9.trans (nI_add me 1))
                refine lq_iast (j := c0) hx hb hK hP hD hS 1 0 rfl rfl rfl (by omega) (by omega) dM_cut_295 (fun H locs hP hD hS => ?_)
                have hP : va_P D vwCl [(yr 6, .inl (cT 3, 6, .inl ik)), (yr 8, .inl (cT 0, 6, .inl (upd emk c0 (nI (me + 1))))), (yr 7, .inl (cT 0, 66, .inl (upd egk ((11 * c0) + me) (ctv bc vv c0 n nn (k + 1))))), (yr 5, .inl (cT 0, 288, .inl vv)), (y, .inr (11, MO yr (va_up yi 1 0) ysb ybs))] _ := hP
                have hD : va_D A [(yr 6, .inl (cT 3, 6, .inl ik)), (yr 8, .inl (cT 0, 6, .inl (upd emk c0 (nI (me + 1))))), (yr 7, .inl (cT 0, 66, .inl (upd egk ((11 * c0) + me) (ctv bc vv c0 n nn (k + 1))))), (yr 5, .inl (cT 0, 288, .inl vv)), (y, .inr (11, MO yr (va_up yi 1 0) ysb ybs))] := hD
                have ei : i = me := by omega
                have new9 : ¬ oldE (ctv bc vv c0 n nn (k + 1)) (mnx vv c0 n).2.1 (11 * c0) me egk me := fun q => absurd (jo.mpr (by rw [ei]; exact q)) (by rw [bn_0.mp h12]; decide)
                refine lv_iinc (k := 7) (v := nI (k + 1 + 1)) hx hb dM_cut_296 hl rfl (nI_1 (k + 1)) (by decide) rfl (fun ls hl => ?_)
                have hl : lv_has ls 11 [(7, .int (nI (k + 1 + 1))), (0, .ref y), (1, .int (nI c0)), (2, .int bc), (3, .int (nI nn)), (4, .int (nI ((mnx vv c0 n).1))), (5, .int ((mnx vv c0 n).2.1)), (6, .int ((mnx vv c0 n).2.2)), (8, .int (ctv bc vv c0 n nn (k + 1))), (9, .int (bn ob)), (10, .int (nI i))] := hl
                refine lv_goto (tgt := 148) hx hb dM_cut_299 rfl ?_
                exact ih148 (k + 1, upd emk c0 (nI (me + 1)), upd egk ((11 * c0) + me) (ctv bc vv c0 n nn (k + 1)), me + 1) (show (k + 1) + 1 ≤ nn ∧ (upd emk c0 (nI (me + 1))) c0 = nI (me + 1) ∧ (∀ q, q ≠ c0 → (upd emk c0 (nI (me + 1))) q = em q) ∧ ((me + 1), (upd egk ((11 * c0) + me) (ctv bc vv c0 n nn (k + 1)))) = ctE (ctv bc vv c0 n nn) (mnx vv c0 n).2.1 (11 * c0) eg (k + 1) ∧ ((k + 1) = 0 ∨ 0 < (mnx vv c0 n).1) from ⟨by omega, pk_us, fun q h => (pk_un h).trans (io q h), by rw [ctE_n (by rw [← ie1, ← ie2]; exact new9), ← ie1, ← ie2], Or.inr (by omega)⟩) (show nn - (k + 1) < nn - k from (by omega)) ls H locs (lv_sub hl [1, 2, 3, 4, 5, 6, 7, 0] rfl) hP hD hS
            · have gh11 : i < me := Nat.not_le.mp (fun q => h11 ((nI_leI (a := me) (b := i) (by omega) (by omega)).mpr q))
              refine lp_cut (fun x9 : Int32 => x9 = bn (ob || decide (egk ((11 * c0) + i) = ctv bc vv c0 n nn (k + 1)))) (fun x9 => [.int x9]) 255 ls (fun x9 e9 => ?_) (fun hct13 => ?_)
              · cases (show x9 = bn (ob || decide (egk ((11 * c0) + i) = ctv bc vv c0 n nn (k + 1))) from e9)
                refine lv_istore hx hb dM_cut_255 hl (by decide) rfl (fun ls hl => ?_)
                have hl : lv_has ls 11 [(9, .int (bn (ob || decide (egk ((11 * c0) + i) = ctv bc vv c0 n nn (k + 1))))), (0, .ref y), (1, .int (nI c0)), (2, .int bc), (3, .int (nI nn)), (4, .int (nI ((mnx vv c0 n).1))), (5, .int ((mnx vv c0 n).2.1)), (6, .int ((mnx vv c0 n).2.2)), (7, .int (nI (k + 1))), (8, .int (ctv bc vv c0 n nn (k + 1))), (10, .int (nI i))] := hl
                refine lv_iinc (k := 10) (v := nI (i + 1)) hx hb dM_cut_257 hl rfl (nI_1 i) (by decide) rfl (fun ls hl => ?_)
                have hl : lv_has ls 11 [(10, .int (nI (i + 1))), (9, .int (bn (ob || decide (egk ((11 * c0) + i) = ctv bc vv c0 n nn (k + 1))))), (0, .ref y), (1, .int (nI c0)), (2, .int bc), (3, .int (nI nn)), (4, .int (nI ((mnx vv c0 n).1))), (5, .int ((mnx vv c0 n).2.1)), (6, .int ((mnx vv c0 n).2.2)), (7, .int (nI (k + 1))), (8, .int (ctv bc vv c0 n nn (k + 1)))] := hl
                refine lv_goto (tgt := 217) hx hb dM_cut_260 rfl ?_
                exact ih217 (i + 1, ob || decide (egk ((11 * c0) + i) = ctv bc vv c0 n nn (k + 1))) (show (i + 1) ≤ me ∧ ((ob || decide (egk ((11 * c0) + i) = ctv bc vv c0 n nn (k + 1))) = true ↔ oldE (ctv bc vv c0 n nn (k + 1)) (mnx vv c0 n).2.1 (11 * c0) me egk (i + 1)) from ⟨by omega, old_s jo⟩) (show me - (i + 1) < me - i from (by omega)) ls (lv_sub hl [2, 3, 4, 5, 6, 7, 8, 9, 10, 1, 0] rfl)
              · refine lv_iload hx hb dM_cut_228 (lv_at hl 9 rfl) ?_
                refine lv_if_ne (tgt := 250) hx hb dM_cut_230 rfl (fun h14 => ?_) (fun h14 => ?_)
                · refine lv_iconst (v := 1) hx hb dM_cut_250 (by decide) ?_
                  refine lv_goto (tgt := 255) hx hb dM_cut_251 rfl ?_
                  exact hct13 _ (by rw [bn_1 h14]; rfl)
                · refine lv_aload_n hx hb dM_cut_233 rfl (lv_at hl 0 rfl) ?_
                  refine va_get (D := D) (ci := 11) (v := .ref (yr 7)) (C := R_M) (T := T_M) (N := 60) hx hb hT in_M hown hK hP 4 rfl rfl 7 (by decide) (hT _ w1111) (fun _ h9 => h9) rfl dM_cut_234 ?_
                  refine lv_bipush (v := 11) hx hb dM_cut_237 (by decide) ?_
                  refine lv_iload_n hx hb dM_cut_239 rfl (lv_at hl 1 rfl) ?_
                  refine lv_imul hx hb dM_cut_240 ?_
                  refine lv_topi (fun y9 e9 => ?_)
                  cases (show y9 = nI (11 * c0) from e9.trans (pk_mul 11 c0))
                  refine lv_iload hx hb dM_cut_241 (lv_at hl 10 rfl) ?_
                  refine lv_iadd hx hb dM_cut_243 ?_
                  refine lv_topi (fun y9 e9 => ?_)
                  cases (show y9 = nI ((11 * c0) + i) from e9.trans (nI_add (11 * c0) i))
                  refine lq_iald (j := (11 * c0) + i) hx hb hK hP 2 0 rfl rfl rfl (by omega) (by omega) dM_cut_244 ?_
                  refine lv_iload hx hb dM_cut_245 (lv_at hl 8 rfl) ?_
                  refine lv_icmp_ne (tgt := 254) hx hb dM_cut_247 rfl (fun h15 => ?_) (fun h15 => ?_)
                  · refine lv_iconst (v := 0) hx hb dM_cut_254 (by decide) ?_
                    exact hct13 _ (by rw [bn_0.mp h14, Bool.false_or]; exact bn_dn h15)
                  · refine lv_iconst (v := 1) hx hb dM_cut_250 (by decide) ?_
                    refine lv_goto (tgt := 255) hx hb dM_cut_251 rfl ?_
                    exact hct13 _ (by rw [bn_0.mp h14, Bool.false_or]; exact bn_d h15)
          · refine lv_iload hx hb dM_cut_200 (lv_at hl 0 rfl) ?_
            refine lv_iload hx hb dM_cut_202 (lv_at hl 6 rfl) ?_
            refine lv_icmp_ne (tgt := 211) hx hb dM_cut_204 rfl (fun h16 => ?_) (fun h16 => ?_)
            · refine lv_iconst (v := 0) hx hb dM_cut_211 (by decide) ?_
              exact hct10 _ (bn_dn h16)
            · refine lv_iconst (v := 1) hx hb dM_cut_207 (by decide) ?_
              refine lv_goto (tgt := 212) hx hb dM_cut_208 rfl ?_
              exact hct10 _ (bn_d h16)
        · refine lv_iload_n hx hb dM_cut_159 rfl (lv_at hl 2 rfl) ?_
          refine lv_if_eq (tgt := 178) hx hb dM_cut_160 rfl (fun h17 => ?_) (fun h17 => ?_)
          · refine lv_iload hx hb dM_cut_178 (lv_at hl 5 rfl) ?_
            refine lv_i2l hx hb dM_cut_180 rfl ?_
            refine lv_iload hx hb dM_cut_181 (lv_at hl 7 rfl) ?_
            refine lv_i2l hx hb dM_cut_183 rfl ?_
            refine lv_topl (fun y9 e9 => ?_)
            cases (show y9 = lN (k + 1) from e9.trans (nI_l (n := k + 1) (by omega)))
            refine lv_iload hx hb dM_cut_184 (lv_at hl 6 rfl) ?_
            refine lv_iload hx hb dM_cut_186 (lv_at hl 5 rfl) ?_
            refine lv_isub hx hb dM_cut_188 ?_
            refine lv_iconst (v := 1) hx hb dM_cut_189 (by decide) ?_
            refine lv_iadd hx hb dM_cut_190 ?_
            refine lv_i2l hx hb dM_cut_191 rfl ?_
            refine lv_lmul hx hb dM_cut_192 ?_
            refine lv_iload_n hx hb dM_cut_193 rfl (lv_at hl 3 rfl) ?_
            refine lv_i2l hx hb dM_cut_194 rfl ?_
            refine lv_topl (fun y9 e9 => ?_)
            cases (show y9 = lN nn from e9.trans (nI_l (n := nn) (by omega)))
            refine lv_ldiv hx hb dM_cut_195 (lN_n0 (by omega) (by omega)) ?_
            refine lv_ladd hx hb dM_cut_196 ?_
            refine lv_l2i hx hb dM_cut_197 rfl ?_
            exact hct9 _ (show _ = ctv _ _ _ _ _ _ by unfold ctv; rw [if_pos h17]; rfl)
          · refine lv_aload_n hx hb dM_cut_163 rfl (lv_at hl 0 rfl) ?_
            refine lv_iload_n hx hb dM_cut_164 rfl (lv_at hl 1 rfl) ?_
            refine lv_iload hx hb dM_cut_165 (lv_at hl 7 rfl) ?_
            refine lv_iload hx hb dM_cut_167 (lv_at hl 4 rfl) ?_
            refine lv_imul hx hb dM_cut_169 ?_
            refine lv_topi (fun y9 e9 => ?_)
            cases (show y9 = nI ((k + 1) * ((mnx vv c0 n).1)) from e9.trans (pk_mul (k + 1) ((mnx vv c0 n).1)))
            refine lv_iload_n hx hb dM_cut_170 rfl (lv_at hl 3 rfl) ?_
            refine lv_idiv hx hb dM_cut_171 (fun q => absurd ((nI_eq (b := 0) (by omega) (by decide)).mp q) (by omega)) ?_
            refine lv_topi (fun y9 e9 => ?_)
            cases (show y9 = nI (((k + 1) * ((mnx vv c0 n).1)) / nn) from e9.trans (pk_div (a := (k + 1) * ((mnx vv c0 n).1)) (d := nn) (by omega) (by omega) (by omega)))
            refine ro_i (va_Run.run (va_runV (As := [.int (nI c0), .int (nI (((k + 1) * ((mnx vv c0 n).1)) / nn))]) (rest := []) ⟨hx, hb, hml, hown, hT⟩ (m_inOrder l D cT y yr (va_up yi 1 0) ysb ybs vv c0 (((k + 1) * ((mnx vv c0 n).1)) / nn) n (yu (by decide) hn) hn48 hc6 hdv) ⟨callB_of 2 hT (tb_gd w1342) rfl rfl rfl (hT _ w13) (hT _ w1339) hM_inOrder ⟨Nat.le_of_ble_eq_true rfl, Nat.le_of_ble_eq_true rfl⟩, (hT _ w1341), (hT _ wp33)⟩ (RO.preV (ci := 11) (q0 := 0) hZ hS (hP.sub (ws' := [(y, .inr (11, MO yr (va_up yi 1 0) ysb ybs)), (yr 5, .inl (cT 0, 288, .inl vv))]) [4, 3] rfl) hK rfl rfl) rfl rfl hl.1 rfl (lv_room (Nat.le_of_ble_eq_true rfl)) dM_cut_172 ⟨Nat.le_of_ble_eq_true rfl, Nat.le_of_ble_eq_true rfl⟩)) ?_
            refine lv_goto (tgt := 198) hx hb dM_cut_175 rfl ?_
            exact hct9 _ (show _ = ctv _ _ _ _ _ _ by unfold ctv; rw [if_neg h17])
  · have gh6 : r < n := Nat.not_le.mp (fun q => h6 ((nI_leI (a := n) (b := r) (by omega) (by omega)).mpr q))
    refine lv_aload_n hx hb dM_cut_73 rfl (lv_at hl 0 rfl) ?_
    refine va_get (D := D) (ci := 11) (v := .ref (yr 5)) (C := R_M) (T := T_M) (N := 60) hx hb hT in_M hown hK hP 4 rfl rfl 5 (by decide) (hT _ w1109) (fun _ h9 => h9) rfl dM_cut_74 ?_
    refine lv_bipush (v := 6) hx hb dM_cut_77 (by decide) ?_
    refine lv_iload hx hb dM_cut_79 (lv_at hl 7 rfl) ?_
    refine lv_imul hx hb dM_cut_81 ?_
    refine lv_topi (fun y9 e9 => ?_)
    cases (show y9 = nI (6 * r) from e9.trans (pk_mul 6 r))
    refine lv_iload_n hx hb dM_cut_82 rfl (lv_at hl 1 rfl) ?_
    refine lv_iadd hx hb dM_cut_83 ?_
    refine lv_topi (fun y9 e9 => ?_)
    cases (show y9 = nI ((6 * r) + c0) from e9.trans (nI_add (6 * r) c0))
    refine lq_iald (j := (6 * r) + c0) hx hb hK hP 3 0 rfl rfl rfl (by omega) (by omega) dM_cut_84 ?_
    refine lv_istore hx hb dM_cut_85 hl (by decide) rfl (fun ls hl => ?_)
    have hl : lv_has ls 11 [(8, .int (vv ((6 * r) + c0))), (0, .ref y), (1, .int (nI c0)), (2, .int bc), (3, .int (nI nn)), (4, .int (nI ((mnx vv c0 r).1))), (5, .int ((mnx vv c0 r).2.1)), (6, .int ((mnx vv c0 r).2.2)), (7, .int (nI r))] := hl
    refine lv_iload hx hb dM_cut_87 (lv_at hl 0 rfl) ?_
    refine lv_ldc (v := (-2147483648)) hx hb hown (hT _ w1103) dM_cut_89 ?_
    refine lv_icmp_eq (tgt := 139) hx hb dM_cut_91 rfl (fun h18 => ?_) (fun h18 => ?_)
    · have e4 : (mnx vv c0 (r + 1)).1 = (mnx vv c0 r).1 := by rw [mnx_m h18]
      have e5 : (mnx vv c0 (r + 1)).2.1 = (mnx vv c0 r).2.1 := by rw [mnx_m h18]
      have e6 : (mnx vv c0 (r + 1)).2.2 = (mnx vv c0 r).2.2 := by rw [mnx_m h18]
      have hl : lv_has ls 11 [(8, .int (vv ((6 * r) + c0))), (0, .ref y), (1, .int (nI c0)), (2, .int bc), (3, .int (nI nn)), (4, .int (nI ((mnx vv c0 (r + 1)).1))), (5, .int ((mnx vv c0 r).2.1)), (6, .int ((mnx vv c0 r).2.2)), (7, .int (nI r))] := by
        rw [e4]; exact hl
      have hl : lv_has ls 11 [(8, .int (vv ((6 * r) + c0))), (0, .ref y), (1, .int (nI c0)), (2, .int bc), (3, .int (nI nn)), (4, .int (nI ((mnx vv c0 (r + 1)).1))), (5, .int ((mnx vv c0 (r + 1)).2.1)), (6, .int ((mnx vv c0 r).2.2)), (7, .int (nI r))] := by
        rw [e5]; exact hl
      have hl : lv_has ls 11 [(8, .int (vv ((6 * r) + c0))), (0, .ref y), (1, .int (nI c0)), (2, .int bc), (3, .int (nI nn)), (4, .int (nI ((mnx vv c0 (r + 1)).1))), (5, .int ((mnx vv c0 (r + 1)).2.1)), (6, .int ((mnx vv c0 (r + 1)).2.2)), (7, .int (nI r))] := by
        rw [e6]; exact hl
      refine lv_iinc (k := 8) (v := nI (r + 1)) hx hb dM_cut_139 hl rfl (nI_1 r) (by decide) rfl (fun ls hl => ?_)
      have hl : lv_has ls 11 [(7, .int (nI (r + 1))), (8, .int (vv ((6 * r) + c0))), (0, .ref y), (1, .int (nI c0)), (2, .int bc), (3, .int (nI nn)), (4, .int (nI ((mnx vv c0 (r + 1)).1))), (5, .int ((mnx vv c0 (r + 1)).2.1)), (6, .int ((mnx vv c0 (r + 1)).2.2))] := hl
      refine lv_goto (tgt := 64) hx hb dM_cut_142 rfl ?_
      exact ih64 (r + 1) (show (r + 1) ≤ n from by omega) (show n - (r + 1) < n - r from (by omega)) ls (lv_sub hl [2, 3, 4, 5, 6, 7, 8, 0] rfl)
    · refine lp_cut (fun x9 : Int32 => x9 = if (mnx vv c0 r).1 = 0 ∨ vv ((6 * r) + c0) < (mnx vv c0 r).2.1 then vv ((6 * r) + c0) else (mnx vv c0 r).2.1) (fun x9 => [.int x9]) 113 ls (fun x9 e9 => ?_) (fun hct19 => ?_)
      · cases (show x9 = if (mnx vv c0 r).1 = 0 ∨ vv ((6 * r) + c0) < (mnx vv c0 r).2.1 then vv ((6 * r) + c0) else (mnx vv c0 r).2.1 from e9)
        refine lv_istore hx hb dM_cut_113 hl (by decide) rfl (fun ls hl => ?_)
        have hl : lv_has ls 11 [(5, .int (if (mnx vv c0 r).1 = 0 ∨ vv ((6 * r) + c0) < (mnx vv c0 r).2.1 then vv ((6 * r) + c0) else (mnx vv c0 r).2.1)), (8, .int (vv ((6 * r) + c0))), (0, .ref y), (1, .int (nI c0)), (2, .int bc), (3, .int (nI nn)), (4, .int (nI ((mnx vv c0 r).1))), (6, .int ((mnx vv c0 r).2.2)), (7, .int (nI r))] := hl
        refine lp_cut (fun x9 : Int32 => x9 = if (mnx vv c0 r).1 = 0 ∨ (mnx vv c0 r).2.2 < vv ((6 * r) + c0) then vv ((6 * r) + c0) else (mnx vv c0 r).2.2) (fun x9 => [.int x9]) 134 ls (fun x9 e9 => ?_) (fun hct20 => ?_)
        · cases (show x9 = if (mnx vv c0 r).1 = 0 ∨ (mnx vv c0 r).2.2 < vv ((6 * r) + c0) then vv ((6 * r) + c0) else (mnx vv c0 r).2.2 from e9)
          refine lv_istore hx hb dM_cut_134 hl (by decide) rfl (fun ls hl => ?_)
          have hl : lv_has ls 11 [(6, .int (if (mnx vv c0 r).1 = 0 ∨ (mnx vv c0 r).2.2 < vv ((6 * r) + c0) then vv ((6 * r) + c0) else (mnx vv c0 r).2.2)), (5, .int (if (mnx vv c0 r).1 = 0 ∨ vv ((6 * r) + c0) < (mnx vv c0 r).2.1 then vv ((6 * r) + c0) else (mnx vv c0 r).2.1)), (8, .int (vv ((6 * r) + c0))), (0, .ref y), (1, .int (nI c0)), (2, .int bc), (3, .int (nI nn)), (4, .int (nI ((mnx vv c0 r).1))), (7, .int (nI r))] := hl
          refine lv_iinc (k := 7) (v := nI ((mnx vv c0 r).1 + 1)) hx hb dM_cut_136 hl rfl (nI_1 (mnx vv c0 r).1) (by decide) rfl (fun ls hl => ?_)
          have hl : lv_has ls 11 [(4, .int (nI ((mnx vv c0 r).1 + 1))), (6, .int (if (mnx vv c0 r).1 = 0 ∨ (mnx vv c0 r).2.2 < vv ((6 * r) + c0) then vv ((6 * r) + c0) else (mnx vv c0 r).2.2)), (5, .int (if (mnx vv c0 r).1 = 0 ∨ vv ((6 * r) + c0) < (mnx vv c0 r).2.1 then vv ((6 * r) + c0) else (mnx vv c0 r).2.1)), (8, .int (vv ((6 * r) + c0))), (0, .ref y), (1, .int (nI c0)), (2, .int bc), (3, .int (nI nn)), (7, .int (nI r))] := hl
          have e4 : (mnx vv c0 (r + 1)).1 = (mnx vv c0 r).1 + 1 := by rw [mnx_k h18]
          have e5 : (mnx vv c0 (r + 1)).2.1 = if (mnx vv c0 r).1 = 0 ∨ vv ((6 * r) + c0) < (mnx vv c0 r).2.1 then vv ((6 * r) + c0) else (mnx vv c0 r).2.1 := by rw [mnx_k h18]
          have e6 : (mnx vv c0 (r + 1)).2.2 = if (mnx vv c0 r).1 = 0 ∨ (mnx vv c0 r).2.2 < vv ((6 * r) + c0) then vv ((6 * r) + c0) else (mnx vv c0 r).2.2 := by rw [mnx_k h18]
          have hl : lv_has ls 11 [(4, .int (nI ((mnx vv c0 (r + 1)).1))), (6, .int (if (mnx vv c0 r).1 = 0 ∨ (mnx vv c0 r).2.2 < vv ((6 * r) + c0) then vv ((6 * r) + c0) else (mnx vv c0 r).2.2)), (5, .int (if (mnx vv c0 r).1 = 0 ∨ vv ((6 * r) + c0) < (mnx vv c0 r).2.1 then vv ((6 * r) + c0) else (mnx vv c0 r).2.1)), (8, .int (vv ((6 * r) + c0))), (0, .ref y), (1, .int (nI c0)), (2, .int bc), (3, .int (nI nn)), (7, .int (nI r))] := by
            rw [e4]; exact hl
          have hl : lv_has ls 11 [(4, .int (nI ((mnx vv c0 (r + 1)).1))), (6, .int (if (mnx vv c0 r).1 = 0 ∨ (mnx vv c0 r).2.2 < vv ((6 * r) + c0) then vv ((6 * r) + c0) else (mnx vv c0 r).2.2)), (5, .int ((mnx vv c0 (r + 1)).2.1)), (8, .int (vv ((6 * r) + c0))), (0, .ref y), (1, .int (nI c0)), (2, .int bc), (3, .int (nI nn)), (7, .int (nI r))] := by
            rw [e5]; exact hl
          have hl : lv_has ls 11 [(4, .int (nI ((mnx vv c0 (r + 1)).1))), (6, .int ((mnx vv c0 (r + 1)).2.2)), (5, .int ((mnx vv c0 (r + 1)).2.1)), (8, .int (vv ((6 * r) + c0))), (0, .ref y), (1, .int (nI c0)), (2, .int bc), (3, .int (nI nn)), (7, .int (nI r))] := by
            rw [e6]; exact hl
          refine lv_iinc (k := 8) (v := nI (r + 1)) hx hb dM_cut_139 hl rfl (nI_1 r) (by decide) rfl (fun ls hl => ?_)
          have hl : lv_has ls 11 [(7, .int (nI (r + 1))), (4, .int (nI ((mnx vv c0 (r + 1)).1))), (6, .int ((mnx vv c0 (r + 1)).2.2)), (5, .int ((mnx vv c0 (r + 1)).2.1)), (8, .int (vv ((6 * r) + c0))), (0, .ref y), (1, .int (nI c0)), (2, .int bc), (3, .int (nI nn))] := hl
          refine lv_goto (tgt := 64) hx hb dM_cut_142 rfl ?_
          exact ih64 (r + 1) (show (r + 1) ≤ n from by omega) (show n - (r + 1) < n - r from (by omega)) ls (lv_sub hl [5, 6, 7, 8, 1, 3, 2, 0] rfl)
        · refine lv_iload hx hb dM_cut_115 (lv_at hl 6 rfl) ?_
          refine lv_if_eq (tgt := 127) hx hb dM_cut_117 rfl (fun h21 => ?_) (fun h21 => ?_)
          · have gh21 : (mnx vv c0 r).1 = 0 := (nI_eq (a := (mnx vv c0 r).1) (b := 0) (by omega) (by omega)).mp h21
            refine lv_iload hx hb dM_cut_127 (lv_at hl 1 rfl) ?_
            refine lv_goto (tgt := 134) hx hb dM_cut_129 rfl ?_
            exact hct20 _ ((if_pos (Or.inl gh21)).symm)
          · have gh21 : ¬ ((mnx vv c0 r).1 = 0) := fun q => h21 (congrArg nI q)
            refine lv_iload hx hb dM_cut_120 (lv_at hl 1 rfl) ?_
            refine lv_iload hx hb dM_cut_122 (lv_at hl 7 rfl) ?_
            refine lv_icmp_le (tgt := 132) hx hb dM_cut_124 rfl (fun h22 => ?_) (fun h22 => ?_)
            · refine lv_iload hx hb dM_cut_132 (lv_at hl 7 rfl) ?_
              exact hct20 _ ((if_neg (fun q => q.elim gh21 (fun r9 => Int32.not_lt.mpr h22 r9))).symm)
            · refine lv_iload hx hb dM_cut_127 (lv_at hl 1 rfl) ?_
              refine lv_goto (tgt := 134) hx hb dM_cut_129 rfl ?_
              exact hct20 _ ((if_pos (Or.inr (Int32.not_le.mp h22))).symm)
      · refine lv_iload hx hb dM_cut_94 (lv_at hl 5 rfl) ?_
        refine lv_if_eq (tgt := 106) hx hb dM_cut_96 rfl (fun h23 => ?_) (fun h23 => ?_)
        · have gh23 : (mnx vv c0 r).1 = 0 := (nI_eq (a := (mnx vv c0 r).1) (b := 0) (by omega) (by omega)).mp h23
          refine lv_iload hx hb dM_cut_106 (lv_at hl 0 rfl) ?_
          refine lv_goto (tgt := 113) hx hb dM_cut_108 rfl ?_
          exact hct19 _ ((if_pos (Or.inl gh23)).symm)
        · have gh23 : ¬ ((mnx vv c0 r).1 = 0) := fun q => h23 (congrArg nI q)
          refine lv_iload hx hb dM_cut_99 (lv_at hl 0 rfl) ?_
          refine lv_iload hx hb dM_cut_101 (lv_at hl 6 rfl) ?_
          refine lv_icmp_ge (tgt := 111) hx hb dM_cut_103 rfl (fun h24 => ?_) (fun h24 => ?_)
          · refine lv_iload hx hb dM_cut_111 (lv_at hl 6 rfl) ?_
            exact hct19 _ ((if_neg (fun q => q.elim gh23 (fun r9 => Int32.not_lt.mpr h24 r9))).symm)
          · refine lv_iload hx hb dM_cut_106 (lv_at hl 0 rfl) ?_
            refine lv_goto (tgt := 113) hx hb dM_cut_108 rfl ?_
            exact hct19 _ ((if_pos (Or.inr (Int32.not_le.mp h24))).symm)
set_option maxHeartbeats 4000000 in
set_option maxRecDepth 100000 in
theorem y_cut_no (l : Launch) (D : va_G) (cT : Nat → ClassId) (y : Nat) (yr : Nat → Nat) (yi : Nat → Int32) (ysb : Int64) (ybs : Int64) (a1 : Int32) (v : Int32) (a3 : Int32) (hq : ¬ ((0 ≤ a1 ∧ a1 ≤ yi 2 - 1) ∧ (2 ≤ v ∧ v ≤ 12))) (sz : Nat) : Met l yM_cut WM_cut ({ frames := 2, cells := 0, slots := 0, locals := 43 } : Room) (RW D vwCl [.ref y, .int a1, .int a3, .int v] [(y, .inr (11, MO yr yi ysb ybs))] (TY cT) sz) (va_Qi (fun (r9 : Int32) (u9 : Unit) => r9 = 0) (BW D vwCl (va_A [(y, .inr (11, MO yr yi ysb ybs))] sz) (fun u9 : Unit => [(y, .inr (11, MO yr (va_up yi 1 1) ysb ybs))])) (va_A [(y, .inr (11, MO yr yi ysb ybs))] sz)) 0 0 (va_A [(y, .inr (11, MO yr yi ysb ybs))] sz) := by
  refine Met.ofW (cc := cM_cut) (maxL := 11) (ret := (some .int)) (by decide) rfl ?_
  intro p e s m args below meth c s₁ B hml hv
  obtain ⟨rfl, hsz, hZ, hP, hK, hD0⟩ := hv
  have hx := B.exec
  have hb := B.bytes
  have hr := B.returns
  have hts := atoms_spec (ws := WM_cut) B.pre
  have hT : ∀ w ∈ TB, w.before _ s = true := fun w h => hts w (List.mem_cons_of_mem _ h)
  have hown : s.vm.findClass R_M = some m.cls := findClass_of_methodNamed B.named
  have hlocks := B.notSynchronized
  subst hsz
  have hD := hD0.self (sz := s.heap.size)
  generalize hAe : va_A [(y, .inr (11, MO yr yi ysb ybs))] s.heap.size = A at hD hZ ⊢
  have hA : ∀ q : Nat, s.heap.size ≤ q → A q := fun q h => by rw [← hAe]; exact Or.inr h
  have hS : va_S A s.heap s.heap [] := va_S.rf
  have hl := lv_entry ([.ref y, .int a1, .int a3, .int v]) (n := 11) (Nat.le_of_ble_eq_true rfl)
  rw [lg_entry_eq]
  generalize (lg_sl ([.ref y, .int a1, .int a3, .int v]) ++ List.replicate (11 - (lg_sl ([.ref y, .int a1, .int a3, .int v])).length) Slot.unset).toArray = ls at hl ⊢
  have hl : lv_has ls 11 [(0, .ref y), (1, .int a1), (2, .int a3), (3, .int v)] := hl
  refine lv_aload_n hx hb dM_cut_0 rfl (lv_at hl 0 rfl) ?_
  refine lv_aload_n hx hb dM_cut_1 rfl (lv_at hl 0 rfl) ?_
  refine lv_iload_n hx hb dM_cut_2 rfl (lv_at hl 1 rfl) ?_
  refine ro_i (va_Run.run (va_runV (As := [.int a1]) (rest := [.ref y]) ⟨hx, hb, hml, hown, hT⟩ (m_noColumn l D cT y yr yi ysb ybs a1) ⟨callB_of 1 hT (tb_gd w1317) rfl rfl rfl (hT _ w13) (hT _ w1314) hM_noColumn ⟨Nat.le_of_ble_eq_true rfl, Nat.le_of_ble_eq_true rfl⟩, (hT _ w1316), (hT _ wp31)⟩ (RO.preV (ci := 11) (q0 := 0) hZ hS (hP.sub (ws' := [(y, .inr (11, MO yr yi ysb ybs))]) [0] rfl) hK rfl rfl) rfl rfl hl.1 rfl (lv_room (Nat.le_of_ble_eq_true rfl)) dM_cut_3 ⟨Nat.le_of_ble_eq_true rfl, Nat.le_of_ble_eq_true rfl⟩)) ?_
  refine lv_if_ne (tgt := 19) hx hb dM_cut_6 rfl (fun h1 => ?_) (fun h1 => ?_)
  · refine lv_iconst (v := 1) hx hb dM_cut_19 (by decide) ?_
    refine lv_goto (tgt := 37) hx hb dM_cut_20 rfl ?_
    refine rw_i (wc := [(y, .inr (11, MO yr yi ysb ybs))]) (wr := []) hP hD hS hA [0] [] rfl rfl (by decide) (by decide) (va_runV (As := [.int 1]) (rest := []) ⟨hx, hb, hml, hown, hT⟩ (m_ref1 l D cT y yr yi ysb ybs _) ⟨callB_of 1 hT (tb_gd w1301) rfl rfl rfl (hT _ w13) (hT _ w1298) hM_refused ⟨Nat.le_of_ble_eq_true rfl, Nat.le_of_ble_eq_true rfl⟩, (hT _ w1300), (hT _ wp29)⟩ (RW.preV (ci := 11) (q0 := 0) hZ hS (va_free (wc := [(y, .inr (11, MO yr yi ysb ybs))]) hD hS hA [0] rfl) (hP.sub (ws' := [(y, .inr (11, MO yr yi ysb ybs))]) [0] rfl) hK (hD.sub (ws' := [(y, .inr (11, MO yr yi ysb ybs))]) [0] (by decide) rfl) rfl rfl) rfl rfl hl.1 rfl (lv_room (Nat.le_of_ble_eq_true rfl)) dM_cut_37 ⟨Nat.le_of_ble_eq_true rfl, Nat.le_of_ble_eq_true rfl⟩) (fun ru2 u9 H locs hpu2 hP hD hS => ?_)
    have hpu2 : ru2 = 1 := hpu2
    have hP : va_P D vwCl [(y, .inr (11, MO yr (va_up yi 1 1) ysb ybs))] _ := hP
    have hD : va_D A [(y, .inr (11, MO yr (va_up yi 1 1) ysb ybs))] := hD
    refine lv_topi (fun y9 e9 => ?_)
    cases (show y9 = 1 from e9.trans hpu2)
    refine lv_if_eq (tgt := 45) hx hb dM_cut_40 rfl (fun h3 => absurd h3 (by decide)) (fun _ => ?_)
    refine lv_iconst (v := 0) hx hb dM_cut_43 (by decide) ?_
    have hP9 := hP.sub (ws' := [(y, .inr (11, MO yr (va_up yi 1 1) ysb ybs))]) [0] rfl
    have hD9 := hD.sub (ws' := [(y, .inr (11, MO yr (va_up yi 1 1) ysb ybs))]) [0] (by decide) rfl
    refine W.widen (k := 0) (n := 0) (Nat.le_of_ble_eq_true rfl) (Nat.le_of_ble_eq_true rfl) ?_
    exact W.iret (v := 0) hx hb hr (fun t9 ht9 hW9 => ⟨⟨0, (), rfl, (show 0 = 0 from rfl), by rw [ht9]; exact hP9, hD9⟩, hS.F ht9⟩) hS.2.2 dM_cut_44
  · refine lv_iload_n hx hb dM_cut_9 rfl (lv_at hl 3 rfl) ?_
    refine lv_iconst (v := 2) hx hb dM_cut_10 (by decide) ?_
    refine lv_bipush (v := 12) hx hb dM_cut_11 (by decide) ?_
    refine ro_i (va_Run.run (va_runS (As := [.int v, .int 2, .int 12]) (rest := [.ref y]) ⟨hx, hb, hml, hown, hT⟩ (m_in l D cT v 2 12) ⟨callB_of 3 hT (tb_gd w1297) rfl rfl rfl (hT _ w13) (hT _ w1295) hM_in ⟨Nat.le_of_ble_eq_true rfl, Nat.le_of_ble_eq_true rfl⟩, (hT _ w1296)⟩ (RO.preS hZ hS ((show va_P D vwCl [] _ from fun _ _ h => nomatch h)) hK) rfl rfl hl.1 rfl (lv_room (Nat.le_of_ble_eq_true rfl)) dM_cut_13 ⟨Nat.le_of_ble_eq_true rfl, Nat.le_of_ble_eq_true rfl⟩)) ?_
    refine lv_if_ne (tgt := 23) hx hb dM_cut_16 rfl (fun h4 => ?_) (fun h4 => ?_)
    · exact absurd (⟨nn_e (bi_0 h1), bi_1 h4⟩) hq
    · refine lv_iconst (v := 1) hx hb dM_cut_19 (by decide) ?_
      refine lv_goto (tgt := 37) hx hb dM_cut_20 rfl ?_
      refine rw_i (wc := [(y, .inr (11, MO yr yi ysb ybs))]) (wr := []) hP hD hS hA [0] [] rfl rfl (by decide) (by decide) (va_runV (As := [.int 1]) (rest := []) ⟨hx, hb, hml, hown, hT⟩ (m_ref1 l D cT y yr yi ysb ybs _) ⟨callB_of 1 hT (tb_gd w1301) rfl rfl rfl (hT _ w13) (hT _ w1298) hM_refused ⟨Nat.le_of_ble_eq_true rfl, Nat.le_of_ble_eq_true rfl⟩, (hT _ w1300), (hT _ wp29)⟩ (RW.preV (ci := 11) (q0 := 0) hZ hS (va_free (wc := [(y, .inr (11, MO yr yi ysb ybs))]) hD hS hA [0] rfl) (hP.sub (ws' := [(y, .inr (11, MO yr yi ysb ybs))]) [0] rfl) hK (hD.sub (ws' := [(y, .inr (11, MO yr yi ysb ybs))]) [0] (by decide) rfl) rfl rfl) rfl rfl hl.1 rfl (lv_room (Nat.le_of_ble_eq_true rfl)) dM_cut_37 ⟨Nat.le_of_ble_eq_true rfl, Nat.le_of_ble_eq_true rfl⟩) (fun ru5 u9 H locs hpu5 hP hD hS => ?_)
      have hpu5 : ru5 = 1 := hpu5
      have hP : va_P D vwCl [(y, .inr (11, MO yr (va_up yi 1 1) ysb ybs))] _ := hP
      have hD : va_D A [(y, .inr (11, MO yr (va_up yi 1 1) ysb ybs))] := hD
      refine lv_topi (fun y9 e9 => ?_)
      cases (show y9 = 1 from e9.trans hpu5)
      refine lv_if_eq (tgt := 45) hx hb dM_cut_40 rfl (fun h6 => absurd h6 (by decide)) (fun _ => ?_)
      refine lv_iconst (v := 0) hx hb dM_cut_43 (by decide) ?_
      have hP9 := hP.sub (ws' := [(y, .inr (11, MO yr (va_up yi 1 1) ysb ybs))]) [0] rfl
      have hD9 := hD.sub (ws' := [(y, .inr (11, MO yr (va_up yi 1 1) ysb ybs))]) [0] (by decide) rfl
      refine W.widen (k := 0) (n := 0) (Nat.le_of_ble_eq_true rfl) (Nat.le_of_ble_eq_true rfl) ?_
      exact W.iret (v := 0) hx hb hr (fun t9 ht9 hW9 => ⟨⟨0, (), rfl, (show 0 = 0 from rfl), by rw [ht9]; exact hP9, hD9⟩, hS.F ht9⟩) hS.2.2 dM_cut_44
set_option maxHeartbeats 4000000 in
set_option maxRecDepth 100000 in
theorem y_cut_no2 (l : Launch) (D : va_G) (cT : Nat → ClassId) (y : Nat) (yr : Nat → Nat) (yi : Nat → Int32) (ysb : Int64) (ybs : Int64) (ik : Nat → Int32) (c0 : Nat) (a3 : Int32) (v : Int32) (hc0 : 0 ≤ nI c0 ∧ nI c0 ≤ yi 2 - 1) (hc6 : c0 < 6) (hv9 : 2 ≤ v ∧ v ≤ 12) (hik : ¬ ik c0 = 0) (sz : Nat) : Met l yM_cut WM_cut ({ frames := 2, cells := 0, slots := 0, locals := 43 } : Room) (RW D vwCl [.ref y, .int (nI c0), .int a3, .int v] [(y, .inr (11, MO yr yi ysb ybs)), (yr 6, .inl (cT 3, 6, .inl ik))] (TY cT) sz) (va_Qi (fun (r9 : Int32) (u9 : Unit) => r9 = 0) (BW D vwCl (va_A [(y, .inr (11, MO yr yi ysb ybs)), (yr 6, .inl (cT 3, 6, .inl ik))] sz) (fun u9 : Unit => [(y, .inr (11, MO yr (va_up yi 1 2) ysb ybs)), (yr 6, .inl (cT 3, 6, .inl ik))])) (va_A [(y, .inr (11, MO yr yi ysb ybs)), (yr 6, .inl (cT 3, 6, .inl ik))] sz)) 0 0 (va_A [(y, .inr (11, MO yr yi ysb ybs)), (yr 6, .inl (cT 3, 6, .inl ik))] sz) := by
  refine Met.ofW (cc := cM_cut) (maxL := 11) (ret := (some .int)) (by decide) rfl ?_
  intro p e s m args below meth c s₁ B hml hv
  obtain ⟨rfl, hsz, hZ, hP, hK, hD0⟩ := hv
  have hx := B.exec
  have hb := B.bytes
  have hr := B.returns
  have hts := atoms_spec (ws := WM_cut) B.pre
  have hT : ∀ w ∈ TB, w.before _ s = true := fun w h => hts w (List.mem_cons_of_mem _ h)
  have hown : s.vm.findClass R_M = some m.cls := findClass_of_methodNamed B.named
  have hlocks := B.notSynchronized
  subst hsz
  have hD := hD0.self (sz := s.heap.size)
  generalize hAe : va_A [(y, .inr (11, MO yr yi ysb ybs)), (yr 6, .inl (cT 3, 6, .inl ik))] s.heap.size = A at hD hZ ⊢
  have hA : ∀ q : Nat, s.heap.size ≤ q → A q := fun q h => by rw [← hAe]; exact Or.inr h
  have hS : va_S A s.heap s.heap [] := va_S.rf
  have hl := lv_entry ([.ref y, .int (nI c0), .int a3, .int v]) (n := 11) (Nat.le_of_ble_eq_true rfl)
  rw [lg_entry_eq]
  generalize (lg_sl ([.ref y, .int (nI c0), .int a3, .int v]) ++ List.replicate (11 - (lg_sl ([.ref y, .int (nI c0), .int a3, .int v])).length) Slot.unset).toArray = ls at hl ⊢
  have hl : lv_has ls 11 [(0, .ref y), (1, .int (nI c0)), (2, .int a3), (3, .int v)] := hl
  refine lv_aload_n hx hb dM_cut_0 rfl (lv_at hl 0 rfl) ?_
  refine lv_aload_n hx hb dM_cut_1 rfl (lv_at hl 0 rfl) ?_
  refine lv_iload_n hx hb dM_cut_2 rfl (lv_at hl 1 rfl) ?_
  refine ro_i (va_Run.run (va_runV (As := [.int (nI c0)]) (rest := [.ref y]) ⟨hx, hb, hml, hown, hT⟩ (m_noColumn l D cT y yr yi ysb ybs (nI c0)) ⟨callB_of 1 hT (tb_gd w1317) rfl rfl rfl (hT _ w13) (hT _ w1314) hM_noColumn ⟨Nat.le_of_ble_eq_true rfl, Nat.le_of_ble_eq_true rfl⟩, (hT _ w1316), (hT _ wp31)⟩ (RO.preV (ci := 11) (q0 := 0) hZ hS (hP.sub (ws' := [(y, .inr (11, MO yr yi ysb ybs))]) [0] rfl) hK rfl rfl) rfl rfl hl.1 rfl (lv_room (Nat.le_of_ble_eq_true rfl)) dM_cut_3 ⟨Nat.le_of_ble_eq_true rfl, Nat.le_of_ble_eq_true rfl⟩)) ?_
  refine lv_if_ne (tgt := 19) hx hb dM_cut_6 rfl (fun h1 => absurd (bi_f (fun q => q hc0)) h1) (fun _ => ?_)
  refine lv_iload_n hx hb dM_cut_9 rfl (lv_at hl 3 rfl) ?_
  refine lv_iconst (v := 2) hx hb dM_cut_10 (by decide) ?_
  refine lv_bipush (v := 12) hx hb dM_cut_11 (by decide) ?_
  refine ro_i (va_Run.run (va_runS (As := [.int v, .int 2, .int 12]) (rest := [.ref y]) ⟨hx, hb, hml, hown, hT⟩ (m_in l D cT v 2 12) ⟨callB_of 3 hT (tb_gd w1297) rfl rfl rfl (hT _ w13) (hT _ w1295) hM_in ⟨Nat.le_of_ble_eq_true rfl, Nat.le_of_ble_eq_true rfl⟩, (hT _ w1296)⟩ (RO.preS hZ hS ((show va_P D vwCl [] _ from fun _ _ h => nomatch h)) hK) rfl rfl hl.1 rfl (lv_room (Nat.le_of_ble_eq_true rfl)) dM_cut_13 ⟨Nat.le_of_ble_eq_true rfl, Nat.le_of_ble_eq_true rfl⟩)) ?_
  refine lv_if_ne (tgt := 23) hx hb dM_cut_16 rfl (fun _ => ?_) (fun h2 => absurd h2 (by rw [bi_t hv9]; decide))
  refine lv_aload_n hx hb dM_cut_23 rfl (lv_at hl 0 rfl) ?_
  refine va_get (D := D) (ci := 11) (v := .ref (yr 6)) (C := R_M) (T := T_M) (N := 60) hx hb hT in_M hown hK hP 0 rfl rfl 6 (by decide) (hT _ w1110) (fun _ h9 => h9) rfl dM_cut_24 ?_
  refine lv_iload_n hx hb dM_cut_27 rfl (lv_at hl 1 rfl) ?_
  refine lq_zald (j := c0) hx hb hK hP 1 3 rfl rfl rfl (by omega) (by omega) dM_cut_28 ?_
  refine lv_if_eq (tgt := 36) hx hb dM_cut_29 rfl (fun h3 => absurd h3 hik) (fun _ => ?_)
  refine lv_iconst (v := 2) hx hb dM_cut_32 (by decide) ?_
  refine lv_goto (tgt := 37) hx hb dM_cut_33 rfl ?_
  refine rw_i (wc := [(y, .inr (11, MO yr yi ysb ybs))]) (wr := [(yr 6, .inl (cT 3, 6, .inl ik))]) hP hD hS hA [0] [1] rfl rfl (by decide) (by decide) (va_runV (As := [.int 2]) (rest := []) ⟨hx, hb, hml, hown, hT⟩ (m_ref2 l D cT y yr yi ysb ybs _) ⟨callB_of 1 hT (tb_gd w1301) rfl rfl rfl (hT _ w13) (hT _ w1298) hM_refused ⟨Nat.le_of_ble_eq_true rfl, Nat.le_of_ble_eq_true rfl⟩, (hT _ w1300), (hT _ wp29)⟩ (RW.preV (ci := 11) (q0 := 0) hZ hS (va_free (wc := [(y, .inr (11, MO yr yi ysb ybs))]) hD hS hA [0] rfl) (hP.sub (ws' := [(y, .inr (11, MO yr yi ysb ybs))]) [0] rfl) hK (hD.sub (ws' := [(y, .inr (11, MO yr yi ysb ybs))]) [0] (by decide) rfl) rfl rfl) rfl rfl hl.1 rfl (lv_room (Nat.le_of_ble_eq_true rfl)) dM_cut_37 ⟨Nat.le_of_ble_eq_true rfl, Nat.le_of_ble_eq_true rfl⟩) (fun ru4 u9 H locs hpu4 hP hD hS => ?_)
  have hpu4 : ru4 = 1 := hpu4
  have hP : va_P D vwCl [(yr 6, .inl (cT 3, 6, .inl ik)), (y, .inr (11, MO yr (va_up yi 1 2) ysb ybs))] _ := hP
  have hD : va_D A [(yr 6, .inl (cT 3, 6, .inl ik)), (y, .inr (11, MO yr (va_up yi 1 2) ysb ybs))] := hD
  refine lv_topi (fun y9 e9 => ?_)
  cases (show y9 = 1 from e9.trans hpu4)
  refine lv_if_eq (tgt := 45) hx hb dM_cut_40 rfl (fun h5 => absurd h5 (by decide)) (fun _ => ?_)
  refine lv_iconst (v := 0) hx hb dM_cut_43 (by decide) ?_
  have hP9 := hP.sub (ws' := [(y, .inr (11, MO yr (va_up yi 1 2) ysb ybs)), (yr 6, .inl (cT 3, 6, .inl ik))]) [1, 0] rfl
  have hD9 := hD.sub (ws' := [(y, .inr (11, MO yr (va_up yi 1 2) ysb ybs)), (yr 6, .inl (cT 3, 6, .inl ik))]) [1, 0] (by decide) rfl
  refine W.widen (k := 0) (n := 0) (Nat.le_of_ble_eq_true rfl) (Nat.le_of_ble_eq_true rfl) ?_
  exact W.iret (v := 0) hx hb hr (fun t9 ht9 hW9 => ⟨⟨0, (), rfl, (show 0 = 0 from rfl), by rw [ht9]; exact hP9, hD9⟩, hS.F ht9⟩) hS.2.2 dM_cut_44
