set_option maxHeartbeats 4000000 in
set_option maxRecDepth 100000 in
theorem m_look (l : Launch) (D : va_G) (cT : Nat → ClassId) (y : Nat) (yr : Nat → Nat) (yi : Nat → Int32) (ysb : Int64) (ybs : Int64) (n : Nat) (w : Nat) (lst : Nat) (zr : Nat → Int) (ZB : Nat) (fr : Nat → Int32) (AA : Int64) (wd : Nat) (ne : Nat → Nat) (chb : Int32) (vv : Nat → Int32) (eg : Nat → Int32) (ik : Nat → Int32) (em : Nat → Int32) (fb : Nat → Int32) (k0 : Nat → Int32) (k1 : Nat → Int32) (k2 : Nat → Int32) (k3 : Nat → Int32) (k4 : Nat → Int32) (k5 : Nat → Int32) (k6 : Nat → Int32) (hn : yi 3 = nI n) (hn2 : n ≤ 48) (hw9 : yi 12 = nI w) (hw20 : w ≤ 20) (hls : yi 11 = nI lst) (hls2 : 1 ≤ lst ∧ lst ≤ 24) (hM : ∀ k, k < n → MR fr (132 * k) (zr k)) (hZB : ∀ k, k < n → (zr k).natAbs ≤ ZB) (hzf : 100 * ZB < 268435456 ^ 250) (hfit : (100 * ZB) * (100 * ZB) * 1000000000000 < 268435456 ^ 130) (hA9 : SUBn AA n) (hwd : yi 2 = nI wd) (hwd6 : wd ≤ 6) (hch : yi 16 = chb) (hne : ∀ c, c < 6 → em c = nI (ne c) ∧ ne c ≤ 11) (sz : Nat) : Met l yM_look WM_look ({ frames := 7, cells := 0, slots := 0, locals := 187 } : Room) (RW D vwCl [.ref y, .long AA] [(y, .inr (11, MO yr yi ysb ybs)), (yr 45, .inl (cT 0, 6336, .inl fr)), (yr 5, .inl (cT 0, 288, .inl vv)), (yr 7, .inl (cT 0, 66, .inl eg)), (yr 6, .inl (cT 3, 6, .inl ik)), (yr 8, .inl (cT 0, 6, .inl em)), (yr 36, .inl (cT 0, 302, .inl fb)), (yr 30, .inl (cT 0, 302, .inl k0)), (yr 33, .inl (cT 0, 302, .inl k1)), (yr 34, .inl (cT 0, 302, .inl k2)), (yr 32, .inl (cT 0, 302, .inl k3)), (yr 35, .inl (cT 0, 302, .inl k4)), (yr 31, .inl (cT 0, 302, .inl k5)), (yr 39, .inl (cT 0, 302, .inl k6))] (TY cT) sz) (va_Qv (fun u9 : BST × (Nat → Int32) × Int64 × (Nat → Int32) × (Nat → Int32) × (Nat → Int32) × (Nat → Int32) × (Nat → Int32) × (Nat → Int32) × (Nat → Int32) × (Nat → Int32) => u9.1 = colF zr n w lst vv eg ik ne chb AA wd ∧ BSF u9.2.1 u9.2.2.1 u9.2.2.2.1 u9.1 ((100 * ZB) * (100 * ZB) * 20000) ∧ YKP yi u9.2.1) (BW D vwCl (va_A [(y, .inr (11, MO yr yi ysb ybs)), (yr 45, .inl (cT 0, 6336, .inl fr)), (yr 5, .inl (cT 0, 288, .inl vv)), (yr 7, .inl (cT 0, 66, .inl eg)), (yr 6, .inl (cT 3, 6, .inl ik)), (yr 8, .inl (cT 0, 6, .inl em)), (yr 36, .inl (cT 0, 302, .inl fb)), (yr 30, .inl (cT 0, 302, .inl k0)), (yr 33, .inl (cT 0, 302, .inl k1)), (yr 34, .inl (cT 0, 302, .inl k2)), (yr 32, .inl (cT 0, 302, .inl k3)), (yr 35, .inl (cT 0, 302, .inl k4)), (yr 31, .inl (cT 0, 302, .inl k5)), (yr 39, .inl (cT 0, 302, .inl k6))] sz) (fun u9 : BST × (Nat → Int32) × Int64 × (Nat → Int32) × (Nat → Int32) × (Nat → Int32) × (Nat → Int32) × (Nat → Int32) × (Nat → Int32) × (Nat → Int32) × (Nat → Int32) => [(y, .inr (11, MO yr u9.2.1 ysb u9.2.2.1)), (yr 45, .inl (cT 0, 6336, .inl fr)), (yr 5, .inl (cT 0, 288, .inl vv)), (yr 7, .inl (cT 0, 66, .inl eg)), (yr 6, .inl (cT 3, 6, .inl ik)), (yr 8, .inl (cT 0, 6, .inl em)), (yr 36, .inl (cT 0, 302, .inl u9.2.2.2.1)), (yr 30, .inl (cT 0, 302, .inl u9.2.2.2.2.1)), (yr 33, .inl (cT 0, 302, .inl u9.2.2.2.2.2.1)), (yr 34, .inl (cT 0, 302, .inl u9.2.2.2.2.2.2.1)), (yr 32, .inl (cT 0, 302, .inl u9.2.2.2.2.2.2.2.1)), (yr 35, .inl (cT 0, 302, .inl u9.2.2.2.2.2.2.2.2.1)), (yr 31, .inl (cT 0, 302, .inl u9.2.2.2.2.2.2.2.2.2.1)), (yr 39, .inl (cT 0, 302, .inl u9.2.2.2.2.2.2.2.2.2.2))])) (va_A [(y, .inr (11, MO yr yi ysb ybs)), (yr 45, .inl (cT 0, 6336, .inl fr)), (yr 5, .inl (cT 0, 288, .inl vv)), (yr 7, .inl (cT 0, 66, .inl eg)), (yr 6, .inl (cT 3, 6, .inl ik)), (yr 8, .inl (cT 0, 6, .inl em)), (yr 36, .inl (cT 0, 302, .inl fb)), (yr 30, .inl (cT 0, 302, .inl k0)), (yr 33, .inl (cT 0, 302, .inl k1)), (yr 34, .inl (cT 0, 302, .inl k2)), (yr 32, .inl (cT 0, 302, .inl k3)), (yr 35, .inl (cT 0, 302, .inl k4)), (yr 31, .inl (cT 0, 302, .inl k5)), (yr 39, .inl (cT 0, 302, .inl k6))] sz)) 0 0 (va_A [(y, .inr (11, MO yr yi ysb ybs)), (yr 45, .inl (cT 0, 6336, .inl fr)), (yr 5, .inl (cT 0, 288, .inl vv)), (yr 7, .inl (cT 0, 66, .inl eg)), (yr 6, .inl (cT 3, 6, .inl ik)), (yr 8, .inl (cT 0, 6, .inl em)), (yr 36, .inl (cT 0, 302, .inl fb)), (yr 30, .inl (cT 0, 302, .inl k0)), (yr 33, .inl (cT 0, 302, .inl k1)), (yr 34, .inl (cT 0, 302, .inl k2)), (yr 32, .inl (cT 0, 302, .inl k3)), (yr 35, .inl (cT 0, 302, .inl k4)), (yr 31, .inl (cT 0, 302, .inl k5)), (yr 39, .inl (cT 0, 302, .inl k6))] sz) := by
  refine Met.ofW (cc := cM_look) (maxL := 10) (ret := none) (by decide) rfl ?_
  intro p e s m args below meth c s₁ B hml hv
  obtain ⟨rfl, hsz, hZ, hP, hK, hD0⟩ := hv
  have hx := B.exec
  have hb := B.bytes
  have hr := B.returns
  have hts := atoms_spec (ws := WM_look) B.pre
  have hT : ∀ w ∈ TB, w.before _ s = true := fun w h => hts w (List.mem_cons_of_mem _ h)
  have hown : s.vm.findClass R_M = some m.cls := findClass_of_methodNamed B.named
  have hlocks := B.notSynchronized
  subst hsz
  have hD := hD0.self (sz := s.heap.size)
  generalize hAe : va_A [(y, .inr (11, MO yr yi ysb ybs)), (yr 45, .inl (cT 0, 6336, .inl fr)), (yr 5, .inl (cT 0, 288, .inl vv)), (yr 7, .inl (cT 0, 66, .inl eg)), (yr 6, .inl (cT 3, 6, .inl ik)), (yr 8, .inl (cT 0, 6, .inl em)), (yr 36, .inl (cT 0, 302, .inl fb)), (yr 30, .inl (cT 0, 302, .inl k0)), (yr 33, .inl (cT 0, 302, .inl k1)), (yr 34, .inl (cT 0, 302, .inl k2)), (yr 32, .inl (cT 0, 302, .inl k3)), (yr 35, .inl (cT 0, 302, .inl k4)), (yr 31, .inl (cT 0, 302, .inl k5)), (yr 39, .inl (cT 0, 302, .inl k6))] s.heap.size = A at hD hZ ⊢
  have hA : ∀ q : Nat, s.heap.size ≤ q → A q := fun q h => by rw [← hAe]; exact Or.inr h
  have hS : va_S A s.heap s.heap [] := va_S.rf
  have hl := lv_entry ([.ref y, .long AA]) (n := 10) (Nat.le_of_ble_eq_true rfl)
  rw [lg_entry_eq]
  generalize (lg_sl ([.ref y, .long AA]) ++ List.replicate (10 - (lg_sl ([.ref y, .long AA])).length) Slot.unset).toArray = ls at hl ⊢
  have hl : lv_has ls 10 [(0, .ref y), (1, .long AA)] := hl
  refine lv_aload_n hx hb dM_look_0 rfl (lv_at hl 0 rfl) ?_
  refine va_get (D := D) (ci := 11) (v := .ref (yr 36)) (C := R_M) (T := T_M) (N := 60) hx hb hT in_M hown hK hP 0 rfl rfl 36 (by decide) (hT _ w1140) (fun _ h9 => h9) rfl dM_look_1 ?_
  refine lv_lconst (v := 0) hx hb dM_look_4 (by decide) ?_
  refine rw_v (wc := [(yr 36, .inl (cT 0, 302, .inl fb))]) (wr := [(y, .inr (11, MO yr yi ysb ybs)), (yr 45, .inl (cT 0, 6336, .inl fr)), (yr 5, .inl (cT 0, 288, .inl vv)), (yr 7, .inl (cT 0, 66, .inl eg)), (yr 6, .inl (cT 3, 6, .inl ik)), (yr 8, .inl (cT 0, 6, .inl em)), (yr 30, .inl (cT 0, 302, .inl k0)), (yr 33, .inl (cT 0, 302, .inl k1)), (yr 34, .inl (cT 0, 302, .inl k2)), (yr 32, .inl (cT 0, 302, .inl k3)), (yr 35, .inl (cT 0, 302, .inl k4)), (yr 31, .inl (cT 0, 302, .inl k5)), (yr 39, .inl (cT 0, 302, .inl k6))]) hP hD hS hA [6] [0, 1, 2, 3, 4, 5, 7, 8, 9, 10, 11, 12, 13] rfl rfl (by decide) (by decide) (va_runS (As := [.ref (yr 36), .long 0]) (rest := []) ⟨hx, hb, hml, hown, hT⟩ (m_setInt l D cT (yr 36) fb 0 (by decide) _) ⟨callB_of 2 hT (tb_gd w1387) rfl rfl rfl (hT _ w13) (hT _ w1385) hM_setInt ⟨Nat.le_of_ble_eq_true rfl, Nat.le_of_ble_eq_true rfl⟩, (hT _ w1386)⟩ (RW.preS hZ hS (va_free (wc := [(yr 36, .inl (cT 0, 302, .inl fb))]) hD hS hA [6] rfl) (hP.sub (ws' := [(yr 36, .inl (cT 0, 302, .inl fb))]) [6] rfl) hK (hD.sub (ws' := [(yr 36, .inl (cT 0, 302, .inl fb))]) [6] (by decide) rfl)) rfl rfl hl.1 rfl (lv_room (Nat.le_of_ble_eq_true rfl)) dM_look_5 ⟨Nat.le_of_ble_eq_true rfl, Nat.le_of_ble_eq_true rfl⟩) (fun u9 H locs hpu1 hP hD hS => ?_)
  obtain ⟨f1u1, rfl⟩ : ∃ q9, q9 = u9 := ⟨_, rfl⟩
  have hpu1 : MN f1u1 (0 : Int64).toInt := hpu1
  have hP : va_P D vwCl [(y, .inr (11, MO yr yi ysb ybs)), (yr 45, .inl (cT 0, 6336, .inl fr)), (yr 5, .inl (cT 0, 288, .inl vv)), (yr 7, .inl (cT 0, 66, .inl eg)), (yr 6, .inl (cT 3, 6, .inl ik)), (yr 8, .inl (cT 0, 6, .inl em)), (yr 30, .inl (cT 0, 302, .inl k0)), (yr 33, .inl (cT 0, 302, .inl k1)), (yr 34, .inl (cT 0, 302, .inl k2)), (yr 32, .inl (cT 0, 302, .inl k3)), (yr 35, .inl (cT 0, 302, .inl k4)), (yr 31, .inl (cT 0, 302, .inl k5)), (yr 39, .inl (cT 0, 302, .inl k6)), (yr 36, .inl (cT 0, 302, .inl f1u1))] _ := hP
  have hD : va_D A [(y, .inr (11, MO yr yi ysb ybs)), (yr 45, .inl (cT 0, 6336, .inl fr)), (yr 5, .inl (cT 0, 288, .inl vv)), (yr 7, .inl (cT 0, 66, .inl eg)), (yr 6, .inl (cT 3, 6, .inl ik)), (yr 8, .inl (cT 0, 6, .inl em)), (yr 30, .inl (cT 0, 302, .inl k0)), (yr 33, .inl (cT 0, 302, .inl k1)), (yr 34, .inl (cT 0, 302, .inl k2)), (yr 32, .inl (cT 0, 302, .inl k3)), (yr 35, .inl (cT 0, 302, .inl k4)), (yr 31, .inl (cT 0, 302, .inl k5)), (yr 39, .inl (cT 0, 302, .inl k6)), (yr 36, .inl (cT 0, 302, .inl f1u1))] := hD
  have h0N : MN f1u1 0 := hpu1
  refine lv_aload_n hx hb dM_look_8 rfl (lv_at hl 0 rfl) ?_
  refine lv_iconst (v := 1) hx hb dM_look_9 (by decide) ?_
  refine va_put (D := D) (ci := 11) (v := .int 1) (ty := .int) (C := R_M) (T := T_M) (N := 60) hx hb hT in_M ty_M ty_M_ok m_M hown hK hP hD hS 0 rfl rfl 50 (by decide) (hT _ w1154) (fun _ h9 => h9) rfl (by decide +kernel) rfl rfl (Nat.le_of_ble_eq_true rfl) dM_look_10 (fun H locs hP hD hS => ?_)
  have hP : va_P D vwCl [(y, .inr (11, MO yr (va_up yi 50 1) ysb ybs)), (yr 45, .inl (cT 0, 6336, .inl fr)), (yr 5, .inl (cT 0, 288, .inl vv)), (yr 7, .inl (cT 0, 66, .inl eg)), (yr 6, .inl (cT 3, 6, .inl ik)), (yr 8, .inl (cT 0, 6, .inl em)), (yr 30, .inl (cT 0, 302, .inl k0)), (yr 33, .inl (cT 0, 302, .inl k1)), (yr 34, .inl (cT 0, 302, .inl k2)), (yr 32, .inl (cT 0, 302, .inl k3)), (yr 35, .inl (cT 0, 302, .inl k4)), (yr 31, .inl (cT 0, 302, .inl k5)), (yr 39, .inl (cT 0, 302, .inl k6)), (yr 36, .inl (cT 0, 302, .inl f1u1))] _ := hP
  have hD : va_D A [(y, .inr (11, MO yr (va_up yi 50 1) ysb ybs)), (yr 45, .inl (cT 0, 6336, .inl fr)), (yr 5, .inl (cT 0, 288, .inl vv)), (yr 7, .inl (cT 0, 66, .inl eg)), (yr 6, .inl (cT 3, 6, .inl ik)), (yr 8, .inl (cT 0, 6, .inl em)), (yr 30, .inl (cT 0, 302, .inl k0)), (yr 33, .inl (cT 0, 302, .inl k1)), (yr 34, .inl (cT 0, 302, .inl k2)), (yr 32, .inl (cT 0, 302, .inl k3)), (yr 35, .inl (cT 0, 302, .inl k4)), (yr 31, .inl (cT 0, 302, .inl k5)), (yr 39, .inl (cT 0, 302, .inl k6)), (yr 36, .inl (cT 0, 302, .inl f1u1))] := hD
  refine lv_iconst (v := 0) hx hb dM_look_13 (by decide) ?_
  refine lv_istore_n hx hb dM_look_14 rfl hl (by decide) rfl (fun ls hl => ?_)
  have hl : lv_has ls 10 [(3, .int 0), (0, .ref y), (1, .long AA)] := hl
  refine lp_w (α := Nat × BST × (Nat → Int32) × Int64 × (Nat → Int32) × (Nat → Int32) × (Nat → Int32) × (Nat → Int32) × (Nat → Int32) × (Nat → Int32) × (Nat → Int32) × (Nat → Int32)) (fun a9 => a9.1 ≤ wd ∧ a9.2.1 = colF zr n w lst vv eg ik ne chb AA a9.1 ∧ BSF a9.2.2.1 a9.2.2.2.1 a9.2.2.2.2.1 a9.2.1 ((100 * ZB) * (100 * ZB) * 20000) ∧ YKP yi a9.2.2.1) (fun a9 => wd - a9.1) (fun a9 => [(0, .ref y), (1, .long AA), (3, .int (nI a9.1))]) (fun a9 => [(y, .inr (11, MO yr a9.2.2.1 ysb a9.2.2.2.1)), (yr 45, .inl (cT 0, 6336, .inl fr)), (yr 5, .inl (cT 0, 288, .inl vv)), (yr 7, .inl (cT 0, 66, .inl eg)), (yr 6, .inl (cT 3, 6, .inl ik)), (yr 8, .inl (cT 0, 6, .inl em)), (yr 30, .inl (cT 0, 302, .inl a9.2.2.2.2.2.1)), (yr 33, .inl (cT 0, 302, .inl a9.2.2.2.2.2.2.1)), (yr 34, .inl (cT 0, 302, .inl a9.2.2.2.2.2.2.2.1)), (yr 32, .inl (cT 0, 302, .inl a9.2.2.2.2.2.2.2.2.1)), (yr 35, .inl (cT 0, 302, .inl a9.2.2.2.2.2.2.2.2.2.1)), (yr 31, .inl (cT 0, 302, .inl a9.2.2.2.2.2.2.2.2.2.2.1)), (yr 39, .inl (cT 0, 302, .inl a9.2.2.2.2.2.2.2.2.2.2.2)), (yr 36, .inl (cT 0, 302, .inl a9.2.2.2.2.1))]) 15 ?_ (0, (0, 1, 0, 0, 0, 0), va_up yi 50 1, ybs, f1u1, k0, k1, k2, k3, k4, k5, k6) (show 0 ≤ wd ∧ (0, 1, 0, 0, 0, 0) = colF zr n w lst vv eg ik ne chb AA 0 ∧ BSF (va_up yi 50 1) ybs f1u1 (0, 1, 0, 0, 0, 0) ((100 * ZB) * (100 * ZB) * 20000) ∧ YKP yi (va_up yi 50 1) from ⟨by omega, rfl, ⟨h0N, Nat.zero_le _, by decide, by decide, rfl, fun q => absurd rfl q⟩, fun k h1 _ _ _ => va_up_ne _ _ h1⟩) (lv_sub hl [1, 2, 0] rfl) hP hD hS
  intro a9 hI15 ih15 ls H locs hl hP hD hS
  obtain ⟨c, b1, yi1, bs1, fb1, qa0, qa1, qa2, qa3, qa4, qa5, qa6⟩ := a9
  have hI15 : c ≤ wd ∧ b1 = colF zr n w lst vv eg ik ne chb AA c ∧ BSF yi1 bs1 fb1 b1 ((100 * ZB) * (100 * ZB) * 20000) ∧ YKP yi yi1 := hI15
  obtain ⟨ic, ib, iB, iy⟩ := hI15
  have hl : lv_has ls 10 [(0, .ref y), (1, .long AA), (3, .int (nI c))] := hl
  have hP : va_P D vwCl [(y, .inr (11, MO yr yi1 ysb bs1)), (yr 45, .inl (cT 0, 6336, .inl fr)), (yr 5, .inl (cT 0, 288, .inl vv)), (yr 7, .inl (cT 0, 66, .inl eg)), (yr 6, .inl (cT 3, 6, .inl ik)), (yr 8, .inl (cT 0, 6, .inl em)), (yr 30, .inl (cT 0, 302, .inl qa0)), (yr 33, .inl (cT 0, 302, .inl qa1)), (yr 34, .inl (cT 0, 302, .inl qa2)), (yr 32, .inl (cT 0, 302, .inl qa3)), (yr 35, .inl (cT 0, 302, .inl qa4)), (yr 31, .inl (cT 0, 302, .inl qa5)), (yr 39, .inl (cT 0, 302, .inl qa6)), (yr 36, .inl (cT 0, 302, .inl fb1))] _ := hP
  have hD : va_D A [(y, .inr (11, MO yr yi1 ysb bs1)), (yr 45, .inl (cT 0, 6336, .inl fr)), (yr 5, .inl (cT 0, 288, .inl vv)), (yr 7, .inl (cT 0, 66, .inl eg)), (yr 6, .inl (cT 3, 6, .inl ik)), (yr 8, .inl (cT 0, 6, .inl em)), (yr 30, .inl (cT 0, 302, .inl qa0)), (yr 33, .inl (cT 0, 302, .inl qa1)), (yr 34, .inl (cT 0, 302, .inl qa2)), (yr 32, .inl (cT 0, 302, .inl qa3)), (yr 35, .inl (cT 0, 302, .inl qa4)), (yr 31, .inl (cT 0, 302, .inl qa5)), (yr 39, .inl (cT 0, 302, .inl qa6)), (yr 36, .inl (cT 0, 302, .inl fb1))] := hD
  refine lv_iload_n hx hb dM_look_15 rfl (lv_at hl 2 rfl) ?_
  refine lv_aload_n hx hb dM_look_16 rfl (lv_at hl 0 rfl) ?_
  refine va_get (D := D) (ci := 11) (v := .int (yi1 2)) (C := R_M) (T := T_M) (N := 60) hx hb hT in_M hown hK hP 0 rfl rfl 2 (by decide) (hT _ w1106) (fun _ h9 => h9) rfl dM_look_17 ?_
  refine lv_topi (fun y9 e9 => ?_)
  cases (show y9 = nI wd from e9.trans ((iy 2 (by decide) (by decide) (by decide) (by decide)).trans hwd))
  refine lv_icmp_ge (tgt := 232) hx hb dM_look_20 rfl (fun h2 => ?_) (fun h2 => ?_)
  · have gh2 : wd ≤ c := (nI_leI (a := wd) (b := c) (by omega) (by omega)).mp h2
    have ec : c = wd := by omega
    rw [ec] at ib
    have hP9 := hP.sub (ws' := [(y, .inr (11, MO yr yi1 ysb bs1)), (yr 45, .inl (cT 0, 6336, .inl fr)), (yr 5, .inl (cT 0, 288, .inl vv)), (yr 7, .inl (cT 0, 66, .inl eg)), (yr 6, .inl (cT 3, 6, .inl ik)), (yr 8, .inl (cT 0, 6, .inl em)), (yr 36, .inl (cT 0, 302, .inl fb1)), (yr 30, .inl (cT 0, 302, .inl qa0)), (yr 33, .inl (cT 0, 302, .inl qa1)), (yr 34, .inl (cT 0, 302, .inl qa2)), (yr 32, .inl (cT 0, 302, .inl qa3)), (yr 35, .inl (cT 0, 302, .inl qa4)), (yr 31, .inl (cT 0, 302, .inl qa5)), (yr 39, .inl (cT 0, 302, .inl qa6))]) [0, 1, 2, 3, 4, 5, 13, 6, 7, 8, 9, 10, 11, 12] rfl
    have hD9 := hD.sub (ws' := [(y, .inr (11, MO yr yi1 ysb bs1)), (yr 45, .inl (cT 0, 6336, .inl fr)), (yr 5, .inl (cT 0, 288, .inl vv)), (yr 7, .inl (cT 0, 66, .inl eg)), (yr 6, .inl (cT 3, 6, .inl ik)), (yr 8, .inl (cT 0, 6, .inl em)), (yr 36, .inl (cT 0, 302, .inl fb1)), (yr 30, .inl (cT 0, 302, .inl qa0)), (yr 33, .inl (cT 0, 302, .inl qa1)), (yr 34, .inl (cT 0, 302, .inl qa2)), (yr 32, .inl (cT 0, 302, .inl qa3)), (yr 35, .inl (cT 0, 302, .inl qa4)), (yr 31, .inl (cT 0, 302, .inl qa5)), (yr 39, .inl (cT 0, 302, .inl qa6))]) [0, 1, 2, 3, 4, 5, 13, 6, 7, 8, 9, 10, 11, 12] (by decide) rfl
    refine W.widen (k := 0) (n := 0) (Nat.le_of_ble_eq_true rfl) (Nat.le_of_ble_eq_true rfl) ?_
    exact W.vret hx hb hr (fun t9 ht9 hW9 => ⟨⟨(b1, yi1, bs1, fb1, qa0, qa1, qa2, qa3, qa4, qa5, qa6), rfl, (show b1 = colF zr n w lst vv eg ik ne chb AA wd ∧ BSF yi1 bs1 fb1 b1 ((100 * ZB) * (100 * ZB) * 20000) ∧ YKP yi yi1 from ⟨ib, iB, iy⟩), by rw [ht9]; exact hP9, hD9⟩, hS.F ht9⟩) hS.2.2 dM_look_232
  · have gh2 : c < wd := Nat.not_le.mp (fun q => h2 ((nI_leI (a := wd) (b := c) (by omega) (by omega)).mpr q))
    refine lv_aload_n hx hb dM_look_23 rfl (lv_at hl 0 rfl) ?_
    refine va_get (D := D) (ci := 11) (v := .int (yi1 16)) (C := R_M) (T := T_M) (N := 60) hx hb hT in_M hown hK hP 0 rfl rfl 16 (by decide) (hT _ w1120) (fun _ h9 => h9) rfl dM_look_24 ?_
    refine lv_topi (fun y9 e9 => ?_)
    cases (show y9 = chb from e9.trans ((iy 16 (by decide) (by decide) (by decide) (by decide)).trans hch))
    refine lv_iload_n hx hb dM_look_27 rfl (lv_at hl 2 rfl) ?_
    refine lv_ishr hx hb dM_look_28 ?_
    refine lv_iconst (v := 1) hx hb dM_look_29 (by decide) ?_
    refine lv_iand hx hb dM_look_30 ?_
    refine lv_iconst (v := 1) hx hb dM_look_31 (by decide) ?_
    refine lv_icmp_ne (tgt := 226) hx hb dM_look_32 rfl (fun h3 => ?_) (fun h3 => ?_)
    · refine lv_iinc (k := 2) (v := nI (c + 1)) hx hb dM_look_226 hl rfl (nI_1 c) (by decide) rfl (fun ls hl => ?_)
      have hl : lv_has ls 10 [(3, .int (nI (c + 1))), (0, .ref y), (1, .long AA)] := hl
      refine lv_goto (tgt := 15) hx hb dM_look_229 rfl ?_
      exact ih15 (c + 1, b1, yi1, bs1, fb1, qa0, qa1, qa2, qa3, qa4, qa5, qa6) (show (c + 1) ≤ wd ∧ b1 = colF zr n w lst vv eg ik ne chb AA (c + 1) ∧ BSF yi1 bs1 fb1 b1 ((100 * ZB) * (100 * ZB) * 20000) ∧ YKP yi yi1 from ⟨by omega, by show _ = colS _ _ _ _ _ _ _ _ _ _ _ _; unfold colS; rw [if_neg h3]; exact ib, iB, iy⟩) (show wd - (c + 1) < wd - c from (by omega)) ls H locs (lv_sub hl [1, 2, 0] rfl) hP hD hS
    · refine lv_lconst (v := 0) hx hb dM_look_35 (by decide) ?_
      refine lv_lstore hx hb dM_look_36 hl (by decide) rfl (fun ls hl => ?_)
      have hl : lv_has ls 10 [(4, .long 0), (0, .ref y), (1, .long AA), (3, .int (nI c))] := hl
      refine lv_iconst (v := 0) hx hb dM_look_38 (by decide) ?_
      refine lv_istore hx hb dM_look_39 hl (by decide) rfl (fun ls hl => ?_)
      have hl : lv_has ls 10 [(6, .int 0), (4, .long 0), (0, .ref y), (1, .long AA), (3, .int (nI c))] := hl
      refine lp_r (α := Nat) (fun a9 => a9 ≤ n) (fun a9 => n - a9) (fun a9 => [(0, .ref y), (1, .long AA), (3, .int (nI c)), (4, .long (rwk vv c (-2147483648) a9)), (6, .int (nI a9))]) 41 ?_ 0 (show 0 ≤ n from by omega) (lv_sub hl [2, 3, 4, 1, 0] rfl)
      intro a9 hI41 ih41 ls hl
      obtain ⟨k, rfl⟩ : ∃ q9, q9 = a9 := ⟨_, rfl⟩
      have hI41 : k ≤ n := hI41
      have hl : lv_has ls 10 [(0, .ref y), (1, .long AA), (3, .int (nI c)), (4, .long (rwk vv c (-2147483648) k)), (6, .int (nI k))] := hl
      refine lv_iload hx hb dM_look_41 (lv_at hl 4 rfl) ?_
      refine lv_aload_n hx hb dM_look_43 rfl (lv_at hl 0 rfl) ?_
      refine va_get (D := D) (ci := 11) (v := .int (yi1 3)) (C := R_M) (T := T_M) (N := 60) hx hb hT in_M hown hK hP 0 rfl rfl 3 (by decide) (hT _ w1107) (fun _ h9 => h9) rfl dM_look_44 ?_
      refine lv_topi (fun y9 e9 => ?_)
      cases (show y9 = nI n from e9.trans ((iy 3 (by decide) (by decide) (by decide) (by decide)).trans hn))
      refine lv_icmp_ge (tgt := 87) hx hb dM_look_47 rfl (fun h4 => ?_) (fun h4 => ?_)
      · have gh4 : n ≤ k := (nI_leI (a := n) (b := k) (by omega) (by omega)).mp h4
        have ek : k = n := by omega
        rw [ek] at hl
        have hl : lv_has ls 10 [(0, .ref y), (1, .long AA), (3, .int (nI c)), (4, .long (rwk vv c (-2147483648) n)), (6, .int (nI n))] := hl
        have hP : va_P D vwCl [(y, .inr (11, MO yr yi1 ysb bs1)), (yr 45, .inl (cT 0, 6336, .inl fr)), (yr 5, .inl (cT 0, 288, .inl vv)), (yr 7, .inl (cT 0, 66, .inl eg)), (yr 6, .inl (cT 3, 6, .inl ik)), (yr 8, .inl (cT 0, 6, .inl em)), (yr 30, .inl (cT 0, 302, .inl qa0)), (yr 33, .inl (cT 0, 302, .inl qa1)), (yr 34, .inl (cT 0, 302, .inl qa2)), (yr 32, .inl (cT 0, 302, .inl qa3)), (yr 35, .inl (cT 0, 302, .inl qa4)), (yr 31, .inl (cT 0, 302, .inl qa5)), (yr 39, .inl (cT 0, 302, .inl qa6)), (yr 36, .inl (cT 0, 302, .inl fb1))] _ := hP
        have hD : va_D A [(y, .inr (11, MO yr yi1 ysb bs1)), (yr 45, .inl (cT 0, 6336, .inl fr)), (yr 5, .inl (cT 0, 288, .inl vv)), (yr 7, .inl (cT 0, 66, .inl eg)), (yr 6, .inl (cT 3, 6, .inl ik)), (yr 8, .inl (cT 0, 6, .inl em)), (yr 30, .inl (cT 0, 302, .inl qa0)), (yr 33, .inl (cT 0, 302, .inl qa1)), (yr 34, .inl (cT 0, 302, .inl qa2)), (yr 32, .inl (cT 0, 302, .inl qa3)), (yr 35, .inl (cT 0, 302, .inl qa4)), (yr 31, .inl (cT 0, 302, .inl qa5)), (yr 39, .inl (cT 0, 302, .inl qa6)), (yr 36, .inl (cT 0, 302, .inl fb1))] := hD
        refine lv_lload hx hb dM_look_87 (lv_at hl 3 rfl) ?_
        refine lv_lload_n hx hb dM_look_89 rfl (lv_at hl 1 rfl) ?_
        refine lv_land hx hb dM_look_90 ?_
        refine lv_lstore hx hb dM_look_91 hl (by decide) rfl (fun ls hl => ?_)
        have hl : lv_has ls 10 [(4, .long ((rwk vv c (-2147483648) n) &&& AA)), (0, .ref y), (1, .long AA), (3, .int (nI c)), (6, .int (nI n))] := hl
        refine lv_aload_n hx hb dM_look_93 rfl (lv_at hl 1 rfl) ?_
        refine va_get (D := D) (ci := 11) (v := .ref (yr 6)) (C := R_M) (T := T_M) (N := 60) hx hb hT in_M hown hK hP 0 rfl rfl 6 (by decide) (hT _ w1110) (fun _ h9 => h9) rfl dM_look_94 ?_
        refine lv_iload_n hx hb dM_look_97 rfl (lv_at hl 3 rfl) ?_
        refine lq_zald (j := c) hx hb hK hP 4 3 rfl rfl rfl (by omega) (by omega) dM_look_98 ?_
        refine lv_if_eq (tgt := 113) hx hb dM_look_99 rfl (fun h5 => ?_) (fun h5 => ?_)
        · have hnc := hne c (by omega)
          refine lv_iconst (v := 0) hx hb dM_look_113 (by decide) ?_
          refine lv_istore hx hb dM_look_114 hl (by decide) rfl (fun ls hl => ?_)
          have hl : lv_has ls 10 [(6, .int 0), (4, .long ((rwk vv c (-2147483648) n) &&& AA)), (0, .ref y), (1, .long AA), (3, .int (nI c))] := hl
          refine lp_w (α := Nat × BST × (Nat → Int32) × Int64 × (Nat → Int32) × (Nat → Int32) × (Nat → Int32) × (Nat → Int32) × (Nat → Int32) × (Nat → Int32) × (Nat → Int32) × (Nat → Int32)) (fun a9 => a9.1 ≤ ne c ∧ a9.2.1 = lkE zr n w lst vv eg c AA (rwk vv c (-2147483648) n &&& AA) (colF zr n w lst vv eg ik ne chb AA c) a9.1 ∧ BSF a9.2.2.1 a9.2.2.2.1 a9.2.2.2.2.1 a9.2.1 ((100 * ZB) * (100 * ZB) * 20000) ∧ YKP yi a9.2.2.1) (fun a9 => ne c - a9.1) (fun a9 => [(0, .ref y), (1, .long AA), (3, .int (nI c)), (4, .long ((rwk vv c (-2147483648) n) &&& AA)), (6, .int (nI a9.1))]) (fun a9 => [(y, .inr (11, MO yr a9.2.2.1 ysb a9.2.2.2.1)), (yr 45, .inl (cT 0, 6336, .inl fr)), (yr 5, .inl (cT 0, 288, .inl vv)), (yr 7, .inl (cT 0, 66, .inl eg)), (yr 6, .inl (cT 3, 6, .inl ik)), (yr 8, .inl (cT 0, 6, .inl em)), (yr 30, .inl (cT 0, 302, .inl a9.2.2.2.2.2.1)), (yr 33, .inl (cT 0, 302, .inl a9.2.2.2.2.2.2.1)), (yr 34, .inl (cT 0, 302, .inl a9.2.2.2.2.2.2.2.1)), (yr 32, .inl (cT 0, 302, .inl a9.2.2.2.2.2.2.2.2.1)), (yr 35, .inl (cT 0, 302, .inl a9.2.2.2.2.2.2.2.2.2.1)), (yr 31, .inl (cT 0, 302, .inl a9.2.2.2.2.2.2.2.2.2.2.1)), (yr 39, .inl (cT 0, 302, .inl a9.2.2.2.2.2.2.2.2.2.2.2)), (yr 36, .inl (cT 0, 302, .inl a9.2.2.2.2.1))]) 116 ?_ (0, b1, yi1, bs1, fb1, qa0, qa1, qa2, qa3, qa4, qa5, qa6) (show 0 ≤ ne c ∧ b1 = lkE zr n w lst vv eg c AA (rwk vv c (-2147483648) n &&& AA) (colF zr n w lst vv eg ik ne chb AA c) 0 ∧ BSF yi1 bs1 fb1 b1 ((100 * ZB) * (100 * ZB) * 20000) ∧ YKP yi yi1 from ⟨by omega, ib, iB, iy⟩) (lv_sub hl [2, 3, 4, 1, 0] rfl) hP hD hS
          intro a9 hI116 ih116 ls H locs hl hP hD hS
          obtain ⟨k, b2, yi2, bs2, fb2, qb0, qb1, qb2, qb3, qb4, qb5, qb6⟩ := a9
          have hI116 : k ≤ ne c ∧ b2 = lkE zr n w lst vv eg c AA (rwk vv c (-2147483648) n &&& AA) (colF zr n w lst vv eg ik ne chb AA c) k ∧ BSF yi2 bs2 fb2 b2 ((100 * ZB) * (100 * ZB) * 20000) ∧ YKP yi yi2 := hI116
          obtain ⟨jk, jb, jB, jy⟩ := hI116
          have hl : lv_has ls 10 [(0, .ref y), (1, .long AA), (3, .int (nI c)), (4, .long ((rwk vv c (-2147483648) n) &&& AA)), (6, .int (nI k))] := hl
          have hP : va_P D vwCl [(y, .inr (11, MO yr yi2 ysb bs2)), (yr 45, .inl (cT 0, 6336, .inl fr)), (yr 5, .inl (cT 0, 288, .inl vv)), (yr 7, .inl (cT 0, 66, .inl eg)), (yr 6, .inl (cT 3, 6, .inl ik)), (yr 8, .inl (cT 0, 6, .inl em)), (yr 30, .inl (cT 0, 302, .inl qb0)), (yr 33, .inl (cT 0, 302, .inl qb1)), (yr 34, .inl (cT 0, 302, .inl qb2)), (yr 32, .inl (cT 0, 302, .inl qb3)), (yr 35, .inl (cT 0, 302, .inl qb4)), (yr 31, .inl (cT 0, 302, .inl qb5)), (yr 39, .inl (cT 0, 302, .inl qb6)), (yr 36, .inl (cT 0, 302, .inl fb2))] _ := hP
          have hD : va_D A [(y, .inr (11, MO yr yi2 ysb bs2)), (yr 45, .inl (cT 0, 6336, .inl fr)), (yr 5, .inl (cT 0, 288, .inl vv)), (yr 7, .inl (cT 0, 66, .inl eg)), (yr 6, .inl (cT 3, 6, .inl ik)), (yr 8, .inl (cT 0, 6, .inl em)), (yr 30, .inl (cT 0, 302, .inl qb0)), (yr 33, .inl (cT 0, 302, .inl qb1)), (yr 34, .inl (cT 0, 302, .inl qb2)), (yr 32, .inl (cT 0, 302, .inl qb3)), (yr 35, .inl (cT 0, 302, .inl qb4)), (yr 31, .inl (cT 0, 302, .inl qb5)), (yr 39, .inl (cT 0, 302, .inl qb6)), (yr 36, .inl (cT 0, 302, .inl fb2))] := hD
          refine lv_iload hx hb dM_look_116 (lv_at hl 4 rfl) ?_
          refine lv_aload_n hx hb dM_look_118 rfl (lv_at hl 0 rfl) ?_
          refine va_get (D := D) (ci := 11) (v := .ref (yr 8)) (C := R_M) (T := T_M) (N := 60) hx hb hT in_M hown hK hP 0 rfl rfl 8 (by decide) (hT _ w1112) (fun _ h9 => h9) rfl dM_look_119 ?_
          refine lv_iload_n hx hb dM_look_122 rfl (lv_at hl 2 rfl) ?_
          refine lq_iald (j := c) hx hb hK hP 5 0 rfl rfl rfl (by omega) (by omega) dM_look_123 ?_
          refine lv_topi (fun y9 e9 => ?_)
          cases (show y9 = nI (ne c) from e9.trans hnc.1)
          refine lv_icmp_ge (tgt := 226) hx hb dM_look_124 rfl (fun h6 => ?_) (fun h6 => ?_)
          · have gh6 : ne c ≤ k := (nI_leI (a := ne c) (b := k) (by omega) (by omega)).mp h6
            have ek2 : k = ne c := by omega
            rw [ek2] at jb
            refine lv_iinc (k := 2) (v := nI (c + 1)) hx hb dM_look_226 hl rfl (nI_1 c) (by decide) rfl (fun ls hl => ?_)
            have hl : lv_has ls 10 [(3, .int (nI (c + 1))), (0, .ref y), (1, .long AA), (4, .long ((rwk vv c (-2147483648) n) &&& AA)), (6, .int (nI k))] := hl
            refine lv_goto (tgt := 15) hx hb dM_look_229 rfl ?_
            exact ih15 (c + 1, b2, yi2, bs2, fb2, qb0, qb1, qb2, qb3, qb4, qb5, qb6) (show (c + 1) ≤ wd ∧ b2 = colF zr n w lst vv eg ik ne chb AA (c + 1) ∧ BSF yi2 bs2 fb2 b2 ((100 * ZB) * (100 * ZB) * 20000) ∧ YKP yi yi2 from ⟨by omega, by show _ = colS _ _ _ _ _ _ _ _ _ _ _ _; unfold colS; rw [if_pos h3, if_pos h5]; exact jb, jB, jy⟩) (show wd - (c + 1) < wd - c from (by omega)) ls H locs (lv_sub hl [1, 2, 0] rfl) hP hD hS
          · have gh6 : k < ne c := Nat.not_le.mp (fun q => h6 ((nI_leI (a := ne c) (b := k) (by omega) (by omega)).mpr q))
            refine lv_lconst (v := 0) hx hb dM_look_127 (by decide) ?_
            refine lv_lstore hx hb dM_look_128 hl (by decide) rfl (fun ls hl => ?_)
            have hl : lv_has ls 10 [(7, .long 0), (0, .ref y), (1, .long AA), (3, .int (nI c)), (4, .long ((rwk vv c (-2147483648) n) &&& AA)), (6, .int (nI k))] := hl
            refine lv_iconst (v := 0) hx hb dM_look_130 (by decide) ?_
            refine lv_istore hx hb dM_look_131 hl (by decide) rfl (fun ls hl => ?_)
            have hl : lv_has ls 10 [(9, .int 0), (7, .long 0), (0, .ref y), (1, .long AA), (3, .int (nI c)), (4, .long ((rwk vv c (-2147483648) n) &&& AA)), (6, .int (nI k))] := hl
            refine lp_r (α := Nat) (fun a9 => a9 ≤ n) (fun a9 => n - a9) (fun a9 => [(0, .ref y), (1, .long AA), (3, .int (nI c)), (4, .long ((rwk vv c (-2147483648) n) &&& AA)), (6, .int (nI k)), (7, .long (rlt vv c (eg (11 * c + k)) a9)), (9, .int (nI a9))]) 133 ?_ 0 (show 0 ≤ n from by omega) (lv_sub hl [2, 3, 4, 5, 6, 1, 0] rfl)
            intro a9 hI133 ih133 ls hl
            obtain ⟨r, rfl⟩ : ∃ q9, q9 = a9 := ⟨_, rfl⟩
            have hI133 : r ≤ n := hI133
            have hl : lv_has ls 10 [(0, .ref y), (1, .long AA), (3, .int (nI c)), (4, .long ((rwk vv c (-2147483648) n) &&& AA)), (6, .int (nI k)), (7, .long (rlt vv c (eg (11 * c + k)) r)), (9, .int (nI r))] := hl
            refine lv_iload hx hb dM_look_133 (lv_at hl 6 rfl) ?_
            refine lv_aload_n hx hb dM_look_135 rfl (lv_at hl 0 rfl) ?_
            refine va_get (D := D) (ci := 11) (v := .int (yi2 3)) (C := R_M) (T := T_M) (N := 60) hx hb hT in_M hown hK hP 0 rfl rfl 3 (by decide) (hT _ w1107) (fun _ h9 => h9) rfl dM_look_136 ?_
            refine lv_topi (fun y9 e9 => ?_)
            cases (show y9 = nI n from e9.trans ((jy 3 (by decide) (by decide) (by decide) (by decide)).trans hn))
            refine lv_icmp_ge (tgt := 189) hx hb dM_look_139 rfl (fun h7 => ?_) (fun h7 => ?_)
            · have gh7 : n ≤ r := (nI_leI (a := n) (b := r) (by omega) (by omega)).mp h7
              have er : r = n := by omega
              rw [er] at hl
              have hl : lv_has ls 10 [(0, .ref y), (1, .long AA), (3, .int (nI c)), (4, .long ((rwk vv c (-2147483648) n) &&& AA)), (6, .int (nI k)), (7, .long (rlt vv c (eg (11 * c + k)) n)), (9, .int (nI n))] := hl
              have hP : va_P D vwCl [(y, .inr (11, MO yr yi2 ysb bs2)), (yr 45, .inl (cT 0, 6336, .inl fr)), (yr 5, .inl (cT 0, 288, .inl vv)), (yr 7, .inl (cT 0, 66, .inl eg)), (yr 6, .inl (cT 3, 6, .inl ik)), (yr 8, .inl (cT 0, 6, .inl em)), (yr 30, .inl (cT 0, 302, .inl qb0)), (yr 33, .inl (cT 0, 302, .inl qb1)), (yr 34, .inl (cT 0, 302, .inl qb2)), (yr 32, .inl (cT 0, 302, .inl qb3)), (yr 35, .inl (cT 0, 302, .inl qb4)), (yr 31, .inl (cT 0, 302, .inl qb5)), (yr 39, .inl (cT 0, 302, .inl qb6)), (yr 36, .inl (cT 0, 302, .inl fb2))] _ := hP
              have hD : va_D A [(y, .inr (11, MO yr yi2 ysb bs2)), (yr 45, .inl (cT 0, 6336, .inl fr)), (yr 5, .inl (cT 0, 288, .inl vv)), (yr 7, .inl (cT 0, 66, .inl eg)), (yr 6, .inl (cT 3, 6, .inl ik)), (yr 8, .inl (cT 0, 6, .inl em)), (yr 30, .inl (cT 0, 302, .inl qb0)), (yr 33, .inl (cT 0, 302, .inl qb1)), (yr 34, .inl (cT 0, 302, .inl qb2)), (yr 32, .inl (cT 0, 302, .inl qb3)), (yr 35, .inl (cT 0, 302, .inl qb4)), (yr 31, .inl (cT 0, 302, .inl qb5)), (yr 39, .inl (cT 0, 302, .inl qb6)), (yr 36, .inl (cT 0, 302, .inl fb2))] := hD
              refine lv_aload_n hx hb dM_look_189 rfl (lv_at hl 0 rfl) ?_
              refine lv_lload_n hx hb dM_look_190 rfl (lv_at hl 1 rfl) ?_
              refine lv_lload hx hb dM_look_191 (lv_at hl 3 rfl) ?_
              refine lv_lload hx hb dM_look_193 (lv_at hl 5 rfl) ?_
              refine lv_lload_n hx hb dM_look_195 rfl (lv_at hl 1 rfl) ?_
              refine lv_land hx hb dM_look_196 ?_
              refine lv_lload hx hb dM_look_197 (lv_at hl 3 rfl) ?_
              refine lv_ldc2 (v := (-1)) hx hb hown (hT _ w1102) dM_look_199 ?_
              refine lv_lxor hx hb dM_look_202 ?_
              refine lv_land hx hb dM_look_203 ?_
              refine lv_iload_n hx hb dM_look_204 rfl (lv_at hl 2 rfl) ?_
              refine lv_aload_n hx hb dM_look_205 rfl (lv_at hl 0 rfl) ?_
              refine va_get (D := D) (ci := 11) (v := .ref (yr 7)) (C := R_M) (T := T_M) (N := 60) hx hb hT in_M hown hK hP 0 rfl rfl 7 (by decide) (hT _ w1111) (fun _ h9 => h9) rfl dM_look_206 ?_
              refine lv_bipush (v := 11) hx hb dM_look_209 (by decide) ?_
              refine lv_iload_n hx hb dM_look_211 rfl (lv_at hl 2 rfl) ?_
              refine lv_imul hx hb dM_look_212 ?_
              refine lv_topi (fun y9 e9 => ?_)
              cases (show y9 = nI (11 * c) from e9.trans (pk_mul 11 c))
              refine lv_iload hx hb dM_look_213 (lv_at hl 4 rfl) ?_
              refine lv_iadd hx hb dM_look_215 ?_
              refine lv_topi (fun y9 e9 => ?_)
              cases (show y9 = nI ((11 * c) + k) from e9.trans (nI_add (11 * c) k))
              refine lq_iald (j := (11 * c) + k) hx hb hK hP 3 0 rfl rfl rfl (by omega) (by omega) dM_look_216 ?_
              refine rw_v (wc := [(y, .inr (11, MO yr yi2 ysb bs2)), (yr 45, .inl (cT 0, 6336, .inl fr)), (yr 36, .inl (cT 0, 302, .inl fb2)), (yr 30, .inl (cT 0, 302, .inl qb0)), (yr 33, .inl (cT 0, 302, .inl qb1)), (yr 34, .inl (cT 0, 302, .inl qb2)), (yr 32, .inl (cT 0, 302, .inl qb3)), (yr 35, .inl (cT 0, 302, .inl qb4)), (yr 31, .inl (cT 0, 302, .inl qb5)), (yr 39, .inl (cT 0, 302, .inl qb6))]) (wr := [(yr 5, .inl (cT 0, 288, .inl vv)), (yr 7, .inl (cT 0, 66, .inl eg)), (yr 6, .inl (cT 3, 6, .inl ik)), (yr 8, .inl (cT 0, 6, .inl em))]) hP hD hS hA [0, 1, 13, 6, 7, 8, 9, 10, 11, 12] [2, 3, 4, 5] rfl rfl (by decide) (by decide) (va_runV (As := [.long AA, .long ((rwk vv c (-2147483648) n) &&& AA), .long (((rlt vv c (eg (11 * c + k)) n) &&& AA) &&& (((rwk vv c (-2147483648) n) &&& AA) ^^^ (-1))), .int (nI c), .int (eg ((11 * c) + k))]) (rest := []) ⟨hx, hb, hml, hown, hT⟩ (m_side l D cT y yr yi2 ysb bs2 n w lst zr ZB fr AA fb2 qb0 qb1 qb2 qb3 qb4 qb5 qb6 b2 ((rwk vv c (-2147483648) n) &&& AA) (((rlt vv c (eg (11 * c + k)) n) &&& AA) &&& (((rwk vv c (-2147483648) n) &&& AA) ^^^ (-1))) (nI c) (eg ((11 * c) + k)) ((jy 3 (by decide) (by decide) (by decide) (by decide)).trans hn) hn2 ((jy 12 (by decide) (by decide) (by decide) (by decide)).trans hw9) hw20 ((jy 11 (by decide) (by decide) (by decide) (by decide)).trans hls) hls2 hM hZB hzf hfit jB hA9 (sub_and (sub_rwk hn2)) (sub_and (sub_and (sub_rlt hn2))) _) ⟨callB_of 5 hT (tb_gd w1495) rfl rfl rfl (hT _ w13) (hT _ w1492) hM_lookAtSide ⟨Nat.le_of_ble_eq_true rfl, Nat.le_of_ble_eq_true rfl⟩, (hT _ w1494), (hT _ wp52)⟩ (RW.preV (ci := 11) (q0 := 0) hZ hS (va_free (wc := [(y, .inr (11, MO yr yi2 ysb bs2)), (yr 45, .inl (cT 0, 6336, .inl fr)), (yr 36, .inl (cT 0, 302, .inl fb2)), (yr 30, .inl (cT 0, 302, .inl qb0)), (yr 33, .inl (cT 0, 302, .inl qb1)), (yr 34, .inl (cT 0, 302, .inl qb2)), (yr 32, .inl (cT 0, 302, .inl qb3)), (yr 35, .inl (cT 0, 302, .inl qb4)), (yr 31, .inl (cT 0, 302, .inl qb5)), (yr 39, .inl (cT 0, 302, .inl qb6))]) hD hS hA [0, 1, 13, 6, 7, 8, 9, 10, 11, 12] rfl) (hP.sub (ws' := [(y, .inr (11, MO yr yi2 ysb bs2)), (yr 45, .inl (cT 0, 6336, .inl fr)), (yr 36, .inl (cT 0, 302, .inl fb2)), (yr 30, .inl (cT 0, 302, .inl qb0)), (yr 33, .inl (cT 0, 302, .inl qb1)), (yr 34, .inl (cT 0, 302, .inl qb2)), (yr 32, .inl (cT 0, 302, .inl qb3)), (yr 35, .inl (cT 0, 302, .inl qb4)), (yr 31, .inl (cT 0, 302, .inl qb5)), (yr 39, .inl (cT 0, 302, .inl qb6))]) [0, 1, 13, 6, 7, 8, 9, 10, 11, 12] rfl) hK (hD.sub (ws' := [(y, .inr (11, MO yr yi2 ysb bs2)), (yr 45, .inl (cT 0, 6336, .inl fr)), (yr 36, .inl (cT 0, 302, .inl fb2)), (yr 30, .inl (cT 0, 302, .inl qb0)), (yr 33, .inl (cT 0, 302, .inl qb1)), (yr 34, .inl (cT 0, 302, .inl qb2)), (yr 32, .inl (cT 0, 302, .inl qb3)), (yr 35, .inl (cT 0, 302, .inl qb4)), (yr 31, .inl (cT 0, 302, .inl qb5)), (yr 39, .inl (cT 0, 302, .inl qb6))]) [0, 1, 13, 6, 7, 8, 9, 10, 11, 12] (by decide) rfl) rfl rfl) rfl rfl hl.1 rfl (lv_room (Nat.le_of_ble_eq_true rfl)) dM_look_217 ⟨Nat.le_of_ble_eq_true rfl, Nat.le_of_ble_eq_true rfl⟩) (fun u9 H locs hpu8 hP hD hS => ?_)
              obtain ⟨bwu8, yi7u8, bs7u8, fb7u8, j0u8, j1u8, j2u8, j3u8, j4u8, j5u8, j6u8⟩ := u9
              have hpu8 : bwu8 = lks zr n w lst AA ((rwk vv c (-2147483648) n) &&& AA) b2 (((rlt vv c (eg (11 * c + k)) n) &&& AA) &&& (((rwk vv c (-2147483648) n) &&& AA) ^^^ (-1))) (nI c) (eg ((11 * c) + k)) ∧ BSF yi7u8 bs7u8 fb7u8 bwu8 ((100 * ZB) * (100 * ZB) * 20000) ∧ YKP yi2 yi7u8 := hpu8
              have hP : va_P D vwCl [(yr 5, .inl (cT 0, 288, .inl vv)), (yr 7, .inl (cT 0, 66, .inl eg)), (yr 6, .inl (cT 3, 6, .inl ik)), (yr 8, .inl (cT 0, 6, .inl em)), (y, .inr (11, MO yr yi7u8 ysb bs7u8)), (yr 45, .inl (cT 0, 6336, .inl fr)), (yr 36, .inl (cT 0, 302, .inl fb7u8)), (yr 30, .inl (cT 0, 302, .inl j0u8)), (yr 33, .inl (cT 0, 302, .inl j1u8)), (yr 34, .inl (cT 0, 302, .inl j2u8)), (yr 32, .inl (cT 0, 302, .inl j3u8)), (yr 35, .inl (cT 0, 302, .inl j4u8)), (yr 31, .inl (cT 0, 302, .inl j5u8)), (yr 39, .inl (cT 0, 302, .inl j6u8))] _ := hP
              have hD : va_D A [(yr 5, .inl (cT 0, 288, .inl vv)), (yr 7, .inl (cT 0, 66, .inl eg)), (yr 6, .inl (cT 3, 6, .inl ik)), (yr 8, .inl (cT 0, 6, .inl em)), (y, .inr (11, MO yr yi7u8 ysb bs7u8)), (yr 45, .inl (cT 0, 6336, .inl fr)), (yr 36, .inl (cT 0, 302, .inl fb7u8)), (yr 30, .inl (cT 0, 302, .inl j0u8)), (yr 33, .inl (cT 0, 302, .inl j1u8)), (yr 34, .inl (cT 0, 302, .inl j2u8)), (yr 32, .inl (cT 0, 302, .inl j3u8)), (yr 35, .inl (cT 0, 302, .inl j4u8)), (yr 31, .inl (cT 0, 302, .inl j5u8)), (yr 39, .inl (cT 0, 302, .inl j6u8))] := hD
              obtain ⟨v1, v2, v3⟩ := hpu8
              refine lv_iinc (k := 4) (v := nI (k + 1)) hx hb dM_look_220 hl rfl (nI_1 k) (by decide) rfl (fun ls hl => ?_)
              have hl : lv_has ls 10 [(6, .int (nI (k + 1))), (0, .ref y), (1, .long AA), (3, .int (nI c)), (4, .long ((rwk vv c (-2147483648) n) &&& AA)), (7, .long (rlt vv c (eg (11 * c + k)) n)), (9, .int (nI n))] := hl
              refine lv_goto (tgt := 116) hx hb dM_look_223 rfl ?_
              exact ih116 (k + 1, bwu8, yi7u8, bs7u8, fb7u8, j0u8, j1u8, j2u8, j3u8, j4u8, j5u8, j6u8) (show (k + 1) ≤ ne c ∧ bwu8 = lkE zr n w lst vv eg c AA (rwk vv c (-2147483648) n &&& AA) (colF zr n w lst vv eg ik ne chb AA c) (k + 1) ∧ BSF yi7u8 bs7u8 fb7u8 bwu8 ((100 * ZB) * (100 * ZB) * 20000) ∧ YKP yi yi7u8 from ⟨by omega, by show _ = lks _ _ _ _ _ _ _ _ _ _; rw [← jb]; exact v1, v2, ykp_t jy v3⟩) (show ne c - (k + 1) < ne c - k from (by omega)) ls H locs (lv_sub hl [1, 2, 3, 4, 0] rfl) (hP.sub (ws' := [(y, .inr (11, MO yr yi7u8 ysb bs7u8)), (yr 45, .inl (cT 0, 6336, .inl fr)), (yr 5, .inl (cT 0, 288, .inl vv)), (yr 7, .inl (cT 0, 66, .inl eg)), (yr 6, .inl (cT 3, 6, .inl ik)), (yr 8, .inl (cT 0, 6, .inl em)), (yr 30, .inl (cT 0, 302, .inl j0u8)), (yr 33, .inl (cT 0, 302, .inl j1u8)), (yr 34, .inl (cT 0, 302, .inl j2u8)), (yr 32, .inl (cT 0, 302, .inl j3u8)), (yr 35, .inl (cT 0, 302, .inl j4u8)), (yr 31, .inl (cT 0, 302, .inl j5u8)), (yr 39, .inl (cT 0, 302, .inl j6u8)), (yr 36, .inl (cT 0, 302, .inl fb7u8))]) [4, 5, 0, 1, 2, 3, 7, 8, 9, 10, 11, 12, 13, 6] rfl) (hD.sub (ws' := [(y, .inr (11, MO yr yi7u8 ysb bs7u8)), (yr 45, .inl (cT 0, 6336, .inl fr)), (yr 5, .inl (cT 0, 288, .inl vv)), (yr 7, .inl (cT 0, 66, .inl eg)), (yr 6, .inl (cT 3, 6, .inl ik)), (yr 8, .inl (cT 0, 6, .inl em)), (yr 30, .inl (cT 0, 302, .inl j0u8)), (yr 33, .inl (cT 0, 302, .inl j1u8)), (yr 34, .inl (cT 0, 302, .inl j2u8)), (yr 32, .inl (cT 0, 302, .inl j3u8)), (yr 35, .inl (cT 0, 302, .inl j4u8)), (yr 31, .inl (cT 0, 302, .inl j5u8)), (yr 39, .inl (cT 0, 302, .inl j6u8)), (yr 36, .inl (cT 0, 302, .inl fb7u8))]) [4, 5, 0, 1, 2, 3, 7, 8, 9, 10, 11, 12, 13, 6] (by decide) rfl) hS
            · have gh7 : r < n := Nat.not_le.mp (fun q => h7 ((nI_leI (a := n) (b := r) (by omega) (by omega)).mpr q))
              refine lp_cut (fun x9 : Int64 => x9 = rlt vv c (eg (11 * c + k)) (r + 1)) (fun x9 => [.long x9]) 181 ls (fun x9 e9 => ?_) (fun hct9 => ?_)
              · cases (show x9 = rlt vv c (eg (11 * c + k)) (r + 1) from e9)
                refine lv_lstore hx hb dM_look_181 hl (by decide) rfl (fun ls hl => ?_)
                have hl : lv_has ls 10 [(7, .long (rlt vv c (eg (11 * c + k)) (r + 1))), (0, .ref y), (1, .long AA), (3, .int (nI c)), (4, .long ((rwk vv c (-2147483648) n) &&& AA)), (6, .int (nI k)), (9, .int (nI r))] := hl
                refine lv_iinc (k := 6) (v := nI (r + 1)) hx hb dM_look_183 hl rfl (nI_1 r) (by decide) rfl (fun ls hl => ?_)
                have hl : lv_has ls 10 [(9, .int (nI (r + 1))), (7, .long (rlt vv c (eg (11 * c + k)) (r + 1))), (0, .ref y), (1, .long AA), (3, .int (nI c)), (4, .long ((rwk vv c (-2147483648) n) &&& AA)), (6, .int (nI k))] := hl
                refine lv_goto (tgt := 133) hx hb dM_look_186 rfl ?_
                exact ih133 (r + 1) (show (r + 1) ≤ n from by omega) (show n - (r + 1) < n - r from (by omega)) ls (lv_sub hl [2, 3, 4, 5, 6, 1, 0] rfl)
              · refine lv_aload_n hx hb dM_look_142 rfl (lv_at hl 0 rfl) ?_
                refine va_get (D := D) (ci := 11) (v := .ref (yr 5)) (C := R_M) (T := T_M) (N := 60) hx hb hT in_M hown hK hP 0 rfl rfl 5 (by decide) (hT _ w1109) (fun _ h9 => h9) rfl dM_look_143 ?_
                refine lv_bipush (v := 6) hx hb dM_look_146 (by decide) ?_
                refine lv_iload hx hb dM_look_148 (lv_at hl 6 rfl) ?_
                refine lv_imul hx hb dM_look_150 ?_
                refine lv_topi (fun y9 e9 => ?_)
                cases (show y9 = nI (6 * r) from e9.trans (pk_mul 6 r))
                refine lv_iload_n hx hb dM_look_151 rfl (lv_at hl 2 rfl) ?_
                refine lv_iadd hx hb dM_look_152 ?_
                refine lv_topi (fun y9 e9 => ?_)
                cases (show y9 = nI ((6 * r) + c) from e9.trans (nI_add (6 * r) c))
                refine lq_iald (j := (6 * r) + c) hx hb hK hP 2 0 rfl rfl rfl (by omega) (by omega) dM_look_153 ?_
                refine lv_aload_n hx hb dM_look_154 rfl (lv_at hl 0 rfl) ?_
                refine va_get (D := D) (ci := 11) (v := .ref (yr 7)) (C := R_M) (T := T_M) (N := 60) hx hb hT in_M hown hK hP 0 rfl rfl 7 (by decide) (hT _ w1111) (fun _ h9 => h9) rfl dM_look_155 ?_
                refine lv_bipush (v := 11) hx hb dM_look_158 (by decide) ?_
                refine lv_iload_n hx hb dM_look_160 rfl (lv_at hl 2 rfl) ?_
                refine lv_imul hx hb dM_look_161 ?_
                refine lv_topi (fun y9 e9 => ?_)
                cases (show y9 = nI (11 * c) from e9.trans (pk_mul 11 c))
                refine lv_iload hx hb dM_look_162 (lv_at hl 4 rfl) ?_
                refine lv_iadd hx hb dM_look_164 ?_
                refine lv_topi (fun y9 e9 => ?_)
                cases (show y9 = nI ((11 * c) + k) from e9.trans (nI_add (11 * c) k))
                refine lq_iald (j := (11 * c) + k) hx hb hK hP 3 0 rfl rfl rfl (by omega) (by omega) dM_look_165 ?_
                refine lv_icmp_ge (tgt := 179) hx hb dM_look_166 rfl (fun h10 => ?_) (fun h10 => ?_)
                · refine lv_lload hx hb dM_look_179 (lv_at hl 5 rfl) ?_
                  exact hct9 _ (by show _ = (if _ then _ else _); rw [if_neg (Int32.not_lt.mpr h10)])
                · refine lv_lload hx hb dM_look_169 (lv_at hl 5 rfl) ?_
                  refine lv_lconst (v := 1) hx hb dM_look_171 (by decide) ?_
                  refine lv_iload hx hb dM_look_172 (lv_at hl 6 rfl) ?_
                  refine lv_lshl hx hb dM_look_174 rfl ?_
                  refine lv_lor hx hb dM_look_175 ?_
                  refine lv_goto (tgt := 181) hx hb dM_look_176 rfl ?_
                  exact hct9 _ (by show _ = (if _ then _ else _); rw [if_pos (Int32.not_le.mp h10)])
        · refine lv_aload_n hx hb dM_look_102 rfl (lv_at hl 1 rfl) ?_
          refine lv_lload_n hx hb dM_look_103 rfl (lv_at hl 2 rfl) ?_
          refine lv_lload hx hb dM_look_104 (lv_at hl 0 rfl) ?_
          refine lv_iload_n hx hb dM_look_106 rfl (lv_at hl 3 rfl) ?_
          refine rw_v (wc := [(y, .inr (11, MO yr yi1 ysb bs1)), (yr 45, .inl (cT 0, 6336, .inl fr)), (yr 5, .inl (cT 0, 288, .inl vv)), (yr 36, .inl (cT 0, 302, .inl fb1)), (yr 30, .inl (cT 0, 302, .inl qa0)), (yr 33, .inl (cT 0, 302, .inl qa1)), (yr 34, .inl (cT 0, 302, .inl qa2)), (yr 32, .inl (cT 0, 302, .inl qa3)), (yr 35, .inl (cT 0, 302, .inl qa4)), (yr 31, .inl (cT 0, 302, .inl qa5)), (yr 39, .inl (cT 0, 302, .inl qa6))]) (wr := [(yr 7, .inl (cT 0, 66, .inl eg)), (yr 6, .inl (cT 3, 6, .inl ik)), (yr 8, .inl (cT 0, 6, .inl em))]) hP hD hS hA [0, 1, 2, 13, 6, 7, 8, 9, 10, 11, 12] [3, 4, 5] rfl rfl (by decide) (by decide) (va_runV (As := [.long AA, .long ((rwk vv c (-2147483648) n) &&& AA), .int (nI c)]) (rest := []) ⟨hx, hb, hml, hown, hT⟩ (m_lkinds l D cT y yr yi1 ysb bs1 n w lst zr ZB fr AA vv fb1 qa0 qa1 qa2 qa3 qa4 qa5 qa6 b1 ((rwk vv c (-2147483648) n) &&& AA) c ((iy 3 (by decide) (by decide) (by decide) (by decide)).trans hn) hn2 ((iy 12 (by decide) (by decide) (by decide) (by decide)).trans hw9) hw20 ((iy 11 (by decide) (by decide) (by decide) (by decide)).trans hls) hls2 hM hZB hzf hfit iB hA9 (sub_and (sub_rwk hn2)) (by omega) _) ⟨callB_of 3 hT (tb_gd w1472) rfl rfl rfl (hT _ w13) (hT _ w1469) hM_lookAtKinds ⟨Nat.le_of_ble_eq_true rfl, Nat.le_of_ble_eq_true rfl⟩, (hT _ w1471), (hT _ wp47)⟩ (RW.preV (ci := 11) (q0 := 0) hZ hS (va_free (wc := [(y, .inr (11, MO yr yi1 ysb bs1)), (yr 45, .inl (cT 0, 6336, .inl fr)), (yr 5, .inl (cT 0, 288, .inl vv)), (yr 36, .inl (cT 0, 302, .inl fb1)), (yr 30, .inl (cT 0, 302, .inl qa0)), (yr 33, .inl (cT 0, 302, .inl qa1)), (yr 34, .inl (cT 0, 302, .inl qa2)), (yr 32, .inl (cT 0, 302, .inl qa3)), (yr 35, .inl (cT 0, 302, .inl qa4)), (yr 31, .inl (cT 0, 302, .inl qa5)), (yr 39, .inl (cT 0, 302, .inl qa6))]) hD hS hA [0, 1, 2, 13, 6, 7, 8, 9, 10, 11, 12] rfl) (hP.sub (ws' := [(y, .inr (11, MO yr yi1 ysb bs1)), (yr 45, .inl (cT 0, 6336, .inl fr)), (yr 5, .inl (cT 0, 288, .inl vv)), (yr 36, .inl (cT 0, 302, .inl fb1)), (yr 30, .inl (cT 0, 302, .inl qa0)), (yr 33, .inl (cT 0, 302, .inl qa1)), (yr 34, .inl (cT 0, 302, .inl qa2)), (yr 32, .inl (cT 0, 302, .inl qa3)), (yr 35, .inl (cT 0, 302, .inl qa4)), (yr 31, .inl (cT 0, 302, .inl qa5)), (yr 39, .inl (cT 0, 302, .inl qa6))]) [0, 1, 2, 13, 6, 7, 8, 9, 10, 11, 12] rfl) hK (hD.sub (ws' := [(y, .inr (11, MO yr yi1 ysb bs1)), (yr 45, .inl (cT 0, 6336, .inl fr)), (yr 5, .inl (cT 0, 288, .inl vv)), (yr 36, .inl (cT 0, 302, .inl fb1)), (yr 30, .inl (cT 0, 302, .inl qa0)), (yr 33, .inl (cT 0, 302, .inl qa1)), (yr 34, .inl (cT 0, 302, .inl qa2)), (yr 32, .inl (cT 0, 302, .inl qa3)), (yr 35, .inl (cT 0, 302, .inl qa4)), (yr 31, .inl (cT 0, 302, .inl qa5)), (yr 39, .inl (cT 0, 302, .inl qa6))]) [0, 1, 2, 13, 6, 7, 8, 9, 10, 11, 12] (by decide) rfl) rfl rfl) rfl rfl hl.1 rfl (lv_room (Nat.le_of_ble_eq_true rfl)) dM_look_107 ⟨Nat.le_of_ble_eq_true rfl, Nat.le_of_ble_eq_true rfl⟩) (fun u9 H locs hpu11 hP hD hS => ?_)
          obtain ⟨bwu11, yi7u11, bs7u11, fb7u11, j0u11, j1u11, j2u11, j3u11, j4u11, j5u11, j6u11⟩ := u9
          have hpu11 : bwu11 = lkk zr n w lst vv c AA ((rwk vv c (-2147483648) n) &&& AA) 13 0 0 b1 ∧ BSF yi7u11 bs7u11 fb7u11 bwu11 ((100 * ZB) * (100 * ZB) * 20000) ∧ YKP yi1 yi7u11 := hpu11
          have hP : va_P D vwCl [(yr 7, .inl (cT 0, 66, .inl eg)), (yr 6, .inl (cT 3, 6, .inl ik)), (yr 8, .inl (cT 0, 6, .inl em)), (y, .inr (11, MO yr yi7u11 ysb bs7u11)), (yr 45, .inl (cT 0, 6336, .inl fr)), (yr 5, .inl (cT 0, 288, .inl vv)), (yr 36, .inl (cT 0, 302, .inl fb7u11)), (yr 30, .inl (cT 0, 302, .inl j0u11)), (yr 33, .inl (cT 0, 302, .inl j1u11)), (yr 34, .inl (cT 0, 302, .inl j2u11)), (yr 32, .inl (cT 0, 302, .inl j3u11)), (yr 35, .inl (cT 0, 302, .inl j4u11)), (yr 31, .inl (cT 0, 302, .inl j5u11)), (yr 39, .inl (cT 0, 302, .inl j6u11))] _ := hP
          have hD : va_D A [(yr 7, .inl (cT 0, 66, .inl eg)), (yr 6, .inl (cT 3, 6, .inl ik)), (yr 8, .inl (cT 0, 6, .inl em)), (y, .inr (11, MO yr yi7u11 ysb bs7u11)), (yr 45, .inl (cT 0, 6336, .inl fr)), (yr 5, .inl (cT 0, 288, .inl vv)), (yr 36, .inl (cT 0, 302, .inl fb7u11)), (yr 30, .inl (cT 0, 302, .inl j0u11)), (yr 33, .inl (cT 0, 302, .inl j1u11)), (yr 34, .inl (cT 0, 302, .inl j2u11)), (yr 32, .inl (cT 0, 302, .inl j3u11)), (yr 35, .inl (cT 0, 302, .inl j4u11)), (yr 31, .inl (cT 0, 302, .inl j5u11)), (yr 39, .inl (cT 0, 302, .inl j6u11))] := hD
          obtain ⟨v1, v2, v3⟩ := hpu11
          refine lv_goto (tgt := 226) hx hb dM_look_110 rfl ?_
          refine lv_iinc (k := 3) (v := nI (c + 1)) hx hb dM_look_226 hl rfl (nI_1 c) (by decide) rfl (fun ls hl => ?_)
          have hl : lv_has ls 10 [(3, .int (nI (c + 1))), (4, .long ((rwk vv c (-2147483648) n) &&& AA)), (0, .ref y), (1, .long AA), (6, .int (nI n))] := hl
          refine lv_goto (tgt := 15) hx hb dM_look_229 rfl ?_
          exact ih15 (c + 1, bwu11, yi7u11, bs7u11, fb7u11, j0u11, j1u11, j2u11, j3u11, j4u11, j5u11, j6u11) (show (c + 1) ≤ wd ∧ bwu11 = colF zr n w lst vv eg ik ne chb AA (c + 1) ∧ BSF yi7u11 bs7u11 fb7u11 bwu11 ((100 * ZB) * (100 * ZB) * 20000) ∧ YKP yi yi7u11 from ⟨by omega, by show _ = colS _ _ _ _ _ _ _ _ _ _ _ _; unfold colS; rw [if_pos h3, if_neg h5, ← ib]; exact v1, v2, ykp_t iy v3⟩) (show wd - (c + 1) < wd - c from (by omega)) ls H locs (lv_sub hl [2, 3, 0] rfl) (hP.sub (ws' := [(y, .inr (11, MO yr yi7u11 ysb bs7u11)), (yr 45, .inl (cT 0, 6336, .inl fr)), (yr 5, .inl (cT 0, 288, .inl vv)), (yr 7, .inl (cT 0, 66, .inl eg)), (yr 6, .inl (cT 3, 6, .inl ik)), (yr 8, .inl (cT 0, 6, .inl em)), (yr 30, .inl (cT 0, 302, .inl j0u11)), (yr 33, .inl (cT 0, 302, .inl j1u11)), (yr 34, .inl (cT 0, 302, .inl j2u11)), (yr 32, .inl (cT 0, 302, .inl j3u11)), (yr 35, .inl (cT 0, 302, .inl j4u11)), (yr 31, .inl (cT 0, 302, .inl j5u11)), (yr 39, .inl (cT 0, 302, .inl j6u11)), (yr 36, .inl (cT 0, 302, .inl fb7u11))]) [3, 4, 5, 0, 1, 2, 7, 8, 9, 10, 11, 12, 13, 6] rfl) (hD.sub (ws' := [(y, .inr (11, MO yr yi7u11 ysb bs7u11)), (yr 45, .inl (cT 0, 6336, .inl fr)), (yr 5, .inl (cT 0, 288, .inl vv)), (yr 7, .inl (cT 0, 66, .inl eg)), (yr 6, .inl (cT 3, 6, .inl ik)), (yr 8, .inl (cT 0, 6, .inl em)), (yr 30, .inl (cT 0, 302, .inl j0u11)), (yr 33, .inl (cT 0, 302, .inl j1u11)), (yr 34, .inl (cT 0, 302, .inl j2u11)), (yr 32, .inl (cT 0, 302, .inl j3u11)), (yr 35, .inl (cT 0, 302, .inl j4u11)), (yr 31, .inl (cT 0, 302, .inl j5u11)), (yr 39, .inl (cT 0, 302, .inl j6u11)), (yr 36, .inl (cT 0, 302, .inl fb7u11))]) [3, 4, 5, 0, 1, 2, 7, 8, 9, 10, 11, 12, 13, 6] (by decide) rfl) hS
      · have gh4 : k < n := Nat.not_le.mp (fun q => h4 ((nI_leI (a := n) (b := k) (by omega) (by omega)).mpr q))
        refine lp_cut (fun x9 : Int64 => x9 = rwk vv c (-2147483648) (k + 1)) (fun x9 => [.long x9]) 79 ls (fun x9 e9 => ?_) (fun hct12 => ?_)
        · cases (show x9 = rwk vv c (-2147483648) (k + 1) from e9)
          refine lv_lstore hx hb dM_look_79 hl (by decide) rfl (fun ls hl => ?_)
          have hl : lv_has ls 10 [(4, .long (rwk vv c (-2147483648) (k + 1))), (0, .ref y), (1, .long AA), (3, .int (nI c)), (6, .int (nI k))] := hl
          refine lv_iinc (k := 4) (v := nI (k + 1)) hx hb dM_look_81 hl rfl (nI_1 k) (by decide) rfl (fun ls hl => ?_)
          have hl : lv_has ls 10 [(6, .int (nI (k + 1))), (4, .long (rwk vv c (-2147483648) (k + 1))), (0, .ref y), (1, .long AA), (3, .int (nI c))] := hl
          refine lv_goto (tgt := 41) hx hb dM_look_84 rfl ?_
          exact ih41 (k + 1) (show (k + 1) ≤ n from by omega) (show n - (k + 1) < n - k from (by omega)) ls (lv_sub hl [2, 3, 4, 1, 0] rfl)
        · refine lv_aload_n hx hb dM_look_50 rfl (lv_at hl 0 rfl) ?_
          refine va_get (D := D) (ci := 11) (v := .ref (yr 5)) (C := R_M) (T := T_M) (N := 60) hx hb hT in_M hown hK hP 0 rfl rfl 5 (by decide) (hT _ w1109) (fun _ h9 => h9) rfl dM_look_51 ?_
          refine lv_bipush (v := 6) hx hb dM_look_54 (by decide) ?_
          refine lv_iload hx hb dM_look_56 (lv_at hl 4 rfl) ?_
          refine lv_imul hx hb dM_look_58 ?_
          refine lv_topi (fun y9 e9 => ?_)
          cases (show y9 = nI (6 * k) from e9.trans (pk_mul 6 k))
          refine lv_iload_n hx hb dM_look_59 rfl (lv_at hl 2 rfl) ?_
          refine lv_iadd hx hb dM_look_60 ?_
          refine lv_topi (fun y9 e9 => ?_)
          cases (show y9 = nI ((6 * k) + c) from e9.trans (nI_add (6 * k) c))
          refine lq_iald (j := (6 * k) + c) hx hb hK hP 2 0 rfl rfl rfl (by omega) (by omega) dM_look_61 ?_
          refine lv_ldc (v := (-2147483648)) hx hb hown (hT _ w1103) dM_look_62 ?_
          refine lv_icmp_ne (tgt := 77) hx hb dM_look_64 rfl (fun h13 => ?_) (fun h13 => ?_)
          · refine lv_lload hx hb dM_look_77 (lv_at hl 3 rfl) ?_
            exact hct12 _ (by show _ = (if _ then _ else _); rw [if_neg h13])
          · refine lv_lload hx hb dM_look_67 (lv_at hl 3 rfl) ?_
            refine lv_lconst (v := 1) hx hb dM_look_69 (by decide) ?_
            refine lv_iload hx hb dM_look_70 (lv_at hl 4 rfl) ?_
            refine lv_lshl hx hb dM_look_72 rfl ?_
            refine lv_lor hx hb dM_look_73 ?_
            refine lv_goto (tgt := 79) hx hb dM_look_74 rfl ?_
            exact hct12 _ (by show _ = (if _ then _ else _); rw [if_pos h13])
