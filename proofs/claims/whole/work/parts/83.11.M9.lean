set_option maxHeartbeats 4000000 in
set_option maxRecDepth 100000 in
theorem m_count (l : Launch) (D : va_G) (cT : Nat → ClassId) (x : Int64) : Met l yM_count WM_count ({ frames := 0, cells := 0, slots := 0, locals := 0 } : Room) (RO D vwCl [.long x] [] (TY cT)) (QcRead (nI (cb x))) 0 0 (fun _ => False) := by
  refine Met.ofW (cc := cM_count) (maxL := 4) (ret := (some .int)) (by decide) rfl ?_
  intro p e s m args below meth c s₁ B hml hv
  obtain ⟨rfl, hZ, hP, hK⟩ := hv
  have hx := B.exec
  have hb := B.bytes
  have hr := B.returns
  have hts := atoms_spec (ws := WM_count) B.pre
  have hT : ∀ w ∈ TB, w.before _ s = true := fun w h => hts w (List.mem_cons_of_mem _ h)
  have hown : s.vm.findClass R_M = some m.cls := findClass_of_methodNamed B.named
  have hlocks := B.notSynchronized
  have hS : va_S (fun _ => False) s.heap s.heap [] := va_S.rf
  have hl := lv_entry ([.long x]) (n := 4) (Nat.le_of_ble_eq_true rfl)
  rw [lg_entry_eq]
  generalize (lg_sl ([.long x]) ++ List.replicate (4 - (lg_sl ([.long x])).length) Slot.unset).toArray = ls at hl ⊢
  have hl : lv_has ls 4 [(0, .long x)] := hl
  refine lv_iconst (v := 0) hx hb dM_count_0 (by decide) ?_
  refine lv_istore_n hx hb dM_count_1 rfl hl (by decide) rfl (fun ls hl => ?_)
  have hl : lv_has ls 4 [(2, .int 0), (0, .long x)] := hl
  refine lv_iconst (v := 0) hx hb dM_count_2 (by decide) ?_
  refine lv_istore_n hx hb dM_count_3 rfl hl (by decide) rfl (fun ls hl => ?_)
  have hl : lv_has ls 4 [(3, .int 0), (2, .int 0), (0, .long x)] := hl
  refine lp_r (α := Nat) (fun a9 => a9 ≤ 64) (fun a9 => 64 - a9) (fun a9 => [(0, .long x), (2, .int (nI (cbn x a9))), (3, .int (nI a9))]) 4 ?_ 0 (show 0 ≤ 64 from by omega) (lv_sub hl [2, 1, 0] rfl)
  intro a9 hI4 ih4 ls hl
  obtain ⟨k, rfl⟩ : ∃ q9, q9 = a9 := ⟨_, rfl⟩
  have hI4 : k ≤ 64 := hI4
  have hl : lv_has ls 4 [(0, .long x), (2, .int (nI (cbn x k))), (3, .int (nI k))] := hl
  refine lv_iload_n hx hb dM_count_4 rfl (lv_at hl 2 rfl) ?_
  refine lv_bipush (v := 64) hx hb dM_count_5 (by decide) ?_
  refine lv_icmp_ge (tgt := 34) hx hb dM_count_7 rfl (fun h1 => ?_) (fun h1 => ?_)
  · have gh1 : 64 ≤ k := (nI_leI (a := 64) (b := k) (by omega) (by omega)).mp h1
    refine lv_iload_n hx hb dM_count_34 rfl (lv_at hl 1 rfl) ?_
    exact W.iret (v := nI (cbn x k)) hx hb hr (fun t9 ht9 hW9 => ⟨by rw [show k = 64 by omega], ht9⟩) (fun q h => nomatch h) dM_count_35
  · have gh1 : k < 64 := Nat.not_le.mp (fun q => h1 ((nI_leI (a := 64) (b := k) (by omega) (by omega)).mpr q))
    refine lv_iload_n hx hb dM_count_10 rfl (lv_at hl 1 rfl) ?_
    refine lv_lload_n hx hb dM_count_11 rfl (lv_at hl 0 rfl) ?_
    refine lv_iload_n hx hb dM_count_12 rfl (lv_at hl 2 rfl) ?_
    refine lv_lshr hx hb dM_count_13 rfl ?_
    refine lv_lconst (v := 1) hx hb dM_count_14 (by decide) ?_
    refine lv_land hx hb dM_count_15 ?_
    refine lv_lconst (v := 1) hx hb dM_count_16 (by decide) ?_
    refine W.lcmp hx hb dM_count_17 ?_
    refine lv_if_ne (tgt := 25) hx hb dM_count_18 rfl (fun h2 => ?_) (fun h2 => ?_)
    · have gb : ¬ bx x k = true := fun q => h2 ((bx_t x (by omega)).mpr q)
      refine lv_iconst (v := 0) hx hb dM_count_25 (by decide) ?_
      refine lv_iadd hx hb dM_count_26 ?_
      refine lv_topi (fun y9 e9 => ?_)
      cases (show y9 = nI (cbn x k) from e9.trans (nI_add (cbn x k) 0))
      refine lv_topi (fun y9 e9 => ?_)
      cases (show y9 = nI (cbn x (k + 1)) from e9.trans (congrArg nI (by show _ = cbn x k + _; rw [if_neg gb, Nat.add_zero])))
      refine lv_istore_n hx hb dM_count_27 rfl hl (by decide) rfl (fun ls hl => ?_)
      have hl : lv_has ls 4 [(2, .int (nI (cbn x (k + 1)))), (0, .long x), (3, .int (nI k))] := hl
      refine lv_iinc (k := 2) (v := nI (k + 1)) hx hb dM_count_28 hl rfl (nI_1 k) (by decide) rfl (fun ls hl => ?_)
      have hl : lv_has ls 4 [(3, .int (nI (k + 1))), (2, .int (nI (cbn x (k + 1)))), (0, .long x)] := hl
      refine lv_goto (tgt := 4) hx hb dM_count_31 rfl ?_
      exact ih4 (k + 1) (show (k + 1) ≤ 64 from by omega) (show 64 - (k + 1) < 64 - k from (by omega)) ls (lv_sub hl [2, 1, 0] rfl)
    · have gb : bx x k = true := (bx_t x (by omega)).mp h2
      refine lv_iconst (v := 1) hx hb dM_count_21 (by decide) ?_
      refine lv_goto (tgt := 26) hx hb dM_count_22 rfl ?_
      refine lv_iadd hx hb dM_count_26 ?_
      refine lv_topi (fun y9 e9 => ?_)
      cases (show y9 = nI ((cbn x k) + 1) from e9.trans (nI_add (cbn x k) 1))
      refine lv_topi (fun y9 e9 => ?_)
      cases (show y9 = nI (cbn x (k + 1)) from e9.trans (congrArg nI (by show _ = cbn x k + _; rw [if_pos gb])))
      refine lv_istore_n hx hb dM_count_27 rfl hl (by decide) rfl (fun ls hl => ?_)
      have hl : lv_has ls 4 [(2, .int (nI (cbn x (k + 1)))), (0, .long x), (3, .int (nI k))] := hl
      refine lv_iinc (k := 2) (v := nI (k + 1)) hx hb dM_count_28 hl rfl (nI_1 k) (by decide) rfl (fun ls hl => ?_)
      have hl : lv_has ls 4 [(3, .int (nI (k + 1))), (2, .int (nI (cbn x (k + 1)))), (0, .long x)] := hl
      refine lv_goto (tgt := 4) hx hb dM_count_31 rfl ?_
      exact ih4 (k + 1) (show (k + 1) ≤ 64 from by omega) (show 64 - (k + 1) < 64 - k from (by omega)) ls (lv_sub hl [2, 1, 0] rfl)
set_option maxHeartbeats 4000000 in
set_option maxRecDepth 100000 in
theorem m_there (l : Launch) (D : va_G) (cT : Nat → ClassId) (y : Nat) (yr : Nat → Nat) (yi : Nat → Int32) (ysb : Int64) (ybs : Int64) (n : Nat) (hn : yi 3 = nI n) (hn2 : n ≤ 48) : Met l yM_there WM_there ({ frames := 0, cells := 0, slots := 0, locals := 0 } : Room) (RO D vwCl [.ref y] [(y, .inr (11, MO yr yi ysb ybs))] (TY cT)) (QcReadL (thr n)) 0 0 (fun _ => False) := by
  refine Met.ofW (cc := cM_there) (maxL := 1) (ret := (some .long)) (by decide) rfl ?_
  intro p e s m args below meth c s₁ B hml hv
  obtain ⟨rfl, hZ, hP, hK⟩ := hv
  have hx := B.exec
  have hb := B.bytes
  have hr := B.returns
  have hts := atoms_spec (ws := WM_there) B.pre
  have hT : ∀ w ∈ TB, w.before _ s = true := fun w h => hts w (List.mem_cons_of_mem _ h)
  have hown : s.vm.findClass R_M = some m.cls := findClass_of_methodNamed B.named
  have hlocks := B.notSynchronized
  have hS : va_S (fun _ => False) s.heap s.heap [] := va_S.rf
  have hl := lv_entry ([.ref y]) (n := 1) (Nat.le_of_ble_eq_true rfl)
  rw [lg_entry_eq]
  generalize (lg_sl ([.ref y]) ++ List.replicate (1 - (lg_sl ([.ref y])).length) Slot.unset).toArray = ls at hl ⊢
  have hl : lv_has ls 1 [(0, .ref y)] := hl
  refine lv_lconst (v := 1) hx hb dM_there_0 (by decide) ?_
  refine lv_aload_n hx hb dM_there_1 rfl (lv_at hl 0 rfl) ?_
  refine va_get (D := D) (ci := 11) (v := .int (yi 3)) (C := R_M) (T := T_M) (N := 60) hx hb hT in_M hown hK hP 0 rfl rfl 3 (by decide) (hT _ w1107) (fun _ h9 => h9) rfl dM_there_2 ?_
  refine lv_topi (fun y9 e9 => ?_)
  cases (show y9 = nI n from e9.trans hn)
  refine lv_lshl hx hb dM_there_5 rfl ?_
  refine lv_lconst (v := 1) hx hb dM_there_6 (by decide) ?_
  refine lv_lsub hx hb dM_there_7 ?_
  refine lv_topl (fun y9 e9 => ?_)
  cases (show y9 = thr n from e9.trans (thr_e (by omega)))
  exact W.lret (v := thr n) hx hb hr (fun t9 ht9 hW9 => ⟨rfl, ht9⟩) (fun q h => nomatch h) dM_there_8
set_option maxHeartbeats 4000000 in
set_option maxRecDepth 100000 in
theorem m_sum (l : Launch) (D : va_G) (cT : Nat → ClassId) (y : Nat) (yr : Nat → Nat) (yi : Nat → Int32) (ysb : Int64) (ybs : Int64) (n : Nat) (x : Int64) (zr : Nat → Int) (ZB : Nat) (fr : Nat → Int32) (f2 : Nat → Int32) (a : Nat) (f : Nat → Int32) (hn : yi 3 = nI n) (hn2 : n ≤ 48) (hM : ∀ k, k < n → MR fr (132 * k) (zr k)) (hZB : ∀ k, k < n → (zr k).natAbs ≤ ZB) (hfit : 49 * ZB < 268435456 ^ 250) (sz : Nat) : Met l yM_sum WM_sum ({ frames := 3, cells := 0, slots := 0, locals := 74 } : Room) (RW D vwCl [.ref y, .long x, .ref a] [(y, .inr (11, MO yr yi ysb ybs)), (yr 45, .inl (cT 0, 6336, .inl fr)), (yr 30, .inl (cT 0, 302, .inl f2)), (a, .inl (cT 0, 302, .inl f))] (TY cT) sz) (va_Qv (fun u9 : (Nat → Int32) × (Nat → Int32) => MN u9.1 (smv zr x n)) (BW D vwCl (va_A [(y, .inr (11, MO yr yi ysb ybs)), (yr 45, .inl (cT 0, 6336, .inl fr)), (yr 30, .inl (cT 0, 302, .inl f2)), (a, .inl (cT 0, 302, .inl f))] sz) (fun u9 : (Nat → Int32) × (Nat → Int32) => [(y, .inr (11, MO yr yi ysb ybs)), (yr 45, .inl (cT 0, 6336, .inl fr)), (yr 30, .inl (cT 0, 302, .inl u9.2)), (a, .inl (cT 0, 302, .inl u9.1))])) (va_A [(y, .inr (11, MO yr yi ysb ybs)), (yr 45, .inl (cT 0, 6336, .inl fr)), (yr 30, .inl (cT 0, 302, .inl f2)), (a, .inl (cT 0, 302, .inl f))] sz)) 0 0 (va_A [(y, .inr (11, MO yr yi ysb ybs)), (yr 45, .inl (cT 0, 6336, .inl fr)), (yr 30, .inl (cT 0, 302, .inl f2)), (a, .inl (cT 0, 302, .inl f))] sz) := by
  refine Met.ofW (cc := cM_sum) (maxL := 5) (ret := none) (by decide) rfl ?_
  intro p e s m args below meth c s₁ B hml hv
  obtain ⟨rfl, hsz, hZ, hP, hK, hD0⟩ := hv
  have hx := B.exec
  have hb := B.bytes
  have hr := B.returns
  have hts := atoms_spec (ws := WM_sum) B.pre
  have hT : ∀ w ∈ TB, w.before _ s = true := fun w h => hts w (List.mem_cons_of_mem _ h)
  have hown : s.vm.findClass R_M = some m.cls := findClass_of_methodNamed B.named
  have hlocks := B.notSynchronized
  subst hsz
  have hD := hD0.self (sz := s.heap.size)
  generalize hAe : va_A [(y, .inr (11, MO yr yi ysb ybs)), (yr 45, .inl (cT 0, 6336, .inl fr)), (yr 30, .inl (cT 0, 302, .inl f2)), (a, .inl (cT 0, 302, .inl f))] s.heap.size = A at hD hZ ⊢
  have hA : ∀ q : Nat, s.heap.size ≤ q → A q := fun q h => by rw [← hAe]; exact Or.inr h
  have hS : va_S A s.heap s.heap [] := va_S.rf
  have hl := lv_entry ([.ref y, .long x, .ref a]) (n := 5) (Nat.le_of_ble_eq_true rfl)
  rw [lg_entry_eq]
  generalize (lg_sl ([.ref y, .long x, .ref a]) ++ List.replicate (5 - (lg_sl ([.ref y, .long x, .ref a])).length) Slot.unset).toArray = ls at hl ⊢
  have hl : lv_has ls 5 [(0, .ref y), (1, .long x), (3, .ref a)] := hl
  refine lv_aload_n hx hb dM_sum_0 rfl (lv_at hl 2 rfl) ?_
  refine lv_lconst (v := 0) hx hb dM_sum_1 (by decide) ?_
  refine rw_v (wc := [(a, .inl (cT 0, 302, .inl f))]) (wr := [(y, .inr (11, MO yr yi ysb ybs)), (yr 45, .inl (cT 0, 6336, .inl fr)), (yr 30, .inl (cT 0, 302, .inl f2))]) hP hD hS hA [3] [0, 1, 2] rfl rfl (by decide) (by decide) (va_runS (As := [.ref a, .long 0]) (rest := []) ⟨hx, hb, hml, hown, hT⟩ (m_setInt l D cT a f 0 (by decide) _) ⟨callB_of 2 hT (tb_gd w1387) rfl rfl rfl (hT _ w13) (hT _ w1385) hM_setInt ⟨Nat.le_of_ble_eq_true rfl, Nat.le_of_ble_eq_true rfl⟩, (hT _ w1386)⟩ (RW.preS hZ hS (va_free (wc := [(a, .inl (cT 0, 302, .inl f))]) hD hS hA [3] rfl) (hP.sub (ws' := [(a, .inl (cT 0, 302, .inl f))]) [3] rfl) hK (hD.sub (ws' := [(a, .inl (cT 0, 302, .inl f))]) [3] (by decide) rfl)) rfl rfl hl.1 rfl (lv_room (Nat.le_of_ble_eq_true rfl)) dM_sum_2 ⟨Nat.le_of_ble_eq_true rfl, Nat.le_of_ble_eq_true rfl⟩) (fun u9 H locs hpu1 hP hD hS => ?_)
  obtain ⟨f1u1, rfl⟩ : ∃ q9, q9 = u9 := ⟨_, rfl⟩
  have hpu1 : MN f1u1 (0 : Int64).toInt := hpu1
  have hP : va_P D vwCl [(y, .inr (11, MO yr yi ysb ybs)), (yr 45, .inl (cT 0, 6336, .inl fr)), (yr 30, .inl (cT 0, 302, .inl f2)), (a, .inl (cT 0, 302, .inl f1u1))] _ := hP
  have hD : va_D A [(y, .inr (11, MO yr yi ysb ybs)), (yr 45, .inl (cT 0, 6336, .inl fr)), (yr 30, .inl (cT 0, 302, .inl f2)), (a, .inl (cT 0, 302, .inl f1u1))] := hD
  have h0N : MN f1u1 (smv zr x 0) := hpu1
  refine lv_iconst (v := 0) hx hb dM_sum_5 (by decide) ?_
  refine lv_istore hx hb dM_sum_6 hl (by decide) rfl (fun ls hl => ?_)
  have hl : lv_has ls 5 [(4, .int 0), (0, .ref y), (1, .long x), (3, .ref a)] := hl
  refine lp_w (α := Nat × (Nat → Int32) × (Nat → Int32)) (fun a9 => a9.1 ≤ n ∧ MN a9.2.1 (smv zr x a9.1)) (fun a9 => n - a9.1) (fun a9 => [(0, .ref y), (1, .long x), (3, .ref a), (4, .int (nI a9.1))]) (fun a9 => [(y, .inr (11, MO yr yi ysb ybs)), (yr 45, .inl (cT 0, 6336, .inl fr)), (yr 30, .inl (cT 0, 302, .inl a9.2.2)), (a, .inl (cT 0, 302, .inl a9.2.1))]) 8 ?_ (0, f1u1, f2) (show 0 ≤ n ∧ MN f1u1 (smv zr x 0) from ⟨by omega, h0N⟩) (lv_sub hl [1, 2, 3, 0] rfl) hP hD hS
  intro a9 hI8 ih8 ls H locs hl hP hD hS
  obtain ⟨k, g, g2⟩ := a9
  have hI8 : k ≤ n ∧ MN g (smv zr x k) := hI8
  obtain ⟨ik, iN⟩ := hI8
  have hl : lv_has ls 5 [(0, .ref y), (1, .long x), (3, .ref a), (4, .int (nI k))] := hl
  have hP : va_P D vwCl [(y, .inr (11, MO yr yi ysb ybs)), (yr 45, .inl (cT 0, 6336, .inl fr)), (yr 30, .inl (cT 0, 302, .inl g2)), (a, .inl (cT 0, 302, .inl g))] _ := hP
  have hD : va_D A [(y, .inr (11, MO yr yi ysb ybs)), (yr 45, .inl (cT 0, 6336, .inl fr)), (yr 30, .inl (cT 0, 302, .inl g2)), (a, .inl (cT 0, 302, .inl g))] := hD
  refine lv_iload hx hb dM_sum_8 (lv_at hl 3 rfl) ?_
  refine lv_aload_n hx hb dM_sum_10 rfl (lv_at hl 0 rfl) ?_
  refine va_get (D := D) (ci := 11) (v := .int (yi 3)) (C := R_M) (T := T_M) (N := 60) hx hb hT in_M hown hK hP 0 rfl rfl 3 (by decide) (hT _ w1107) (fun _ h9 => h9) rfl dM_sum_11 ?_
  refine lv_topi (fun y9 e9 => ?_)
  cases (show y9 = nI n from e9.trans hn)
  refine lv_icmp_ge (tgt := 60) hx hb dM_sum_14 rfl (fun h2 => ?_) (fun h2 => ?_)
  · have gh2 : n ≤ k := (nI_leI (a := n) (b := k) (by omega) (by omega)).mp h2
    have ek : k = n := by omega
    subst ek
    have hP9 := hP.sub (ws' := [(y, .inr (11, MO yr yi ysb ybs)), (yr 45, .inl (cT 0, 6336, .inl fr)), (yr 30, .inl (cT 0, 302, .inl g2)), (a, .inl (cT 0, 302, .inl g))]) [0, 1, 2, 3] rfl
    have hD9 := hD.sub (ws' := [(y, .inr (11, MO yr yi ysb ybs)), (yr 45, .inl (cT 0, 6336, .inl fr)), (yr 30, .inl (cT 0, 302, .inl g2)), (a, .inl (cT 0, 302, .inl g))]) [0, 1, 2, 3] (by decide) rfl
    refine W.widen (k := 0) (n := 0) (Nat.le_of_ble_eq_true rfl) (Nat.le_of_ble_eq_true rfl) ?_
    exact W.vret hx hb hr (fun t9 ht9 hW9 => ⟨⟨(g, g2), rfl, (show MN g (smv zr x k) from iN), by rw [ht9]; exact hP9, hD9⟩, hS.F ht9⟩) hS.2.2 dM_sum_60
  · have gh2 : k < n := Nat.not_le.mp (fun q => h2 ((nI_leI (a := n) (b := k) (by omega) (by omega)).mpr q))
    refine lv_lload_n hx hb dM_sum_17 rfl (lv_at hl 1 rfl) ?_
    refine lv_iload hx hb dM_sum_18 (lv_at hl 3 rfl) ?_
    refine lv_lshr hx hb dM_sum_20 rfl ?_
    refine lv_lconst (v := 1) hx hb dM_sum_21 (by decide) ?_
    refine lv_land hx hb dM_sum_22 ?_
    refine lv_lconst (v := 1) hx hb dM_sum_23 (by decide) ?_
    refine W.lcmp hx hb dM_sum_24 ?_
    refine lv_if_ne (tgt := 54) hx hb dM_sum_25 rfl (fun h3 => ?_) (fun h3 => ?_)
    · have gb : ¬ bx x k = true := fun q => h3 ((bx_t x (by omega)).mpr q)
      refine lv_iinc (k := 3) (v := nI (k + 1)) hx hb dM_sum_54 hl rfl (nI_1 k) (by decide) rfl (fun ls hl => ?_)
      have hl : lv_has ls 5 [(4, .int (nI (k + 1))), (0, .ref y), (1, .long x), (3, .ref a)] := hl
      refine lv_goto (tgt := 8) hx hb dM_sum_57 rfl ?_
      exact ih8 (k + 1, g, g2) (show (k + 1) ≤ n ∧ MN g (smv zr x (k + 1)) from ⟨by omega, by rw [smv_f gb]; exact iN⟩) (show n - (k + 1) < n - k from (by omega)) ls H locs (lv_sub hl [1, 2, 3, 0] rfl) hP hD hS
    · have gb : bx x k = true := (bx_t x (by omega)).mp h3
      refine lv_aload_n hx hb dM_sum_28 rfl (lv_at hl 0 rfl) ?_
      refine va_get (D := D) (ci := 11) (v := .ref (yr 45)) (C := R_M) (T := T_M) (N := 60) hx hb hT in_M hown hK hP 0 rfl rfl 45 (by decide) (hT _ w1149) (fun _ h9 => h9) rfl dM_sum_29 ?_
      refine lv_sipush (v := 132) hx hb dM_sum_32 (by decide) ?_
      refine lv_iload hx hb dM_sum_35 (lv_at hl 3 rfl) ?_
      refine lv_imul hx hb dM_sum_37 ?_
      refine lv_topi (fun y9 e9 => ?_)
      cases (show y9 = nI (132 * k) from e9.trans (pk_mul 132 k))
      refine lv_aload_n hx hb dM_sum_38 rfl (lv_at hl 0 rfl) ?_
      refine va_get (D := D) (ci := 11) (v := .ref (yr 30)) (C := R_M) (T := T_M) (N := 60) hx hb hT in_M hown hK hP 0 rfl rfl 30 (by decide) (hT _ w1134) (fun _ h9 => h9) rfl dM_sum_39 ?_
      refine rw_v (wc := [(yr 45, .inl (cT 0, 6336, .inl fr)), (yr 30, .inl (cT 0, 302, .inl g2))]) (wr := [(y, .inr (11, MO yr yi ysb ybs)), (a, .inl (cT 0, 302, .inl g))]) hP hD hS hA [1, 2] [0, 3] rfl rfl (by decide) (by decide) (va_runS (As := [.ref (yr 45), .int (nI (132 * k)), .ref (yr 30)]) (rest := []) ⟨hx, hb, hml, hown, hT⟩ (m_load l D cT (yr 45) 6336 fr (132 * k) (zr k) (yr 30) g2 (hM k (by omega)) (by omega) (by decide) _) ⟨callB_of 3 hT (tb_gd w1403) rfl rfl rfl (hT _ w13) (hT _ w1401) hM_load ⟨Nat.le_of_ble_eq_true rfl, Nat.le_of_ble_eq_true rfl⟩, (hT _ w1402)⟩ (RW.preS hZ hS (va_free (wc := [(yr 45, .inl (cT 0, 6336, .inl fr)), (yr 30, .inl (cT 0, 302, .inl g2))]) hD hS hA [1, 2] rfl) (hP.sub (ws' := [(yr 45, .inl (cT 0, 6336, .inl fr)), (yr 30, .inl (cT 0, 302, .inl g2))]) [1, 2] rfl) hK (hD.sub (ws' := [(yr 45, .inl (cT 0, 6336, .inl fr)), (yr 30, .inl (cT 0, 302, .inl g2))]) [1, 2] (by decide) rfl)) rfl rfl hl.1 rfl (lv_room (Nat.le_of_ble_eq_true rfl)) dM_sum_42 ⟨Nat.le_of_ble_eq_true rfl, Nat.le_of_ble_eq_true rfl⟩) (fun u9 H locs hpu4 hP hD hS => ?_)
      obtain ⟨f1u4, rfl⟩ : ∃ q9, q9 = u9 := ⟨_, rfl⟩
      have hpu4 : MN f1u4 (zr k) := hpu4
      have hP : va_P D vwCl [(y, .inr (11, MO yr yi ysb ybs)), (a, .inl (cT 0, 302, .inl g)), (yr 45, .inl (cT 0, 6336, .inl fr)), (yr 30, .inl (cT 0, 302, .inl f1u4))] _ := hP
      have hD : va_D A [(y, .inr (11, MO yr yi ysb ybs)), (a, .inl (cT 0, 302, .inl g)), (yr 45, .inl (cT 0, 6336, .inl fr)), (yr 30, .inl (cT 0, 302, .inl f1u4))] := hD
      have hs9 := smv_le (x := x) hZB k (by omega)
      have hz9 := hZB k (by omega)
      have hm9 : k * ZB ≤ 48 * ZB := Nat.mul_le_mul_right _ (by omega)
      refine lv_aload_n hx hb dM_sum_45 rfl (lv_at hl 2 rfl) ?_
      refine lv_aload_n hx hb dM_sum_46 rfl (lv_at hl 0 rfl) ?_
      refine va_get (D := D) (ci := 11) (v := .ref (yr 30)) (C := R_M) (T := T_M) (N := 60) hx hb hT in_M hown hK hP 0 rfl rfl 30 (by decide) (hT _ w1134) (fun _ h9 => h9) rfl dM_sum_47 ?_
      refine lv_iconst (v := 1) hx hb dM_sum_50 (by decide) ?_
      refine rw_v (wc := [(a, .inl (cT 0, 302, .inl g)), (yr 30, .inl (cT 0, 302, .inl f1u4))]) (wr := [(y, .inr (11, MO yr yi ysb ybs)), (yr 45, .inl (cT 0, 6336, .inl fr))]) hP hD hS hA [1, 3] [0, 2] rfl rfl (by decide) (by decide) (va_runS (As := [.ref a, .ref (yr 30), .int 1]) (rest := []) ⟨hx, hb, hml, hown, hT⟩ (m_add0 l D cT a g (smv zr x k) (yr 30) f1u4 (zr k) iN hpu4 (by omega) _) ⟨callB_of 3 hT (tb_gd w1423) rfl rfl rfl (hT _ w13) (hT _ w1421) hM_add ⟨Nat.le_of_ble_eq_true rfl, Nat.le_of_ble_eq_true rfl⟩, (hT _ w1422)⟩ (RW.preS hZ hS (va_free (wc := [(a, .inl (cT 0, 302, .inl g)), (yr 30, .inl (cT 0, 302, .inl f1u4))]) hD hS hA [1, 3] rfl) (hP.sub (ws' := [(a, .inl (cT 0, 302, .inl g)), (yr 30, .inl (cT 0, 302, .inl f1u4))]) [1, 3] rfl) hK (hD.sub (ws' := [(a, .inl (cT 0, 302, .inl g)), (yr 30, .inl (cT 0, 302, .inl f1u4))]) [1, 3] (by decide) rfl)) rfl rfl hl.1 rfl (lv_room (Nat.le_of_ble_eq_true rfl)) dM_sum_51 ⟨Nat.le_of_ble_eq_true rfl, Nat.le_of_ble_eq_true rfl⟩) (fun u9 H locs hpu5 hP hD hS => ?_)
      obtain ⟨f1u5, rfl⟩ : ∃ q9, q9 = u9 := ⟨_, rfl⟩
      have hpu5 : MN f1u5 ((smv zr x k) + (zr k)) := hpu5
      have hP : va_P D vwCl [(y, .inr (11, MO yr yi ysb ybs)), (yr 45, .inl (cT 0, 6336, .inl fr)), (a, .inl (cT 0, 302, .inl f1u5)), (yr 30, .inl (cT 0, 302, .inl f1u4))] _ := hP
      have hD : va_D A [(y, .inr (11, MO yr yi ysb ybs)), (yr 45, .inl (cT 0, 6336, .inl fr)), (a, .inl (cT 0, 302, .inl f1u5)), (yr 30, .inl (cT 0, 302, .inl f1u4))] := hD
      refine lv_iinc (k := 3) (v := nI (k + 1)) hx hb dM_sum_54 hl rfl (nI_1 k) (by decide) rfl (fun ls hl => ?_)
      have hl : lv_has ls 5 [(4, .int (nI (k + 1))), (0, .ref y), (1, .long x), (3, .ref a)] := hl
      refine lv_goto (tgt := 8) hx hb dM_sum_57 rfl ?_
      exact ih8 (k + 1, f1u5, f1u4) (show (k + 1) ≤ n ∧ MN f1u5 (smv zr x (k + 1)) from ⟨by omega, by rw [smv_t gb]; exact hpu5⟩) (show n - (k + 1) < n - k from (by omega)) ls H locs (lv_sub hl [1, 2, 3, 0] rfl) (hP.sub (ws' := [(y, .inr (11, MO yr yi ysb ybs)), (yr 45, .inl (cT 0, 6336, .inl fr)), (yr 30, .inl (cT 0, 302, .inl f1u4)), (a, .inl (cT 0, 302, .inl f1u5))]) [0, 1, 3, 2] rfl) (hD.sub (ws' := [(y, .inr (11, MO yr yi ysb ybs)), (yr 45, .inl (cT 0, 6336, .inl fr)), (yr 30, .inl (cT 0, 302, .inl f1u4)), (a, .inl (cT 0, 302, .inl f1u5))]) [0, 1, 3, 2] (by decide) rfl) hS
