set_option maxHeartbeats 4000000 in
set_option maxRecDepth 100000 in
theorem l_begin_no (l : Launch) (D : va_G) (cT : Nat → ClassId) (x : Nat) (xT : Nat) (xP : Nat) (xR : Nat) (xG : Nat) (xF : Nat) (tc : Int32) (xO : Nat) (xS : Nat) (xL : Nat) (xC : Nat) (xQ : Nat) (xU : Nat) (xW : Nat) (a1 : Int32) (hlt : l.stackTraces = false) (hq : ¬ (1 ≤ a1 ∧ a1 ≤ 6)) (sz : Nat) : Met l yL_begin WL_begin ({ frames := 8, cells := 1, slots := 6, locals := 132 } : Room) (RW D vwCl [.ref x, .int a1] [(x, .inr (0, [.ref xT, .ref xP, .ref xR, .ref xG, .ref xF, .int tc, .ref xO, .ref xS, .ref xL, .ref xC, .ref xQ, .ref xU, .ref xW]))] (TY cT) sz) (va_Qi (fun (r : Int32) (_ : Nat → Nat) => r = 1) (BW D vwCl (va_A [(x, .inr (0, [.ref xT, .ref xP, .ref xR, .ref xG, .ref xF, .int tc, .ref xO, .ref xS, .ref xL, .ref xC, .ref xQ, .ref xU, .ref xW]))] sz) (fun u => [])) (va_A [(x, .inr (0, [.ref xT, .ref xP, .ref xR, .ref xG, .ref xF, .int tc, .ref xO, .ref xS, .ref xL, .ref xC, .ref xQ, .ref xU, .ref xW]))] sz)) 1 6 (va_A [(x, .inr (0, [.ref xT, .ref xP, .ref xR, .ref xG, .ref xF, .int tc, .ref xO, .ref xS, .ref xL, .ref xC, .ref xQ, .ref xU, .ref xW]))] sz) := by
  refine va_MetW (hh := [(0, 5, 8, 13)]) (cc := cL_begin) (maxL := 3) (ret := (some .int)) (by decide) rfl ?_
  intro p e s m args below meth c s₁ B hml hv
  obtain ⟨rfl, hsz, hZ, hP, hK, hD0⟩ := hv
  have hx := B.exec
  have hb := B.bytes
  have hr := B.returns
  have hts := atoms_spec (ws := WL_begin) B.pre
  have hT : ∀ w ∈ TB, w.before _ s = true := fun w h => hts w (List.mem_cons_of_mem _ h)
  have hown : s.vm.findClass R_L = some m.cls := findClass_of_methodNamed B.named
  have htab := tx_table B (bytes := cL_begin) (maxL := 3) (ret := (some .int)) (hh := [(0, 5, 8, 13)]) (hts _ List.mem_cons_self)
  subst hsz
  have hD := hD0.self (sz := s.heap.size)
  generalize hAe : va_A [(x, .inr (0, [.ref xT, .ref xP, .ref xR, .ref xG, .ref xF, .int tc, .ref xO, .ref xS, .ref xL, .ref xC, .ref xQ, .ref xU, .ref xW]))] s.heap.size = A at hD hZ ⊢
  have hA : ∀ q : Nat, s.heap.size ≤ q → A q := fun q h => by rw [← hAe]; exact Or.inr h
  have hS : va_S A s.heap s.heap [] := va_S.rf
  have hl := lv_entry ([.ref x, .int a1]) (n := 3) (Nat.le_of_ble_eq_true rfl)
  rw [lg_entry_eq]
  generalize (lg_sl ([.ref x, .int a1]) ++ List.replicate (3 - (lg_sl ([.ref x, .int a1])).length) Slot.unset).toArray = ls at hl ⊢
  have hl : lv_has ls 3 [(0, .ref x), (1, .int a1)] := hl
  refine lv_aload_n hx hb dL_begin_0 rfl (lv_at hl 0 rfl) ?_
  refine lv_iload_n hx hb dL_begin_1 rfl (lv_at hl 1 rfl) ?_
  refine tx_catch1 (name := "java/lang/IllegalArgumentException") (tx_goV (As := [.int a1]) (rest := []) ⟨hx, hb, hml, hown, hT⟩ (k_begin_no l D cT x xT xP xR xG xF tc xO xS xL xC xQ xU xW a1 hlt hq) ⟨callB_of 1 hT (tb_gd w507) rfl rfl rfl (hT _ w1) (hT _ w504) hR_begin ⟨Nat.le_of_ble_eq_true rfl, Nat.le_of_ble_eq_true rfl⟩, (hT _ w505), (hT _ w506)⟩ (RO.preV (ci := 0) (q0 := 0) hZ hS (hP.sub (ws' := [(x, .inr (0, [.ref xT, .ref xP, .ref xR, .ref xG, .ref xF, .int tc, .ref xO, .ref xS, .ref xL, .ref xC, .ref xQ, .ref xU, .ref xW]))]) [0] rfl) hK rfl rfl) rfl hl.1 rfl (Nat.le_of_ble_eq_true rfl) dL_begin_2 ⟨Nat.le_of_ble_eq_true rfl, Nat.le_of_ble_eq_true rfl⟩) hown htab rfl (by decide) (hT _ w503) (tc_c rfl (hZ.1.1 ("java/lang/IllegalArgumentException", "java/lang/IllegalArgumentException") (List.mem_of_getElem? (i := 0) rfl))) (fun q H1 hsz9 hag9 => ?_)
  have hP := tc_P hP hag9
  have hS := tc_S hS hsz9 hag9
  refine W.eq (g2 := F0 m 8 ls [.ref q]) rfl ?_
  refine lv_astore_n hx hb dL_begin_8 rfl hl (by decide) rfl (fun ls hl => ?_)
  have hl : lv_has ls 3 [(2, .ref q), (0, .ref x), (1, .int a1)] := hl
  refine lv_iconst (v := 1) hx hb dL_begin_9 (by decide) ?_
  have hP9 := hP.sub (ws' := []) [] rfl
  have hD9 := hD.sub (ws' := []) [] (by decide) rfl
  refine W.widen (k := 1) (n := 6) (Nat.le_of_ble_eq_true rfl) (Nat.le_of_ble_eq_true rfl) ?_
  exact W.iret (v := 1) hx hb hr (fun t ht hW => ⟨⟨1, (fun _ => 0), rfl, rfl, by rw [ht]; exact hP9, hD9⟩, hS.F ht⟩) hS.2.2 dL_begin_10
set_option maxHeartbeats 4000000 in
set_option maxRecDepth 100000 in
theorem l_shape_no (l : Launch) (D : va_G) (cT : Nat → ClassId) (x : Nat) (xT : Nat) (xP : Nat) (xR : Nat) (xG : Nat) (xF : Nat) (tc : Int32) (xO : Nat) (xS : Nat) (xL : Nat) (xC : Nat) (xQ : Nat) (xU : Nat) (xW : Nat) (a1 : Int32) (a2 : Int32) (a3 : Int32) (hlt : l.stackTraces = false) (hq : ¬ ((1 ≤ a1 ∧ a1 ≤ 4) ∧ (1 ≤ a2 ∧ a2 ≤ 24) ∧ (0 ≤ a3 ∧ a3 ≤ 20))) (sz : Nat) : Met l yL_shape WL_shape ({ frames := 8, cells := 1, slots := 6, locals := 134 } : Room) (RW D vwCl [.ref x, .int a1, .int a2, .int a3] [(x, .inr (0, [.ref xT, .ref xP, .ref xR, .ref xG, .ref xF, .int tc, .ref xO, .ref xS, .ref xL, .ref xC, .ref xQ, .ref xU, .ref xW]))] (TY cT) sz) (va_Qi (fun (r : Int32) (_ : Nat → Nat) => r = 1) (BW D vwCl (va_A [(x, .inr (0, [.ref xT, .ref xP, .ref xR, .ref xG, .ref xF, .int tc, .ref xO, .ref xS, .ref xL, .ref xC, .ref xQ, .ref xU, .ref xW]))] sz) (fun u => [])) (va_A [(x, .inr (0, [.ref xT, .ref xP, .ref xR, .ref xG, .ref xF, .int tc, .ref xO, .ref xS, .ref xL, .ref xC, .ref xQ, .ref xU, .ref xW]))] sz)) 1 6 (va_A [(x, .inr (0, [.ref xT, .ref xP, .ref xR, .ref xG, .ref xF, .int tc, .ref xO, .ref xS, .ref xL, .ref xC, .ref xQ, .ref xU, .ref xW]))] sz) := by
  refine va_MetW (hh := [(0, 7, 10, 13)]) (cc := cL_shape) (maxL := 5) (ret := (some .int)) (by decide) rfl ?_
  intro p e s m args below meth c s₁ B hml hv
  obtain ⟨rfl, hsz, hZ, hP, hK, hD0⟩ := hv
  have hx := B.exec
  have hb := B.bytes
  have hr := B.returns
  have hts := atoms_spec (ws := WL_shape) B.pre
  have hT : ∀ w ∈ TB, w.before _ s = true := fun w h => hts w (List.mem_cons_of_mem _ h)
  have hown : s.vm.findClass R_L = some m.cls := findClass_of_methodNamed B.named
  have htab := tx_table B (bytes := cL_shape) (maxL := 5) (ret := (some .int)) (hh := [(0, 7, 10, 13)]) (hts _ List.mem_cons_self)
  subst hsz
  have hD := hD0.self (sz := s.heap.size)
  generalize hAe : va_A [(x, .inr (0, [.ref xT, .ref xP, .ref xR, .ref xG, .ref xF, .int tc, .ref xO, .ref xS, .ref xL, .ref xC, .ref xQ, .ref xU, .ref xW]))] s.heap.size = A at hD hZ ⊢
  have hA : ∀ q : Nat, s.heap.size ≤ q → A q := fun q h => by rw [← hAe]; exact Or.inr h
  have hS : va_S A s.heap s.heap [] := va_S.rf
  have hl := lv_entry ([.ref x, .int a1, .int a2, .int a3]) (n := 5) (Nat.le_of_ble_eq_true rfl)
  rw [lg_entry_eq]
  generalize (lg_sl ([.ref x, .int a1, .int a2, .int a3]) ++ List.replicate (5 - (lg_sl ([.ref x, .int a1, .int a2, .int a3])).length) Slot.unset).toArray = ls at hl ⊢
  have hl : lv_has ls 5 [(0, .ref x), (1, .int a1), (2, .int a2), (3, .int a3)] := hl
  refine lv_aload_n hx hb dL_shape_0 rfl (lv_at hl 0 rfl) ?_
  refine lv_iload_n hx hb dL_shape_1 rfl (lv_at hl 1 rfl) ?_
  refine lv_iload_n hx hb dL_shape_2 rfl (lv_at hl 2 rfl) ?_
  refine lv_iload_n hx hb dL_shape_3 rfl (lv_at hl 3 rfl) ?_
  refine tx_catch1 (name := "java/lang/IllegalArgumentException") (tx_goV (As := [.int a1, .int a2, .int a3]) (rest := []) ⟨hx, hb, hml, hown, hT⟩ (k_shape_no l D cT x xT xP xR xG xF tc xO xS xL xC xQ xU xW a1 a2 a3 hlt hq) ⟨callB_of 3 hT (tb_gd w696) rfl rfl rfl (hT _ w1) (hT _ w693) hR_shape ⟨Nat.le_of_ble_eq_true rfl, Nat.le_of_ble_eq_true rfl⟩, (hT _ w694), (hT _ w695)⟩ (RO.preV (ci := 0) (q0 := 0) hZ hS (hP.sub (ws' := [(x, .inr (0, [.ref xT, .ref xP, .ref xR, .ref xG, .ref xF, .int tc, .ref xO, .ref xS, .ref xL, .ref xC, .ref xQ, .ref xU, .ref xW]))]) [0] rfl) hK rfl rfl) rfl hl.1 rfl (Nat.le_of_ble_eq_true rfl) dL_shape_4 ⟨Nat.le_of_ble_eq_true rfl, Nat.le_of_ble_eq_true rfl⟩) hown htab rfl (by decide) (hT _ w503) (tc_c rfl (hZ.1.1 ("java/lang/IllegalArgumentException", "java/lang/IllegalArgumentException") (List.mem_of_getElem? (i := 0) rfl))) (fun q H1 hsz9 hag9 => ?_)
  have hP := tc_P hP hag9
  have hS := tc_S hS hsz9 hag9
  refine W.eq (g2 := F0 m 10 ls [.ref q]) rfl ?_
  refine lv_astore hx hb dL_shape_10 hl (by decide) rfl (fun ls hl => ?_)
  have hl : lv_has ls 5 [(4, .ref q), (0, .ref x), (1, .int a1), (2, .int a2), (3, .int a3)] := hl
  refine lv_iconst (v := 1) hx hb dL_shape_12 (by decide) ?_
  have hP9 := hP.sub (ws' := []) [] rfl
  have hD9 := hD.sub (ws' := []) [] (by decide) rfl
  refine W.widen (k := 1) (n := 6) (Nat.le_of_ble_eq_true rfl) (Nat.le_of_ble_eq_true rfl) ?_
  exact W.iret (v := 1) hx hb hr (fun t ht hW => ⟨⟨1, (fun _ => 0), rfl, rfl, by rw [ht]; exact hP9, hD9⟩, hS.F ht⟩) hS.2.2 dL_shape_13
set_option maxHeartbeats 4000000 in
set_option maxRecDepth 100000 in
theorem l_rate_no (l : Launch) (D : va_G) (cT : Nat → ClassId) (x : Nat) (xT : Nat) (xP : Nat) (xR : Nat) (xG : Nat) (xF : Nat) (tc : Int32) (xO : Nat) (xS : Nat) (xL : Nat) (xC : Nat) (xQ : Nat) (xU : Nat) (xW : Nat) (a1 : Int32) (a2 : Int32) (hlt : l.stackTraces = false) (hq : ¬ ((1 ≤ a2 ∧ a2 ≤ 16) ∧ (1 ≤ a1 ∧ a1 ≤ a2))) (sz : Nat) : Met l yL_rate WL_rate ({ frames := 8, cells := 1, slots := 6, locals := 133 } : Room) (RW D vwCl [.ref x, .int a1, .int a2] [(x, .inr (0, [.ref xT, .ref xP, .ref xR, .ref xG, .ref xF, .int tc, .ref xO, .ref xS, .ref xL, .ref xC, .ref xQ, .ref xU, .ref xW]))] (TY cT) sz) (va_Qi (fun (r : Int32) (_ : Nat → Nat) => r = 1) (BW D vwCl (va_A [(x, .inr (0, [.ref xT, .ref xP, .ref xR, .ref xG, .ref xF, .int tc, .ref xO, .ref xS, .ref xL, .ref xC, .ref xQ, .ref xU, .ref xW]))] sz) (fun u => [])) (va_A [(x, .inr (0, [.ref xT, .ref xP, .ref xR, .ref xG, .ref xF, .int tc, .ref xO, .ref xS, .ref xL, .ref xC, .ref xQ, .ref xU, .ref xW]))] sz)) 1 6 (va_A [(x, .inr (0, [.ref xT, .ref xP, .ref xR, .ref xG, .ref xF, .int tc, .ref xO, .ref xS, .ref xL, .ref xC, .ref xQ, .ref xU, .ref xW]))] sz) := by
  refine va_MetW (hh := [(0, 6, 9, 13)]) (cc := cL_rate) (maxL := 4) (ret := (some .int)) (by decide) rfl ?_
  intro p e s m args below meth c s₁ B hml hv
  obtain ⟨rfl, hsz, hZ, hP, hK, hD0⟩ := hv
  have hx := B.exec
  have hb := B.bytes
  have hr := B.returns
  have hts := atoms_spec (ws := WL_rate) B.pre
  have hT : ∀ w ∈ TB, w.before _ s = true := fun w h => hts w (List.mem_cons_of_mem _ h)
  have hown : s.vm.findClass R_L = some m.cls := findClass_of_methodNamed B.named
  have htab := tx_table B (bytes := cL_rate) (maxL := 4) (ret := (some .int)) (hh := [(0, 6, 9, 13)]) (hts _ List.mem_cons_self)
  subst hsz
  have hD := hD0.self (sz := s.heap.size)
  generalize hAe : va_A [(x, .inr (0, [.ref xT, .ref xP, .ref xR, .ref xG, .ref xF, .int tc, .ref xO, .ref xS, .ref xL, .ref xC, .ref xQ, .ref xU, .ref xW]))] s.heap.size = A at hD hZ ⊢
  have hA : ∀ q : Nat, s.heap.size ≤ q → A q := fun q h => by rw [← hAe]; exact Or.inr h
  have hS : va_S A s.heap s.heap [] := va_S.rf
  have hl := lv_entry ([.ref x, .int a1, .int a2]) (n := 4) (Nat.le_of_ble_eq_true rfl)
  rw [lg_entry_eq]
  generalize (lg_sl ([.ref x, .int a1, .int a2]) ++ List.replicate (4 - (lg_sl ([.ref x, .int a1, .int a2])).length) Slot.unset).toArray = ls at hl ⊢
  have hl : lv_has ls 4 [(0, .ref x), (1, .int a1), (2, .int a2)] := hl
  refine lv_aload_n hx hb dL_rate_0 rfl (lv_at hl 0 rfl) ?_
  refine lv_iload_n hx hb dL_rate_1 rfl (lv_at hl 1 rfl) ?_
  refine lv_iload_n hx hb dL_rate_2 rfl (lv_at hl 2 rfl) ?_
  refine tx_catch1 (name := "java/lang/IllegalArgumentException") (tx_goV (As := [.int a1, .int a2]) (rest := []) ⟨hx, hb, hml, hown, hT⟩ (k_rate_no l D cT x xT xP xR xG xF tc xO xS xL xC xQ xU xW a1 a2 hlt hq) ⟨callB_of 2 hT (tb_gd w703) rfl rfl rfl (hT _ w1) (hT _ w700) hR_rate ⟨Nat.le_of_ble_eq_true rfl, Nat.le_of_ble_eq_true rfl⟩, (hT _ w701), (hT _ w702)⟩ (RO.preV (ci := 0) (q0 := 0) hZ hS (hP.sub (ws' := [(x, .inr (0, [.ref xT, .ref xP, .ref xR, .ref xG, .ref xF, .int tc, .ref xO, .ref xS, .ref xL, .ref xC, .ref xQ, .ref xU, .ref xW]))]) [0] rfl) hK rfl rfl) rfl hl.1 rfl (Nat.le_of_ble_eq_true rfl) dL_rate_3 ⟨Nat.le_of_ble_eq_true rfl, Nat.le_of_ble_eq_true rfl⟩) hown htab rfl (by decide) (hT _ w503) (tc_c rfl (hZ.1.1 ("java/lang/IllegalArgumentException", "java/lang/IllegalArgumentException") (List.mem_of_getElem? (i := 0) rfl))) (fun q H1 hsz9 hag9 => ?_)
  have hP := tc_P hP hag9
  have hS := tc_S hS hsz9 hag9
  refine W.eq (g2 := F0 m 9 ls [.ref q]) rfl ?_
  refine lv_astore_n hx hb dL_rate_9 rfl hl (by decide) rfl (fun ls hl => ?_)
  have hl : lv_has ls 4 [(3, .ref q), (0, .ref x), (1, .int a1), (2, .int a2)] := hl
  refine lv_iconst (v := 1) hx hb dL_rate_10 (by decide) ?_
  have hP9 := hP.sub (ws' := []) [] rfl
  have hD9 := hD.sub (ws' := []) [] (by decide) rfl
  refine W.widen (k := 1) (n := 6) (Nat.le_of_ble_eq_true rfl) (Nat.le_of_ble_eq_true rfl) ?_
  exact W.iret (v := 1) hx hb hr (fun t ht hW => ⟨⟨1, (fun _ => 0), rfl, rfl, by rw [ht]; exact hP9, hD9⟩, hS.F ht⟩) hS.2.2 dL_rate_11
set_option maxHeartbeats 4000000 in
set_option maxRecDepth 100000 in
theorem l_begin_ok (l : Launch) (D : va_G) (cT : Nat → ClassId) (x : Nat) (xT : Nat) (xP : Nat) (xR : Nat) (xG : Nat) (xF : Nat) (tc : Int32) (xO : Nat) (xS : Nat) (xL : Nat) (xC : Nat) (xQ : Nat) (xU : Nat) (xW : Nat) (ca : Nat) (ta : Nat) (w : Int32) (r : Int32) (cf : Nat → Option Nat) (c0 : Nat) (v0 : Nat) (ed0 : Nat) (n0 : Int32) (k0 : Int32) (f0 : Nat → Int32) (c1 : Nat) (v1 : Nat) (ed1 : Nat) (n1 : Int32) (k1 : Int32) (f1 : Nat → Int32) (c2 : Nat) (v2 : Nat) (ed2 : Nat) (n2 : Int32) (k2 : Int32) (f2 : Nat → Int32) (c3 : Nat) (v3 : Nat) (ed3 : Nat) (n3 : Int32) (k3 : Int32) (f3 : Nat → Int32) (c4 : Nat) (v4 : Nat) (ed4 : Nat) (n4 : Int32) (k4 : Int32) (f4 : Nat → Int32) (c5 : Nat) (v5 : Nat) (ed5 : Nat) (n5 : Int32) (k5 : Int32) (f5 : Nat → Int32) (pd : Int32) (pl : Int32) (pw : Int32) (pu : Int32) (pv : Int32) (ps : Int64) (pc0 : Int32) (ob : Nat) (ol : Int32) (ou : Nat) (ow : Nat) (a1 : Int32) (hq : 1 ≤ a1 ∧ a1 ≤ 6) (hf0 : cf 0 = some c0) (hf1 : cf 1 = some c1) (hf2 : cf 2 = some c2) (hf3 : cf 3 = some c3) (hf4 : cf 4 = some c4) (hf5 : cf 5 = some c5) (hk0 : narrow .boolean (.int k0) = .int k0) (hk1 : narrow .boolean (.int k1) = .int k1) (hk2 : narrow .boolean (.int k2) = .int k2) (hk3 : narrow .boolean (.int k3) = .int k3) (hk4 : narrow .boolean (.int k4) = .int k4) (hk5 : narrow .boolean (.int k5) = .int k5) (sz : Nat) : Met l yL_begin WL_begin ({ frames := 4, cells := 0, slots := 0, locals := 89 } : Room) (RW D vwCl [.ref x, .int a1] [(x, .inr (0, [.ref xT, .ref xP, .ref xR, .ref xG, .ref xF, .int tc, .ref xO, .ref xS, .ref xL, .ref xC, .ref xQ, .ref xU, .ref xW])), (xT, .inr (2, [.ref ca, .ref ta, .int w, .int r])), (ca, .inl (cT 5, 6, .inr (.inr (.inr (.inr cf))))), (c0, .inr (1, [.ref v0, .ref ed0, .int n0, .int k0])), (v0, .inl (cT 0, 49, .inl f0)), (c1, .inr (1, [.ref v1, .ref ed1, .int n1, .int k1])), (v1, .inl (cT 0, 49, .inl f1)), (c2, .inr (1, [.ref v2, .ref ed2, .int n2, .int k2])), (v2, .inl (cT 0, 49, .inl f2)), (c3, .inr (1, [.ref v3, .ref ed3, .int n3, .int k3])), (v3, .inl (cT 0, 49, .inl f3)), (c4, .inr (1, [.ref v4, .ref ed4, .int n4, .int k4])), (v4, .inl (cT 0, 49, .inl f4)), (c5, .inr (1, [.ref v5, .ref ed5, .int n5, .int k5])), (v5, .inl (cT 0, 49, .inl f5)), (xP, .inr (3, [.int pd, .int pl, .int pw, .int pu, .int pv, .long ps, .int pc0])), (xO, .inr (8, [.ref ob, .int ol, .ref ou, .ref ow]))] (TY cT) sz) (va_Qi (fun (r : Int32) (_ : Nat → Nat) => r = 0) (BW D vwCl (va_A [(x, .inr (0, [.ref xT, .ref xP, .ref xR, .ref xG, .ref xF, .int tc, .ref xO, .ref xS, .ref xL, .ref xC, .ref xQ, .ref xU, .ref xW])), (xT, .inr (2, [.ref ca, .ref ta, .int w, .int r])), (ca, .inl (cT 5, 6, .inr (.inr (.inr (.inr cf))))), (c0, .inr (1, [.ref v0, .ref ed0, .int n0, .int k0])), (v0, .inl (cT 0, 49, .inl f0)), (c1, .inr (1, [.ref v1, .ref ed1, .int n1, .int k1])), (v1, .inl (cT 0, 49, .inl f1)), (c2, .inr (1, [.ref v2, .ref ed2, .int n2, .int k2])), (v2, .inl (cT 0, 49, .inl f2)), (c3, .inr (1, [.ref v3, .ref ed3, .int n3, .int k3])), (v3, .inl (cT 0, 49, .inl f3)), (c4, .inr (1, [.ref v4, .ref ed4, .int n4, .int k4])), (v4, .inl (cT 0, 49, .inl f4)), (c5, .inr (1, [.ref v5, .ref ed5, .int n5, .int k5])), (v5, .inl (cT 0, 49, .inl f5)), (xP, .inr (3, [.int pd, .int pl, .int pw, .int pu, .int pv, .long ps, .int pc0])), (xO, .inr (8, [.ref ob, .int ol, .ref ou, .ref ow]))] sz) (fun u => [])) (va_A [(x, .inr (0, [.ref xT, .ref xP, .ref xR, .ref xG, .ref xF, .int tc, .ref xO, .ref xS, .ref xL, .ref xC, .ref xQ, .ref xU, .ref xW])), (xT, .inr (2, [.ref ca, .ref ta, .int w, .int r])), (ca, .inl (cT 5, 6, .inr (.inr (.inr (.inr cf))))), (c0, .inr (1, [.ref v0, .ref ed0, .int n0, .int k0])), (v0, .inl (cT 0, 49, .inl f0)), (c1, .inr (1, [.ref v1, .ref ed1, .int n1, .int k1])), (v1, .inl (cT 0, 49, .inl f1)), (c2, .inr (1, [.ref v2, .ref ed2, .int n2, .int k2])), (v2, .inl (cT 0, 49, .inl f2)), (c3, .inr (1, [.ref v3, .ref ed3, .int n3, .int k3])), (v3, .inl (cT 0, 49, .inl f3)), (c4, .inr (1, [.ref v4, .ref ed4, .int n4, .int k4])), (v4, .inl (cT 0, 49, .inl f4)), (c5, .inr (1, [.ref v5, .ref ed5, .int n5, .int k5])), (v5, .inl (cT 0, 49, .inl f5)), (xP, .inr (3, [.int pd, .int pl, .int pw, .int pu, .int pv, .long ps, .int pc0])), (xO, .inr (8, [.ref ob, .int ol, .ref ou, .ref ow]))] sz)) 0 0 (va_A [(x, .inr (0, [.ref xT, .ref xP, .ref xR, .ref xG, .ref xF, .int tc, .ref xO, .ref xS, .ref xL, .ref xC, .ref xQ, .ref xU, .ref xW])), (xT, .inr (2, [.ref ca, .ref ta, .int w, .int r])), (ca, .inl (cT 5, 6, .inr (.inr (.inr (.inr cf))))), (c0, .inr (1, [.ref v0, .ref ed0, .int n0, .int k0])), (v0, .inl (cT 0, 49, .inl f0)), (c1, .inr (1, [.ref v1, .ref ed1, .int n1, .int k1])), (v1, .inl (cT 0, 49, .inl f1)), (c2, .inr (1, [.ref v2, .ref ed2, .int n2, .int k2])), (v2, .inl (cT 0, 49, .inl f2)), (c3, .inr (1, [.ref v3, .ref ed3, .int n3, .int k3])), (v3, .inl (cT 0, 49, .inl f3)), (c4, .inr (1, [.ref v4, .ref ed4, .int n4, .int k4])), (v4, .inl (cT 0, 49, .inl f4)), (c5, .inr (1, [.ref v5, .ref ed5, .int n5, .int k5])), (v5, .inl (cT 0, 49, .inl f5)), (xP, .inr (3, [.int pd, .int pl, .int pw, .int pu, .int pv, .long ps, .int pc0])), (xO, .inr (8, [.ref ob, .int ol, .ref ou, .ref ow]))] sz) := by
  refine va_MetW (hh := [(0, 5, 8, 13)]) (cc := cL_begin) (maxL := 3) (ret := (some .int)) (by decide) rfl ?_
  intro p e s m args below meth c s₁ B hml hv
  obtain ⟨rfl, hsz, hZ, hP, hK, hD0⟩ := hv
  have hx := B.exec
  have hb := B.bytes
  have hr := B.returns
  have hts := atoms_spec (ws := WL_begin) B.pre
  have hT : ∀ w ∈ TB, w.before _ s = true := fun w h => hts w (List.mem_cons_of_mem _ h)
  have hown : s.vm.findClass R_L = some m.cls := findClass_of_methodNamed B.named
  have htab := tx_table B (bytes := cL_begin) (maxL := 3) (ret := (some .int)) (hh := [(0, 5, 8, 13)]) (hts _ List.mem_cons_self)
  subst hsz
  have hD := hD0.self (sz := s.heap.size)
  generalize hAe : va_A [(x, .inr (0, [.ref xT, .ref xP, .ref xR, .ref xG, .ref xF, .int tc, .ref xO, .ref xS, .ref xL, .ref xC, .ref xQ, .ref xU, .ref xW])), (xT, .inr (2, [.ref ca, .ref ta, .int w, .int r])), (ca, .inl (cT 5, 6, .inr (.inr (.inr (.inr cf))))), (c0, .inr (1, [.ref v0, .ref ed0, .int n0, .int k0])), (v0, .inl (cT 0, 49, .inl f0)), (c1, .inr (1, [.ref v1, .ref ed1, .int n1, .int k1])), (v1, .inl (cT 0, 49, .inl f1)), (c2, .inr (1, [.ref v2, .ref ed2, .int n2, .int k2])), (v2, .inl (cT 0, 49, .inl f2)), (c3, .inr (1, [.ref v3, .ref ed3, .int n3, .int k3])), (v3, .inl (cT 0, 49, .inl f3)), (c4, .inr (1, [.ref v4, .ref ed4, .int n4, .int k4])), (v4, .inl (cT 0, 49, .inl f4)), (c5, .inr (1, [.ref v5, .ref ed5, .int n5, .int k5])), (v5, .inl (cT 0, 49, .inl f5)), (xP, .inr (3, [.int pd, .int pl, .int pw, .int pu, .int pv, .long ps, .int pc0])), (xO, .inr (8, [.ref ob, .int ol, .ref ou, .ref ow]))] s.heap.size = A at hD hZ ⊢
  have hA : ∀ q : Nat, s.heap.size ≤ q → A q := fun q h => by rw [← hAe]; exact Or.inr h
  have hS : va_S A s.heap s.heap [] := va_S.rf
  have hl := lv_entry ([.ref x, .int a1]) (n := 3) (Nat.le_of_ble_eq_true rfl)
  rw [lg_entry_eq]
  generalize (lg_sl ([.ref x, .int a1]) ++ List.replicate (3 - (lg_sl ([.ref x, .int a1])).length) Slot.unset).toArray = ls at hl ⊢
  have hl : lv_has ls 3 [(0, .ref x), (1, .int a1)] := hl
  refine lv_aload_n hx hb dL_begin_0 rfl (lv_at hl 0 rfl) ?_
  refine lv_iload_n hx hb dL_begin_1 rfl (lv_at hl 1 rfl) ?_
  refine rw_v (wc := [(x, .inr (0, [.ref xT, .ref xP, .ref xR, .ref xG, .ref xF, .int tc, .ref xO, .ref xS, .ref xL, .ref xC, .ref xQ, .ref xU, .ref xW])), (xT, .inr (2, [.ref ca, .ref ta, .int w, .int r])), (ca, .inl (cT 5, 6, .inr (.inr (.inr (.inr cf))))), (c0, .inr (1, [.ref v0, .ref ed0, .int n0, .int k0])), (v0, .inl (cT 0, 49, .inl f0)), (c1, .inr (1, [.ref v1, .ref ed1, .int n1, .int k1])), (v1, .inl (cT 0, 49, .inl f1)), (c2, .inr (1, [.ref v2, .ref ed2, .int n2, .int k2])), (v2, .inl (cT 0, 49, .inl f2)), (c3, .inr (1, [.ref v3, .ref ed3, .int n3, .int k3])), (v3, .inl (cT 0, 49, .inl f3)), (c4, .inr (1, [.ref v4, .ref ed4, .int n4, .int k4])), (v4, .inl (cT 0, 49, .inl f4)), (c5, .inr (1, [.ref v5, .ref ed5, .int n5, .int k5])), (v5, .inl (cT 0, 49, .inl f5)), (xP, .inr (3, [.int pd, .int pl, .int pw, .int pu, .int pv, .long ps, .int pc0])), (xO, .inr (8, [.ref ob, .int ol, .ref ou, .ref ow]))]) (wr := []) hP hD hS hA [0, 1, 2, 3, 4, 5, 6, 7, 8, 9, 10, 11, 12, 13, 14, 15, 16] [] rfl rfl (by decide) (by decide) (va_runV (As := [.int a1]) (rest := []) ⟨hx, hb, hml, hown, hT⟩ (k_begin_ok l D cT x xT xP xR xG xF tc xO xS xL xC xQ xU xW ca ta w r cf c0 v0 ed0 n0 k0 f0 c1 v1 ed1 n1 k1 f1 c2 v2 ed2 n2 k2 f2 c3 v3 ed3 n3 k3 f3 c4 v4 ed4 n4 k4 f4 c5 v5 ed5 n5 k5 f5 pd pl pw pu pv ps pc0 ob ol ou ow a1 hq hf0 hf1 hf2 hf3 hf4 hf5 hk0 hk1 hk2 hk3 hk4 hk5 _) ⟨callB_of 1 hT (tb_gd w507) rfl rfl rfl (hT _ w1) (hT _ w504) hR_begin ⟨Nat.le_of_ble_eq_true rfl, Nat.le_of_ble_eq_true rfl⟩, (hT _ w505), (hT _ w506)⟩ (RW.preV (ci := 0) (q0 := 0) hZ hS (va_free (wc := [(x, .inr (0, [.ref xT, .ref xP, .ref xR, .ref xG, .ref xF, .int tc, .ref xO, .ref xS, .ref xL, .ref xC, .ref xQ, .ref xU, .ref xW])), (xT, .inr (2, [.ref ca, .ref ta, .int w, .int r])), (ca, .inl (cT 5, 6, .inr (.inr (.inr (.inr cf))))), (c0, .inr (1, [.ref v0, .ref ed0, .int n0, .int k0])), (v0, .inl (cT 0, 49, .inl f0)), (c1, .inr (1, [.ref v1, .ref ed1, .int n1, .int k1])), (v1, .inl (cT 0, 49, .inl f1)), (c2, .inr (1, [.ref v2, .ref ed2, .int n2, .int k2])), (v2, .inl (cT 0, 49, .inl f2)), (c3, .inr (1, [.ref v3, .ref ed3, .int n3, .int k3])), (v3, .inl (cT 0, 49, .inl f3)), (c4, .inr (1, [.ref v4, .ref ed4, .int n4, .int k4])), (v4, .inl (cT 0, 49, .inl f4)), (c5, .inr (1, [.ref v5, .ref ed5, .int n5, .int k5])), (v5, .inl (cT 0, 49, .inl f5)), (xP, .inr (3, [.int pd, .int pl, .int pw, .int pu, .int pv, .long ps, .int pc0])), (xO, .inr (8, [.ref ob, .int ol, .ref ou, .ref ow]))]) hD hS hA [0, 1, 2, 3, 4, 5, 6, 7, 8, 9, 10, 11, 12, 13, 14, 15, 16] rfl) (hP.sub (ws' := [(x, .inr (0, [.ref xT, .ref xP, .ref xR, .ref xG, .ref xF, .int tc, .ref xO, .ref xS, .ref xL, .ref xC, .ref xQ, .ref xU, .ref xW])), (xT, .inr (2, [.ref ca, .ref ta, .int w, .int r])), (ca, .inl (cT 5, 6, .inr (.inr (.inr (.inr cf))))), (c0, .inr (1, [.ref v0, .ref ed0, .int n0, .int k0])), (v0, .inl (cT 0, 49, .inl f0)), (c1, .inr (1, [.ref v1, .ref ed1, .int n1, .int k1])), (v1, .inl (cT 0, 49, .inl f1)), (c2, .inr (1, [.ref v2, .ref ed2, .int n2, .int k2])), (v2, .inl (cT 0, 49, .inl f2)), (c3, .inr (1, [.ref v3, .ref ed3, .int n3, .int k3])), (v3, .inl (cT 0, 49, .inl f3)), (c4, .inr (1, [.ref v4, .ref ed4, .int n4, .int k4])), (v4, .inl (cT 0, 49, .inl f4)), (c5, .inr (1, [.ref v5, .ref ed5, .int n5, .int k5])), (v5, .inl (cT 0, 49, .inl f5)), (xP, .inr (3, [.int pd, .int pl, .int pw, .int pu, .int pv, .long ps, .int pc0])), (xO, .inr (8, [.ref ob, .int ol, .ref ou, .ref ow]))]) [0, 1, 2, 3, 4, 5, 6, 7, 8, 9, 10, 11, 12, 13, 14, 15, 16] rfl) hK (hD.sub (ws' := [(x, .inr (0, [.ref xT, .ref xP, .ref xR, .ref xG, .ref xF, .int tc, .ref xO, .ref xS, .ref xL, .ref xC, .ref xQ, .ref xU, .ref xW])), (xT, .inr (2, [.ref ca, .ref ta, .int w, .int r])), (ca, .inl (cT 5, 6, .inr (.inr (.inr (.inr cf))))), (c0, .inr (1, [.ref v0, .ref ed0, .int n0, .int k0])), (v0, .inl (cT 0, 49, .inl f0)), (c1, .inr (1, [.ref v1, .ref ed1, .int n1, .int k1])), (v1, .inl (cT 0, 49, .inl f1)), (c2, .inr (1, [.ref v2, .ref ed2, .int n2, .int k2])), (v2, .inl (cT 0, 49, .inl f2)), (c3, .inr (1, [.ref v3, .ref ed3, .int n3, .int k3])), (v3, .inl (cT 0, 49, .inl f3)), (c4, .inr (1, [.ref v4, .ref ed4, .int n4, .int k4])), (v4, .inl (cT 0, 49, .inl f4)), (c5, .inr (1, [.ref v5, .ref ed5, .int n5, .int k5])), (v5, .inl (cT 0, 49, .inl f5)), (xP, .inr (3, [.int pd, .int pl, .int pw, .int pu, .int pv, .long ps, .int pc0])), (xO, .inr (8, [.ref ob, .int ol, .ref ou, .ref ow]))]) [0, 1, 2, 3, 4, 5, 6, 7, 8, 9, 10, 11, 12, 13, 14, 15, 16] (by decide) rfl) rfl rfl) rfl rfl hl.1 rfl (lv_room (Nat.le_of_ble_eq_true rfl)) dL_begin_2 ⟨Nat.le_of_ble_eq_true rfl, Nat.le_of_ble_eq_true rfl⟩) (fun u1 H locs hpu1 hP hD hS => ?_)
  have hP : va_P D vwCl [(x, .inr (0, [.ref xT, .ref xP, .ref xR, .ref xG, .ref xF, .int 0, .ref xO, .ref xS, .ref xL, .ref xC, .ref xQ, .ref xU, .ref xW])), (xO, .inr (8, [.ref ob, .int 0, .ref ou, .ref ow])), (xT, .inr (2, [.ref ca, .ref ta, .int a1, .int 0])), (ca, .inl (cT 5, 6, .inr (.inr (.inr (.inr cf))))), (v0, .inl (cT 0, 49, .inl (upd f0 48 (-2147483648)))), (v1, .inl (cT 0, 49, .inl (upd f1 48 (-2147483648)))), (v2, .inl (cT 0, 49, .inl (upd f2 48 (-2147483648)))), (v3, .inl (cT 0, 49, .inl (upd f3 48 (-2147483648)))), (v4, .inl (cT 0, 49, .inl (upd f4 48 (-2147483648)))), (v5, .inl (cT 0, 49, .inl (upd f5 48 (-2147483648)))), (c0, .inr (1, [.ref v0, .ref ed0, .int 0, .int 0])), (c1, .inr (1, [.ref v1, .ref ed1, .int 0, .int 0])), (c2, .inr (1, [.ref v2, .ref ed2, .int 0, .int 0])), (c3, .inr (1, [.ref v3, .ref ed3, .int 0, .int 0])), (c4, .inr (1, [.ref v4, .ref ed4, .int 0, .int 0])), (c5, .inr (1, [.ref v5, .ref ed5, .int 0, .int 0])), (xP, .inr (3, [.int 2, .int 1, .int 0, .int 1, .int 2, .long (-1), .int (-1)]))] H := hP
  have hD : va_D A [(x, .inr (0, [.ref xT, .ref xP, .ref xR, .ref xG, .ref xF, .int 0, .ref xO, .ref xS, .ref xL, .ref xC, .ref xQ, .ref xU, .ref xW])), (xO, .inr (8, [.ref ob, .int 0, .ref ou, .ref ow])), (xT, .inr (2, [.ref ca, .ref ta, .int a1, .int 0])), (ca, .inl (cT 5, 6, .inr (.inr (.inr (.inr cf))))), (v0, .inl (cT 0, 49, .inl (upd f0 48 (-2147483648)))), (v1, .inl (cT 0, 49, .inl (upd f1 48 (-2147483648)))), (v2, .inl (cT 0, 49, .inl (upd f2 48 (-2147483648)))), (v3, .inl (cT 0, 49, .inl (upd f3 48 (-2147483648)))), (v4, .inl (cT 0, 49, .inl (upd f4 48 (-2147483648)))), (v5, .inl (cT 0, 49, .inl (upd f5 48 (-2147483648)))), (c0, .inr (1, [.ref v0, .ref ed0, .int 0, .int 0])), (c1, .inr (1, [.ref v1, .ref ed1, .int 0, .int 0])), (c2, .inr (1, [.ref v2, .ref ed2, .int 0, .int 0])), (c3, .inr (1, [.ref v3, .ref ed3, .int 0, .int 0])), (c4, .inr (1, [.ref v4, .ref ed4, .int 0, .int 0])), (c5, .inr (1, [.ref v5, .ref ed5, .int 0, .int 0])), (xP, .inr (3, [.int 2, .int 1, .int 0, .int 1, .int 2, .long (-1), .int (-1)]))] := hD
  refine lv_goto (tgt := 11) hx hb dL_begin_5 rfl ?_
  refine lv_iconst (v := 0) hx hb dL_begin_11 (by decide) ?_
  have hP9 := hP.sub (ws' := []) [] rfl
  have hD9 := hD.sub (ws' := []) [] (by decide) rfl
  refine W.widen (k := 0) (n := 0) (Nat.le_of_ble_eq_true rfl) (Nat.le_of_ble_eq_true rfl) ?_
  exact W.iret (v := 0) hx hb hr (fun t ht hW => ⟨⟨0, (fun _ => 0), rfl, rfl, by rw [ht]; exact hP9, hD9⟩, hS.F ht⟩) hS.2.2 dL_begin_12
set_option maxHeartbeats 4000000 in
set_option maxRecDepth 100000 in
theorem l_shape_ok (l : Launch) (D : va_G) (cT : Nat → ClassId) (x : Nat) (xT : Nat) (xP : Nat) (xR : Nat) (xG : Nat) (xF : Nat) (tc : Int32) (xO : Nat) (xS : Nat) (xL : Nat) (xC : Nat) (xQ : Nat) (xU : Nat) (xW : Nat) (pd : Int32) (pl : Int32) (pw : Int32) (pu : Int32) (pv : Int32) (ps : Int64) (pc0 : Int32) (a1 : Int32) (a2 : Int32) (a3 : Int32) (h1 : 1 ≤ a1 ∧ a1 ≤ 4) (h2 : 1 ≤ a2 ∧ a2 ≤ 24) (h3 : 0 ≤ a3 ∧ a3 ≤ 20) (sz : Nat) : Met l yL_shape WL_shape ({ frames := 2, cells := 0, slots := 0, locals := 45 } : Room) (RW D vwCl [.ref x, .int a1, .int a2, .int a3] [(x, .inr (0, [.ref xT, .ref xP, .ref xR, .ref xG, .ref xF, .int tc, .ref xO, .ref xS, .ref xL, .ref xC, .ref xQ, .ref xU, .ref xW])), (xP, .inr (3, [.int pd, .int pl, .int pw, .int pu, .int pv, .long ps, .int pc0]))] (TY cT) sz) (va_Qi (fun (r : Int32) (_ : Nat → Nat) => r = 0) (BW D vwCl (va_A [(x, .inr (0, [.ref xT, .ref xP, .ref xR, .ref xG, .ref xF, .int tc, .ref xO, .ref xS, .ref xL, .ref xC, .ref xQ, .ref xU, .ref xW])), (xP, .inr (3, [.int pd, .int pl, .int pw, .int pu, .int pv, .long ps, .int pc0]))] sz) (fun u => [])) (va_A [(x, .inr (0, [.ref xT, .ref xP, .ref xR, .ref xG, .ref xF, .int tc, .ref xO, .ref xS, .ref xL, .ref xC, .ref xQ, .ref xU, .ref xW])), (xP, .inr (3, [.int pd, .int pl, .int pw, .int pu, .int pv, .long ps, .int pc0]))] sz)) 0 0 (va_A [(x, .inr (0, [.ref xT, .ref xP, .ref xR, .ref xG, .ref xF, .int tc, .ref xO, .ref xS, .ref xL, .ref xC, .ref xQ, .ref xU, .ref xW])), (xP, .inr (3, [.int pd, .int pl, .int pw, .int pu, .int pv, .long ps, .int pc0]))] sz) := by
  refine va_MetW (hh := [(0, 7, 10, 13)]) (cc := cL_shape) (maxL := 5) (ret := (some .int)) (by decide) rfl ?_
  intro p e s m args below meth c s₁ B hml hv
  obtain ⟨rfl, hsz, hZ, hP, hK, hD0⟩ := hv
  have hx := B.exec
  have hb := B.bytes
  have hr := B.returns
  have hts := atoms_spec (ws := WL_shape) B.pre
  have hT : ∀ w ∈ TB, w.before _ s = true := fun w h => hts w (List.mem_cons_of_mem _ h)
  have hown : s.vm.findClass R_L = some m.cls := findClass_of_methodNamed B.named
  have htab := tx_table B (bytes := cL_shape) (maxL := 5) (ret := (some .int)) (hh := [(0, 7, 10, 13)]) (hts _ List.mem_cons_self)
  subst hsz
  have hD := hD0.self (sz := s.heap.size)
  generalize hAe : va_A [(x, .inr (0, [.ref xT, .ref xP, .ref xR, .ref xG, .ref xF, .int tc, .ref xO, .ref xS, .ref xL, .ref xC, .ref xQ, .ref xU, .ref xW])), (xP, .inr (3, [.int pd, .int pl, .int pw, .int pu, .int pv, .long ps, .int pc0]))] s.heap.size = A at hD hZ ⊢
  have hA : ∀ q : Nat, s.heap.size ≤ q → A q := fun q h => by rw [← hAe]; exact Or.inr h
  have hS : va_S A s.heap s.heap [] := va_S.rf
  have hl := lv_entry ([.ref x, .int a1, .int a2, .int a3]) (n := 5) (Nat.le_of_ble_eq_true rfl)
  rw [lg_entry_eq]
  generalize (lg_sl ([.ref x, .int a1, .int a2, .int a3]) ++ List.replicate (5 - (lg_sl ([.ref x, .int a1, .int a2, .int a3])).length) Slot.unset).toArray = ls at hl ⊢
  have hl : lv_has ls 5 [(0, .ref x), (1, .int a1), (2, .int a2), (3, .int a3)] := hl
  refine lv_aload_n hx hb dL_shape_0 rfl (lv_at hl 0 rfl) ?_
  refine lv_iload_n hx hb dL_shape_1 rfl (lv_at hl 1 rfl) ?_
  refine lv_iload_n hx hb dL_shape_2 rfl (lv_at hl 2 rfl) ?_
  refine lv_iload_n hx hb dL_shape_3 rfl (lv_at hl 3 rfl) ?_
  refine rw_v (wc := [(x, .inr (0, [.ref xT, .ref xP, .ref xR, .ref xG, .ref xF, .int tc, .ref xO, .ref xS, .ref xL, .ref xC, .ref xQ, .ref xU, .ref xW])), (xP, .inr (3, [.int pd, .int pl, .int pw, .int pu, .int pv, .long ps, .int pc0]))]) (wr := []) hP hD hS hA [0, 1] [] rfl rfl (by decide) (by decide) (va_runV (As := [.int a1, .int a2, .int a3]) (rest := []) ⟨hx, hb, hml, hown, hT⟩ (k_shape_ok l D cT x xT xP xR xG xF tc xO xS xL xC xQ xU xW pd pl pw pu pv ps pc0 a1 a2 a3 h1 h2 h3 _) ⟨callB_of 3 hT (tb_gd w696) rfl rfl rfl (hT _ w1) (hT _ w693) hR_shape ⟨Nat.le_of_ble_eq_true rfl, Nat.le_of_ble_eq_true rfl⟩, (hT _ w694), (hT _ w695)⟩ (RW.preV (ci := 0) (q0 := 0) hZ hS (va_free (wc := [(x, .inr (0, [.ref xT, .ref xP, .ref xR, .ref xG, .ref xF, .int tc, .ref xO, .ref xS, .ref xL, .ref xC, .ref xQ, .ref xU, .ref xW])), (xP, .inr (3, [.int pd, .int pl, .int pw, .int pu, .int pv, .long ps, .int pc0]))]) hD hS hA [0, 1] rfl) (hP.sub (ws' := [(x, .inr (0, [.ref xT, .ref xP, .ref xR, .ref xG, .ref xF, .int tc, .ref xO, .ref xS, .ref xL, .ref xC, .ref xQ, .ref xU, .ref xW])), (xP, .inr (3, [.int pd, .int pl, .int pw, .int pu, .int pv, .long ps, .int pc0]))]) [0, 1] rfl) hK (hD.sub (ws' := [(x, .inr (0, [.ref xT, .ref xP, .ref xR, .ref xG, .ref xF, .int tc, .ref xO, .ref xS, .ref xL, .ref xC, .ref xQ, .ref xU, .ref xW])), (xP, .inr (3, [.int pd, .int pl, .int pw, .int pu, .int pv, .long ps, .int pc0]))]) [0, 1] (by decide) rfl) rfl rfl) rfl rfl hl.1 rfl (lv_room (Nat.le_of_ble_eq_true rfl)) dL_shape_4 ⟨Nat.le_of_ble_eq_true rfl, Nat.le_of_ble_eq_true rfl⟩) (fun u1 H locs hpu1 hP hD hS => ?_)
  have hP : va_P D vwCl [(x, .inr (0, [.ref xT, .ref xP, .ref xR, .ref xG, .ref xF, .int tc, .ref xO, .ref xS, .ref xL, .ref xC, .ref xQ, .ref xU, .ref xW])), (xP, .inr (3, [.int a1, .int a2, .int a3, .int pu, .int pv, .long ps, .int pc0]))] H := hP
  have hD : va_D A [(x, .inr (0, [.ref xT, .ref xP, .ref xR, .ref xG, .ref xF, .int tc, .ref xO, .ref xS, .ref xL, .ref xC, .ref xQ, .ref xU, .ref xW])), (xP, .inr (3, [.int a1, .int a2, .int a3, .int pu, .int pv, .long ps, .int pc0]))] := hD
  refine lv_goto (tgt := 14) hx hb dL_shape_7 rfl ?_
  refine lv_iconst (v := 0) hx hb dL_shape_14 (by decide) ?_
  have hP9 := hP.sub (ws' := []) [] rfl
  have hD9 := hD.sub (ws' := []) [] (by decide) rfl
  refine W.widen (k := 0) (n := 0) (Nat.le_of_ble_eq_true rfl) (Nat.le_of_ble_eq_true rfl) ?_
  exact W.iret (v := 0) hx hb hr (fun t ht hW => ⟨⟨0, (fun _ => 0), rfl, rfl, by rw [ht]; exact hP9, hD9⟩, hS.F ht⟩) hS.2.2 dL_shape_15
set_option maxHeartbeats 4000000 in
set_option maxRecDepth 100000 in
theorem l_rate_ok (l : Launch) (D : va_G) (cT : Nat → ClassId) (x : Nat) (xT : Nat) (xP : Nat) (xR : Nat) (xG : Nat) (xF : Nat) (tc : Int32) (xO : Nat) (xS : Nat) (xL : Nat) (xC : Nat) (xQ : Nat) (xU : Nat) (xW : Nat) (pd : Int32) (pl : Int32) (pw : Int32) (pu : Int32) (pv : Int32) (ps : Int64) (pc0 : Int32) (a1 : Int32) (a2 : Int32) (h1 : 1 ≤ a2 ∧ a2 ≤ 16) (h2 : 1 ≤ a1 ∧ a1 ≤ a2) (sz : Nat) : Met l yL_rate WL_rate ({ frames := 2, cells := 0, slots := 0, locals := 44 } : Room) (RW D vwCl [.ref x, .int a1, .int a2] [(x, .inr (0, [.ref xT, .ref xP, .ref xR, .ref xG, .ref xF, .int tc, .ref xO, .ref xS, .ref xL, .ref xC, .ref xQ, .ref xU, .ref xW])), (xP, .inr (3, [.int pd, .int pl, .int pw, .int pu, .int pv, .long ps, .int pc0]))] (TY cT) sz) (va_Qi (fun (r : Int32) (_ : Nat → Nat) => r = 0) (BW D vwCl (va_A [(x, .inr (0, [.ref xT, .ref xP, .ref xR, .ref xG, .ref xF, .int tc, .ref xO, .ref xS, .ref xL, .ref xC, .ref xQ, .ref xU, .ref xW])), (xP, .inr (3, [.int pd, .int pl, .int pw, .int pu, .int pv, .long ps, .int pc0]))] sz) (fun u => [])) (va_A [(x, .inr (0, [.ref xT, .ref xP, .ref xR, .ref xG, .ref xF, .int tc, .ref xO, .ref xS, .ref xL, .ref xC, .ref xQ, .ref xU, .ref xW])), (xP, .inr (3, [.int pd, .int pl, .int pw, .int pu, .int pv, .long ps, .int pc0]))] sz)) 0 0 (va_A [(x, .inr (0, [.ref xT, .ref xP, .ref xR, .ref xG, .ref xF, .int tc, .ref xO, .ref xS, .ref xL, .ref xC, .ref xQ, .ref xU, .ref xW])), (xP, .inr (3, [.int pd, .int pl, .int pw, .int pu, .int pv, .long ps, .int pc0]))] sz) := by
  refine va_MetW (hh := [(0, 6, 9, 13)]) (cc := cL_rate) (maxL := 4) (ret := (some .int)) (by decide) rfl ?_
  intro p e s m args below meth c s₁ B hml hv
  obtain ⟨rfl, hsz, hZ, hP, hK, hD0⟩ := hv
  have hx := B.exec
  have hb := B.bytes
  have hr := B.returns
  have hts := atoms_spec (ws := WL_rate) B.pre
  have hT : ∀ w ∈ TB, w.before _ s = true := fun w h => hts w (List.mem_cons_of_mem _ h)
  have hown : s.vm.findClass R_L = some m.cls := findClass_of_methodNamed B.named
  have htab := tx_table B (bytes := cL_rate) (maxL := 4) (ret := (some .int)) (hh := [(0, 6, 9, 13)]) (hts _ List.mem_cons_self)
  subst hsz
  have hD := hD0.self (sz := s.heap.size)
  generalize hAe : va_A [(x, .inr (0, [.ref xT, .ref xP, .ref xR, .ref xG, .ref xF, .int tc, .ref xO, .ref xS, .ref xL, .ref xC, .ref xQ, .ref xU, .ref xW])), (xP, .inr (3, [.int pd, .int pl, .int pw, .int pu, .int pv, .long ps, .int pc0]))] s.heap.size = A at hD hZ ⊢
  have hA : ∀ q : Nat, s.heap.size ≤ q → A q := fun q h => by rw [← hAe]; exact Or.inr h
  have hS : va_S A s.heap s.heap [] := va_S.rf
  have hl := lv_entry ([.ref x, .int a1, .int a2]) (n := 4) (Nat.le_of_ble_eq_true rfl)
  rw [lg_entry_eq]
  generalize (lg_sl ([.ref x, .int a1, .int a2]) ++ List.replicate (4 - (lg_sl ([.ref x, .int a1, .int a2])).length) Slot.unset).toArray = ls at hl ⊢
  have hl : lv_has ls 4 [(0, .ref x), (1, .int a1), (2, .int a2)] := hl
  refine lv_aload_n hx hb dL_rate_0 rfl (lv_at hl 0 rfl) ?_
  refine lv_iload_n hx hb dL_rate_1 rfl (lv_at hl 1 rfl) ?_
  refine lv_iload_n hx hb dL_rate_2 rfl (lv_at hl 2 rfl) ?_
  refine rw_v (wc := [(x, .inr (0, [.ref xT, .ref xP, .ref xR, .ref xG, .ref xF, .int tc, .ref xO, .ref xS, .ref xL, .ref xC, .ref xQ, .ref xU, .ref xW])), (xP, .inr (3, [.int pd, .int pl, .int pw, .int pu, .int pv, .long ps, .int pc0]))]) (wr := []) hP hD hS hA [0, 1] [] rfl rfl (by decide) (by decide) (va_runV (As := [.int a1, .int a2]) (rest := []) ⟨hx, hb, hml, hown, hT⟩ (k_rate_ok l D cT x xT xP xR xG xF tc xO xS xL xC xQ xU xW pd pl pw pu pv ps pc0 a1 a2 h1 h2 _) ⟨callB_of 2 hT (tb_gd w703) rfl rfl rfl (hT _ w1) (hT _ w700) hR_rate ⟨Nat.le_of_ble_eq_true rfl, Nat.le_of_ble_eq_true rfl⟩, (hT _ w701), (hT _ w702)⟩ (RW.preV (ci := 0) (q0 := 0) hZ hS (va_free (wc := [(x, .inr (0, [.ref xT, .ref xP, .ref xR, .ref xG, .ref xF, .int tc, .ref xO, .ref xS, .ref xL, .ref xC, .ref xQ, .ref xU, .ref xW])), (xP, .inr (3, [.int pd, .int pl, .int pw, .int pu, .int pv, .long ps, .int pc0]))]) hD hS hA [0, 1] rfl) (hP.sub (ws' := [(x, .inr (0, [.ref xT, .ref xP, .ref xR, .ref xG, .ref xF, .int tc, .ref xO, .ref xS, .ref xL, .ref xC, .ref xQ, .ref xU, .ref xW])), (xP, .inr (3, [.int pd, .int pl, .int pw, .int pu, .int pv, .long ps, .int pc0]))]) [0, 1] rfl) hK (hD.sub (ws' := [(x, .inr (0, [.ref xT, .ref xP, .ref xR, .ref xG, .ref xF, .int tc, .ref xO, .ref xS, .ref xL, .ref xC, .ref xQ, .ref xU, .ref xW])), (xP, .inr (3, [.int pd, .int pl, .int pw, .int pu, .int pv, .long ps, .int pc0]))]) [0, 1] (by decide) rfl) rfl rfl) rfl rfl hl.1 rfl (lv_room (Nat.le_of_ble_eq_true rfl)) dL_rate_3 ⟨Nat.le_of_ble_eq_true rfl, Nat.le_of_ble_eq_true rfl⟩) (fun u1 H locs hpu1 hP hD hS => ?_)
  have hP : va_P D vwCl [(x, .inr (0, [.ref xT, .ref xP, .ref xR, .ref xG, .ref xF, .int tc, .ref xO, .ref xS, .ref xL, .ref xC, .ref xQ, .ref xU, .ref xW])), (xP, .inr (3, [.int pd, .int pl, .int pw, .int a1, .int a2, .long ps, .int pc0]))] H := hP
  have hD : va_D A [(x, .inr (0, [.ref xT, .ref xP, .ref xR, .ref xG, .ref xF, .int tc, .ref xO, .ref xS, .ref xL, .ref xC, .ref xQ, .ref xU, .ref xW])), (xP, .inr (3, [.int pd, .int pl, .int pw, .int a1, .int a2, .long ps, .int pc0]))] := hD
  refine lv_goto (tgt := 12) hx hb dL_rate_6 rfl ?_
  refine lv_iconst (v := 0) hx hb dL_rate_12 (by decide) ?_
  have hP9 := hP.sub (ws' := []) [] rfl
  have hD9 := hD.sub (ws' := []) [] (by decide) rfl
  refine W.widen (k := 0) (n := 0) (Nat.le_of_ble_eq_true rfl) (Nat.le_of_ble_eq_true rfl) ?_
  exact W.iret (v := 0) hx hb hr (fun t ht hW => ⟨⟨0, (fun _ => 0), rfl, rfl, by rw [ht]; exact hP9, hD9⟩, hS.F ht⟩) hS.2.2 dL_rate_13
set_option maxHeartbeats 4000000 in
set_option maxRecDepth 100000 in
theorem l_add_no (l : Launch) (D : va_G) (cT : Nat → ClassId) (x : Nat) (xT : Nat) (xP : Nat) (xR : Nat) (xG : Nat) (xF : Nat) (tc : Int32) (xO : Nat) (xS : Nat) (xL : Nat) (xC : Nat) (xQ : Nat) (xU : Nat) (xW : Nat) (a1 : Int32) (zo : Nat) (hlt : l.stackTraces = false) (hq : ¬ ((-1000) ≤ a1 ∧ a1 ≤ 1000)) (sz : Nat) : Met l yL_add WL_add ({ frames := 8, cells := 1, slots := 6, locals := 132 } : Room) (RW D vwCl [.ref x, .int a1, .ref zo] [(x, .inr (0, [.ref xT, .ref xP, .ref xR, .ref xG, .ref xF, .int tc, .ref xO, .ref xS, .ref xL, .ref xC, .ref xQ, .ref xU, .ref xW]))] (TY cT) sz) (va_Qi (fun (r : Int32) (_ : Nat → Nat) => r = 1) (BW D vwCl (va_A [(x, .inr (0, [.ref xT, .ref xP, .ref xR, .ref xG, .ref xF, .int tc, .ref xO, .ref xS, .ref xL, .ref xC, .ref xQ, .ref xU, .ref xW]))] sz) (fun u => [])) (va_A [(x, .inr (0, [.ref xT, .ref xP, .ref xR, .ref xG, .ref xF, .int tc, .ref xO, .ref xS, .ref xL, .ref xC, .ref xQ, .ref xU, .ref xW]))] sz)) 1 6 (va_A [(x, .inr (0, [.ref xT, .ref xP, .ref xR, .ref xG, .ref xF, .int tc, .ref xO, .ref xS, .ref xL, .ref xC, .ref xQ, .ref xU, .ref xW]))] sz) := by
  refine va_MetW (hh := [(0, 9, 12, 13), (0, 9, 15, 19)]) (cc := cL_add) (maxL := 4) (ret := (some .int)) (by decide) rfl ?_
  intro p e s m args below meth c s₁ B hml hv
  obtain ⟨rfl, hsz, hZ, hP, hK, hD0⟩ := hv
  have hx := B.exec
  have hb := B.bytes
  have hr := B.returns
  have hts := atoms_spec (ws := WL_add) B.pre
  have hT : ∀ w ∈ TB, w.before _ s = true := fun w h => hts w (List.mem_cons_of_mem _ h)
  have hown : s.vm.findClass R_L = some m.cls := findClass_of_methodNamed B.named
  have htab := tx_table B (bytes := cL_add) (maxL := 4) (ret := (some .int)) (hh := [(0, 9, 12, 13), (0, 9, 15, 19)]) (hts _ List.mem_cons_self)
  subst hsz
  have hD := hD0.self (sz := s.heap.size)
  generalize hAe : va_A [(x, .inr (0, [.ref xT, .ref xP, .ref xR, .ref xG, .ref xF, .int tc, .ref xO, .ref xS, .ref xL, .ref xC, .ref xQ, .ref xU, .ref xW]))] s.heap.size = A at hD hZ ⊢
  have hA : ∀ q : Nat, s.heap.size ≤ q → A q := fun q h => by rw [← hAe]; exact Or.inr h
  have hS : va_S A s.heap s.heap [] := va_S.rf
  have hl := lv_entry ([.ref x, .int a1, .ref zo]) (n := 4) (Nat.le_of_ble_eq_true rfl)
  rw [lg_entry_eq]
  generalize (lg_sl ([.ref x, .int a1, .ref zo]) ++ List.replicate (4 - (lg_sl ([.ref x, .int a1, .ref zo])).length) Slot.unset).toArray = ls at hl ⊢
  have hl : lv_has ls 4 [(0, .ref x), (1, .int a1), (2, .ref zo)] := hl
  refine lv_aload_n hx hb dL_add_0 rfl (lv_at hl 2 rfl) ?_
  refine lv_iconst (v := 0) hx hb dL_add_1 (by decide) ?_
  refine lv_aload_n hx hb dL_add_2 rfl (lv_at hl 0 rfl) ?_
  refine lv_iload_n hx hb dL_add_3 rfl (lv_at hl 1 rfl) ?_
  refine tx_catch1 (name := "java/lang/IllegalArgumentException") (tx_goV (As := [.int a1]) (rest := [.int 0, .ref zo]) ⟨hx, hb, hml, hown, hT⟩ (k_add_no l D cT x xT xP xR xG xF tc xO xS xL xC xQ xU xW a1 hlt hq) ⟨callB_of 1 hT (tb_gd w580) rfl rfl rfl (hT _ w1) (hT _ w577) hR_add ⟨Nat.le_of_ble_eq_true rfl, Nat.le_of_ble_eq_true rfl⟩, (hT _ w578), (hT _ w579)⟩ (RO.preV (ci := 0) (q0 := 0) hZ hS (hP.sub (ws' := [(x, .inr (0, [.ref xT, .ref xP, .ref xR, .ref xG, .ref xF, .int tc, .ref xO, .ref xS, .ref xL, .ref xC, .ref xQ, .ref xU, .ref xW]))]) [0] rfl) hK rfl rfl) rfl hl.1 rfl (Nat.le_of_ble_eq_true rfl) dL_add_4 ⟨Nat.le_of_ble_eq_true rfl, Nat.le_of_ble_eq_true rfl⟩) hown htab rfl (by decide) (hT _ w503) (tc_c rfl (hZ.1.1 ("java/lang/IllegalArgumentException", "java/lang/IllegalArgumentException") (List.mem_of_getElem? (i := 0) rfl))) (fun q H1 hsz9 hag9 => ?_)
  have hP := tc_P hP hag9
  have hS := tc_S hS hsz9 hag9
  refine W.eq (g2 := F0 m 12 ls [.ref q]) rfl ?_
  refine lv_astore_n hx hb dL_add_12 rfl hl (by decide) rfl (fun ls hl => ?_)
  have hl : lv_has ls 4 [(3, .ref q), (0, .ref x), (1, .int a1), (2, .ref zo)] := hl
  refine lv_iconst (v := 1) hx hb dL_add_13 (by decide) ?_
  have hP9 := hP.sub (ws' := []) [] rfl
  have hD9 := hD.sub (ws' := []) [] (by decide) rfl
  refine W.widen (k := 1) (n := 6) (Nat.le_of_ble_eq_true rfl) (Nat.le_of_ble_eq_true rfl) ?_
  exact W.iret (v := 1) hx hb hr (fun t ht hW => ⟨⟨1, (fun _ => 0), rfl, rfl, by rw [ht]; exact hP9, hD9⟩, hS.F ht⟩) hS.2.2 dL_add_14
set_option maxHeartbeats 4000000 in
set_option maxRecDepth 100000 in
theorem l_put_no (l : Launch) (D : va_G) (cT : Nat → ClassId) (x : Nat) (xT : Nat) (xP : Nat) (xR : Nat) (xG : Nat) (xF : Nat) (tc : Int32) (xO : Nat) (xS : Nat) (xL : Nat) (xC : Nat) (xQ : Nat) (xU : Nat) (xW : Nat) (ca : Nat) (ta : Nat) (w : Int32) (r : Int32) (a1 : Int32) (a2 : Int32) (a3 : Int32) (zo : Nat) (hlt : l.stackTraces = false) (hq : ¬ ((0 ≤ a1 ∧ a1 ≤ r - 1) ∧ (0 ≤ a2 ∧ a2 ≤ w - 1))) (sz : Nat) : Met l yL_put WL_put ({ frames := 8, cells := 1, slots := 6, locals := 134 } : Room) (RW D vwCl [.ref x, .int a1, .int a2, .int a3, .ref zo] [(x, .inr (0, [.ref xT, .ref xP, .ref xR, .ref xG, .ref xF, .int tc, .ref xO, .ref xS, .ref xL, .ref xC, .ref xQ, .ref xU, .ref xW])), (xT, .inr (2, [.ref ca, .ref ta, .int w, .int r]))] (TY cT) sz) (va_Qi (fun (r : Int32) (_ : Nat → Nat) => r = 1) (BW D vwCl (va_A [(x, .inr (0, [.ref xT, .ref xP, .ref xR, .ref xG, .ref xF, .int tc, .ref xO, .ref xS, .ref xL, .ref xC, .ref xQ, .ref xU, .ref xW])), (xT, .inr (2, [.ref ca, .ref ta, .int w, .int r]))] sz) (fun u => [])) (va_A [(x, .inr (0, [.ref xT, .ref xP, .ref xR, .ref xG, .ref xF, .int tc, .ref xO, .ref xS, .ref xL, .ref xC, .ref xQ, .ref xU, .ref xW])), (xT, .inr (2, [.ref ca, .ref ta, .int w, .int r]))] sz)) 1 6 (va_A [(x, .inr (0, [.ref xT, .ref xP, .ref xR, .ref xG, .ref xF, .int tc, .ref xO, .ref xS, .ref xL, .ref xC, .ref xQ, .ref xU, .ref xW])), (xT, .inr (2, [.ref ca, .ref ta, .int w, .int r]))] sz) := by
  refine va_MetW (hh := [(0, 12, 15, 13)]) (cc := cL_put) (maxL := 6) (ret := (some .int)) (by decide) rfl ?_
  intro p e s m args below meth c s₁ B hml hv
  obtain ⟨rfl, hsz, hZ, hP, hK, hD0⟩ := hv
  have hx := B.exec
  have hb := B.bytes
  have hr := B.returns
  have hts := atoms_spec (ws := WL_put) B.pre
  have hT : ∀ w ∈ TB, w.before _ s = true := fun w h => hts w (List.mem_cons_of_mem _ h)
  have hown : s.vm.findClass R_L = some m.cls := findClass_of_methodNamed B.named
  have htab := tx_table B (bytes := cL_put) (maxL := 6) (ret := (some .int)) (hh := [(0, 12, 15, 13)]) (hts _ List.mem_cons_self)
  subst hsz
  have hD := hD0.self (sz := s.heap.size)
  generalize hAe : va_A [(x, .inr (0, [.ref xT, .ref xP, .ref xR, .ref xG, .ref xF, .int tc, .ref xO, .ref xS, .ref xL, .ref xC, .ref xQ, .ref xU, .ref xW])), (xT, .inr (2, [.ref ca, .ref ta, .int w, .int r]))] s.heap.size = A at hD hZ ⊢
  have hA : ∀ q : Nat, s.heap.size ≤ q → A q := fun q h => by rw [← hAe]; exact Or.inr h
  have hS : va_S A s.heap s.heap [] := va_S.rf
  have hl := lv_entry ([.ref x, .int a1, .int a2, .int a3, .ref zo]) (n := 6) (Nat.le_of_ble_eq_true rfl)
  rw [lg_entry_eq]
  generalize (lg_sl ([.ref x, .int a1, .int a2, .int a3, .ref zo]) ++ List.replicate (6 - (lg_sl ([.ref x, .int a1, .int a2, .int a3, .ref zo])).length) Slot.unset).toArray = ls at hl ⊢
  have hl : lv_has ls 6 [(0, .ref x), (1, .int a1), (2, .int a2), (3, .int a3), (4, .ref zo)] := hl
  refine lv_aload hx hb dL_put_0 (lv_at hl 4 rfl) ?_
  refine lv_iconst (v := 0) hx hb dL_put_2 (by decide) ?_
  refine lv_aload_n hx hb dL_put_3 rfl (lv_at hl 0 rfl) ?_
  refine lv_iload_n hx hb dL_put_4 rfl (lv_at hl 1 rfl) ?_
  refine lv_iload_n hx hb dL_put_5 rfl (lv_at hl 2 rfl) ?_
  refine lv_iload_n hx hb dL_put_6 rfl (lv_at hl 3 rfl) ?_
  refine tx_catch1 (name := "java/lang/IllegalArgumentException") (tx_goV (As := [.int a1, .int a2, .int a3]) (rest := [.int 0, .ref zo]) ⟨hx, hb, hml, hown, hT⟩ (k_put_no l D cT x xT xP xR xG xF tc xO xS xL xC xQ xU xW ca ta w r a1 a2 a3 hlt hq) ⟨callB_of 3 hT (tb_gd w612) rfl rfl rfl (hT _ w1) (hT _ w609) hR_put ⟨Nat.le_of_ble_eq_true rfl, Nat.le_of_ble_eq_true rfl⟩, (hT _ w610), (hT _ w611)⟩ (RO.preV (ci := 0) (q0 := 0) hZ hS (hP.sub (ws' := [(x, .inr (0, [.ref xT, .ref xP, .ref xR, .ref xG, .ref xF, .int tc, .ref xO, .ref xS, .ref xL, .ref xC, .ref xQ, .ref xU, .ref xW])), (xT, .inr (2, [.ref ca, .ref ta, .int w, .int r]))]) [0, 1] rfl) hK rfl rfl) rfl hl.1 rfl (Nat.le_of_ble_eq_true rfl) dL_put_7 ⟨Nat.le_of_ble_eq_true rfl, Nat.le_of_ble_eq_true rfl⟩) hown htab rfl (by decide) (hT _ w503) (tc_c rfl (hZ.1.1 ("java/lang/IllegalArgumentException", "java/lang/IllegalArgumentException") (List.mem_of_getElem? (i := 0) rfl))) (fun q H1 hsz9 hag9 => ?_)
  have hP := tc_P hP hag9
  have hS := tc_S hS hsz9 hag9
  refine W.eq (g2 := F0 m 15 ls [.ref q]) rfl ?_
  refine lv_astore hx hb dL_put_15 hl (by decide) rfl (fun ls hl => ?_)
  have hl : lv_has ls 6 [(5, .ref q), (0, .ref x), (1, .int a1), (2, .int a2), (3, .int a3), (4, .ref zo)] := hl
  refine lv_iconst (v := 1) hx hb dL_put_17 (by decide) ?_
  have hP9 := hP.sub (ws' := []) [] rfl
  have hD9 := hD.sub (ws' := []) [] (by decide) rfl
  refine W.widen (k := 1) (n := 6) (Nat.le_of_ble_eq_true rfl) (Nat.le_of_ble_eq_true rfl) ?_
  exact W.iret (v := 1) hx hb hr (fun t ht hW => ⟨⟨1, (fun _ => 0), rfl, rfl, by rw [ht]; exact hP9, hD9⟩, hS.F ht⟩) hS.2.2 dL_put_18
set_option maxHeartbeats 4000000 in
set_option maxRecDepth 100000 in
theorem l_target_no (l : Launch) (D : va_G) (cT : Nat → ClassId) (x : Nat) (xT : Nat) (xP : Nat) (xR : Nat) (xG : Nat) (xF : Nat) (tc : Int32) (xO : Nat) (xS : Nat) (xL : Nat) (xC : Nat) (xQ : Nat) (xU : Nat) (xW : Nat) (ca : Nat) (ta : Nat) (w : Int32) (r : Int32) (a1 : Int32) (a2 : Int32) (zo : Nat) (hlt : l.stackTraces = false) (hq : ¬ ((0 ≤ a1 ∧ a1 ≤ r - 1) ∧ ((-1000) ≤ a2 ∧ a2 ≤ 1000))) (sz : Nat) : Met l yL_target WL_target ({ frames := 8, cells := 1, slots := 6, locals := 134 } : Room) (RW D vwCl [.ref x, .int a1, .int a2, .ref zo] [(x, .inr (0, [.ref xT, .ref xP, .ref xR, .ref xG, .ref xF, .int tc, .ref xO, .ref xS, .ref xL, .ref xC, .ref xQ, .ref xU, .ref xW])), (xT, .inr (2, [.ref ca, .ref ta, .int w, .int r]))] (TY cT) sz) (va_Qi (fun (r : Int32) (_ : Nat → Nat) => r = 1) (BW D vwCl (va_A [(x, .inr (0, [.ref xT, .ref xP, .ref xR, .ref xG, .ref xF, .int tc, .ref xO, .ref xS, .ref xL, .ref xC, .ref xQ, .ref xU, .ref xW])), (xT, .inr (2, [.ref ca, .ref ta, .int w, .int r]))] sz) (fun u => [])) (va_A [(x, .inr (0, [.ref xT, .ref xP, .ref xR, .ref xG, .ref xF, .int tc, .ref xO, .ref xS, .ref xL, .ref xC, .ref xQ, .ref xU, .ref xW])), (xT, .inr (2, [.ref ca, .ref ta, .int w, .int r]))] sz)) 1 6 (va_A [(x, .inr (0, [.ref xT, .ref xP, .ref xR, .ref xG, .ref xF, .int tc, .ref xO, .ref xS, .ref xL, .ref xC, .ref xQ, .ref xU, .ref xW])), (xT, .inr (2, [.ref ca, .ref ta, .int w, .int r]))] sz) := by
  refine va_MetW (hh := [(0, 10, 13, 13)]) (cc := cL_target) (maxL := 5) (ret := (some .int)) (by decide) rfl ?_
  intro p e s m args below meth c s₁ B hml hv
  obtain ⟨rfl, hsz, hZ, hP, hK, hD0⟩ := hv
  have hx := B.exec
  have hb := B.bytes
  have hr := B.returns
  have hts := atoms_spec (ws := WL_target) B.pre
  have hT : ∀ w ∈ TB, w.before _ s = true := fun w h => hts w (List.mem_cons_of_mem _ h)
  have hown : s.vm.findClass R_L = some m.cls := findClass_of_methodNamed B.named
  have htab := tx_table B (bytes := cL_target) (maxL := 5) (ret := (some .int)) (hh := [(0, 10, 13, 13)]) (hts _ List.mem_cons_self)
  subst hsz
  have hD := hD0.self (sz := s.heap.size)
  generalize hAe : va_A [(x, .inr (0, [.ref xT, .ref xP, .ref xR, .ref xG, .ref xF, .int tc, .ref xO, .ref xS, .ref xL, .ref xC, .ref xQ, .ref xU, .ref xW])), (xT, .inr (2, [.ref ca, .ref ta, .int w, .int r]))] s.heap.size = A at hD hZ ⊢
  have hA : ∀ q : Nat, s.heap.size ≤ q → A q := fun q h => by rw [← hAe]; exact Or.inr h
  have hS : va_S A s.heap s.heap [] := va_S.rf
  have hl := lv_entry ([.ref x, .int a1, .int a2, .ref zo]) (n := 5) (Nat.le_of_ble_eq_true rfl)
  rw [lg_entry_eq]
  generalize (lg_sl ([.ref x, .int a1, .int a2, .ref zo]) ++ List.replicate (5 - (lg_sl ([.ref x, .int a1, .int a2, .ref zo])).length) Slot.unset).toArray = ls at hl ⊢
  have hl : lv_has ls 5 [(0, .ref x), (1, .int a1), (2, .int a2), (3, .ref zo)] := hl
  refine lv_aload_n hx hb dL_target_0 rfl (lv_at hl 3 rfl) ?_
  refine lv_iconst (v := 0) hx hb dL_target_1 (by decide) ?_
  refine lv_aload_n hx hb dL_target_2 rfl (lv_at hl 0 rfl) ?_
  refine lv_iload_n hx hb dL_target_3 rfl (lv_at hl 1 rfl) ?_
  refine lv_iload_n hx hb dL_target_4 rfl (lv_at hl 2 rfl) ?_
  refine tx_catch1 (name := "java/lang/IllegalArgumentException") (tx_goV (As := [.int a1, .int a2]) (rest := [.int 0, .ref zo]) ⟨hx, hb, hml, hown, hT⟩ (k_target_no l D cT x xT xP xR xG xF tc xO xS xL xC xQ xU xW ca ta w r a1 a2 hlt hq) ⟨callB_of 2 hT (tb_gd w643) rfl rfl rfl (hT _ w1) (hT _ w640) hR_target ⟨Nat.le_of_ble_eq_true rfl, Nat.le_of_ble_eq_true rfl⟩, (hT _ w641), (hT _ w642)⟩ (RO.preV (ci := 0) (q0 := 0) hZ hS (hP.sub (ws' := [(x, .inr (0, [.ref xT, .ref xP, .ref xR, .ref xG, .ref xF, .int tc, .ref xO, .ref xS, .ref xL, .ref xC, .ref xQ, .ref xU, .ref xW])), (xT, .inr (2, [.ref ca, .ref ta, .int w, .int r]))]) [0, 1] rfl) hK rfl rfl) rfl hl.1 rfl (Nat.le_of_ble_eq_true rfl) dL_target_5 ⟨Nat.le_of_ble_eq_true rfl, Nat.le_of_ble_eq_true rfl⟩) hown htab rfl (by decide) (hT _ w503) (tc_c rfl (hZ.1.1 ("java/lang/IllegalArgumentException", "java/lang/IllegalArgumentException") (List.mem_of_getElem? (i := 0) rfl))) (fun q H1 hsz9 hag9 => ?_)
  have hP := tc_P hP hag9
  have hS := tc_S hS hsz9 hag9
  refine W.eq (g2 := F0 m 13 ls [.ref q]) rfl ?_
  refine lv_astore hx hb dL_target_13 hl (by decide) rfl (fun ls hl => ?_)
  have hl : lv_has ls 5 [(4, .ref q), (0, .ref x), (1, .int a1), (2, .int a2), (3, .ref zo)] := hl
  refine lv_iconst (v := 1) hx hb dL_target_15 (by decide) ?_
  have hP9 := hP.sub (ws' := []) [] rfl
  have hD9 := hD.sub (ws' := []) [] (by decide) rfl
  refine W.widen (k := 1) (n := 6) (Nat.le_of_ble_eq_true rfl) (Nat.le_of_ble_eq_true rfl) ?_
  exact W.iret (v := 1) hx hb hr (fun t ht hW => ⟨⟨1, (fun _ => 0), rfl, rfl, by rw [ht]; exact hP9, hD9⟩, hS.F ht⟩) hS.2.2 dL_target_16
set_option maxHeartbeats 4000000 in
set_option maxRecDepth 100000 in
theorem l_kinds_no (l : Launch) (D : va_G) (cT : Nat → ClassId) (x : Nat) (xT : Nat) (xP : Nat) (xR : Nat) (xG : Nat) (xF : Nat) (tc : Int32) (xO : Nat) (xS : Nat) (xL : Nat) (xC : Nat) (xQ : Nat) (xU : Nat) (xW : Nat) (ca : Nat) (ta : Nat) (w : Int32) (r : Int32) (a1 : Int32) (a2 : Int32) (zo : Nat) (hlt : l.stackTraces = false) (hq : ¬ (0 ≤ a1 ∧ a1 ≤ w - 1)) (sz : Nat) : Met l yL_kinds WL_kinds ({ frames := 8, cells := 1, slots := 6, locals := 133 } : Room) (RW D vwCl [.ref x, .int a1, .int a2, .ref zo] [(x, .inr (0, [.ref xT, .ref xP, .ref xR, .ref xG, .ref xF, .int tc, .ref xO, .ref xS, .ref xL, .ref xC, .ref xQ, .ref xU, .ref xW])), (xT, .inr (2, [.ref ca, .ref ta, .int w, .int r]))] (TY cT) sz) (va_Qi (fun (r : Int32) (_ : Nat → Nat) => r = 1) (BW D vwCl (va_A [(x, .inr (0, [.ref xT, .ref xP, .ref xR, .ref xG, .ref xF, .int tc, .ref xO, .ref xS, .ref xL, .ref xC, .ref xQ, .ref xU, .ref xW])), (xT, .inr (2, [.ref ca, .ref ta, .int w, .int r]))] sz) (fun u => [])) (va_A [(x, .inr (0, [.ref xT, .ref xP, .ref xR, .ref xG, .ref xF, .int tc, .ref xO, .ref xS, .ref xL, .ref xC, .ref xQ, .ref xU, .ref xW])), (xT, .inr (2, [.ref ca, .ref ta, .int w, .int r]))] sz)) 1 6 (va_A [(x, .inr (0, [.ref xT, .ref xP, .ref xR, .ref xG, .ref xF, .int tc, .ref xO, .ref xS, .ref xL, .ref xC, .ref xQ, .ref xU, .ref xW])), (xT, .inr (2, [.ref ca, .ref ta, .int w, .int r]))] sz) := by
  refine va_MetW (hh := [(0, 17, 20, 13), (0, 17, 24, 19)]) (cc := cL_kinds) (maxL := 5) (ret := (some .int)) (by decide) rfl ?_
  intro p e s m args below meth c s₁ B hml hv
  obtain ⟨rfl, hsz, hZ, hP, hK, hD0⟩ := hv
  have hx := B.exec
  have hb := B.bytes
  have hr := B.returns
  have hts := atoms_spec (ws := WL_kinds) B.pre
  have hT : ∀ w ∈ TB, w.before _ s = true := fun w h => hts w (List.mem_cons_of_mem _ h)
  have hown : s.vm.findClass R_L = some m.cls := findClass_of_methodNamed B.named
  have htab := tx_table B (bytes := cL_kinds) (maxL := 5) (ret := (some .int)) (hh := [(0, 17, 20, 13), (0, 17, 24, 19)]) (hts _ List.mem_cons_self)
  subst hsz
  have hD := hD0.self (sz := s.heap.size)
  generalize hAe : va_A [(x, .inr (0, [.ref xT, .ref xP, .ref xR, .ref xG, .ref xF, .int tc, .ref xO, .ref xS, .ref xL, .ref xC, .ref xQ, .ref xU, .ref xW])), (xT, .inr (2, [.ref ca, .ref ta, .int w, .int r]))] s.heap.size = A at hD hZ ⊢
  have hA : ∀ q : Nat, s.heap.size ≤ q → A q := fun q h => by rw [← hAe]; exact Or.inr h
  have hS : va_S A s.heap s.heap [] := va_S.rf
  have hl := lv_entry ([.ref x, .int a1, .int a2, .ref zo]) (n := 5) (Nat.le_of_ble_eq_true rfl)
  rw [lg_entry_eq]
  generalize (lg_sl ([.ref x, .int a1, .int a2, .ref zo]) ++ List.replicate (5 - (lg_sl ([.ref x, .int a1, .int a2, .ref zo])).length) Slot.unset).toArray = ls at hl ⊢
  have hl : lv_has ls 5 [(0, .ref x), (1, .int a1), (2, .int a2), (3, .ref zo)] := hl
  refine lv_aload_n hx hb dL_kinds_0 rfl (lv_at hl 3 rfl) ?_
  refine lv_iconst (v := 0) hx hb dL_kinds_1 (by decide) ?_
  refine lv_aload_n hx hb dL_kinds_2 rfl (lv_at hl 0 rfl) ?_
  refine lv_iload_n hx hb dL_kinds_3 rfl (lv_at hl 1 rfl) ?_
  refine lv_iload_n hx hb dL_kinds_4 rfl (lv_at hl 2 rfl) ?_
  refine tx_catch1 (name := "java/lang/IllegalArgumentException") (tx_goV (As := [.int a1, .int a2]) (rest := [.int 0, .ref zo]) ⟨hx, hb, hml, hown, hT⟩ (k_kinds_no l D cT x xT xP xR xG xF tc xO xS xL xC xQ xU xW ca ta w r a1 a2 hlt hq) ⟨callB_of 2 hT (tb_gd w650) rfl rfl rfl (hT _ w1) (hT _ w647) hR_kinds ⟨Nat.le_of_ble_eq_true rfl, Nat.le_of_ble_eq_true rfl⟩, (hT _ w648), (hT _ w649)⟩ (RO.preV (ci := 0) (q0 := 0) hZ hS (hP.sub (ws' := [(x, .inr (0, [.ref xT, .ref xP, .ref xR, .ref xG, .ref xF, .int tc, .ref xO, .ref xS, .ref xL, .ref xC, .ref xQ, .ref xU, .ref xW])), (xT, .inr (2, [.ref ca, .ref ta, .int w, .int r]))]) [0, 1] rfl) hK rfl rfl) rfl hl.1 rfl (Nat.le_of_ble_eq_true rfl) dL_kinds_5 ⟨Nat.le_of_ble_eq_true rfl, Nat.le_of_ble_eq_true rfl⟩) hown htab rfl (by decide) (hT _ w503) (tc_c rfl (hZ.1.1 ("java/lang/IllegalArgumentException", "java/lang/IllegalArgumentException") (List.mem_of_getElem? (i := 0) rfl))) (fun q H1 hsz9 hag9 => ?_)
  have hP := tc_P hP hag9
  have hS := tc_S hS hsz9 hag9
  refine W.eq (g2 := F0 m 20 ls [.ref q]) rfl ?_
  refine lv_astore hx hb dL_kinds_20 hl (by decide) rfl (fun ls hl => ?_)
  have hl : lv_has ls 5 [(4, .ref q), (0, .ref x), (1, .int a1), (2, .int a2), (3, .ref zo)] := hl
  refine lv_iconst (v := 1) hx hb dL_kinds_22 (by decide) ?_
  have hP9 := hP.sub (ws' := []) [] rfl
  have hD9 := hD.sub (ws' := []) [] (by decide) rfl
  refine W.widen (k := 1) (n := 6) (Nat.le_of_ble_eq_true rfl) (Nat.le_of_ble_eq_true rfl) ?_
  exact W.iret (v := 1) hx hb hr (fun t ht hW => ⟨⟨1, (fun _ => 0), rfl, rfl, by rw [ht]; exact hP9, hD9⟩, hS.F ht⟩) hS.2.2 dL_kinds_23
set_option maxHeartbeats 4000000 in
set_option maxRecDepth 100000 in
theorem l_cut_no (l : Launch) (D : va_G) (cT : Nat → ClassId) (x : Nat) (xT : Nat) (xP : Nat) (xR : Nat) (xG : Nat) (xF : Nat) (tc : Int32) (xO : Nat) (xS : Nat) (xL : Nat) (xC : Nat) (xQ : Nat) (xU : Nat) (xW : Nat) (ca : Nat) (ta : Nat) (w : Int32) (r : Int32) (a1 : Int32) (a2 : Int32) (a3 : Int32) (zo : Nat) (hlt : l.stackTraces = false) (hq : ¬ ((0 ≤ a1 ∧ a1 ≤ w - 1) ∧ (2 ≤ a3 ∧ a3 ≤ 12))) (sz : Nat) : Met l yL_cut WL_cut ({ frames := 8, cells := 1, slots := 6, locals := 135 } : Room) (RW D vwCl [.ref x, .int a1, .int a2, .int a3, .ref zo] [(x, .inr (0, [.ref xT, .ref xP, .ref xR, .ref xG, .ref xF, .int tc, .ref xO, .ref xS, .ref xL, .ref xC, .ref xQ, .ref xU, .ref xW])), (xT, .inr (2, [.ref ca, .ref ta, .int w, .int r]))] (TY cT) sz) (va_Qi (fun (r : Int32) (_ : Nat → Nat) => r = 1) (BW D vwCl (va_A [(x, .inr (0, [.ref xT, .ref xP, .ref xR, .ref xG, .ref xF, .int tc, .ref xO, .ref xS, .ref xL, .ref xC, .ref xQ, .ref xU, .ref xW])), (xT, .inr (2, [.ref ca, .ref ta, .int w, .int r]))] sz) (fun u => [])) (va_A [(x, .inr (0, [.ref xT, .ref xP, .ref xR, .ref xG, .ref xF, .int tc, .ref xO, .ref xS, .ref xL, .ref xC, .ref xQ, .ref xU, .ref xW])), (xT, .inr (2, [.ref ca, .ref ta, .int w, .int r]))] sz)) 1 6 (va_A [(x, .inr (0, [.ref xT, .ref xP, .ref xR, .ref xG, .ref xF, .int tc, .ref xO, .ref xS, .ref xL, .ref xC, .ref xQ, .ref xU, .ref xW])), (xT, .inr (2, [.ref ca, .ref ta, .int w, .int r]))] sz) := by
  refine va_MetW (hh := [(0, 12, 15, 13), (0, 12, 19, 19)]) (cc := cL_cut) (maxL := 6) (ret := (some .int)) (by decide) rfl ?_
  intro p e s m args below meth c s₁ B hml hv
  obtain ⟨rfl, hsz, hZ, hP, hK, hD0⟩ := hv
  have hx := B.exec
  have hb := B.bytes
  have hr := B.returns
  have hts := atoms_spec (ws := WL_cut) B.pre
  have hT : ∀ w ∈ TB, w.before _ s = true := fun w h => hts w (List.mem_cons_of_mem _ h)
  have hown : s.vm.findClass R_L = some m.cls := findClass_of_methodNamed B.named
  have htab := tx_table B (bytes := cL_cut) (maxL := 6) (ret := (some .int)) (hh := [(0, 12, 15, 13), (0, 12, 19, 19)]) (hts _ List.mem_cons_self)
  subst hsz
  have hD := hD0.self (sz := s.heap.size)
  generalize hAe : va_A [(x, .inr (0, [.ref xT, .ref xP, .ref xR, .ref xG, .ref xF, .int tc, .ref xO, .ref xS, .ref xL, .ref xC, .ref xQ, .ref xU, .ref xW])), (xT, .inr (2, [.ref ca, .ref ta, .int w, .int r]))] s.heap.size = A at hD hZ ⊢
  have hA : ∀ q : Nat, s.heap.size ≤ q → A q := fun q h => by rw [← hAe]; exact Or.inr h
  have hS : va_S A s.heap s.heap [] := va_S.rf
  have hl := lv_entry ([.ref x, .int a1, .int a2, .int a3, .ref zo]) (n := 6) (Nat.le_of_ble_eq_true rfl)
  rw [lg_entry_eq]
  generalize (lg_sl ([.ref x, .int a1, .int a2, .int a3, .ref zo]) ++ List.replicate (6 - (lg_sl ([.ref x, .int a1, .int a2, .int a3, .ref zo])).length) Slot.unset).toArray = ls at hl ⊢
  have hl : lv_has ls 6 [(0, .ref x), (1, .int a1), (2, .int a2), (3, .int a3), (4, .ref zo)] := hl
  refine lv_aload hx hb dL_cut_0 (lv_at hl 4 rfl) ?_
  refine lv_iconst (v := 0) hx hb dL_cut_2 (by decide) ?_
  refine lv_aload_n hx hb dL_cut_3 rfl (lv_at hl 0 rfl) ?_
  refine lv_iload_n hx hb dL_cut_4 rfl (lv_at hl 1 rfl) ?_
  refine lv_iload_n hx hb dL_cut_5 rfl (lv_at hl 2 rfl) ?_
  refine lv_iload_n hx hb dL_cut_6 rfl (lv_at hl 3 rfl) ?_
  refine tx_catch1 (name := "java/lang/IllegalArgumentException") (tx_goV (As := [.int a1, .int a2, .int a3]) (rest := [.int 0, .ref zo]) ⟨hx, hb, hml, hown, hT⟩ (k_cut_no l D cT x xT xP xR xG xF tc xO xS xL xC xQ xU xW ca ta w r a1 a2 a3 hlt hq) ⟨callB_of 3 hT (tb_gd w662) rfl rfl rfl (hT _ w1) (hT _ w659) hR_cut ⟨Nat.le_of_ble_eq_true rfl, Nat.le_of_ble_eq_true rfl⟩, (hT _ w660), (hT _ w661)⟩ (RO.preV (ci := 0) (q0 := 0) hZ hS (hP.sub (ws' := [(x, .inr (0, [.ref xT, .ref xP, .ref xR, .ref xG, .ref xF, .int tc, .ref xO, .ref xS, .ref xL, .ref xC, .ref xQ, .ref xU, .ref xW])), (xT, .inr (2, [.ref ca, .ref ta, .int w, .int r]))]) [0, 1] rfl) hK rfl rfl) rfl hl.1 rfl (Nat.le_of_ble_eq_true rfl) dL_cut_7 ⟨Nat.le_of_ble_eq_true rfl, Nat.le_of_ble_eq_true rfl⟩) hown htab rfl (by decide) (hT _ w503) (tc_c rfl (hZ.1.1 ("java/lang/IllegalArgumentException", "java/lang/IllegalArgumentException") (List.mem_of_getElem? (i := 0) rfl))) (fun q H1 hsz9 hag9 => ?_)
  have hP := tc_P hP hag9
  have hS := tc_S hS hsz9 hag9
  refine W.eq (g2 := F0 m 15 ls [.ref q]) rfl ?_
  refine lv_astore hx hb dL_cut_15 hl (by decide) rfl (fun ls hl => ?_)
  have hl : lv_has ls 6 [(5, .ref q), (0, .ref x), (1, .int a1), (2, .int a2), (3, .int a3), (4, .ref zo)] := hl
  refine lv_iconst (v := 1) hx hb dL_cut_17 (by decide) ?_
  have hP9 := hP.sub (ws' := []) [] rfl
  have hD9 := hD.sub (ws' := []) [] (by decide) rfl
  refine W.widen (k := 1) (n := 6) (Nat.le_of_ble_eq_true rfl) (Nat.le_of_ble_eq_true rfl) ?_
  exact W.iret (v := 1) hx hb hr (fun t ht hW => ⟨⟨1, (fun _ => 0), rfl, rfl, by rw [ht]; exact hP9, hD9⟩, hS.F ht⟩) hS.2.2 dL_cut_18
set_option maxHeartbeats 4000000 in
set_option maxRecDepth 100000 in
theorem l_edge_no (l : Launch) (D : va_G) (cT : Nat → ClassId) (x : Nat) (xT : Nat) (xP : Nat) (xR : Nat) (xG : Nat) (xF : Nat) (tc : Int32) (xO : Nat) (xS : Nat) (xL : Nat) (xC : Nat) (xQ : Nat) (xU : Nat) (xW : Nat) (ca : Nat) (ta : Nat) (w : Int32) (r : Int32) (a1 : Int32) (a2 : Int32) (zo : Nat) (hlt : l.stackTraces = false) (hq : ¬ (0 ≤ a1 ∧ a1 ≤ w - 1)) (sz : Nat) : Met l yL_edge WL_edge ({ frames := 8, cells := 1, slots := 6, locals := 133 } : Room) (RW D vwCl [.ref x, .int a1, .int a2, .ref zo] [(x, .inr (0, [.ref xT, .ref xP, .ref xR, .ref xG, .ref xF, .int tc, .ref xO, .ref xS, .ref xL, .ref xC, .ref xQ, .ref xU, .ref xW])), (xT, .inr (2, [.ref ca, .ref ta, .int w, .int r]))] (TY cT) sz) (va_Qi (fun (r : Int32) (_ : Nat → Nat) => r = 1) (BW D vwCl (va_A [(x, .inr (0, [.ref xT, .ref xP, .ref xR, .ref xG, .ref xF, .int tc, .ref xO, .ref xS, .ref xL, .ref xC, .ref xQ, .ref xU, .ref xW])), (xT, .inr (2, [.ref ca, .ref ta, .int w, .int r]))] sz) (fun u => [])) (va_A [(x, .inr (0, [.ref xT, .ref xP, .ref xR, .ref xG, .ref xF, .int tc, .ref xO, .ref xS, .ref xL, .ref xC, .ref xQ, .ref xU, .ref xW])), (xT, .inr (2, [.ref ca, .ref ta, .int w, .int r]))] sz)) 1 6 (va_A [(x, .inr (0, [.ref xT, .ref xP, .ref xR, .ref xG, .ref xF, .int tc, .ref xO, .ref xS, .ref xL, .ref xC, .ref xQ, .ref xU, .ref xW])), (xT, .inr (2, [.ref ca, .ref ta, .int w, .int r]))] sz) := by
  refine va_MetW (hh := [(0, 10, 13, 13)]) (cc := cL_edge) (maxL := 5) (ret := (some .int)) (by decide) rfl ?_
  intro p e s m args below meth c s₁ B hml hv
  obtain ⟨rfl, hsz, hZ, hP, hK, hD0⟩ := hv
  have hx := B.exec
  have hb := B.bytes
  have hr := B.returns
  have hts := atoms_spec (ws := WL_edge) B.pre
  have hT : ∀ w ∈ TB, w.before _ s = true := fun w h => hts w (List.mem_cons_of_mem _ h)
  have hown : s.vm.findClass R_L = some m.cls := findClass_of_methodNamed B.named
  have htab := tx_table B (bytes := cL_edge) (maxL := 5) (ret := (some .int)) (hh := [(0, 10, 13, 13)]) (hts _ List.mem_cons_self)
  subst hsz
  have hD := hD0.self (sz := s.heap.size)
  generalize hAe : va_A [(x, .inr (0, [.ref xT, .ref xP, .ref xR, .ref xG, .ref xF, .int tc, .ref xO, .ref xS, .ref xL, .ref xC, .ref xQ, .ref xU, .ref xW])), (xT, .inr (2, [.ref ca, .ref ta, .int w, .int r]))] s.heap.size = A at hD hZ ⊢
  have hA : ∀ q : Nat, s.heap.size ≤ q → A q := fun q h => by rw [← hAe]; exact Or.inr h
  have hS : va_S A s.heap s.heap [] := va_S.rf
  have hl := lv_entry ([.ref x, .int a1, .int a2, .ref zo]) (n := 5) (Nat.le_of_ble_eq_true rfl)
  rw [lg_entry_eq]
  generalize (lg_sl ([.ref x, .int a1, .int a2, .ref zo]) ++ List.replicate (5 - (lg_sl ([.ref x, .int a1, .int a2, .ref zo])).length) Slot.unset).toArray = ls at hl ⊢
  have hl : lv_has ls 5 [(0, .ref x), (1, .int a1), (2, .int a2), (3, .ref zo)] := hl
  refine lv_aload_n hx hb dL_edge_0 rfl (lv_at hl 3 rfl) ?_
  refine lv_iconst (v := 0) hx hb dL_edge_1 (by decide) ?_
  refine lv_aload_n hx hb dL_edge_2 rfl (lv_at hl 0 rfl) ?_
  refine lv_iload_n hx hb dL_edge_3 rfl (lv_at hl 1 rfl) ?_
  refine lv_iload_n hx hb dL_edge_4 rfl (lv_at hl 2 rfl) ?_
  refine tx_catch1 (name := "java/lang/IllegalArgumentException") (tx_goV (As := [.int a1, .int a2]) (rest := [.int 0, .ref zo]) ⟨hx, hb, hml, hown, hT⟩ (k_edge_noc l D cT x xT xP xR xG xF tc xO xS xL xC xQ xU xW ca ta w r a1 a2 hlt hq) ⟨callB_of 2 hT (tb_gd w677) rfl rfl rfl (hT _ w1) (hT _ w674) hR_edge ⟨Nat.le_of_ble_eq_true rfl, Nat.le_of_ble_eq_true rfl⟩, (hT _ w675), (hT _ w676)⟩ (RO.preV (ci := 0) (q0 := 0) hZ hS (hP.sub (ws' := [(x, .inr (0, [.ref xT, .ref xP, .ref xR, .ref xG, .ref xF, .int tc, .ref xO, .ref xS, .ref xL, .ref xC, .ref xQ, .ref xU, .ref xW])), (xT, .inr (2, [.ref ca, .ref ta, .int w, .int r]))]) [0, 1] rfl) hK rfl rfl) rfl hl.1 rfl (Nat.le_of_ble_eq_true rfl) dL_edge_5 ⟨Nat.le_of_ble_eq_true rfl, Nat.le_of_ble_eq_true rfl⟩) hown htab rfl (by decide) (hT _ w503) (tc_c rfl (hZ.1.1 ("java/lang/IllegalArgumentException", "java/lang/IllegalArgumentException") (List.mem_of_getElem? (i := 0) rfl))) (fun q H1 hsz9 hag9 => ?_)
  have hP := tc_P hP hag9
  have hS := tc_S hS hsz9 hag9
  refine W.eq (g2 := F0 m 13 ls [.ref q]) rfl ?_
  refine lv_astore hx hb dL_edge_13 hl (by decide) rfl (fun ls hl => ?_)
  have hl : lv_has ls 5 [(4, .ref q), (0, .ref x), (1, .int a1), (2, .int a2), (3, .ref zo)] := hl
  refine lv_iconst (v := 1) hx hb dL_edge_15 (by decide) ?_
  have hP9 := hP.sub (ws' := []) [] rfl
  have hD9 := hD.sub (ws' := []) [] (by decide) rfl
  refine W.widen (k := 1) (n := 6) (Nat.le_of_ble_eq_true rfl) (Nat.le_of_ble_eq_true rfl) ?_
  exact W.iret (v := 1) hx hb hr (fun t ht hW => ⟨⟨1, (fun _ => 0), rfl, rfl, by rw [ht]; exact hP9, hD9⟩, hS.F ht⟩) hS.2.2 dL_edge_16
set_option maxHeartbeats 4000000 in
set_option maxRecDepth 100000 in
theorem l_bin_no (l : Launch) (D : va_G) (cT : Nat → ClassId) (x : Nat) (xT : Nat) (xP : Nat) (xR : Nat) (xG : Nat) (xF : Nat) (tc : Int32) (xO : Nat) (xS : Nat) (xL : Nat) (xC : Nat) (xQ : Nat) (xU : Nat) (xW : Nat) (ca : Nat) (ta : Nat) (w : Int32) (r : Int32) (a1 : Int32) (a2 : Int32) (zo : Nat) (hlt : l.stackTraces = false) (hq : ¬ ((0 ≤ a1 ∧ a1 ≤ w - 1) ∧ (¬ a2 = (-2147483648)))) (sz : Nat) : Met l yL_bin WL_bin ({ frames := 8, cells := 1, slots := 6, locals := 133 } : Room) (RW D vwCl [.ref x, .int a1, .int a2, .ref zo] [(x, .inr (0, [.ref xT, .ref xP, .ref xR, .ref xG, .ref xF, .int tc, .ref xO, .ref xS, .ref xL, .ref xC, .ref xQ, .ref xU, .ref xW])), (xT, .inr (2, [.ref ca, .ref ta, .int w, .int r]))] (TY cT) sz) (va_Qi (fun (r : Int32) (_ : Nat → Nat) => r = 1) (BW D vwCl (va_A [(x, .inr (0, [.ref xT, .ref xP, .ref xR, .ref xG, .ref xF, .int tc, .ref xO, .ref xS, .ref xL, .ref xC, .ref xQ, .ref xU, .ref xW])), (xT, .inr (2, [.ref ca, .ref ta, .int w, .int r]))] sz) (fun u => [])) (va_A [(x, .inr (0, [.ref xT, .ref xP, .ref xR, .ref xG, .ref xF, .int tc, .ref xO, .ref xS, .ref xL, .ref xC, .ref xQ, .ref xU, .ref xW])), (xT, .inr (2, [.ref ca, .ref ta, .int w, .int r]))] sz)) 1 6 (va_A [(x, .inr (0, [.ref xT, .ref xP, .ref xR, .ref xG, .ref xF, .int tc, .ref xO, .ref xS, .ref xL, .ref xC, .ref xQ, .ref xU, .ref xW])), (xT, .inr (2, [.ref ca, .ref ta, .int w, .int r]))] sz) := by
  refine va_MetW (hh := [(0, 10, 13, 13)]) (cc := cL_bin) (maxL := 5) (ret := (some .int)) (by decide) rfl ?_
  intro p e s m args below meth c s₁ B hml hv
  obtain ⟨rfl, hsz, hZ, hP, hK, hD0⟩ := hv
  have hx := B.exec
  have hb := B.bytes
  have hr := B.returns
  have hts := atoms_spec (ws := WL_bin) B.pre
  have hT : ∀ w ∈ TB, w.before _ s = true := fun w h => hts w (List.mem_cons_of_mem _ h)
  have hown : s.vm.findClass R_L = some m.cls := findClass_of_methodNamed B.named
  have htab := tx_table B (bytes := cL_bin) (maxL := 5) (ret := (some .int)) (hh := [(0, 10, 13, 13)]) (hts _ List.mem_cons_self)
  subst hsz
  have hD := hD0.self (sz := s.heap.size)
  generalize hAe : va_A [(x, .inr (0, [.ref xT, .ref xP, .ref xR, .ref xG, .ref xF, .int tc, .ref xO, .ref xS, .ref xL, .ref xC, .ref xQ, .ref xU, .ref xW])), (xT, .inr (2, [.ref ca, .ref ta, .int w, .int r]))] s.heap.size = A at hD hZ ⊢
  have hA : ∀ q : Nat, s.heap.size ≤ q → A q := fun q h => by rw [← hAe]; exact Or.inr h
  have hS : va_S A s.heap s.heap [] := va_S.rf
  have hl := lv_entry ([.ref x, .int a1, .int a2, .ref zo]) (n := 5) (Nat.le_of_ble_eq_true rfl)
  rw [lg_entry_eq]
  generalize (lg_sl ([.ref x, .int a1, .int a2, .ref zo]) ++ List.replicate (5 - (lg_sl ([.ref x, .int a1, .int a2, .ref zo])).length) Slot.unset).toArray = ls at hl ⊢
  have hl : lv_has ls 5 [(0, .ref x), (1, .int a1), (2, .int a2), (3, .ref zo)] := hl
  refine lv_aload_n hx hb dL_bin_0 rfl (lv_at hl 3 rfl) ?_
  refine lv_iconst (v := 0) hx hb dL_bin_1 (by decide) ?_
  refine lv_aload_n hx hb dL_bin_2 rfl (lv_at hl 0 rfl) ?_
  refine lv_iload_n hx hb dL_bin_3 rfl (lv_at hl 1 rfl) ?_
  refine lv_iload_n hx hb dL_bin_4 rfl (lv_at hl 2 rfl) ?_
  refine tx_catch1 (name := "java/lang/IllegalArgumentException") (tx_goV (As := [.int a1, .int a2]) (rest := [.int 0, .ref zo]) ⟨hx, hb, hml, hown, hT⟩ (k_bin_noc l D cT x xT xP xR xG xF tc xO xS xL xC xQ xU xW ca ta w r a1 a2 hlt hq) ⟨callB_of 2 hT (tb_gd w684) rfl rfl rfl (hT _ w1) (hT _ w681) hR_bin ⟨Nat.le_of_ble_eq_true rfl, Nat.le_of_ble_eq_true rfl⟩, (hT _ w682), (hT _ w683)⟩ (RO.preV (ci := 0) (q0 := 0) hZ hS (hP.sub (ws' := [(x, .inr (0, [.ref xT, .ref xP, .ref xR, .ref xG, .ref xF, .int tc, .ref xO, .ref xS, .ref xL, .ref xC, .ref xQ, .ref xU, .ref xW])), (xT, .inr (2, [.ref ca, .ref ta, .int w, .int r]))]) [0, 1] rfl) hK rfl rfl) rfl hl.1 rfl (Nat.le_of_ble_eq_true rfl) dL_bin_5 ⟨Nat.le_of_ble_eq_true rfl, Nat.le_of_ble_eq_true rfl⟩) hown htab rfl (by decide) (hT _ w503) (tc_c rfl (hZ.1.1 ("java/lang/IllegalArgumentException", "java/lang/IllegalArgumentException") (List.mem_of_getElem? (i := 0) rfl))) (fun q H1 hsz9 hag9 => ?_)
  have hP := tc_P hP hag9
  have hS := tc_S hS hsz9 hag9
  refine W.eq (g2 := F0 m 13 ls [.ref q]) rfl ?_
  refine lv_astore hx hb dL_bin_13 hl (by decide) rfl (fun ls hl => ?_)
  have hl : lv_has ls 5 [(4, .ref q), (0, .ref x), (1, .int a1), (2, .int a2), (3, .ref zo)] := hl
  refine lv_iconst (v := 1) hx hb dL_bin_15 (by decide) ?_
  have hP9 := hP.sub (ws' := []) [] rfl
  have hD9 := hD.sub (ws' := []) [] (by decide) rfl
  refine W.widen (k := 1) (n := 6) (Nat.le_of_ble_eq_true rfl) (Nat.le_of_ble_eq_true rfl) ?_
  exact W.iret (v := 1) hx hb hr (fun t ht hW => ⟨⟨1, (fun _ => 0), rfl, rfl, by rw [ht]; exact hP9, hD9⟩, hS.F ht⟩) hS.2.2 dL_bin_16
set_option maxHeartbeats 4000000 in
set_option maxRecDepth 100000 in
theorem l_drop_no (l : Launch) (D : va_G) (cT : Nat → ClassId) (x : Nat) (xT : Nat) (xP : Nat) (xR : Nat) (xG : Nat) (xF : Nat) (tc : Int32) (xO : Nat) (xS : Nat) (xL : Nat) (xC : Nat) (xQ : Nat) (xU : Nat) (xW : Nat) (a1 : Int32) (zo : Nat) (hlt : l.stackTraces = false) (hq : ¬ (0 ≤ a1 ∧ a1 ≤ tc)) (sz : Nat) : Met l yL_drop WL_drop ({ frames := 8, cells := 1, slots := 6, locals := 133 } : Room) (RW D vwCl [.ref x, .int a1, .ref zo] [(x, .inr (0, [.ref xT, .ref xP, .ref xR, .ref xG, .ref xF, .int tc, .ref xO, .ref xS, .ref xL, .ref xC, .ref xQ, .ref xU, .ref xW]))] (TY cT) sz) (va_Qi (fun (r : Int32) (_ : Nat → Nat) => r = 1) (BW D vwCl (va_A [(x, .inr (0, [.ref xT, .ref xP, .ref xR, .ref xG, .ref xF, .int tc, .ref xO, .ref xS, .ref xL, .ref xC, .ref xQ, .ref xU, .ref xW]))] sz) (fun u => [])) (va_A [(x, .inr (0, [.ref xT, .ref xP, .ref xR, .ref xG, .ref xF, .int tc, .ref xO, .ref xS, .ref xL, .ref xC, .ref xQ, .ref xU, .ref xW]))] sz)) 1 6 (va_A [(x, .inr (0, [.ref xT, .ref xP, .ref xR, .ref xG, .ref xF, .int tc, .ref xO, .ref xS, .ref xL, .ref xC, .ref xQ, .ref xU, .ref xW]))] sz) := by
  refine va_MetW (hh := [(0, 9, 12, 13)]) (cc := cL_drop) (maxL := 4) (ret := (some .int)) (by decide) rfl ?_
  intro p e s m args below meth c s₁ B hml hv
  obtain ⟨rfl, hsz, hZ, hP, hK, hD0⟩ := hv
  have hx := B.exec
  have hb := B.bytes
  have hr := B.returns
  have hts := atoms_spec (ws := WL_drop) B.pre
  have hT : ∀ w ∈ TB, w.before _ s = true := fun w h => hts w (List.mem_cons_of_mem _ h)
  have hown : s.vm.findClass R_L = some m.cls := findClass_of_methodNamed B.named
  have htab := tx_table B (bytes := cL_drop) (maxL := 4) (ret := (some .int)) (hh := [(0, 9, 12, 13)]) (hts _ List.mem_cons_self)
  subst hsz
  have hD := hD0.self (sz := s.heap.size)
  generalize hAe : va_A [(x, .inr (0, [.ref xT, .ref xP, .ref xR, .ref xG, .ref xF, .int tc, .ref xO, .ref xS, .ref xL, .ref xC, .ref xQ, .ref xU, .ref xW]))] s.heap.size = A at hD hZ ⊢
  have hA : ∀ q : Nat, s.heap.size ≤ q → A q := fun q h => by rw [← hAe]; exact Or.inr h
  have hS : va_S A s.heap s.heap [] := va_S.rf
  have hl := lv_entry ([.ref x, .int a1, .ref zo]) (n := 4) (Nat.le_of_ble_eq_true rfl)
  rw [lg_entry_eq]
  generalize (lg_sl ([.ref x, .int a1, .ref zo]) ++ List.replicate (4 - (lg_sl ([.ref x, .int a1, .ref zo])).length) Slot.unset).toArray = ls at hl ⊢
  have hl : lv_has ls 4 [(0, .ref x), (1, .int a1), (2, .ref zo)] := hl
  refine lv_aload_n hx hb dL_drop_0 rfl (lv_at hl 2 rfl) ?_
  refine lv_iconst (v := 0) hx hb dL_drop_1 (by decide) ?_
  refine lv_aload_n hx hb dL_drop_2 rfl (lv_at hl 0 rfl) ?_
  refine lv_iload_n hx hb dL_drop_3 rfl (lv_at hl 1 rfl) ?_
  refine tx_catch1 (name := "java/lang/IllegalArgumentException") (tx_goV (As := [.int a1]) (rest := [.int 0, .ref zo]) ⟨hx, hb, hml, hown, hT⟩ (k_drop_no l D cT x xT xP xR xG xF tc xO xS xL xC xQ xU xW a1 hlt hq) ⟨callB_of 1 hT (tb_gd w993) rfl rfl rfl (hT _ w1) (hT _ w990) hR_drop ⟨Nat.le_of_ble_eq_true rfl, Nat.le_of_ble_eq_true rfl⟩, (hT _ w991), (hT _ w992)⟩ (RO.preV (ci := 0) (q0 := 0) hZ hS (hP.sub (ws' := [(x, .inr (0, [.ref xT, .ref xP, .ref xR, .ref xG, .ref xF, .int tc, .ref xO, .ref xS, .ref xL, .ref xC, .ref xQ, .ref xU, .ref xW]))]) [0] rfl) hK rfl rfl) rfl hl.1 rfl (Nat.le_of_ble_eq_true rfl) dL_drop_4 ⟨Nat.le_of_ble_eq_true rfl, Nat.le_of_ble_eq_true rfl⟩) hown htab rfl (by decide) (hT _ w503) (tc_c rfl (hZ.1.1 ("java/lang/IllegalArgumentException", "java/lang/IllegalArgumentException") (List.mem_of_getElem? (i := 0) rfl))) (fun q H1 hsz9 hag9 => ?_)
  have hP := tc_P hP hag9
  have hS := tc_S hS hsz9 hag9
  refine W.eq (g2 := F0 m 12 ls [.ref q]) rfl ?_
  refine lv_astore_n hx hb dL_drop_12 rfl hl (by decide) rfl (fun ls hl => ?_)
  have hl : lv_has ls 4 [(3, .ref q), (0, .ref x), (1, .int a1), (2, .ref zo)] := hl
  refine lv_iconst (v := 1) hx hb dL_drop_13 (by decide) ?_
  have hP9 := hP.sub (ws' := []) [] rfl
  have hD9 := hD.sub (ws' := []) [] (by decide) rfl
  refine W.widen (k := 1) (n := 6) (Nat.le_of_ble_eq_true rfl) (Nat.le_of_ble_eq_true rfl) ?_
  exact W.iret (v := 1) hx hb hr (fun t ht hW => ⟨⟨1, (fun _ => 0), rfl, rfl, by rw [ht]; exact hP9, hD9⟩, hS.F ht⟩) hS.2.2 dL_drop_14
set_option maxHeartbeats 4000000 in
set_option maxRecDepth 100000 in
theorem l_nodes_no (l : Launch) (D : va_G) (cT : Nat → ClassId) (x : Nat) (xT : Nat) (xP : Nat) (xR : Nat) (xG : Nat) (xF : Nat) (tc : Int32) (xO : Nat) (xS : Nat) (xL : Nat) (xC : Nat) (xQ : Nat) (xU : Nat) (xW : Nat) (a1 : Int32) (zo : Nat) (hlt : l.stackTraces = false) (hq : ¬ (0 ≤ a1 ∧ a1 ≤ (tc - 1))) (sz : Nat) : Met l yL_nodes WL_nodes ({ frames := 8, cells := 1, slots := 6, locals := 132 } : Room) (RW D vwCl [.ref x, .int a1, .ref zo] [(x, .inr (0, [.ref xT, .ref xP, .ref xR, .ref xG, .ref xF, .int tc, .ref xO, .ref xS, .ref xL, .ref xC, .ref xQ, .ref xU, .ref xW]))] (TY cT) sz) (va_Qi (fun (r : Int32) (_ : Nat → Nat) => r = 1) (BW D vwCl (va_A [(x, .inr (0, [.ref xT, .ref xP, .ref xR, .ref xG, .ref xF, .int tc, .ref xO, .ref xS, .ref xL, .ref xC, .ref xQ, .ref xU, .ref xW]))] sz) (fun u => [])) (va_A [(x, .inr (0, [.ref xT, .ref xP, .ref xR, .ref xG, .ref xF, .int tc, .ref xO, .ref xS, .ref xL, .ref xC, .ref xQ, .ref xU, .ref xW]))] sz)) 1 6 (va_A [(x, .inr (0, [.ref xT, .ref xP, .ref xR, .ref xG, .ref xF, .int tc, .ref xO, .ref xS, .ref xL, .ref xC, .ref xQ, .ref xU, .ref xW]))] sz) := by
  refine va_MetW (hh := [(0, 9, 12, 13)]) (cc := cL_nodes) (maxL := 4) (ret := (some .int)) (by decide) rfl ?_
  intro p e s m args below meth c s₁ B hml hv
  obtain ⟨rfl, hsz, hZ, hP, hK, hD0⟩ := hv
  have hx := B.exec
  have hb := B.bytes
  have hr := B.returns
  have hts := atoms_spec (ws := WL_nodes) B.pre
  have hT : ∀ w ∈ TB, w.before _ s = true := fun w h => hts w (List.mem_cons_of_mem _ h)
  have hown : s.vm.findClass R_L = some m.cls := findClass_of_methodNamed B.named
  have htab := tx_table B (bytes := cL_nodes) (maxL := 4) (ret := (some .int)) (hh := [(0, 9, 12, 13)]) (hts _ List.mem_cons_self)
  subst hsz
  have hD := hD0.self (sz := s.heap.size)
  generalize hAe : va_A [(x, .inr (0, [.ref xT, .ref xP, .ref xR, .ref xG, .ref xF, .int tc, .ref xO, .ref xS, .ref xL, .ref xC, .ref xQ, .ref xU, .ref xW]))] s.heap.size = A at hD hZ ⊢
  have hA : ∀ q : Nat, s.heap.size ≤ q → A q := fun q h => by rw [← hAe]; exact Or.inr h
  have hS : va_S A s.heap s.heap [] := va_S.rf
  have hl := lv_entry ([.ref x, .int a1, .ref zo]) (n := 4) (Nat.le_of_ble_eq_true rfl)
  rw [lg_entry_eq]
  generalize (lg_sl ([.ref x, .int a1, .ref zo]) ++ List.replicate (4 - (lg_sl ([.ref x, .int a1, .ref zo])).length) Slot.unset).toArray = ls at hl ⊢
  have hl : lv_has ls 4 [(0, .ref x), (1, .int a1), (2, .ref zo)] := hl
  refine lv_aload_n hx hb dL_nodes_0 rfl (lv_at hl 2 rfl) ?_
  refine lv_iconst (v := 0) hx hb dL_nodes_1 (by decide) ?_
  refine lv_aload_n hx hb dL_nodes_2 rfl (lv_at hl 0 rfl) ?_
  refine lv_iload_n hx hb dL_nodes_3 rfl (lv_at hl 1 rfl) ?_
  refine tx_catch1 (name := "java/lang/IllegalArgumentException") (tx_goV (As := [.int a1]) (rest := [.int 0, .ref zo]) ⟨hx, hb, hml, hown, hT⟩ (k_nodes_no l D cT x xT xP xR xG xF tc xO xS xL xC xQ xU xW a1 hlt hq) ⟨callB_of 1 hT (tb_gd w1019) rfl rfl rfl (hT _ w1) (hT _ w1016) hR_nodes ⟨Nat.le_of_ble_eq_true rfl, Nat.le_of_ble_eq_true rfl⟩, (hT _ w1017), (hT _ w1018)⟩ (RO.preV (ci := 0) (q0 := 0) hZ hS (hP.sub (ws' := [(x, .inr (0, [.ref xT, .ref xP, .ref xR, .ref xG, .ref xF, .int tc, .ref xO, .ref xS, .ref xL, .ref xC, .ref xQ, .ref xU, .ref xW]))]) [0] rfl) hK rfl rfl) rfl hl.1 rfl (Nat.le_of_ble_eq_true rfl) dL_nodes_4 ⟨Nat.le_of_ble_eq_true rfl, Nat.le_of_ble_eq_true rfl⟩) hown htab rfl (by decide) (hT _ w503) (tc_c rfl (hZ.1.1 ("java/lang/IllegalArgumentException", "java/lang/IllegalArgumentException") (List.mem_of_getElem? (i := 0) rfl))) (fun q H1 hsz9 hag9 => ?_)
  have hP := tc_P hP hag9
  have hS := tc_S hS hsz9 hag9
  refine W.eq (g2 := F0 m 12 ls [.ref q]) rfl ?_
  refine lv_astore_n hx hb dL_nodes_12 rfl hl (by decide) rfl (fun ls hl => ?_)
  have hl : lv_has ls 4 [(3, .ref q), (0, .ref x), (1, .int a1), (2, .ref zo)] := hl
  refine lv_iconst (v := 1) hx hb dL_nodes_13 (by decide) ?_
  have hP9 := hP.sub (ws' := []) [] rfl
  have hD9 := hD.sub (ws' := []) [] (by decide) rfl
  refine W.widen (k := 1) (n := 6) (Nat.le_of_ble_eq_true rfl) (Nat.le_of_ble_eq_true rfl) ?_
  exact W.iret (v := 1) hx hb hr (fun t ht hW => ⟨⟨1, (fun _ => 0), rfl, rfl, by rw [ht]; exact hP9, hD9⟩, hS.F ht⟩) hS.2.2 dL_nodes_14
set_option maxHeartbeats 4000000 in
set_option maxRecDepth 100000 in
theorem l_uses_no (l : Launch) (D : va_G) (cT : Nat → ClassId) (x : Nat) (xT : Nat) (xP : Nat) (xR : Nat) (xG : Nat) (xF : Nat) (tc : Int32) (xO : Nat) (xS : Nat) (xL : Nat) (xC : Nat) (xQ : Nat) (xU : Nat) (xW : Nat) (ca : Nat) (ta : Nat) (w : Int32) (r : Int32) (a1 : Int32) (zo : Nat) (hlt : l.stackTraces = false) (hq : ¬ (0 ≤ a1 ∧ a1 ≤ w - 1)) (sz : Nat) : Met l yL_uses WL_uses ({ frames := 8, cells := 1, slots := 6, locals := 134 } : Room) (RW D vwCl [.ref x, .int a1, .ref zo] [(x, .inr (0, [.ref xT, .ref xP, .ref xR, .ref xG, .ref xF, .int tc, .ref xO, .ref xS, .ref xL, .ref xC, .ref xQ, .ref xU, .ref xW])), (xT, .inr (2, [.ref ca, .ref ta, .int w, .int r]))] (TY cT) sz) (va_Qi (fun (r : Int32) (_ : Nat → Nat) => r = 1) (BW D vwCl (va_A [(x, .inr (0, [.ref xT, .ref xP, .ref xR, .ref xG, .ref xF, .int tc, .ref xO, .ref xS, .ref xL, .ref xC, .ref xQ, .ref xU, .ref xW])), (xT, .inr (2, [.ref ca, .ref ta, .int w, .int r]))] sz) (fun u => [])) (va_A [(x, .inr (0, [.ref xT, .ref xP, .ref xR, .ref xG, .ref xF, .int tc, .ref xO, .ref xS, .ref xL, .ref xC, .ref xQ, .ref xU, .ref xW])), (xT, .inr (2, [.ref ca, .ref ta, .int w, .int r]))] sz)) 1 6 (va_A [(x, .inr (0, [.ref xT, .ref xP, .ref xR, .ref xG, .ref xF, .int tc, .ref xO, .ref xS, .ref xL, .ref xC, .ref xQ, .ref xU, .ref xW])), (xT, .inr (2, [.ref ca, .ref ta, .int w, .int r]))] sz) := by
  refine va_MetW (hh := [(0, 9, 12, 13)]) (cc := cL_uses) (maxL := 4) (ret := (some .int)) (by decide) rfl ?_
  intro p e s m args below meth c s₁ B hml hv
  obtain ⟨rfl, hsz, hZ, hP, hK, hD0⟩ := hv
  have hx := B.exec
  have hb := B.bytes
  have hr := B.returns
  have hts := atoms_spec (ws := WL_uses) B.pre
  have hT : ∀ w ∈ TB, w.before _ s = true := fun w h => hts w (List.mem_cons_of_mem _ h)
  have hown : s.vm.findClass R_L = some m.cls := findClass_of_methodNamed B.named
  have htab := tx_table B (bytes := cL_uses) (maxL := 4) (ret := (some .int)) (hh := [(0, 9, 12, 13)]) (hts _ List.mem_cons_self)
  subst hsz
  have hD := hD0.self (sz := s.heap.size)
  generalize hAe : va_A [(x, .inr (0, [.ref xT, .ref xP, .ref xR, .ref xG, .ref xF, .int tc, .ref xO, .ref xS, .ref xL, .ref xC, .ref xQ, .ref xU, .ref xW])), (xT, .inr (2, [.ref ca, .ref ta, .int w, .int r]))] s.heap.size = A at hD hZ ⊢
  have hA : ∀ q : Nat, s.heap.size ≤ q → A q := fun q h => by rw [← hAe]; exact Or.inr h
  have hS : va_S A s.heap s.heap [] := va_S.rf
  have hl := lv_entry ([.ref x, .int a1, .ref zo]) (n := 4) (Nat.le_of_ble_eq_true rfl)
  rw [lg_entry_eq]
  generalize (lg_sl ([.ref x, .int a1, .ref zo]) ++ List.replicate (4 - (lg_sl ([.ref x, .int a1, .ref zo])).length) Slot.unset).toArray = ls at hl ⊢
  have hl : lv_has ls 4 [(0, .ref x), (1, .int a1), (2, .ref zo)] := hl
  refine lv_aload_n hx hb dL_uses_0 rfl (lv_at hl 2 rfl) ?_
  refine lv_iconst (v := 0) hx hb dL_uses_1 (by decide) ?_
  refine lv_aload_n hx hb dL_uses_2 rfl (lv_at hl 0 rfl) ?_
  refine lv_iload_n hx hb dL_uses_3 rfl (lv_at hl 1 rfl) ?_
  refine tx_catch1 (name := "java/lang/IllegalArgumentException") (tx_goV (As := [.int a1]) (rest := [.int 0, .ref zo]) ⟨hx, hb, hml, hown, hT⟩ (k_uses_no l D cT x xT xP xR xG xF tc xO xS xL xC xQ xU xW ca ta w r a1 hlt hq) ⟨callB_of 1 hT (tb_gd w1026) rfl rfl rfl (hT _ w1) (hT _ w1023) hR_uses ⟨Nat.le_of_ble_eq_true rfl, Nat.le_of_ble_eq_true rfl⟩, (hT _ w1024), (hT _ w1025)⟩ (RO.preV (ci := 0) (q0 := 0) hZ hS (hP.sub (ws' := [(x, .inr (0, [.ref xT, .ref xP, .ref xR, .ref xG, .ref xF, .int tc, .ref xO, .ref xS, .ref xL, .ref xC, .ref xQ, .ref xU, .ref xW])), (xT, .inr (2, [.ref ca, .ref ta, .int w, .int r]))]) [0, 1] rfl) hK rfl rfl) rfl hl.1 rfl (Nat.le_of_ble_eq_true rfl) dL_uses_4 ⟨Nat.le_of_ble_eq_true rfl, Nat.le_of_ble_eq_true rfl⟩) hown htab rfl (by decide) (hT _ w503) (tc_c rfl (hZ.1.1 ("java/lang/IllegalArgumentException", "java/lang/IllegalArgumentException") (List.mem_of_getElem? (i := 0) rfl))) (fun q H1 hsz9 hag9 => ?_)
  have hP := tc_P hP hag9
  have hS := tc_S hS hsz9 hag9
  refine W.eq (g2 := F0 m 12 ls [.ref q]) rfl ?_
  refine lv_astore_n hx hb dL_uses_12 rfl hl (by decide) rfl (fun ls hl => ?_)
  have hl : lv_has ls 4 [(3, .ref q), (0, .ref x), (1, .int a1), (2, .ref zo)] := hl
  refine lv_iconst (v := 1) hx hb dL_uses_13 (by decide) ?_
  have hP9 := hP.sub (ws' := []) [] rfl
  have hD9 := hD.sub (ws' := []) [] (by decide) rfl
  refine W.widen (k := 1) (n := 6) (Nat.le_of_ble_eq_true rfl) (Nat.le_of_ble_eq_true rfl) ?_
  exact W.iret (v := 1) hx hb hr (fun t ht hW => ⟨⟨1, (fun _ => 0), rfl, rfl, by rw [ht]; exact hP9, hD9⟩, hS.F ht⟩) hS.2.2 dL_uses_14
set_option maxHeartbeats 4000000 in
set_option maxRecDepth 100000 in
theorem l_residual_no (l : Launch) (D : va_G) (cT : Nat → ClassId) (x : Nat) (xT : Nat) (xP : Nat) (xR : Nat) (xG : Nat) (xF : Nat) (tc : Int32) (xO : Nat) (xS : Nat) (xL : Nat) (xC : Nat) (xQ : Nat) (xU : Nat) (xW : Nat) (ca : Nat) (ta : Nat) (w : Int32) (r : Int32) (a1 : Int32) (a2 : Int32) (zo : Nat) (hlt : l.stackTraces = false) (hq : ¬ ((0 ≤ a1 ∧ a1 ≤ r - 1) ∧ (0 ≤ a2 ∧ a2 ≤ tc))) (sz : Nat) : Met l yL_residual WL_residual ({ frames := 8, cells := 1, slots := 6, locals := 133 } : Room) (RW D vwCl [.ref x, .int a1, .int a2, .ref zo] [(x, .inr (0, [.ref xT, .ref xP, .ref xR, .ref xG, .ref xF, .int tc, .ref xO, .ref xS, .ref xL, .ref xC, .ref xQ, .ref xU, .ref xW])), (xT, .inr (2, [.ref ca, .ref ta, .int w, .int r]))] (TY cT) sz) (va_Qi (fun (r : Int32) (_ : Nat → Nat) => r = 1) (BW D vwCl (va_A [(x, .inr (0, [.ref xT, .ref xP, .ref xR, .ref xG, .ref xF, .int tc, .ref xO, .ref xS, .ref xL, .ref xC, .ref xQ, .ref xU, .ref xW])), (xT, .inr (2, [.ref ca, .ref ta, .int w, .int r]))] sz) (fun u => [])) (va_A [(x, .inr (0, [.ref xT, .ref xP, .ref xR, .ref xG, .ref xF, .int tc, .ref xO, .ref xS, .ref xL, .ref xC, .ref xQ, .ref xU, .ref xW])), (xT, .inr (2, [.ref ca, .ref ta, .int w, .int r]))] sz)) 1 6 (va_A [(x, .inr (0, [.ref xT, .ref xP, .ref xR, .ref xG, .ref xF, .int tc, .ref xO, .ref xS, .ref xL, .ref xC, .ref xQ, .ref xU, .ref xW])), (xT, .inr (2, [.ref ca, .ref ta, .int w, .int r]))] sz) := by
  refine va_MetW (hh := [(0, 10, 13, 13)]) (cc := cL_residual) (maxL := 5) (ret := (some .int)) (by decide) rfl ?_
  intro p e s m args below meth c s₁ B hml hv
  obtain ⟨rfl, hsz, hZ, hP, hK, hD0⟩ := hv
  have hx := B.exec
  have hb := B.bytes
  have hr := B.returns
  have hts := atoms_spec (ws := WL_residual) B.pre
  have hT : ∀ w ∈ TB, w.before _ s = true := fun w h => hts w (List.mem_cons_of_mem _ h)
  have hown : s.vm.findClass R_L = some m.cls := findClass_of_methodNamed B.named
  have htab := tx_table B (bytes := cL_residual) (maxL := 5) (ret := (some .int)) (hh := [(0, 10, 13, 13)]) (hts _ List.mem_cons_self)
  subst hsz
  have hD := hD0.self (sz := s.heap.size)
  generalize hAe : va_A [(x, .inr (0, [.ref xT, .ref xP, .ref xR, .ref xG, .ref xF, .int tc, .ref xO, .ref xS, .ref xL, .ref xC, .ref xQ, .ref xU, .ref xW])), (xT, .inr (2, [.ref ca, .ref ta, .int w, .int r]))] s.heap.size = A at hD hZ ⊢
  have hA : ∀ q : Nat, s.heap.size ≤ q → A q := fun q h => by rw [← hAe]; exact Or.inr h
  have hS : va_S A s.heap s.heap [] := va_S.rf
  have hl := lv_entry ([.ref x, .int a1, .int a2, .ref zo]) (n := 5) (Nat.le_of_ble_eq_true rfl)
  rw [lg_entry_eq]
  generalize (lg_sl ([.ref x, .int a1, .int a2, .ref zo]) ++ List.replicate (5 - (lg_sl ([.ref x, .int a1, .int a2, .ref zo])).length) Slot.unset).toArray = ls at hl ⊢
  have hl : lv_has ls 5 [(0, .ref x), (1, .int a1), (2, .int a2), (3, .ref zo)] := hl
  refine lv_aload_n hx hb dL_residual_0 rfl (lv_at hl 3 rfl) ?_
  refine lv_iconst (v := 0) hx hb dL_residual_1 (by decide) ?_
  refine lv_aload_n hx hb dL_residual_2 rfl (lv_at hl 0 rfl) ?_
  refine lv_iload_n hx hb dL_residual_3 rfl (lv_at hl 1 rfl) ?_
  refine lv_iload_n hx hb dL_residual_4 rfl (lv_at hl 2 rfl) ?_
  refine tx_catch1 (name := "java/lang/IllegalArgumentException") (tx_goV (As := [.int a1, .int a2]) (rest := [.int 0, .ref zo]) ⟨hx, hb, hml, hown, hT⟩ (k_residual_no l D cT x xT xP xR xG xF tc xO xS xL xC xQ xU xW ca ta w r a1 a2 hlt hq) ⟨callB_of 2 hT (tb_gd w1064) rfl rfl rfl (hT _ w1) (hT _ w1061) hR_residual ⟨Nat.le_of_ble_eq_true rfl, Nat.le_of_ble_eq_true rfl⟩, (hT _ w1062), (hT _ w1063)⟩ (RO.preV (ci := 0) (q0 := 0) hZ hS (hP.sub (ws' := [(x, .inr (0, [.ref xT, .ref xP, .ref xR, .ref xG, .ref xF, .int tc, .ref xO, .ref xS, .ref xL, .ref xC, .ref xQ, .ref xU, .ref xW])), (xT, .inr (2, [.ref ca, .ref ta, .int w, .int r]))]) [0, 1] rfl) hK rfl rfl) rfl hl.1 rfl (Nat.le_of_ble_eq_true rfl) dL_residual_5 ⟨Nat.le_of_ble_eq_true rfl, Nat.le_of_ble_eq_true rfl⟩) hown htab rfl (by decide) (hT _ w503) (tc_c rfl (hZ.1.1 ("java/lang/IllegalArgumentException", "java/lang/IllegalArgumentException") (List.mem_of_getElem? (i := 0) rfl))) (fun q H1 hsz9 hag9 => ?_)
  have hP := tc_P hP hag9
  have hS := tc_S hS hsz9 hag9
  refine W.eq (g2 := F0 m 13 ls [.ref q]) rfl ?_
  refine lv_astore hx hb dL_residual_13 hl (by decide) rfl (fun ls hl => ?_)
  have hl : lv_has ls 5 [(4, .ref q), (0, .ref x), (1, .int a1), (2, .int a2), (3, .ref zo)] := hl
  refine lv_iconst (v := 1) hx hb dL_residual_15 (by decide) ?_
  have hP9 := hP.sub (ws' := []) [] rfl
  have hD9 := hD.sub (ws' := []) [] (by decide) rfl
  refine W.widen (k := 1) (n := 6) (Nat.le_of_ble_eq_true rfl) (Nat.le_of_ble_eq_true rfl) ?_
  exact W.iret (v := 1) hx hb hr (fun t ht hW => ⟨⟨1, (fun _ => 0), rfl, rfl, by rw [ht]; exact hP9, hD9⟩, hS.F ht⟩) hS.2.2 dL_residual_16
set_option maxHeartbeats 4000000 in
set_option maxRecDepth 100000 in
theorem l_predict_no (l : Launch) (D : va_G) (cT : Nat → ClassId) (x : Nat) (xT : Nat) (xP : Nat) (xR : Nat) (xG : Nat) (xF : Nat) (tc : Int32) (xO : Nat) (xS : Nat) (xL : Nat) (xC : Nat) (xQ : Nat) (xU : Nat) (xW : Nat) (a1 : Int32) (zo : Nat) (hlt : l.stackTraces = false) (hq : ¬ (0 ≤ a1 ∧ a1 ≤ tc)) (sz : Nat) : Met l yL_predict WL_predict ({ frames := 8, cells := 1, slots := 6, locals := 132 } : Room) (RW D vwCl [.ref x, .int a1, .ref zo] [(x, .inr (0, [.ref xT, .ref xP, .ref xR, .ref xG, .ref xF, .int tc, .ref xO, .ref xS, .ref xL, .ref xC, .ref xQ, .ref xU, .ref xW]))] (TY cT) sz) (va_Qi (fun (r : Int32) (_ : Nat → Nat) => r = 1) (BW D vwCl (va_A [(x, .inr (0, [.ref xT, .ref xP, .ref xR, .ref xG, .ref xF, .int tc, .ref xO, .ref xS, .ref xL, .ref xC, .ref xQ, .ref xU, .ref xW]))] sz) (fun u => [])) (va_A [(x, .inr (0, [.ref xT, .ref xP, .ref xR, .ref xG, .ref xF, .int tc, .ref xO, .ref xS, .ref xL, .ref xC, .ref xQ, .ref xU, .ref xW]))] sz)) 1 6 (va_A [(x, .inr (0, [.ref xT, .ref xP, .ref xR, .ref xG, .ref xF, .int tc, .ref xO, .ref xS, .ref xL, .ref xC, .ref xQ, .ref xU, .ref xW]))] sz) := by
  refine va_MetW (hh := [(0, 9, 12, 13)]) (cc := cL_predict) (maxL := 4) (ret := (some .int)) (by decide) rfl ?_
  intro p e s m args below meth c s₁ B hml hv
  obtain ⟨rfl, hsz, hZ, hP, hK, hD0⟩ := hv
  have hx := B.exec
  have hb := B.bytes
  have hr := B.returns
  have hts := atoms_spec (ws := WL_predict) B.pre
  have hT : ∀ w ∈ TB, w.before _ s = true := fun w h => hts w (List.mem_cons_of_mem _ h)
  have hown : s.vm.findClass R_L = some m.cls := findClass_of_methodNamed B.named
  have htab := tx_table B (bytes := cL_predict) (maxL := 4) (ret := (some .int)) (hh := [(0, 9, 12, 13)]) (hts _ List.mem_cons_self)
  subst hsz
  have hD := hD0.self (sz := s.heap.size)
  generalize hAe : va_A [(x, .inr (0, [.ref xT, .ref xP, .ref xR, .ref xG, .ref xF, .int tc, .ref xO, .ref xS, .ref xL, .ref xC, .ref xQ, .ref xU, .ref xW]))] s.heap.size = A at hD hZ ⊢
  have hA : ∀ q : Nat, s.heap.size ≤ q → A q := fun q h => by rw [← hAe]; exact Or.inr h
  have hS : va_S A s.heap s.heap [] := va_S.rf
  have hl := lv_entry ([.ref x, .int a1, .ref zo]) (n := 4) (Nat.le_of_ble_eq_true rfl)
  rw [lg_entry_eq]
  generalize (lg_sl ([.ref x, .int a1, .ref zo]) ++ List.replicate (4 - (lg_sl ([.ref x, .int a1, .ref zo])).length) Slot.unset).toArray = ls at hl ⊢
  have hl : lv_has ls 4 [(0, .ref x), (1, .int a1), (2, .ref zo)] := hl
  refine lv_aload_n hx hb dL_predict_0 rfl (lv_at hl 2 rfl) ?_
  refine lv_iconst (v := 0) hx hb dL_predict_1 (by decide) ?_
  refine lv_aload_n hx hb dL_predict_2 rfl (lv_at hl 0 rfl) ?_
  refine lv_iload_n hx hb dL_predict_3 rfl (lv_at hl 1 rfl) ?_
  refine tx_catch1 (name := "java/lang/IllegalArgumentException") (tx_goV (As := [.int a1]) (rest := [.int 0, .ref zo]) ⟨hx, hb, hml, hown, hT⟩ (k_predict_no l D cT x xT xP xR xG xF tc xO xS xL xC xQ xU xW a1 hlt hq) ⟨callB_of 1 hT (tb_gd w1079) rfl rfl rfl (hT _ w1) (hT _ w1076) hR_predict ⟨Nat.le_of_ble_eq_true rfl, Nat.le_of_ble_eq_true rfl⟩, (hT _ w1077), (hT _ w1078)⟩ (RO.preV (ci := 0) (q0 := 0) hZ hS (hP.sub (ws' := [(x, .inr (0, [.ref xT, .ref xP, .ref xR, .ref xG, .ref xF, .int tc, .ref xO, .ref xS, .ref xL, .ref xC, .ref xQ, .ref xU, .ref xW]))]) [0] rfl) hK rfl rfl) rfl hl.1 rfl (Nat.le_of_ble_eq_true rfl) dL_predict_4 ⟨Nat.le_of_ble_eq_true rfl, Nat.le_of_ble_eq_true rfl⟩) hown htab rfl (by decide) (hT _ w503) (tc_c rfl (hZ.1.1 ("java/lang/IllegalArgumentException", "java/lang/IllegalArgumentException") (List.mem_of_getElem? (i := 0) rfl))) (fun q H1 hsz9 hag9 => ?_)
  have hP := tc_P hP hag9
  have hS := tc_S hS hsz9 hag9
  refine W.eq (g2 := F0 m 12 ls [.ref q]) rfl ?_
  refine lv_astore_n hx hb dL_predict_12 rfl hl (by decide) rfl (fun ls hl => ?_)
  have hl : lv_has ls 4 [(3, .ref q), (0, .ref x), (1, .int a1), (2, .ref zo)] := hl
  refine lv_iconst (v := 1) hx hb dL_predict_13 (by decide) ?_
  have hP9 := hP.sub (ws' := []) [] rfl
  have hD9 := hD.sub (ws' := []) [] (by decide) rfl
  refine W.widen (k := 1) (n := 6) (Nat.le_of_ble_eq_true rfl) (Nat.le_of_ble_eq_true rfl) ?_
  exact W.iret (v := 1) hx hb hr (fun t ht hW => ⟨⟨1, (fun _ => 0), rfl, rfl, by rw [ht]; exact hP9, hD9⟩, hS.F ht⟩) hS.2.2 dL_predict_14
set_option maxHeartbeats 4000000 in
set_option maxRecDepth 100000 in
theorem l_error_no (l : Launch) (D : va_G) (cT : Nat → ClassId) (x : Nat) (xT : Nat) (xP : Nat) (xR : Nat) (xG : Nat) (xF : Nat) (tc : Int32) (xO : Nat) (xS : Nat) (xL : Nat) (xC : Nat) (xQ : Nat) (xU : Nat) (xW : Nat) (a1 : Int64) (a2 : Int32) (zo : Nat) (hlt : l.stackTraces = false) (hq : ¬ (0 ≤ a2 ∧ a2 ≤ tc)) (sz : Nat) : Met l yL_error WL_error ({ frames := 8, cells := 1, slots := 6, locals := 134 } : Room) (RW D vwCl [.ref x, .long a1, .int a2, .ref zo] [(x, .inr (0, [.ref xT, .ref xP, .ref xR, .ref xG, .ref xF, .int tc, .ref xO, .ref xS, .ref xL, .ref xC, .ref xQ, .ref xU, .ref xW]))] (TY cT) sz) (va_Qi (fun (r : Int32) (_ : Nat → Nat) => r = 1) (BW D vwCl (va_A [(x, .inr (0, [.ref xT, .ref xP, .ref xR, .ref xG, .ref xF, .int tc, .ref xO, .ref xS, .ref xL, .ref xC, .ref xQ, .ref xU, .ref xW]))] sz) (fun u => [])) (va_A [(x, .inr (0, [.ref xT, .ref xP, .ref xR, .ref xG, .ref xF, .int tc, .ref xO, .ref xS, .ref xL, .ref xC, .ref xQ, .ref xU, .ref xW]))] sz)) 1 6 (va_A [(x, .inr (0, [.ref xT, .ref xP, .ref xR, .ref xG, .ref xF, .int tc, .ref xO, .ref xS, .ref xL, .ref xC, .ref xQ, .ref xU, .ref xW]))] sz) := by
  refine va_MetW (hh := [(0, 11, 14, 13)]) (cc := cL_error) (maxL := 6) (ret := (some .int)) (by decide) rfl ?_
  intro p e s m args below meth c s₁ B hml hv
  obtain ⟨rfl, hsz, hZ, hP, hK, hD0⟩ := hv
  have hx := B.exec
  have hb := B.bytes
  have hr := B.returns
  have hts := atoms_spec (ws := WL_error) B.pre
  have hT : ∀ w ∈ TB, w.before _ s = true := fun w h => hts w (List.mem_cons_of_mem _ h)
  have hown : s.vm.findClass R_L = some m.cls := findClass_of_methodNamed B.named
  have htab := tx_table B (bytes := cL_error) (maxL := 6) (ret := (some .int)) (hh := [(0, 11, 14, 13)]) (hts _ List.mem_cons_self)
  subst hsz
  have hD := hD0.self (sz := s.heap.size)
  generalize hAe : va_A [(x, .inr (0, [.ref xT, .ref xP, .ref xR, .ref xG, .ref xF, .int tc, .ref xO, .ref xS, .ref xL, .ref xC, .ref xQ, .ref xU, .ref xW]))] s.heap.size = A at hD hZ ⊢
  have hA : ∀ q : Nat, s.heap.size ≤ q → A q := fun q h => by rw [← hAe]; exact Or.inr h
  have hS : va_S A s.heap s.heap [] := va_S.rf
  have hl := lv_entry ([.ref x, .long a1, .int a2, .ref zo]) (n := 6) (Nat.le_of_ble_eq_true rfl)
  rw [lg_entry_eq]
  generalize (lg_sl ([.ref x, .long a1, .int a2, .ref zo]) ++ List.replicate (6 - (lg_sl ([.ref x, .long a1, .int a2, .ref zo])).length) Slot.unset).toArray = ls at hl ⊢
  have hl : lv_has ls 6 [(0, .ref x), (1, .long a1), (3, .int a2), (4, .ref zo)] := hl
  refine lv_aload hx hb dL_error_0 (lv_at hl 3 rfl) ?_
  refine lv_iconst (v := 0) hx hb dL_error_2 (by decide) ?_
  refine lv_aload_n hx hb dL_error_3 rfl (lv_at hl 0 rfl) ?_
  refine lv_lload_n hx hb dL_error_4 rfl (lv_at hl 1 rfl) ?_
  refine lv_iload_n hx hb dL_error_5 rfl (lv_at hl 2 rfl) ?_
  refine tx_catch1 (name := "java/lang/IllegalArgumentException") (tx_goV (As := [.long a1, .int a2]) (rest := [.int 0, .ref zo]) ⟨hx, hb, hml, hown, hT⟩ (k_error_no l D cT x xT xP xR xG xF tc xO xS xL xC xQ xU xW a1 a2 hlt hq) ⟨callB_of 2 hT (tb_gd w1090) rfl rfl rfl (hT _ w1) (hT _ w1087) hR_error ⟨Nat.le_of_ble_eq_true rfl, Nat.le_of_ble_eq_true rfl⟩, (hT _ w1088), (hT _ w1089)⟩ (RO.preV (ci := 0) (q0 := 0) hZ hS (hP.sub (ws' := [(x, .inr (0, [.ref xT, .ref xP, .ref xR, .ref xG, .ref xF, .int tc, .ref xO, .ref xS, .ref xL, .ref xC, .ref xQ, .ref xU, .ref xW]))]) [0] rfl) hK rfl rfl) rfl hl.1 rfl (Nat.le_of_ble_eq_true rfl) dL_error_6 ⟨Nat.le_of_ble_eq_true rfl, Nat.le_of_ble_eq_true rfl⟩) hown htab rfl (by decide) (hT _ w503) (tc_c rfl (hZ.1.1 ("java/lang/IllegalArgumentException", "java/lang/IllegalArgumentException") (List.mem_of_getElem? (i := 0) rfl))) (fun q H1 hsz9 hag9 => ?_)
  have hP := tc_P hP hag9
  have hS := tc_S hS hsz9 hag9
  refine W.eq (g2 := F0 m 14 ls [.ref q]) rfl ?_
  refine lv_astore hx hb dL_error_14 hl (by decide) rfl (fun ls hl => ?_)
  have hl : lv_has ls 6 [(5, .ref q), (0, .ref x), (1, .long a1), (3, .int a2), (4, .ref zo)] := hl
  refine lv_iconst (v := 1) hx hb dL_error_16 (by decide) ?_
  have hP9 := hP.sub (ws' := []) [] rfl
  have hD9 := hD.sub (ws' := []) [] (by decide) rfl
  refine W.widen (k := 1) (n := 6) (Nat.le_of_ble_eq_true rfl) (Nat.le_of_ble_eq_true rfl) ?_
  exact W.iret (v := 1) hx hb hr (fun t ht hW => ⟨⟨1, (fun _ => 0), rfl, rfl, by rw [ht]; exact hP9, hD9⟩, hS.F ht⟩) hS.2.2 dL_error_17
set_option maxHeartbeats 4000000 in
set_option maxRecDepth 100000 in
theorem l_train_no (l : Launch) (D : va_G) (cT : Nat → ClassId) (x : Nat) (xT : Nat) (xP : Nat) (xR : Nat) (xG : Nat) (xF : Nat) (tc : Int32) (xO : Nat) (xS : Nat) (xL : Nat) (xC : Nat) (xQ : Nat) (xU : Nat) (xW : Nat) (a1 : Int32) (zo : Nat) (hlt : l.stackTraces = false) (hq : ¬ (1 ≤ a1 ∧ a1 ≤ 16)) (sz : Nat) : Met l yL_train WL_train ({ frames := 8, cells := 1, slots := 6, locals := 137 } : Room) (RW D vwCl [.ref x, .int a1, .ref zo] [(x, .inr (0, [.ref xT, .ref xP, .ref xR, .ref xG, .ref xF, .int tc, .ref xO, .ref xS, .ref xL, .ref xC, .ref xQ, .ref xU, .ref xW]))] (TY cT) sz) (va_Qi (fun (r : Int32) (_ : Nat → Nat) => r = 1) (BW D vwCl (va_A [(x, .inr (0, [.ref xT, .ref xP, .ref xR, .ref xG, .ref xF, .int tc, .ref xO, .ref xS, .ref xL, .ref xC, .ref xQ, .ref xU, .ref xW]))] sz) (fun u => [])) (va_A [(x, .inr (0, [.ref xT, .ref xP, .ref xR, .ref xG, .ref xF, .int tc, .ref xO, .ref xS, .ref xL, .ref xC, .ref xQ, .ref xU, .ref xW]))] sz)) 1 6 (va_A [(x, .inr (0, [.ref xT, .ref xP, .ref xR, .ref xG, .ref xF, .int tc, .ref xO, .ref xS, .ref xL, .ref xC, .ref xQ, .ref xU, .ref xW]))] sz) := by
  refine va_MetW (hh := [(0, 9, 12, 13), (0, 9, 15, 19)]) (cc := cL_train) (maxL := 4) (ret := (some .int)) (by decide) rfl ?_
  intro p e s m args below meth c s₁ B hml hv
  obtain ⟨rfl, hsz, hZ, hP, hK, hD0⟩ := hv
  have hx := B.exec
  have hb := B.bytes
  have hr := B.returns
  have hts := atoms_spec (ws := WL_train) B.pre
  have hT : ∀ w ∈ TB, w.before _ s = true := fun w h => hts w (List.mem_cons_of_mem _ h)
  have hown : s.vm.findClass R_L = some m.cls := findClass_of_methodNamed B.named
  have htab := tx_table B (bytes := cL_train) (maxL := 4) (ret := (some .int)) (hh := [(0, 9, 12, 13), (0, 9, 15, 19)]) (hts _ List.mem_cons_self)
  subst hsz
  have hD := hD0.self (sz := s.heap.size)
  generalize hAe : va_A [(x, .inr (0, [.ref xT, .ref xP, .ref xR, .ref xG, .ref xF, .int tc, .ref xO, .ref xS, .ref xL, .ref xC, .ref xQ, .ref xU, .ref xW]))] s.heap.size = A at hD hZ ⊢
  have hA : ∀ q : Nat, s.heap.size ≤ q → A q := fun q h => by rw [← hAe]; exact Or.inr h
  have hS : va_S A s.heap s.heap [] := va_S.rf
  have hl := lv_entry ([.ref x, .int a1, .ref zo]) (n := 4) (Nat.le_of_ble_eq_true rfl)
  rw [lg_entry_eq]
  generalize (lg_sl ([.ref x, .int a1, .ref zo]) ++ List.replicate (4 - (lg_sl ([.ref x, .int a1, .ref zo])).length) Slot.unset).toArray = ls at hl ⊢
  have hl : lv_has ls 4 [(0, .ref x), (1, .int a1), (2, .ref zo)] := hl
  refine lv_aload_n hx hb dL_train_0 rfl (lv_at hl 2 rfl) ?_
  refine lv_iconst (v := 0) hx hb dL_train_1 (by decide) ?_
  refine lv_aload_n hx hb dL_train_2 rfl (lv_at hl 0 rfl) ?_
  refine lv_iload_n hx hb dL_train_3 rfl (lv_at hl 1 rfl) ?_
  refine tx_catch1 (name := "java/lang/IllegalArgumentException") (tx_goV (As := [.int a1]) (rest := [.int 0, .ref zo]) ⟨hx, hb, hml, hown, hT⟩ (k_train_no l D cT x xT xP xR xG xF tc xO xS xL xC xQ xU xW a1 hlt hq) ⟨callB_of 1 hT (tb_gd w710) rfl rfl rfl (hT _ w1) (hT _ w707) hR_train ⟨Nat.le_of_ble_eq_true rfl, Nat.le_of_ble_eq_true rfl⟩, (hT _ w708), (hT _ w709)⟩ (RO.preV (ci := 0) (q0 := 0) hZ hS (hP.sub (ws' := [(x, .inr (0, [.ref xT, .ref xP, .ref xR, .ref xG, .ref xF, .int tc, .ref xO, .ref xS, .ref xL, .ref xC, .ref xQ, .ref xU, .ref xW]))]) [0] rfl) hK rfl rfl) rfl hl.1 rfl (Nat.le_of_ble_eq_true rfl) dL_train_4 ⟨Nat.le_of_ble_eq_true rfl, Nat.le_of_ble_eq_true rfl⟩) hown htab rfl (by decide) (hT _ w503) (tc_c rfl (hZ.1.1 ("java/lang/IllegalArgumentException", "java/lang/IllegalArgumentException") (List.mem_of_getElem? (i := 0) rfl))) (fun q H1 hsz9 hag9 => ?_)
  have hP := tc_P hP hag9
  have hS := tc_S hS hsz9 hag9
  refine W.eq (g2 := F0 m 12 ls [.ref q]) rfl ?_
  refine lv_astore_n hx hb dL_train_12 rfl hl (by decide) rfl (fun ls hl => ?_)
  have hl : lv_has ls 4 [(3, .ref q), (0, .ref x), (1, .int a1), (2, .ref zo)] := hl
  refine lv_iconst (v := 1) hx hb dL_train_13 (by decide) ?_
  have hP9 := hP.sub (ws' := []) [] rfl
  have hD9 := hD.sub (ws' := []) [] (by decide) rfl
  refine W.widen (k := 1) (n := 6) (Nat.le_of_ble_eq_true rfl) (Nat.le_of_ble_eq_true rfl) ?_
  exact W.iret (v := 1) hx hb hr (fun t ht hW => ⟨⟨1, (fun _ => 0), rfl, rfl, by rw [ht]; exact hP9, hD9⟩, hS.F ht⟩) hS.2.2 dL_train_14
set_option maxHeartbeats 4000000 in
set_option maxRecDepth 100000 in
theorem l_ask_no (l : Launch) (D : va_G) (cT : Nat → ClassId) (x : Nat) (xT : Nat) (xP : Nat) (xR : Nat) (xG : Nat) (xF : Nat) (tc : Int32) (xO : Nat) (xS : Nat) (xL : Nat) (xC : Nat) (xQ : Nat) (xU : Nat) (xW : Nat) (ca : Nat) (ta : Nat) (w : Int32) (r : Int32) (a1 : Int32) (a2 : Int32) (zo : Nat) (hlt : l.stackTraces = false) (hq : ¬ ((0 ≤ a1 ∧ a1 ≤ w - 1) ∧ (a2 = (-2147483648) ∨ ((-1000000) ≤ a2 ∧ a2 ≤ 1000000)))) (sz : Nat) : Met l yL_ask WL_ask ({ frames := 8, cells := 1, slots := 6, locals := 133 } : Room) (RW D vwCl [.ref x, .int a1, .int a2, .ref zo] [(x, .inr (0, [.ref xT, .ref xP, .ref xR, .ref xG, .ref xF, .int tc, .ref xO, .ref xS, .ref xL, .ref xC, .ref xQ, .ref xU, .ref xW])), (xT, .inr (2, [.ref ca, .ref ta, .int w, .int r]))] (TY cT) sz) (va_Qi (fun (r : Int32) (_ : Nat → Nat) => r = 1) (BW D vwCl (va_A [(x, .inr (0, [.ref xT, .ref xP, .ref xR, .ref xG, .ref xF, .int tc, .ref xO, .ref xS, .ref xL, .ref xC, .ref xQ, .ref xU, .ref xW])), (xT, .inr (2, [.ref ca, .ref ta, .int w, .int r]))] sz) (fun u => [])) (va_A [(x, .inr (0, [.ref xT, .ref xP, .ref xR, .ref xG, .ref xF, .int tc, .ref xO, .ref xS, .ref xL, .ref xC, .ref xQ, .ref xU, .ref xW])), (xT, .inr (2, [.ref ca, .ref ta, .int w, .int r]))] sz)) 1 6 (va_A [(x, .inr (0, [.ref xT, .ref xP, .ref xR, .ref xG, .ref xF, .int tc, .ref xO, .ref xS, .ref xL, .ref xC, .ref xQ, .ref xU, .ref xW])), (xT, .inr (2, [.ref ca, .ref ta, .int w, .int r]))] sz) := by
  refine va_MetW (hh := [(0, 10, 13, 13)]) (cc := cL_ask) (maxL := 5) (ret := (some .int)) (by decide) rfl ?_
  intro p e s m args below meth c s₁ B hml hv
  obtain ⟨rfl, hsz, hZ, hP, hK, hD0⟩ := hv
  have hx := B.exec
  have hb := B.bytes
  have hr := B.returns
  have hts := atoms_spec (ws := WL_ask) B.pre
  have hT : ∀ w ∈ TB, w.before _ s = true := fun w h => hts w (List.mem_cons_of_mem _ h)
  have hown : s.vm.findClass R_L = some m.cls := findClass_of_methodNamed B.named
  have htab := tx_table B (bytes := cL_ask) (maxL := 5) (ret := (some .int)) (hh := [(0, 10, 13, 13)]) (hts _ List.mem_cons_self)
  subst hsz
  have hD := hD0.self (sz := s.heap.size)
  generalize hAe : va_A [(x, .inr (0, [.ref xT, .ref xP, .ref xR, .ref xG, .ref xF, .int tc, .ref xO, .ref xS, .ref xL, .ref xC, .ref xQ, .ref xU, .ref xW])), (xT, .inr (2, [.ref ca, .ref ta, .int w, .int r]))] s.heap.size = A at hD hZ ⊢
  have hA : ∀ q : Nat, s.heap.size ≤ q → A q := fun q h => by rw [← hAe]; exact Or.inr h
  have hS : va_S A s.heap s.heap [] := va_S.rf
  have hl := lv_entry ([.ref x, .int a1, .int a2, .ref zo]) (n := 5) (Nat.le_of_ble_eq_true rfl)
  rw [lg_entry_eq]
  generalize (lg_sl ([.ref x, .int a1, .int a2, .ref zo]) ++ List.replicate (5 - (lg_sl ([.ref x, .int a1, .int a2, .ref zo])).length) Slot.unset).toArray = ls at hl ⊢
  have hl : lv_has ls 5 [(0, .ref x), (1, .int a1), (2, .int a2), (3, .ref zo)] := hl
  refine lv_aload_n hx hb dL_ask_0 rfl (lv_at hl 3 rfl) ?_
  refine lv_iconst (v := 0) hx hb dL_ask_1 (by decide) ?_
  refine lv_aload_n hx hb dL_ask_2 rfl (lv_at hl 0 rfl) ?_
  refine lv_iload_n hx hb dL_ask_3 rfl (lv_at hl 1 rfl) ?_
  refine lv_iload_n hx hb dL_ask_4 rfl (lv_at hl 2 rfl) ?_
  refine tx_catch1 (name := "java/lang/IllegalArgumentException") (tx_goV (As := [.int a1, .int a2]) (rest := [.int 0, .ref zo]) ⟨hx, hb, hml, hown, hT⟩ (k_ask_no l D cT x xT xP xR xG xF tc xO xS xL xC xQ xU xW ca ta w r a1 a2 hlt hq) ⟨callB_of 2 hT (tb_gd w1071) rfl rfl rfl (hT _ w1) (hT _ w1068) hR_ask ⟨Nat.le_of_ble_eq_true rfl, Nat.le_of_ble_eq_true rfl⟩, (hT _ w1069), (hT _ w1070)⟩ (RO.preV (ci := 0) (q0 := 0) hZ hS (hP.sub (ws' := [(x, .inr (0, [.ref xT, .ref xP, .ref xR, .ref xG, .ref xF, .int tc, .ref xO, .ref xS, .ref xL, .ref xC, .ref xQ, .ref xU, .ref xW])), (xT, .inr (2, [.ref ca, .ref ta, .int w, .int r]))]) [0, 1] rfl) hK rfl rfl) rfl hl.1 rfl (Nat.le_of_ble_eq_true rfl) dL_ask_5 ⟨Nat.le_of_ble_eq_true rfl, Nat.le_of_ble_eq_true rfl⟩) hown htab rfl (by decide) (hT _ w503) (tc_c rfl (hZ.1.1 ("java/lang/IllegalArgumentException", "java/lang/IllegalArgumentException") (List.mem_of_getElem? (i := 0) rfl))) (fun q H1 hsz9 hag9 => ?_)
  have hP := tc_P hP hag9
  have hS := tc_S hS hsz9 hag9
  refine W.eq (g2 := F0 m 13 ls [.ref q]) rfl ?_
  refine lv_astore hx hb dL_ask_13 hl (by decide) rfl (fun ls hl => ?_)
  have hl : lv_has ls 5 [(4, .ref q), (0, .ref x), (1, .int a1), (2, .int a2), (3, .ref zo)] := hl
  refine lv_iconst (v := 1) hx hb dL_ask_15 (by decide) ?_
  have hP9 := hP.sub (ws' := []) [] rfl
  have hD9 := hD.sub (ws' := []) [] (by decide) rfl
  refine W.widen (k := 1) (n := 6) (Nat.le_of_ble_eq_true rfl) (Nat.le_of_ble_eq_true rfl) ?_
  exact W.iret (v := 1) hx hb hr (fun t ht hW => ⟨⟨1, (fun _ => 0), rfl, rfl, by rw [ht]; exact hP9, hD9⟩, hS.F ht⟩) hS.2.2 dL_ask_16
set_option maxHeartbeats 4000000 in
set_option maxRecDepth 100000 in
theorem l_node_no (l : Launch) (D : va_G) (cT : Nat → ClassId) (x : Nat) (xT : Nat) (xP : Nat) (xR : Nat) (xG : Nat) (xF : Nat) (tc : Int32) (xO : Nat) (xS : Nat) (xL : Nat) (xC : Nat) (xQ : Nat) (xU : Nat) (xW : Nat) (a1 : Int32) (a2 : Int32) (a3 : Int32) (zo : Nat) (hlt : l.stackTraces = false) (hq : ¬ (0 ≤ a1 ∧ a1 ≤ (tc - 1))) (sz : Nat) : Met l yL_node WL_node ({ frames := 8, cells := 1, slots := 6, locals := 135 } : Room) (RW D vwCl [.ref x, .int a1, .int a2, .int a3, .ref zo] [(x, .inr (0, [.ref xT, .ref xP, .ref xR, .ref xG, .ref xF, .int tc, .ref xO, .ref xS, .ref xL, .ref xC, .ref xQ, .ref xU, .ref xW]))] (TY cT) sz) (va_Qi (fun (r : Int32) (_ : Nat → Nat) => r = 1) (BW D vwCl (va_A [(x, .inr (0, [.ref xT, .ref xP, .ref xR, .ref xG, .ref xF, .int tc, .ref xO, .ref xS, .ref xL, .ref xC, .ref xQ, .ref xU, .ref xW]))] sz) (fun u => [])) (va_A [(x, .inr (0, [.ref xT, .ref xP, .ref xR, .ref xG, .ref xF, .int tc, .ref xO, .ref xS, .ref xL, .ref xC, .ref xQ, .ref xU, .ref xW]))] sz)) 1 6 (va_A [(x, .inr (0, [.ref xT, .ref xP, .ref xR, .ref xG, .ref xF, .int tc, .ref xO, .ref xS, .ref xL, .ref xC, .ref xQ, .ref xU, .ref xW]))] sz) := by
  refine va_MetW (hh := [(0, 12, 15, 13)]) (cc := cL_node) (maxL := 6) (ret := (some .int)) (by decide) rfl ?_
  intro p e s m args below meth c s₁ B hml hv
  obtain ⟨rfl, hsz, hZ, hP, hK, hD0⟩ := hv
  have hx := B.exec
  have hb := B.bytes
  have hr := B.returns
  have hts := atoms_spec (ws := WL_node) B.pre
  have hT : ∀ w ∈ TB, w.before _ s = true := fun w h => hts w (List.mem_cons_of_mem _ h)
  have hown : s.vm.findClass R_L = some m.cls := findClass_of_methodNamed B.named
  have htab := tx_table B (bytes := cL_node) (maxL := 6) (ret := (some .int)) (hh := [(0, 12, 15, 13)]) (hts _ List.mem_cons_self)
  subst hsz
  have hD := hD0.self (sz := s.heap.size)
  generalize hAe : va_A [(x, .inr (0, [.ref xT, .ref xP, .ref xR, .ref xG, .ref xF, .int tc, .ref xO, .ref xS, .ref xL, .ref xC, .ref xQ, .ref xU, .ref xW]))] s.heap.size = A at hD hZ ⊢
  have hA : ∀ q : Nat, s.heap.size ≤ q → A q := fun q h => by rw [← hAe]; exact Or.inr h
  have hS : va_S A s.heap s.heap [] := va_S.rf
  have hl := lv_entry ([.ref x, .int a1, .int a2, .int a3, .ref zo]) (n := 6) (Nat.le_of_ble_eq_true rfl)
  rw [lg_entry_eq]
  generalize (lg_sl ([.ref x, .int a1, .int a2, .int a3, .ref zo]) ++ List.replicate (6 - (lg_sl ([.ref x, .int a1, .int a2, .int a3, .ref zo])).length) Slot.unset).toArray = ls at hl ⊢
  have hl : lv_has ls 6 [(0, .ref x), (1, .int a1), (2, .int a2), (3, .int a3), (4, .ref zo)] := hl
  refine lv_aload hx hb dL_node_0 (lv_at hl 4 rfl) ?_
  refine lv_iconst (v := 0) hx hb dL_node_2 (by decide) ?_
  refine lv_aload_n hx hb dL_node_3 rfl (lv_at hl 0 rfl) ?_
  refine lv_iload_n hx hb dL_node_4 rfl (lv_at hl 1 rfl) ?_
  refine lv_iload_n hx hb dL_node_5 rfl (lv_at hl 2 rfl) ?_
  refine lv_iload_n hx hb dL_node_6 rfl (lv_at hl 3 rfl) ?_
  refine tx_catch1 (name := "java/lang/IllegalArgumentException") (tx_goV (As := [.int a1, .int a2, .int a3]) (rest := [.int 0, .ref zo]) ⟨hx, hb, hml, hown, hT⟩ (k_node_no l D cT x xT xP xR xG xF tc xO xS xL xC xQ xU xW a1 a2 a3 hlt hq) ⟨callB_of 3 hT (tb_gd w1000) rfl rfl rfl (hT _ w1) (hT _ w997) hR_node ⟨Nat.le_of_ble_eq_true rfl, Nat.le_of_ble_eq_true rfl⟩, (hT _ w998), (hT _ w999)⟩ (RO.preV (ci := 0) (q0 := 0) hZ hS (hP.sub (ws' := [(x, .inr (0, [.ref xT, .ref xP, .ref xR, .ref xG, .ref xF, .int tc, .ref xO, .ref xS, .ref xL, .ref xC, .ref xQ, .ref xU, .ref xW]))]) [0] rfl) hK rfl rfl) rfl hl.1 rfl (Nat.le_of_ble_eq_true rfl) dL_node_7 ⟨Nat.le_of_ble_eq_true rfl, Nat.le_of_ble_eq_true rfl⟩) hown htab rfl (by decide) (hT _ w503) (tc_c rfl (hZ.1.1 ("java/lang/IllegalArgumentException", "java/lang/IllegalArgumentException") (List.mem_of_getElem? (i := 0) rfl))) (fun q H1 hsz9 hag9 => ?_)
  have hP := tc_P hP hag9
  have hS := tc_S hS hsz9 hag9
  refine W.eq (g2 := F0 m 15 ls [.ref q]) rfl ?_
  refine lv_astore hx hb dL_node_15 hl (by decide) rfl (fun ls hl => ?_)
  have hl : lv_has ls 6 [(5, .ref q), (0, .ref x), (1, .int a1), (2, .int a2), (3, .int a3), (4, .ref zo)] := hl
  refine lv_iconst (v := 1) hx hb dL_node_17 (by decide) ?_
  have hP9 := hP.sub (ws' := []) [] rfl
  have hD9 := hD.sub (ws' := []) [] (by decide) rfl
  refine W.widen (k := 1) (n := 6) (Nat.le_of_ble_eq_true rfl) (Nat.le_of_ble_eq_true rfl) ?_
  exact W.iret (v := 1) hx hb hr (fun t ht hW => ⟨⟨1, (fun _ => 0), rfl, rfl, by rw [ht]; exact hP9, hD9⟩, hS.F ht⟩) hS.2.2 dL_node_18
set_option maxHeartbeats 4000000 in
set_option maxRecDepth 100000 in
theorem l_tell_no (l : Launch) (D : va_G) (cT : Nat → ClassId) (x : Nat) (xT : Nat) (xP : Nat) (xR : Nat) (xG : Nat) (xF : Nat) (tc : Int32) (xO : Nat) (xS : Nat) (xL : Nat) (xC : Nat) (xQ : Nat) (xU : Nat) (xW : Nat) (a1 : Int32) (a2 : Int32) (zo : Nat) (hlt : l.stackTraces = false) (hq : ¬ (0 ≤ a1 ∧ a1 ≤ (tc - 1))) (sz : Nat) : Met l yL_tell WL_tell ({ frames := 8, cells := 1, slots := 6, locals := 135 } : Room) (RW D vwCl [.ref x, .int a1, .int a2, .ref zo] [(x, .inr (0, [.ref xT, .ref xP, .ref xR, .ref xG, .ref xF, .int tc, .ref xO, .ref xS, .ref xL, .ref xC, .ref xQ, .ref xU, .ref xW]))] (TY cT) sz) (va_Qi (fun (r : Int32) (_ : Nat → Nat) => r = 1) (BW D vwCl (va_A [(x, .inr (0, [.ref xT, .ref xP, .ref xR, .ref xG, .ref xF, .int tc, .ref xO, .ref xS, .ref xL, .ref xC, .ref xQ, .ref xU, .ref xW]))] sz) (fun u => [])) (va_A [(x, .inr (0, [.ref xT, .ref xP, .ref xR, .ref xG, .ref xF, .int tc, .ref xO, .ref xS, .ref xL, .ref xC, .ref xQ, .ref xU, .ref xW]))] sz)) 1 6 (va_A [(x, .inr (0, [.ref xT, .ref xP, .ref xR, .ref xG, .ref xF, .int tc, .ref xO, .ref xS, .ref xL, .ref xC, .ref xQ, .ref xU, .ref xW]))] sz) := by
  refine va_MetW (hh := [(0, 10, 13, 13)]) (cc := cL_tell) (maxL := 5) (ret := (some .int)) (by decide) rfl ?_
  intro p e s m args below meth c s₁ B hml hv
  obtain ⟨rfl, hsz, hZ, hP, hK, hD0⟩ := hv
  have hx := B.exec
  have hb := B.bytes
  have hr := B.returns
  have hts := atoms_spec (ws := WL_tell) B.pre
  have hT : ∀ w ∈ TB, w.before _ s = true := fun w h => hts w (List.mem_cons_of_mem _ h)
  have hown : s.vm.findClass R_L = some m.cls := findClass_of_methodNamed B.named
  have htab := tx_table B (bytes := cL_tell) (maxL := 5) (ret := (some .int)) (hh := [(0, 10, 13, 13)]) (hts _ List.mem_cons_self)
  subst hsz
  have hD := hD0.self (sz := s.heap.size)
  generalize hAe : va_A [(x, .inr (0, [.ref xT, .ref xP, .ref xR, .ref xG, .ref xF, .int tc, .ref xO, .ref xS, .ref xL, .ref xC, .ref xQ, .ref xU, .ref xW]))] s.heap.size = A at hD hZ ⊢
  have hA : ∀ q : Nat, s.heap.size ≤ q → A q := fun q h => by rw [← hAe]; exact Or.inr h
  have hS : va_S A s.heap s.heap [] := va_S.rf
  have hl := lv_entry ([.ref x, .int a1, .int a2, .ref zo]) (n := 5) (Nat.le_of_ble_eq_true rfl)
  rw [lg_entry_eq]
  generalize (lg_sl ([.ref x, .int a1, .int a2, .ref zo]) ++ List.replicate (5 - (lg_sl ([.ref x, .int a1, .int a2, .ref zo])).length) Slot.unset).toArray = ls at hl ⊢
  have hl : lv_has ls 5 [(0, .ref x), (1, .int a1), (2, .int a2), (3, .ref zo)] := hl
  refine lv_aload_n hx hb dL_tell_0 rfl (lv_at hl 3 rfl) ?_
  refine lv_iconst (v := 0) hx hb dL_tell_1 (by decide) ?_
  refine lv_aload_n hx hb dL_tell_2 rfl (lv_at hl 0 rfl) ?_
  refine lv_iload_n hx hb dL_tell_3 rfl (lv_at hl 1 rfl) ?_
  refine lv_iload_n hx hb dL_tell_4 rfl (lv_at hl 2 rfl) ?_
  refine tx_catch1 (name := "java/lang/IllegalArgumentException") (tx_goV (As := [.int a1, .int a2]) (rest := [.int 0, .ref zo]) ⟨hx, hb, hml, hown, hT⟩ (k_tell_no l D cT x xT xP xR xG xF tc xO xS xL xC xQ xU xW a1 a2 hlt hq) ⟨callB_of 2 hT (tb_gd w1037) rfl rfl rfl (hT _ w1) (hT _ w1034) hR_tell ⟨Nat.le_of_ble_eq_true rfl, Nat.le_of_ble_eq_true rfl⟩, (hT _ w1035), (hT _ w1036)⟩ (RO.preV (ci := 0) (q0 := 0) hZ hS (hP.sub (ws' := [(x, .inr (0, [.ref xT, .ref xP, .ref xR, .ref xG, .ref xF, .int tc, .ref xO, .ref xS, .ref xL, .ref xC, .ref xQ, .ref xU, .ref xW]))]) [0] rfl) hK rfl rfl) rfl hl.1 rfl (Nat.le_of_ble_eq_true rfl) dL_tell_5 ⟨Nat.le_of_ble_eq_true rfl, Nat.le_of_ble_eq_true rfl⟩) hown htab rfl (by decide) (hT _ w503) (tc_c rfl (hZ.1.1 ("java/lang/IllegalArgumentException", "java/lang/IllegalArgumentException") (List.mem_of_getElem? (i := 0) rfl))) (fun q H1 hsz9 hag9 => ?_)
  have hP := tc_P hP hag9
  have hS := tc_S hS hsz9 hag9
  refine W.eq (g2 := F0 m 13 ls [.ref q]) rfl ?_
  refine lv_astore hx hb dL_tell_13 hl (by decide) rfl (fun ls hl => ?_)
  have hl : lv_has ls 5 [(4, .ref q), (0, .ref x), (1, .int a1), (2, .int a2), (3, .ref zo)] := hl
  refine lv_iconst (v := 1) hx hb dL_tell_15 (by decide) ?_
  have hP9 := hP.sub (ws' := []) [] rfl
  have hD9 := hD.sub (ws' := []) [] (by decide) rfl
  refine W.widen (k := 1) (n := 6) (Nat.le_of_ble_eq_true rfl) (Nat.le_of_ble_eq_true rfl) ?_
  exact W.iret (v := 1) hx hb hr (fun t ht hW => ⟨⟨1, (fun _ => 0), rfl, rfl, by rw [ht]; exact hP9, hD9⟩, hS.F ht⟩) hS.2.2 dL_tell_16
set_option maxHeartbeats 4000000 in
set_option maxRecDepth 100000 in
theorem l_count_no (l : Launch) (D : va_G) (cT : Nat → ClassId) (x : Nat) (xT : Nat) (xP : Nat) (xR : Nat) (xG : Nat) (xF : Nat) (tc : Int32) (xO : Nat) (xS : Nat) (xL : Nat) (xC : Nat) (xQ : Nat) (xU : Nat) (xW : Nat) (a1 : Int32) (zo : Nat) (hlt : l.stackTraces = false) (hq : a1.toInt < 0 ∨ 4 < a1.toInt) (sz : Nat) : Met l yL_count WL_count ({ frames := 7, cells := 1, slots := 6, locals := 112 } : Room) (RW D vwCl [.ref x, .int a1, .ref zo] [(x, .inr (0, [.ref xT, .ref xP, .ref xR, .ref xG, .ref xF, .int tc, .ref xO, .ref xS, .ref xL, .ref xC, .ref xQ, .ref xU, .ref xW]))] (TY cT) sz) (va_Qi (fun (r : Int32) (_ : Nat → Nat) => r = 1) (BW D vwCl (va_A [(x, .inr (0, [.ref xT, .ref xP, .ref xR, .ref xG, .ref xF, .int tc, .ref xO, .ref xS, .ref xL, .ref xC, .ref xQ, .ref xU, .ref xW]))] sz) (fun u => [])) (va_A [(x, .inr (0, [.ref xT, .ref xP, .ref xR, .ref xG, .ref xF, .int tc, .ref xO, .ref xS, .ref xL, .ref xC, .ref xQ, .ref xU, .ref xW]))] sz)) 1 6 (va_A [(x, .inr (0, [.ref xT, .ref xP, .ref xR, .ref xG, .ref xF, .int tc, .ref xO, .ref xS, .ref xL, .ref xC, .ref xQ, .ref xU, .ref xW]))] sz) := by
  refine va_MetW (hh := [(0, 9, 12, 13)]) (cc := cL_count) (maxL := 4) (ret := (some .int)) (by decide) rfl ?_
  intro p e s m args below meth c s₁ B hml hv
  obtain ⟨rfl, hsz, hZ, hP, hK, hD0⟩ := hv
  have hx := B.exec
  have hb := B.bytes
  have hr := B.returns
  have hts := atoms_spec (ws := WL_count) B.pre
  have hT : ∀ w ∈ TB, w.before _ s = true := fun w h => hts w (List.mem_cons_of_mem _ h)
  have hown : s.vm.findClass R_L = some m.cls := findClass_of_methodNamed B.named
  have htab := tx_table B (bytes := cL_count) (maxL := 4) (ret := (some .int)) (hh := [(0, 9, 12, 13)]) (hts _ List.mem_cons_self)
  subst hsz
  have hD := hD0.self (sz := s.heap.size)
  generalize hAe : va_A [(x, .inr (0, [.ref xT, .ref xP, .ref xR, .ref xG, .ref xF, .int tc, .ref xO, .ref xS, .ref xL, .ref xC, .ref xQ, .ref xU, .ref xW]))] s.heap.size = A at hD hZ ⊢
  have hA : ∀ q : Nat, s.heap.size ≤ q → A q := fun q h => by rw [← hAe]; exact Or.inr h
  have hS : va_S A s.heap s.heap [] := va_S.rf
  have hl := lv_entry ([.ref x, .int a1, .ref zo]) (n := 4) (Nat.le_of_ble_eq_true rfl)
  rw [lg_entry_eq]
  generalize (lg_sl ([.ref x, .int a1, .ref zo]) ++ List.replicate (4 - (lg_sl ([.ref x, .int a1, .ref zo])).length) Slot.unset).toArray = ls at hl ⊢
  have hl : lv_has ls 4 [(0, .ref x), (1, .int a1), (2, .ref zo)] := hl
  refine lv_aload_n hx hb dL_count_0 rfl (lv_at hl 2 rfl) ?_
  refine lv_iconst (v := 0) hx hb dL_count_1 (by decide) ?_
  refine lv_aload_n hx hb dL_count_2 rfl (lv_at hl 0 rfl) ?_
  refine lv_iload_n hx hb dL_count_3 rfl (lv_at hl 1 rfl) ?_
  refine tx_catch1 (name := "java/lang/IllegalArgumentException") (tx_goV (As := [.int a1]) (rest := [.int 0, .ref zo]) ⟨hx, hb, hml, hown, hT⟩ (k_count_no l D cT x xT xP xR xG xF tc xO xS xL xC xQ xU xW a1 hlt hq) ⟨callB_of 1 hT (tb_gd w1012) rfl rfl rfl (hT _ w1) (hT _ w1009) hR_count ⟨Nat.le_of_ble_eq_true rfl, Nat.le_of_ble_eq_true rfl⟩, (hT _ w1010), (hT _ w1011)⟩ (RO.preV (ci := 0) (q0 := 0) hZ hS (hP.sub (ws' := [(x, .inr (0, [.ref xT, .ref xP, .ref xR, .ref xG, .ref xF, .int tc, .ref xO, .ref xS, .ref xL, .ref xC, .ref xQ, .ref xU, .ref xW]))]) [0] rfl) hK rfl rfl) rfl hl.1 rfl (Nat.le_of_ble_eq_true rfl) dL_count_4 ⟨Nat.le_of_ble_eq_true rfl, Nat.le_of_ble_eq_true rfl⟩) hown htab rfl (by decide) (hT _ w503) (tc_c rfl (hZ.1.1 ("java/lang/IllegalArgumentException", "java/lang/IllegalArgumentException") (List.mem_of_getElem? (i := 0) rfl))) (fun q H1 hsz9 hag9 => ?_)
  have hP := tc_P hP hag9
  have hS := tc_S hS hsz9 hag9
  refine W.eq (g2 := F0 m 12 ls [.ref q]) rfl ?_
  refine lv_astore_n hx hb dL_count_12 rfl hl (by decide) rfl (fun ls hl => ?_)
  have hl : lv_has ls 4 [(3, .ref q), (0, .ref x), (1, .int a1), (2, .ref zo)] := hl
  refine lv_iconst (v := 1) hx hb dL_count_13 (by decide) ?_
  have hP9 := hP.sub (ws' := []) [] rfl
  have hD9 := hD.sub (ws' := []) [] (by decide) rfl
  refine W.widen (k := 1) (n := 6) (Nat.le_of_ble_eq_true rfl) (Nat.le_of_ble_eq_true rfl) ?_
  exact W.iret (v := 1) hx hb hr (fun t ht hW => ⟨⟨1, (fun _ => 0), rfl, rfl, by rw [ht]; exact hP9, hD9⟩, hS.F ht⟩) hS.2.2 dL_count_14
set_option maxHeartbeats 4000000 in
set_option maxRecDepth 100000 in
theorem l_edge_no0 (l : Launch) (D : va_G) (cT : Nat → ClassId) (x : Nat) (xT : Nat) (xP : Nat) (xR : Nat) (xG : Nat) (xF : Nat) (tc : Int32) (xO : Nat) (xS : Nat) (xL : Nat) (xC : Nat) (xQ : Nat) (xU : Nat) (xW : Nat) (ca : Nat) (ta : Nat) (cf : Nat → Option Nat) (c0 : Nat) (v0 : Nat) (ed0 : Nat) (a2 : Int32) (zo : Nat) (hlt : l.stackTraces = false) (hf0 : cf 0 = some c0) (sz : Nat) : Met l yL_edge WL_edge ({ frames := 8, cells := 1, slots := 6, locals := 133 } : Room) (RW D vwCl [.ref x, .int 0, .int a2, .ref zo] [(x, .inr (0, [.ref xT, .ref xP, .ref xR, .ref xG, .ref xF, .int tc, .ref xO, .ref xS, .ref xL, .ref xC, .ref xQ, .ref xU, .ref xW])), (xT, .inr (2, [.ref ca, .ref ta, .int 1, .int 0])), (ca, .inl (cT 5, 6, .inr (.inr (.inr (.inr cf))))), (c0, .inr (1, [.ref v0, .ref ed0, .int 0, .int 0]))] (TY cT) sz) (va_Qi (fun (r : Int32) (_ : Nat → Nat) => r = 1) (BW D vwCl (va_A [(x, .inr (0, [.ref xT, .ref xP, .ref xR, .ref xG, .ref xF, .int tc, .ref xO, .ref xS, .ref xL, .ref xC, .ref xQ, .ref xU, .ref xW])), (xT, .inr (2, [.ref ca, .ref ta, .int 1, .int 0])), (ca, .inl (cT 5, 6, .inr (.inr (.inr (.inr cf))))), (c0, .inr (1, [.ref v0, .ref ed0, .int 0, .int 0]))] sz) (fun u => [])) (va_A [(x, .inr (0, [.ref xT, .ref xP, .ref xR, .ref xG, .ref xF, .int tc, .ref xO, .ref xS, .ref xL, .ref xC, .ref xQ, .ref xU, .ref xW])), (xT, .inr (2, [.ref ca, .ref ta, .int 1, .int 0])), (ca, .inl (cT 5, 6, .inr (.inr (.inr (.inr cf))))), (c0, .inr (1, [.ref v0, .ref ed0, .int 0, .int 0]))] sz)) 1 6 (va_A [(x, .inr (0, [.ref xT, .ref xP, .ref xR, .ref xG, .ref xF, .int tc, .ref xO, .ref xS, .ref xL, .ref xC, .ref xQ, .ref xU, .ref xW])), (xT, .inr (2, [.ref ca, .ref ta, .int 1, .int 0])), (ca, .inl (cT 5, 6, .inr (.inr (.inr (.inr cf))))), (c0, .inr (1, [.ref v0, .ref ed0, .int 0, .int 0]))] sz) := by
  refine va_MetW (hh := [(0, 10, 13, 13)]) (cc := cL_edge) (maxL := 5) (ret := (some .int)) (by decide) rfl ?_
  intro p e s m args below meth c s₁ B hml hv
  obtain ⟨rfl, hsz, hZ, hP, hK, hD0⟩ := hv
  have hx := B.exec
  have hb := B.bytes
  have hr := B.returns
  have hts := atoms_spec (ws := WL_edge) B.pre
  have hT : ∀ w ∈ TB, w.before _ s = true := fun w h => hts w (List.mem_cons_of_mem _ h)
  have hown : s.vm.findClass R_L = some m.cls := findClass_of_methodNamed B.named
  have htab := tx_table B (bytes := cL_edge) (maxL := 5) (ret := (some .int)) (hh := [(0, 10, 13, 13)]) (hts _ List.mem_cons_self)
  subst hsz
  have hD := hD0.self (sz := s.heap.size)
  generalize hAe : va_A [(x, .inr (0, [.ref xT, .ref xP, .ref xR, .ref xG, .ref xF, .int tc, .ref xO, .ref xS, .ref xL, .ref xC, .ref xQ, .ref xU, .ref xW])), (xT, .inr (2, [.ref ca, .ref ta, .int 1, .int 0])), (ca, .inl (cT 5, 6, .inr (.inr (.inr (.inr cf))))), (c0, .inr (1, [.ref v0, .ref ed0, .int 0, .int 0]))] s.heap.size = A at hD hZ ⊢
  have hA : ∀ q : Nat, s.heap.size ≤ q → A q := fun q h => by rw [← hAe]; exact Or.inr h
  have hS : va_S A s.heap s.heap [] := va_S.rf
  have hl := lv_entry ([.ref x, .int 0, .int a2, .ref zo]) (n := 5) (Nat.le_of_ble_eq_true rfl)
  rw [lg_entry_eq]
  generalize (lg_sl ([.ref x, .int 0, .int a2, .ref zo]) ++ List.replicate (5 - (lg_sl ([.ref x, .int 0, .int a2, .ref zo])).length) Slot.unset).toArray = ls at hl ⊢
  have hl : lv_has ls 5 [(0, .ref x), (1, .int 0), (2, .int a2), (3, .ref zo)] := hl
  refine lv_aload_n hx hb dL_edge_0 rfl (lv_at hl 3 rfl) ?_
  refine lv_iconst (v := 0) hx hb dL_edge_1 (by decide) ?_
  refine lv_aload_n hx hb dL_edge_2 rfl (lv_at hl 0 rfl) ?_
  refine lv_iload_n hx hb dL_edge_3 rfl (lv_at hl 1 rfl) ?_
  refine lv_iload_n hx hb dL_edge_4 rfl (lv_at hl 2 rfl) ?_
  refine tx_catch1 (name := "java/lang/IllegalArgumentException") (tx_goV (As := [.int 0, .int a2]) (rest := [.int 0, .ref zo]) ⟨hx, hb, hml, hown, hT⟩ (k_edge_no0 l D cT x xT xP xR xG xF tc xO xS xL xC xQ xU xW ca ta cf c0 v0 ed0 a2 hlt hf0) ⟨callB_of 2 hT (tb_gd w677) rfl rfl rfl (hT _ w1) (hT _ w674) hR_edge ⟨Nat.le_of_ble_eq_true rfl, Nat.le_of_ble_eq_true rfl⟩, (hT _ w675), (hT _ w676)⟩ (RO.preV (ci := 0) (q0 := 0) hZ hS (hP.sub (ws' := [(x, .inr (0, [.ref xT, .ref xP, .ref xR, .ref xG, .ref xF, .int tc, .ref xO, .ref xS, .ref xL, .ref xC, .ref xQ, .ref xU, .ref xW])), (xT, .inr (2, [.ref ca, .ref ta, .int 1, .int 0])), (ca, .inl (cT 5, 6, .inr (.inr (.inr (.inr cf))))), (c0, .inr (1, [.ref v0, .ref ed0, .int 0, .int 0]))]) [0, 1, 2, 3] rfl) hK rfl rfl) rfl hl.1 rfl (Nat.le_of_ble_eq_true rfl) dL_edge_5 ⟨Nat.le_of_ble_eq_true rfl, Nat.le_of_ble_eq_true rfl⟩) hown htab rfl (by decide) (hT _ w503) (tc_c rfl (hZ.1.1 ("java/lang/IllegalArgumentException", "java/lang/IllegalArgumentException") (List.mem_of_getElem? (i := 0) rfl))) (fun q H1 hsz9 hag9 => ?_)
  have hP := tc_P hP hag9
  have hS := tc_S hS hsz9 hag9
  refine W.eq (g2 := F0 m 13 ls [.ref q]) rfl ?_
  refine lv_astore hx hb dL_edge_13 hl (by decide) rfl (fun ls hl => ?_)
  have hl : lv_has ls 5 [(4, .ref q), (0, .ref x), (1, .int 0), (2, .int a2), (3, .ref zo)] := hl
  refine lv_iconst (v := 1) hx hb dL_edge_15 (by decide) ?_
  have hP9 := hP.sub (ws' := []) [] rfl
  have hD9 := hD.sub (ws' := []) [] (by decide) rfl
  refine W.widen (k := 1) (n := 6) (Nat.le_of_ble_eq_true rfl) (Nat.le_of_ble_eq_true rfl) ?_
  exact W.iret (v := 1) hx hb hr (fun t ht hW => ⟨⟨1, (fun _ => 0), rfl, rfl, by rw [ht]; exact hP9, hD9⟩, hS.F ht⟩) hS.2.2 dL_edge_16
set_option maxHeartbeats 4000000 in
set_option maxRecDepth 100000 in
theorem l_bin_no0 (l : Launch) (D : va_G) (cT : Nat → ClassId) (x : Nat) (xT : Nat) (xP : Nat) (xR : Nat) (xG : Nat) (xF : Nat) (tc : Int32) (xO : Nat) (xS : Nat) (xL : Nat) (xC : Nat) (xQ : Nat) (xU : Nat) (xW : Nat) (ca : Nat) (ta : Nat) (cf : Nat → Option Nat) (c0 : Nat) (v0 : Nat) (ed0 : Nat) (n0 : Int32) (a2 : Int32) (zo : Nat) (hlt : l.stackTraces = false) (h1 : ¬ a2 = (-2147483648)) (hq : ¬ (a2 = (-2147483648) ∨ ((-1000000) ≤ a2 ∧ a2 ≤ 1000000))) (hf0 : cf 0 = some c0) (sz : Nat) : Met l yL_bin WL_bin ({ frames := 8, cells := 1, slots := 6, locals := 133 } : Room) (RW D vwCl [.ref x, .int 0, .int a2, .ref zo] [(x, .inr (0, [.ref xT, .ref xP, .ref xR, .ref xG, .ref xF, .int tc, .ref xO, .ref xS, .ref xL, .ref xC, .ref xQ, .ref xU, .ref xW])), (xT, .inr (2, [.ref ca, .ref ta, .int 1, .int 0])), (ca, .inl (cT 5, 6, .inr (.inr (.inr (.inr cf))))), (c0, .inr (1, [.ref v0, .ref ed0, .int n0, .int 0]))] (TY cT) sz) (va_Qi (fun (r : Int32) (_ : Nat → Nat) => r = 1) (BW D vwCl (va_A [(x, .inr (0, [.ref xT, .ref xP, .ref xR, .ref xG, .ref xF, .int tc, .ref xO, .ref xS, .ref xL, .ref xC, .ref xQ, .ref xU, .ref xW])), (xT, .inr (2, [.ref ca, .ref ta, .int 1, .int 0])), (ca, .inl (cT 5, 6, .inr (.inr (.inr (.inr cf))))), (c0, .inr (1, [.ref v0, .ref ed0, .int n0, .int 0]))] sz) (fun u => [])) (va_A [(x, .inr (0, [.ref xT, .ref xP, .ref xR, .ref xG, .ref xF, .int tc, .ref xO, .ref xS, .ref xL, .ref xC, .ref xQ, .ref xU, .ref xW])), (xT, .inr (2, [.ref ca, .ref ta, .int 1, .int 0])), (ca, .inl (cT 5, 6, .inr (.inr (.inr (.inr cf))))), (c0, .inr (1, [.ref v0, .ref ed0, .int n0, .int 0]))] sz)) 1 6 (va_A [(x, .inr (0, [.ref xT, .ref xP, .ref xR, .ref xG, .ref xF, .int tc, .ref xO, .ref xS, .ref xL, .ref xC, .ref xQ, .ref xU, .ref xW])), (xT, .inr (2, [.ref ca, .ref ta, .int 1, .int 0])), (ca, .inl (cT 5, 6, .inr (.inr (.inr (.inr cf))))), (c0, .inr (1, [.ref v0, .ref ed0, .int n0, .int 0]))] sz) := by
  refine va_MetW (hh := [(0, 10, 13, 13)]) (cc := cL_bin) (maxL := 5) (ret := (some .int)) (by decide) rfl ?_
  intro p e s m args below meth c s₁ B hml hv
  obtain ⟨rfl, hsz, hZ, hP, hK, hD0⟩ := hv
  have hx := B.exec
  have hb := B.bytes
  have hr := B.returns
  have hts := atoms_spec (ws := WL_bin) B.pre
  have hT : ∀ w ∈ TB, w.before _ s = true := fun w h => hts w (List.mem_cons_of_mem _ h)
  have hown : s.vm.findClass R_L = some m.cls := findClass_of_methodNamed B.named
  have htab := tx_table B (bytes := cL_bin) (maxL := 5) (ret := (some .int)) (hh := [(0, 10, 13, 13)]) (hts _ List.mem_cons_self)
  subst hsz
  have hD := hD0.self (sz := s.heap.size)
  generalize hAe : va_A [(x, .inr (0, [.ref xT, .ref xP, .ref xR, .ref xG, .ref xF, .int tc, .ref xO, .ref xS, .ref xL, .ref xC, .ref xQ, .ref xU, .ref xW])), (xT, .inr (2, [.ref ca, .ref ta, .int 1, .int 0])), (ca, .inl (cT 5, 6, .inr (.inr (.inr (.inr cf))))), (c0, .inr (1, [.ref v0, .ref ed0, .int n0, .int 0]))] s.heap.size = A at hD hZ ⊢
  have hA : ∀ q : Nat, s.heap.size ≤ q → A q := fun q h => by rw [← hAe]; exact Or.inr h
  have hS : va_S A s.heap s.heap [] := va_S.rf
  have hl := lv_entry ([.ref x, .int 0, .int a2, .ref zo]) (n := 5) (Nat.le_of_ble_eq_true rfl)
  rw [lg_entry_eq]
  generalize (lg_sl ([.ref x, .int 0, .int a2, .ref zo]) ++ List.replicate (5 - (lg_sl ([.ref x, .int 0, .int a2, .ref zo])).length) Slot.unset).toArray = ls at hl ⊢
  have hl : lv_has ls 5 [(0, .ref x), (1, .int 0), (2, .int a2), (3, .ref zo)] := hl
  refine lv_aload_n hx hb dL_bin_0 rfl (lv_at hl 3 rfl) ?_
  refine lv_iconst (v := 0) hx hb dL_bin_1 (by decide) ?_
  refine lv_aload_n hx hb dL_bin_2 rfl (lv_at hl 0 rfl) ?_
  refine lv_iload_n hx hb dL_bin_3 rfl (lv_at hl 1 rfl) ?_
  refine lv_iload_n hx hb dL_bin_4 rfl (lv_at hl 2 rfl) ?_
  refine tx_catch1 (name := "java/lang/IllegalArgumentException") (tx_goV (As := [.int 0, .int a2]) (rest := [.int 0, .ref zo]) ⟨hx, hb, hml, hown, hT⟩ (k_bin_no0 l D cT x xT xP xR xG xF tc xO xS xL xC xQ xU xW ca ta cf c0 v0 ed0 n0 a2 hlt h1 hq hf0) ⟨callB_of 2 hT (tb_gd w684) rfl rfl rfl (hT _ w1) (hT _ w681) hR_bin ⟨Nat.le_of_ble_eq_true rfl, Nat.le_of_ble_eq_true rfl⟩, (hT _ w682), (hT _ w683)⟩ (RO.preV (ci := 0) (q0 := 0) hZ hS (hP.sub (ws' := [(x, .inr (0, [.ref xT, .ref xP, .ref xR, .ref xG, .ref xF, .int tc, .ref xO, .ref xS, .ref xL, .ref xC, .ref xQ, .ref xU, .ref xW])), (xT, .inr (2, [.ref ca, .ref ta, .int 1, .int 0])), (ca, .inl (cT 5, 6, .inr (.inr (.inr (.inr cf))))), (c0, .inr (1, [.ref v0, .ref ed0, .int n0, .int 0]))]) [0, 1, 2, 3] rfl) hK rfl rfl) rfl hl.1 rfl (Nat.le_of_ble_eq_true rfl) dL_bin_5 ⟨Nat.le_of_ble_eq_true rfl, Nat.le_of_ble_eq_true rfl⟩) hown htab rfl (by decide) (hT _ w503) (tc_c rfl (hZ.1.1 ("java/lang/IllegalArgumentException", "java/lang/IllegalArgumentException") (List.mem_of_getElem? (i := 0) rfl))) (fun q H1 hsz9 hag9 => ?_)
  have hP := tc_P hP hag9
  have hS := tc_S hS hsz9 hag9
  refine W.eq (g2 := F0 m 13 ls [.ref q]) rfl ?_
  refine lv_astore hx hb dL_bin_13 hl (by decide) rfl (fun ls hl => ?_)
  have hl : lv_has ls 5 [(4, .ref q), (0, .ref x), (1, .int 0), (2, .int a2), (3, .ref zo)] := hl
  refine lv_iconst (v := 1) hx hb dL_bin_15 (by decide) ?_
  have hP9 := hP.sub (ws' := []) [] rfl
  have hD9 := hD.sub (ws' := []) [] (by decide) rfl
  refine W.widen (k := 1) (n := 6) (Nat.le_of_ble_eq_true rfl) (Nat.le_of_ble_eq_true rfl) ?_
  exact W.iret (v := 1) hx hb hr (fun t ht hW => ⟨⟨1, (fun _ => 0), rfl, rfl, by rw [ht]; exact hP9, hD9⟩, hS.F ht⟩) hS.2.2 dL_bin_16
set_option maxHeartbeats 4000000 in
set_option maxRecDepth 100000 in
theorem l_train_none (l : Launch) (D : va_G) (cT : Nat → ClassId) (x : Nat) (xT : Nat) (xP : Nat) (xR : Nat) (xG : Nat) (xF : Nat) (tc : Int32) (xO : Nat) (xS : Nat) (xL : Nat) (xC : Nat) (xQ : Nat) (xU : Nat) (xW : Nat) (ca : Nat) (ta : Nat) (w : Int32) (r : Int32) (pd : Int32) (pl : Int32) (pw : Int32) (pu : Int32) (pv : Int32) (ps : Int64) (pc0 : Int32) (a1 : Int32) (zo : Nat) (hlt : l.stackTraces = false) (h1 : 1 ≤ a1 ∧ a1 ≤ 16) (hq : ps &&& ((1 <<< ((r : Int32).toInt64 &&& 63)) - 1) = 0) (sz : Nat) : Met l yL_train WL_train ({ frames := 8, cells := 1, slots := 6, locals := 137 } : Room) (RW D vwCl [.ref x, .int a1, .ref zo] [(x, .inr (0, [.ref xT, .ref xP, .ref xR, .ref xG, .ref xF, .int tc, .ref xO, .ref xS, .ref xL, .ref xC, .ref xQ, .ref xU, .ref xW])), (xT, .inr (2, [.ref ca, .ref ta, .int w, .int r])), (xP, .inr (3, [.int pd, .int pl, .int pw, .int pu, .int pv, .long ps, .int pc0]))] (TY cT) sz) (va_Qi (fun (r : Int32) (_ : Nat → Nat) => r = 2) (BW D vwCl (va_A [(x, .inr (0, [.ref xT, .ref xP, .ref xR, .ref xG, .ref xF, .int tc, .ref xO, .ref xS, .ref xL, .ref xC, .ref xQ, .ref xU, .ref xW])), (xT, .inr (2, [.ref ca, .ref ta, .int w, .int r])), (xP, .inr (3, [.int pd, .int pl, .int pw, .int pu, .int pv, .long ps, .int pc0]))] sz) (fun u => [])) (va_A [(x, .inr (0, [.ref xT, .ref xP, .ref xR, .ref xG, .ref xF, .int tc, .ref xO, .ref xS, .ref xL, .ref xC, .ref xQ, .ref xU, .ref xW])), (xT, .inr (2, [.ref ca, .ref ta, .int w, .int r])), (xP, .inr (3, [.int pd, .int pl, .int pw, .int pu, .int pv, .long ps, .int pc0]))] sz)) 1 6 (va_A [(x, .inr (0, [.ref xT, .ref xP, .ref xR, .ref xG, .ref xF, .int tc, .ref xO, .ref xS, .ref xL, .ref xC, .ref xQ, .ref xU, .ref xW])), (xT, .inr (2, [.ref ca, .ref ta, .int w, .int r])), (xP, .inr (3, [.int pd, .int pl, .int pw, .int pu, .int pv, .long ps, .int pc0]))] sz) := by
  refine va_MetW (hh := [(0, 9, 12, 13), (0, 9, 15, 19)]) (cc := cL_train) (maxL := 4) (ret := (some .int)) (by decide) rfl ?_
  intro p e s m args below meth c s₁ B hml hv
  obtain ⟨rfl, hsz, hZ, hP, hK, hD0⟩ := hv
  have hx := B.exec
  have hb := B.bytes
  have hr := B.returns
  have hts := atoms_spec (ws := WL_train) B.pre
  have hT : ∀ w ∈ TB, w.before _ s = true := fun w h => hts w (List.mem_cons_of_mem _ h)
  have hown : s.vm.findClass R_L = some m.cls := findClass_of_methodNamed B.named
  have htab := tx_table B (bytes := cL_train) (maxL := 4) (ret := (some .int)) (hh := [(0, 9, 12, 13), (0, 9, 15, 19)]) (hts _ List.mem_cons_self)
  subst hsz
  have hD := hD0.self (sz := s.heap.size)
  generalize hAe : va_A [(x, .inr (0, [.ref xT, .ref xP, .ref xR, .ref xG, .ref xF, .int tc, .ref xO, .ref xS, .ref xL, .ref xC, .ref xQ, .ref xU, .ref xW])), (xT, .inr (2, [.ref ca, .ref ta, .int w, .int r])), (xP, .inr (3, [.int pd, .int pl, .int pw, .int pu, .int pv, .long ps, .int pc0]))] s.heap.size = A at hD hZ ⊢
  have hA : ∀ q : Nat, s.heap.size ≤ q → A q := fun q h => by rw [← hAe]; exact Or.inr h
  have hS : va_S A s.heap s.heap [] := va_S.rf
  have hl := lv_entry ([.ref x, .int a1, .ref zo]) (n := 4) (Nat.le_of_ble_eq_true rfl)
  rw [lg_entry_eq]
  generalize (lg_sl ([.ref x, .int a1, .ref zo]) ++ List.replicate (4 - (lg_sl ([.ref x, .int a1, .ref zo])).length) Slot.unset).toArray = ls at hl ⊢
  have hl : lv_has ls 4 [(0, .ref x), (1, .int a1), (2, .ref zo)] := hl
  refine lv_aload_n hx hb dL_train_0 rfl (lv_at hl 2 rfl) ?_
  refine lv_iconst (v := 0) hx hb dL_train_1 (by decide) ?_
  refine lv_aload_n hx hb dL_train_2 rfl (lv_at hl 0 rfl) ?_
  refine lv_iload_n hx hb dL_train_3 rfl (lv_at hl 1 rfl) ?_
  refine tx_catch2 (name0 := "java/lang/IllegalArgumentException") (name := "java/lang/IllegalStateException") (tx_goV (As := [.int a1]) (rest := [.int 0, .ref zo]) ⟨hx, hb, hml, hown, hT⟩ (k_train_none l D cT x xT xP xR xG xF tc xO xS xL xC xQ xU xW ca ta w r pd pl pw pu pv ps pc0 a1 hlt h1 hq) ⟨callB_of 1 hT (tb_gd w710) rfl rfl rfl (hT _ w1) (hT _ w707) hR_train ⟨Nat.le_of_ble_eq_true rfl, Nat.le_of_ble_eq_true rfl⟩, (hT _ w708), (hT _ w709)⟩ (RO.preV (ci := 0) (q0 := 0) hZ hS (hP.sub (ws' := [(x, .inr (0, [.ref xT, .ref xP, .ref xR, .ref xG, .ref xF, .int tc, .ref xO, .ref xS, .ref xL, .ref xC, .ref xQ, .ref xU, .ref xW])), (xT, .inr (2, [.ref ca, .ref ta, .int w, .int r])), (xP, .inr (3, [.int pd, .int pl, .int pw, .int pu, .int pv, .long ps, .int pc0]))]) [0, 1, 2] rfl) hK rfl rfl) rfl hl.1 rfl (Nat.le_of_ble_eq_true rfl) dL_train_4 ⟨Nat.le_of_ble_eq_true rfl, Nat.le_of_ble_eq_true rfl⟩) hown htab rfl (by decide) (hT _ w503) hZ.1.2.2.2.2 rfl (by decide) (hT _ w576) (tc_c rfl (hZ.1.1 ("java/lang/IllegalStateException", "java/lang/IllegalStateException") (List.mem_of_getElem? (i := 1) rfl))) (fun q H1 hsz9 hag9 => ?_)
  have hP := tc_P hP hag9
  have hS := tc_S hS hsz9 hag9
  refine W.eq (g2 := F0 m 15 ls [.ref q]) rfl ?_
  refine lv_astore_n hx hb dL_train_15 rfl hl (by decide) rfl (fun ls hl => ?_)
  have hl : lv_has ls 4 [(3, .ref q), (0, .ref x), (1, .int a1), (2, .ref zo)] := hl
  refine lv_iconst (v := 2) hx hb dL_train_16 (by decide) ?_
  have hP9 := hP.sub (ws' := []) [] rfl
  have hD9 := hD.sub (ws' := []) [] (by decide) rfl
  refine W.widen (k := 1) (n := 6) (Nat.le_of_ble_eq_true rfl) (Nat.le_of_ble_eq_true rfl) ?_
  exact W.iret (v := 2) hx hb hr (fun t ht hW => ⟨⟨2, (fun _ => 0), rfl, rfl, by rw [ht]; exact hP9, hD9⟩, hS.F ht⟩) hS.2.2 dL_train_17
set_option maxHeartbeats 4000000 in
set_option maxRecDepth 100000 in
theorem l_add_ok (l : Launch) (D : va_G) (cT : Nat → ClassId) (x : Nat) (xT : Nat) (xP : Nat) (xR : Nat) (xG : Nat) (xF : Nat) (tc : Int32) (xO : Nat) (xS : Nat) (xL : Nat) (xC : Nat) (xQ : Nat) (xU : Nat) (xW : Nat) (ca : Nat) (ta : Nat) (w : Int32) (cf : Nat → Option Nat) (c0 : Nat) (v0 : Nat) (ed0 : Nat) (n0 : Int32) (k0 : Int32) (f0 : Nat → Int32) (c1 : Nat) (v1 : Nat) (ed1 : Nat) (n1 : Int32) (k1 : Int32) (f1 : Nat → Int32) (c2 : Nat) (v2 : Nat) (ed2 : Nat) (n2 : Int32) (k2 : Int32) (f2 : Nat → Int32) (c3 : Nat) (v3 : Nat) (ed3 : Nat) (n3 : Int32) (k3 : Int32) (f3 : Nat → Int32) (c4 : Nat) (v4 : Nat) (ed4 : Nat) (n4 : Int32) (k4 : Int32) (f4 : Nat → Int32) (c5 : Nat) (v5 : Nat) (ed5 : Nat) (n5 : Int32) (k5 : Int32) (f5 : Nat → Int32) (tf : Nat → Int32) (a1 : Int32) (zo : Nat) (zf : Nat → Int64) (hq : (-1000) ≤ a1 ∧ a1 ≤ 1000) (hf0 : cf 0 = some c0) (hf1 : cf 1 = some c1) (hf2 : cf 2 = some c2) (hf3 : cf 3 = some c3) (hf4 : cf 4 = some c4) (hf5 : cf 5 = some c5) (sz : Nat) : Met l yL_add WL_add ({ frames := 3, cells := 0, slots := 0, locals := 63 } : Room) (RW D vwCl [.ref x, .int a1, .ref zo] [(x, .inr (0, [.ref xT, .ref xP, .ref xR, .ref xG, .ref xF, .int tc, .ref xO, .ref xS, .ref xL, .ref xC, .ref xQ, .ref xU, .ref xW])), (xT, .inr (2, [.ref ca, .ref ta, .int w, .int 0])), (ca, .inl (cT 5, 6, .inr (.inr (.inr (.inr cf))))), (c0, .inr (1, [.ref v0, .ref ed0, .int n0, .int k0])), (v0, .inl (cT 0, 49, .inl f0)), (c1, .inr (1, [.ref v1, .ref ed1, .int n1, .int k1])), (v1, .inl (cT 0, 49, .inl f1)), (c2, .inr (1, [.ref v2, .ref ed2, .int n2, .int k2])), (v2, .inl (cT 0, 49, .inl f2)), (c3, .inr (1, [.ref v3, .ref ed3, .int n3, .int k3])), (v3, .inl (cT 0, 49, .inl f3)), (c4, .inr (1, [.ref v4, .ref ed4, .int n4, .int k4])), (v4, .inl (cT 0, 49, .inl f4)), (c5, .inr (1, [.ref v5, .ref ed5, .int n5, .int k5])), (v5, .inl (cT 0, 49, .inl f5)), (ta, .inl (cT 0, 49, .inl tf)), (zo, .inl (cT 1, 1, .inr (.inl zf)))] (TY cT) sz) (va_Qi (fun (r : Int32) (_ : Nat → Nat) => r = 0) (BW D vwCl (va_A [(x, .inr (0, [.ref xT, .ref xP, .ref xR, .ref xG, .ref xF, .int tc, .ref xO, .ref xS, .ref xL, .ref xC, .ref xQ, .ref xU, .ref xW])), (xT, .inr (2, [.ref ca, .ref ta, .int w, .int 0])), (ca, .inl (cT 5, 6, .inr (.inr (.inr (.inr cf))))), (c0, .inr (1, [.ref v0, .ref ed0, .int n0, .int k0])), (v0, .inl (cT 0, 49, .inl f0)), (c1, .inr (1, [.ref v1, .ref ed1, .int n1, .int k1])), (v1, .inl (cT 0, 49, .inl f1)), (c2, .inr (1, [.ref v2, .ref ed2, .int n2, .int k2])), (v2, .inl (cT 0, 49, .inl f2)), (c3, .inr (1, [.ref v3, .ref ed3, .int n3, .int k3])), (v3, .inl (cT 0, 49, .inl f3)), (c4, .inr (1, [.ref v4, .ref ed4, .int n4, .int k4])), (v4, .inl (cT 0, 49, .inl f4)), (c5, .inr (1, [.ref v5, .ref ed5, .int n5, .int k5])), (v5, .inl (cT 0, 49, .inl f5)), (ta, .inl (cT 0, 49, .inl tf)), (zo, .inl (cT 1, 1, .inr (.inl zf)))] sz) (fun u => [(zo, .inl (cT 1, 1, .inr (.inl (vp_updL zf 0 0))))])) (va_A [(x, .inr (0, [.ref xT, .ref xP, .ref xR, .ref xG, .ref xF, .int tc, .ref xO, .ref xS, .ref xL, .ref xC, .ref xQ, .ref xU, .ref xW])), (xT, .inr (2, [.ref ca, .ref ta, .int w, .int 0])), (ca, .inl (cT 5, 6, .inr (.inr (.inr (.inr cf))))), (c0, .inr (1, [.ref v0, .ref ed0, .int n0, .int k0])), (v0, .inl (cT 0, 49, .inl f0)), (c1, .inr (1, [.ref v1, .ref ed1, .int n1, .int k1])), (v1, .inl (cT 0, 49, .inl f1)), (c2, .inr (1, [.ref v2, .ref ed2, .int n2, .int k2])), (v2, .inl (cT 0, 49, .inl f2)), (c3, .inr (1, [.ref v3, .ref ed3, .int n3, .int k3])), (v3, .inl (cT 0, 49, .inl f3)), (c4, .inr (1, [.ref v4, .ref ed4, .int n4, .int k4])), (v4, .inl (cT 0, 49, .inl f4)), (c5, .inr (1, [.ref v5, .ref ed5, .int n5, .int k5])), (v5, .inl (cT 0, 49, .inl f5)), (ta, .inl (cT 0, 49, .inl tf)), (zo, .inl (cT 1, 1, .inr (.inl zf)))] sz)) 0 0 (va_A [(x, .inr (0, [.ref xT, .ref xP, .ref xR, .ref xG, .ref xF, .int tc, .ref xO, .ref xS, .ref xL, .ref xC, .ref xQ, .ref xU, .ref xW])), (xT, .inr (2, [.ref ca, .ref ta, .int w, .int 0])), (ca, .inl (cT 5, 6, .inr (.inr (.inr (.inr cf))))), (c0, .inr (1, [.ref v0, .ref ed0, .int n0, .int k0])), (v0, .inl (cT 0, 49, .inl f0)), (c1, .inr (1, [.ref v1, .ref ed1, .int n1, .int k1])), (v1, .inl (cT 0, 49, .inl f1)), (c2, .inr (1, [.ref v2, .ref ed2, .int n2, .int k2])), (v2, .inl (cT 0, 49, .inl f2)), (c3, .inr (1, [.ref v3, .ref ed3, .int n3, .int k3])), (v3, .inl (cT 0, 49, .inl f3)), (c4, .inr (1, [.ref v4, .ref ed4, .int n4, .int k4])), (v4, .inl (cT 0, 49, .inl f4)), (c5, .inr (1, [.ref v5, .ref ed5, .int n5, .int k5])), (v5, .inl (cT 0, 49, .inl f5)), (ta, .inl (cT 0, 49, .inl tf)), (zo, .inl (cT 1, 1, .inr (.inl zf)))] sz) := by
  refine va_MetW (hh := [(0, 9, 12, 13), (0, 9, 15, 19)]) (cc := cL_add) (maxL := 4) (ret := (some .int)) (by decide) rfl ?_
  intro p e s m args below meth c s₁ B hml hv
  obtain ⟨rfl, hsz, hZ, hP, hK, hD0⟩ := hv
  have hx := B.exec
  have hb := B.bytes
  have hr := B.returns
  have hts := atoms_spec (ws := WL_add) B.pre
  have hT : ∀ w ∈ TB, w.before _ s = true := fun w h => hts w (List.mem_cons_of_mem _ h)
  have hown : s.vm.findClass R_L = some m.cls := findClass_of_methodNamed B.named
  have htab := tx_table B (bytes := cL_add) (maxL := 4) (ret := (some .int)) (hh := [(0, 9, 12, 13), (0, 9, 15, 19)]) (hts _ List.mem_cons_self)
  subst hsz
  have hD := hD0.self (sz := s.heap.size)
  generalize hAe : va_A [(x, .inr (0, [.ref xT, .ref xP, .ref xR, .ref xG, .ref xF, .int tc, .ref xO, .ref xS, .ref xL, .ref xC, .ref xQ, .ref xU, .ref xW])), (xT, .inr (2, [.ref ca, .ref ta, .int w, .int 0])), (ca, .inl (cT 5, 6, .inr (.inr (.inr (.inr cf))))), (c0, .inr (1, [.ref v0, .ref ed0, .int n0, .int k0])), (v0, .inl (cT 0, 49, .inl f0)), (c1, .inr (1, [.ref v1, .ref ed1, .int n1, .int k1])), (v1, .inl (cT 0, 49, .inl f1)), (c2, .inr (1, [.ref v2, .ref ed2, .int n2, .int k2])), (v2, .inl (cT 0, 49, .inl f2)), (c3, .inr (1, [.ref v3, .ref ed3, .int n3, .int k3])), (v3, .inl (cT 0, 49, .inl f3)), (c4, .inr (1, [.ref v4, .ref ed4, .int n4, .int k4])), (v4, .inl (cT 0, 49, .inl f4)), (c5, .inr (1, [.ref v5, .ref ed5, .int n5, .int k5])), (v5, .inl (cT 0, 49, .inl f5)), (ta, .inl (cT 0, 49, .inl tf)), (zo, .inl (cT 1, 1, .inr (.inl zf)))] s.heap.size = A at hD hZ ⊢
  have hA : ∀ q : Nat, s.heap.size ≤ q → A q := fun q h => by rw [← hAe]; exact Or.inr h
  have hS : va_S A s.heap s.heap [] := va_S.rf
  have hl := lv_entry ([.ref x, .int a1, .ref zo]) (n := 4) (Nat.le_of_ble_eq_true rfl)
  rw [lg_entry_eq]
  generalize (lg_sl ([.ref x, .int a1, .ref zo]) ++ List.replicate (4 - (lg_sl ([.ref x, .int a1, .ref zo])).length) Slot.unset).toArray = ls at hl ⊢
  have hl : lv_has ls 4 [(0, .ref x), (1, .int a1), (2, .ref zo)] := hl
  refine lv_aload_n hx hb dL_add_0 rfl (lv_at hl 2 rfl) ?_
  refine lv_iconst (v := 0) hx hb dL_add_1 (by decide) ?_
  refine lv_aload_n hx hb dL_add_2 rfl (lv_at hl 0 rfl) ?_
  refine lv_iload_n hx hb dL_add_3 rfl (lv_at hl 1 rfl) ?_
  refine rw_i (wc := [(x, .inr (0, [.ref xT, .ref xP, .ref xR, .ref xG, .ref xF, .int tc, .ref xO, .ref xS, .ref xL, .ref xC, .ref xQ, .ref xU, .ref xW])), (xT, .inr (2, [.ref ca, .ref ta, .int w, .int 0])), (ca, .inl (cT 5, 6, .inr (.inr (.inr (.inr cf))))), (c0, .inr (1, [.ref v0, .ref ed0, .int n0, .int k0])), (v0, .inl (cT 0, 49, .inl f0)), (c1, .inr (1, [.ref v1, .ref ed1, .int n1, .int k1])), (v1, .inl (cT 0, 49, .inl f1)), (c2, .inr (1, [.ref v2, .ref ed2, .int n2, .int k2])), (v2, .inl (cT 0, 49, .inl f2)), (c3, .inr (1, [.ref v3, .ref ed3, .int n3, .int k3])), (v3, .inl (cT 0, 49, .inl f3)), (c4, .inr (1, [.ref v4, .ref ed4, .int n4, .int k4])), (v4, .inl (cT 0, 49, .inl f4)), (c5, .inr (1, [.ref v5, .ref ed5, .int n5, .int k5])), (v5, .inl (cT 0, 49, .inl f5)), (ta, .inl (cT 0, 49, .inl tf))]) (wr := [(zo, .inl (cT 1, 1, .inr (.inl zf)))]) hP hD hS hA [0, 1, 2, 3, 4, 5, 6, 7, 8, 9, 10, 11, 12, 13, 14, 15] [16] rfl rfl (by decide) (by decide) (va_runV (As := [.int a1]) (rest := [.int 0, .ref zo]) ⟨hx, hb, hml, hown, hT⟩ (k_add_ok l D cT x xT xP xR xG xF tc xO xS xL xC xQ xU xW ca ta w cf c0 v0 ed0 n0 k0 f0 c1 v1 ed1 n1 k1 f1 c2 v2 ed2 n2 k2 f2 c3 v3 ed3 n3 k3 f3 c4 v4 ed4 n4 k4 f4 c5 v5 ed5 n5 k5 f5 tf a1 hq hf0 hf1 hf2 hf3 hf4 hf5 _) ⟨callB_of 1 hT (tb_gd w580) rfl rfl rfl (hT _ w1) (hT _ w577) hR_add ⟨Nat.le_of_ble_eq_true rfl, Nat.le_of_ble_eq_true rfl⟩, (hT _ w578), (hT _ w579)⟩ (RW.preV (ci := 0) (q0 := 0) hZ hS (va_free (wc := [(x, .inr (0, [.ref xT, .ref xP, .ref xR, .ref xG, .ref xF, .int tc, .ref xO, .ref xS, .ref xL, .ref xC, .ref xQ, .ref xU, .ref xW])), (xT, .inr (2, [.ref ca, .ref ta, .int w, .int 0])), (ca, .inl (cT 5, 6, .inr (.inr (.inr (.inr cf))))), (c0, .inr (1, [.ref v0, .ref ed0, .int n0, .int k0])), (v0, .inl (cT 0, 49, .inl f0)), (c1, .inr (1, [.ref v1, .ref ed1, .int n1, .int k1])), (v1, .inl (cT 0, 49, .inl f1)), (c2, .inr (1, [.ref v2, .ref ed2, .int n2, .int k2])), (v2, .inl (cT 0, 49, .inl f2)), (c3, .inr (1, [.ref v3, .ref ed3, .int n3, .int k3])), (v3, .inl (cT 0, 49, .inl f3)), (c4, .inr (1, [.ref v4, .ref ed4, .int n4, .int k4])), (v4, .inl (cT 0, 49, .inl f4)), (c5, .inr (1, [.ref v5, .ref ed5, .int n5, .int k5])), (v5, .inl (cT 0, 49, .inl f5)), (ta, .inl (cT 0, 49, .inl tf))]) hD hS hA [0, 1, 2, 3, 4, 5, 6, 7, 8, 9, 10, 11, 12, 13, 14, 15] rfl) (hP.sub (ws' := [(x, .inr (0, [.ref xT, .ref xP, .ref xR, .ref xG, .ref xF, .int tc, .ref xO, .ref xS, .ref xL, .ref xC, .ref xQ, .ref xU, .ref xW])), (xT, .inr (2, [.ref ca, .ref ta, .int w, .int 0])), (ca, .inl (cT 5, 6, .inr (.inr (.inr (.inr cf))))), (c0, .inr (1, [.ref v0, .ref ed0, .int n0, .int k0])), (v0, .inl (cT 0, 49, .inl f0)), (c1, .inr (1, [.ref v1, .ref ed1, .int n1, .int k1])), (v1, .inl (cT 0, 49, .inl f1)), (c2, .inr (1, [.ref v2, .ref ed2, .int n2, .int k2])), (v2, .inl (cT 0, 49, .inl f2)), (c3, .inr (1, [.ref v3, .ref ed3, .int n3, .int k3])), (v3, .inl (cT 0, 49, .inl f3)), (c4, .inr (1, [.ref v4, .ref ed4, .int n4, .int k4])), (v4, .inl (cT 0, 49, .inl f4)), (c5, .inr (1, [.ref v5, .ref ed5, .int n5, .int k5])), (v5, .inl (cT 0, 49, .inl f5)), (ta, .inl (cT 0, 49, .inl tf))]) [0, 1, 2, 3, 4, 5, 6, 7, 8, 9, 10, 11, 12, 13, 14, 15] rfl) hK (hD.sub (ws' := [(x, .inr (0, [.ref xT, .ref xP, .ref xR, .ref xG, .ref xF, .int tc, .ref xO, .ref xS, .ref xL, .ref xC, .ref xQ, .ref xU, .ref xW])), (xT, .inr (2, [.ref ca, .ref ta, .int w, .int 0])), (ca, .inl (cT 5, 6, .inr (.inr (.inr (.inr cf))))), (c0, .inr (1, [.ref v0, .ref ed0, .int n0, .int k0])), (v0, .inl (cT 0, 49, .inl f0)), (c1, .inr (1, [.ref v1, .ref ed1, .int n1, .int k1])), (v1, .inl (cT 0, 49, .inl f1)), (c2, .inr (1, [.ref v2, .ref ed2, .int n2, .int k2])), (v2, .inl (cT 0, 49, .inl f2)), (c3, .inr (1, [.ref v3, .ref ed3, .int n3, .int k3])), (v3, .inl (cT 0, 49, .inl f3)), (c4, .inr (1, [.ref v4, .ref ed4, .int n4, .int k4])), (v4, .inl (cT 0, 49, .inl f4)), (c5, .inr (1, [.ref v5, .ref ed5, .int n5, .int k5])), (v5, .inl (cT 0, 49, .inl f5)), (ta, .inl (cT 0, 49, .inl tf))]) [0, 1, 2, 3, 4, 5, 6, 7, 8, 9, 10, 11, 12, 13, 14, 15] (by decide) rfl) rfl rfl) rfl rfl hl.1 rfl (lv_room (Nat.le_of_ble_eq_true rfl)) dL_add_4 ⟨Nat.le_of_ble_eq_true rfl, Nat.le_of_ble_eq_true rfl⟩) (fun ru1 u1 H locs hpu1 hP hD hS => ?_)
  have hP : va_P D vwCl [(zo, .inl (cT 1, 1, .inr (.inl zf))), (x, .inr (0, [.ref xT, .ref xP, .ref xR, .ref xG, .ref xF, .int tc, .ref xO, .ref xS, .ref xL, .ref xC, .ref xQ, .ref xU, .ref xW])), (xT, .inr (2, [.ref ca, .ref ta, .int w, .int 1])), (ca, .inl (cT 5, 6, .inr (.inr (.inr (.inr cf))))), (c0, .inr (1, [.ref v0, .ref ed0, .int n0, .int k0])), (v0, .inl (cT 0, 49, .inl (upd f0 0 (-2147483648)))), (c1, .inr (1, [.ref v1, .ref ed1, .int n1, .int k1])), (v1, .inl (cT 0, 49, .inl (upd f1 0 (-2147483648)))), (c2, .inr (1, [.ref v2, .ref ed2, .int n2, .int k2])), (v2, .inl (cT 0, 49, .inl (upd f2 0 (-2147483648)))), (c3, .inr (1, [.ref v3, .ref ed3, .int n3, .int k3])), (v3, .inl (cT 0, 49, .inl (upd f3 0 (-2147483648)))), (c4, .inr (1, [.ref v4, .ref ed4, .int n4, .int k4])), (v4, .inl (cT 0, 49, .inl (upd f4 0 (-2147483648)))), (c5, .inr (1, [.ref v5, .ref ed5, .int n5, .int k5])), (v5, .inl (cT 0, 49, .inl (upd f5 0 (-2147483648)))), (ta, .inl (cT 0, 49, .inl (upd tf 0 a1)))] H := hP
  have hD : va_D A [(zo, .inl (cT 1, 1, .inr (.inl zf))), (x, .inr (0, [.ref xT, .ref xP, .ref xR, .ref xG, .ref xF, .int tc, .ref xO, .ref xS, .ref xL, .ref xC, .ref xQ, .ref xU, .ref xW])), (xT, .inr (2, [.ref ca, .ref ta, .int w, .int 1])), (ca, .inl (cT 5, 6, .inr (.inr (.inr (.inr cf))))), (c0, .inr (1, [.ref v0, .ref ed0, .int n0, .int k0])), (v0, .inl (cT 0, 49, .inl (upd f0 0 (-2147483648)))), (c1, .inr (1, [.ref v1, .ref ed1, .int n1, .int k1])), (v1, .inl (cT 0, 49, .inl (upd f1 0 (-2147483648)))), (c2, .inr (1, [.ref v2, .ref ed2, .int n2, .int k2])), (v2, .inl (cT 0, 49, .inl (upd f2 0 (-2147483648)))), (c3, .inr (1, [.ref v3, .ref ed3, .int n3, .int k3])), (v3, .inl (cT 0, 49, .inl (upd f3 0 (-2147483648)))), (c4, .inr (1, [.ref v4, .ref ed4, .int n4, .int k4])), (v4, .inl (cT 0, 49, .inl (upd f4 0 (-2147483648)))), (c5, .inr (1, [.ref v5, .ref ed5, .int n5, .int k5])), (v5, .inl (cT 0, 49, .inl (upd f5 0 (-2147483648)))), (ta, .inl (cT 0, 49, .inl (upd tf 0 a1)))] := hD
  rw [hpu1]
  refine lv_i2l (v := 0) hx hb dL_add_7 (by decide) ?_
  refine va_last hx hb hK hP hD hS 0 1 rfl rfl (by unfold vp_in; decide) dL_add_8 (fun H locs hP hD hS => ?_)
  have hP : va_P D vwCl [(zo, .inl (cT 1, 1, .inr (.inl (vp_updL zf 0 0)))), (x, .inr (0, [.ref xT, .ref xP, .ref xR, .ref xG, .ref xF, .int tc, .ref xO, .ref xS, .ref xL, .ref xC, .ref xQ, .ref xU, .ref xW])), (xT, .inr (2, [.ref ca, .ref ta, .int w, .int 1])), (ca, .inl (cT 5, 6, .inr (.inr (.inr (.inr cf))))), (c0, .inr (1, [.ref v0, .ref ed0, .int n0, .int k0])), (v0, .inl (cT 0, 49, .inl (upd f0 0 (-2147483648)))), (c1, .inr (1, [.ref v1, .ref ed1, .int n1, .int k1])), (v1, .inl (cT 0, 49, .inl (upd f1 0 (-2147483648)))), (c2, .inr (1, [.ref v2, .ref ed2, .int n2, .int k2])), (v2, .inl (cT 0, 49, .inl (upd f2 0 (-2147483648)))), (c3, .inr (1, [.ref v3, .ref ed3, .int n3, .int k3])), (v3, .inl (cT 0, 49, .inl (upd f3 0 (-2147483648)))), (c4, .inr (1, [.ref v4, .ref ed4, .int n4, .int k4])), (v4, .inl (cT 0, 49, .inl (upd f4 0 (-2147483648)))), (c5, .inr (1, [.ref v5, .ref ed5, .int n5, .int k5])), (v5, .inl (cT 0, 49, .inl (upd f5 0 (-2147483648)))), (ta, .inl (cT 0, 49, .inl (upd tf 0 a1)))] H := hP
  have hD : va_D A [(zo, .inl (cT 1, 1, .inr (.inl (vp_updL zf 0 0)))), (x, .inr (0, [.ref xT, .ref xP, .ref xR, .ref xG, .ref xF, .int tc, .ref xO, .ref xS, .ref xL, .ref xC, .ref xQ, .ref xU, .ref xW])), (xT, .inr (2, [.ref ca, .ref ta, .int w, .int 1])), (ca, .inl (cT 5, 6, .inr (.inr (.inr (.inr cf))))), (c0, .inr (1, [.ref v0, .ref ed0, .int n0, .int k0])), (v0, .inl (cT 0, 49, .inl (upd f0 0 (-2147483648)))), (c1, .inr (1, [.ref v1, .ref ed1, .int n1, .int k1])), (v1, .inl (cT 0, 49, .inl (upd f1 0 (-2147483648)))), (c2, .inr (1, [.ref v2, .ref ed2, .int n2, .int k2])), (v2, .inl (cT 0, 49, .inl (upd f2 0 (-2147483648)))), (c3, .inr (1, [.ref v3, .ref ed3, .int n3, .int k3])), (v3, .inl (cT 0, 49, .inl (upd f3 0 (-2147483648)))), (c4, .inr (1, [.ref v4, .ref ed4, .int n4, .int k4])), (v4, .inl (cT 0, 49, .inl (upd f4 0 (-2147483648)))), (c5, .inr (1, [.ref v5, .ref ed5, .int n5, .int k5])), (v5, .inl (cT 0, 49, .inl (upd f5 0 (-2147483648)))), (ta, .inl (cT 0, 49, .inl (upd tf 0 a1)))] := hD
  refine lv_goto (tgt := 18) hx hb dL_add_9 rfl ?_
  refine lv_iconst (v := 0) hx hb dL_add_18 (by decide) ?_
  have hP9 := hP.sub (ws' := [(zo, .inl (cT 1, 1, .inr (.inl (vp_updL zf 0 0))))]) [0] rfl
  have hD9 := hD.sub (ws' := [(zo, .inl (cT 1, 1, .inr (.inl (vp_updL zf 0 0))))]) [0] (by decide) rfl
  refine W.widen (k := 0) (n := 0) (Nat.le_of_ble_eq_true rfl) (Nat.le_of_ble_eq_true rfl) ?_
  exact W.iret (v := 0) hx hb hr (fun t ht hW => ⟨⟨0, (fun _ => 0), rfl, rfl, by rw [ht]; exact hP9, hD9⟩, hS.F ht⟩) hS.2.2 dL_add_19
set_option maxHeartbeats 4000000 in
set_option maxRecDepth 100000 in
theorem l_kinds_ok (l : Launch) (D : va_G) (cT : Nat → ClassId) (x : Nat) (xT : Nat) (xP : Nat) (xR : Nat) (xG : Nat) (xF : Nat) (tc : Int32) (xO : Nat) (xS : Nat) (xL : Nat) (xC : Nat) (xQ : Nat) (xU : Nat) (xW : Nat) (ca : Nat) (ta : Nat) (cf : Nat → Option Nat) (c0 : Nat) (v0 : Nat) (ed0 : Nat) (n0 : Int32) (zo : Nat) (zf : Nat → Int64) (hf0 : cf 0 = some c0) (sz : Nat) : Met l yL_kinds WL_kinds ({ frames := 3, cells := 0, slots := 0, locals := 65 } : Room) (RW D vwCl [.ref x, .int 0, .int 0, .ref zo] [(x, .inr (0, [.ref xT, .ref xP, .ref xR, .ref xG, .ref xF, .int tc, .ref xO, .ref xS, .ref xL, .ref xC, .ref xQ, .ref xU, .ref xW])), (xT, .inr (2, [.ref ca, .ref ta, .int 1, .int 0])), (ca, .inl (cT 5, 6, .inr (.inr (.inr (.inr cf))))), (c0, .inr (1, [.ref v0, .ref ed0, .int n0, .int 0])), (zo, .inl (cT 1, 1, .inr (.inl zf)))] (TY cT) sz) (va_Qi (fun (r : Int32) (_ : Nat → Nat) => r = 0) (BW D vwCl (va_A [(x, .inr (0, [.ref xT, .ref xP, .ref xR, .ref xG, .ref xF, .int tc, .ref xO, .ref xS, .ref xL, .ref xC, .ref xQ, .ref xU, .ref xW])), (xT, .inr (2, [.ref ca, .ref ta, .int 1, .int 0])), (ca, .inl (cT 5, 6, .inr (.inr (.inr (.inr cf))))), (c0, .inr (1, [.ref v0, .ref ed0, .int n0, .int 0])), (zo, .inl (cT 1, 1, .inr (.inl zf)))] sz) (fun u => [(zo, .inl (cT 1, 1, .inr (.inl (vp_updL zf 0 0))))])) (va_A [(x, .inr (0, [.ref xT, .ref xP, .ref xR, .ref xG, .ref xF, .int tc, .ref xO, .ref xS, .ref xL, .ref xC, .ref xQ, .ref xU, .ref xW])), (xT, .inr (2, [.ref ca, .ref ta, .int 1, .int 0])), (ca, .inl (cT 5, 6, .inr (.inr (.inr (.inr cf))))), (c0, .inr (1, [.ref v0, .ref ed0, .int n0, .int 0])), (zo, .inl (cT 1, 1, .inr (.inl zf)))] sz)) 0 0 (va_A [(x, .inr (0, [.ref xT, .ref xP, .ref xR, .ref xG, .ref xF, .int tc, .ref xO, .ref xS, .ref xL, .ref xC, .ref xQ, .ref xU, .ref xW])), (xT, .inr (2, [.ref ca, .ref ta, .int 1, .int 0])), (ca, .inl (cT 5, 6, .inr (.inr (.inr (.inr cf))))), (c0, .inr (1, [.ref v0, .ref ed0, .int n0, .int 0])), (zo, .inl (cT 1, 1, .inr (.inl zf)))] sz) := by
  refine va_MetW (hh := [(0, 17, 20, 13), (0, 17, 24, 19)]) (cc := cL_kinds) (maxL := 5) (ret := (some .int)) (by decide) rfl ?_
  intro p e s m args below meth c s₁ B hml hv
  obtain ⟨rfl, hsz, hZ, hP, hK, hD0⟩ := hv
  have hx := B.exec
  have hb := B.bytes
  have hr := B.returns
  have hts := atoms_spec (ws := WL_kinds) B.pre
  have hT : ∀ w ∈ TB, w.before _ s = true := fun w h => hts w (List.mem_cons_of_mem _ h)
  have hown : s.vm.findClass R_L = some m.cls := findClass_of_methodNamed B.named
  have htab := tx_table B (bytes := cL_kinds) (maxL := 5) (ret := (some .int)) (hh := [(0, 17, 20, 13), (0, 17, 24, 19)]) (hts _ List.mem_cons_self)
  subst hsz
  have hD := hD0.self (sz := s.heap.size)
  generalize hAe : va_A [(x, .inr (0, [.ref xT, .ref xP, .ref xR, .ref xG, .ref xF, .int tc, .ref xO, .ref xS, .ref xL, .ref xC, .ref xQ, .ref xU, .ref xW])), (xT, .inr (2, [.ref ca, .ref ta, .int 1, .int 0])), (ca, .inl (cT 5, 6, .inr (.inr (.inr (.inr cf))))), (c0, .inr (1, [.ref v0, .ref ed0, .int n0, .int 0])), (zo, .inl (cT 1, 1, .inr (.inl zf)))] s.heap.size = A at hD hZ ⊢
  have hA : ∀ q : Nat, s.heap.size ≤ q → A q := fun q h => by rw [← hAe]; exact Or.inr h
  have hS : va_S A s.heap s.heap [] := va_S.rf
  have hl := lv_entry ([.ref x, .int 0, .int 0, .ref zo]) (n := 5) (Nat.le_of_ble_eq_true rfl)
  rw [lg_entry_eq]
  generalize (lg_sl ([.ref x, .int 0, .int 0, .ref zo]) ++ List.replicate (5 - (lg_sl ([.ref x, .int 0, .int 0, .ref zo])).length) Slot.unset).toArray = ls at hl ⊢
  have hl : lv_has ls 5 [(0, .ref x), (1, .int 0), (2, .int 0), (3, .ref zo)] := hl
  refine lv_aload_n hx hb dL_kinds_0 rfl (lv_at hl 3 rfl) ?_
  refine lv_iconst (v := 0) hx hb dL_kinds_1 (by decide) ?_
  refine lv_aload_n hx hb dL_kinds_2 rfl (lv_at hl 0 rfl) ?_
  refine lv_iload_n hx hb dL_kinds_3 rfl (lv_at hl 1 rfl) ?_
  refine lv_iload_n hx hb dL_kinds_4 rfl (lv_at hl 2 rfl) ?_
  refine rw_i (wc := [(x, .inr (0, [.ref xT, .ref xP, .ref xR, .ref xG, .ref xF, .int tc, .ref xO, .ref xS, .ref xL, .ref xC, .ref xQ, .ref xU, .ref xW])), (xT, .inr (2, [.ref ca, .ref ta, .int 1, .int 0])), (ca, .inl (cT 5, 6, .inr (.inr (.inr (.inr cf))))), (c0, .inr (1, [.ref v0, .ref ed0, .int n0, .int 0]))]) (wr := [(zo, .inl (cT 1, 1, .inr (.inl zf)))]) hP hD hS hA [0, 1, 2, 3] [4] rfl rfl (by decide) (by decide) (va_runV (As := [.int 0, .int 0]) (rest := [.int 0, .ref zo]) ⟨hx, hb, hml, hown, hT⟩ (k_kinds_ok0 l D cT x xT xP xR xG xF tc xO xS xL xC xQ xU xW ca ta cf c0 v0 ed0 n0 hf0 _) ⟨callB_of 2 hT (tb_gd w650) rfl rfl rfl (hT _ w1) (hT _ w647) hR_kinds ⟨Nat.le_of_ble_eq_true rfl, Nat.le_of_ble_eq_true rfl⟩, (hT _ w648), (hT _ w649)⟩ (RW.preV (ci := 0) (q0 := 0) hZ hS (va_free (wc := [(x, .inr (0, [.ref xT, .ref xP, .ref xR, .ref xG, .ref xF, .int tc, .ref xO, .ref xS, .ref xL, .ref xC, .ref xQ, .ref xU, .ref xW])), (xT, .inr (2, [.ref ca, .ref ta, .int 1, .int 0])), (ca, .inl (cT 5, 6, .inr (.inr (.inr (.inr cf))))), (c0, .inr (1, [.ref v0, .ref ed0, .int n0, .int 0]))]) hD hS hA [0, 1, 2, 3] rfl) (hP.sub (ws' := [(x, .inr (0, [.ref xT, .ref xP, .ref xR, .ref xG, .ref xF, .int tc, .ref xO, .ref xS, .ref xL, .ref xC, .ref xQ, .ref xU, .ref xW])), (xT, .inr (2, [.ref ca, .ref ta, .int 1, .int 0])), (ca, .inl (cT 5, 6, .inr (.inr (.inr (.inr cf))))), (c0, .inr (1, [.ref v0, .ref ed0, .int n0, .int 0]))]) [0, 1, 2, 3] rfl) hK (hD.sub (ws' := [(x, .inr (0, [.ref xT, .ref xP, .ref xR, .ref xG, .ref xF, .int tc, .ref xO, .ref xS, .ref xL, .ref xC, .ref xQ, .ref xU, .ref xW])), (xT, .inr (2, [.ref ca, .ref ta, .int 1, .int 0])), (ca, .inl (cT 5, 6, .inr (.inr (.inr (.inr cf))))), (c0, .inr (1, [.ref v0, .ref ed0, .int n0, .int 0]))]) [0, 1, 2, 3] (by decide) rfl) rfl rfl) rfl rfl hl.1 rfl (lv_room (Nat.le_of_ble_eq_true rfl)) dL_kinds_5 ⟨Nat.le_of_ble_eq_true rfl, Nat.le_of_ble_eq_true rfl⟩) (fun ru1 u1 H locs hpu1 hP hD hS => ?_)
  have hP : va_P D vwCl [(zo, .inl (cT 1, 1, .inr (.inl zf))), (x, .inr (0, [.ref xT, .ref xP, .ref xR, .ref xG, .ref xF, .int tc, .ref xO, .ref xS, .ref xL, .ref xC, .ref xQ, .ref xU, .ref xW])), (xT, .inr (2, [.ref ca, .ref ta, .int 1, .int 0])), (ca, .inl (cT 5, 6, .inr (.inr (.inr (.inr cf))))), (c0, .inr (1, [.ref v0, .ref ed0, .int 0, .int 0]))] H := hP
  have hD : va_D A [(zo, .inl (cT 1, 1, .inr (.inl zf))), (x, .inr (0, [.ref xT, .ref xP, .ref xR, .ref xG, .ref xF, .int tc, .ref xO, .ref xS, .ref xL, .ref xC, .ref xQ, .ref xU, .ref xW])), (xT, .inr (2, [.ref ca, .ref ta, .int 1, .int 0])), (ca, .inl (cT 5, 6, .inr (.inr (.inr (.inr cf))))), (c0, .inr (1, [.ref v0, .ref ed0, .int 0, .int 0]))] := hD
  rw [hpu1]
  refine lv_if_eq (tgt := 15) hx hb dL_kinds_8 rfl (fun _ => ?_) (fun hj2 => absurd (by decide) hj2)
  refine lv_lconst (v := 0) hx hb dL_kinds_15 (by decide) ?_
  refine va_last hx hb hK hP hD hS 0 1 rfl rfl (by unfold vp_in; decide) dL_kinds_16 (fun H locs hP hD hS => ?_)
  have hP : va_P D vwCl [(zo, .inl (cT 1, 1, .inr (.inl (vp_updL zf 0 0)))), (x, .inr (0, [.ref xT, .ref xP, .ref xR, .ref xG, .ref xF, .int tc, .ref xO, .ref xS, .ref xL, .ref xC, .ref xQ, .ref xU, .ref xW])), (xT, .inr (2, [.ref ca, .ref ta, .int 1, .int 0])), (ca, .inl (cT 5, 6, .inr (.inr (.inr (.inr cf))))), (c0, .inr (1, [.ref v0, .ref ed0, .int 0, .int 0]))] H := hP
  have hD : va_D A [(zo, .inl (cT 1, 1, .inr (.inl (vp_updL zf 0 0)))), (x, .inr (0, [.ref xT, .ref xP, .ref xR, .ref xG, .ref xF, .int tc, .ref xO, .ref xS, .ref xL, .ref xC, .ref xQ, .ref xU, .ref xW])), (xT, .inr (2, [.ref ca, .ref ta, .int 1, .int 0])), (ca, .inl (cT 5, 6, .inr (.inr (.inr (.inr cf))))), (c0, .inr (1, [.ref v0, .ref ed0, .int 0, .int 0]))] := hD
  refine lv_goto (tgt := 28) hx hb dL_kinds_17 rfl ?_
  refine lv_iconst (v := 0) hx hb dL_kinds_28 (by decide) ?_
  have hP9 := hP.sub (ws' := [(zo, .inl (cT 1, 1, .inr (.inl (vp_updL zf 0 0))))]) [0] rfl
  have hD9 := hD.sub (ws' := [(zo, .inl (cT 1, 1, .inr (.inl (vp_updL zf 0 0))))]) [0] (by decide) rfl
  refine W.widen (k := 0) (n := 0) (Nat.le_of_ble_eq_true rfl) (Nat.le_of_ble_eq_true rfl) ?_
  exact W.iret (v := 0) hx hb hr (fun t ht hW => ⟨⟨0, (fun _ => 0), rfl, rfl, by rw [ht]; exact hP9, hD9⟩, hS.F ht⟩) hS.2.2 dL_kinds_29
set_option maxHeartbeats 4000000 in
set_option maxRecDepth 100000 in
theorem l_cut_ok (l : Launch) (D : va_G) (cT : Nat → ClassId) (x : Nat) (xT : Nat) (xP : Nat) (xR : Nat) (xG : Nat) (xF : Nat) (tc : Int32) (xO : Nat) (xS : Nat) (xL : Nat) (xC : Nat) (xQ : Nat) (xU : Nat) (xW : Nat) (ca : Nat) (ta : Nat) (cf : Nat → Option Nat) (c0 : Nat) (v0 : Nat) (ed0 : Nat) (n0 : Int32) (a2 : Int32) (a3 : Int32) (zo : Nat) (zf : Nat → Int64) (hq : 2 ≤ a3 ∧ a3 ≤ 12) (hf0 : cf 0 = some c0) (sz : Nat) : Met l yL_cut WL_cut ({ frames := 3, cells := 0, slots := 0, locals := 67 } : Room) (RW D vwCl [.ref x, .int 0, .int a2, .int a3, .ref zo] [(x, .inr (0, [.ref xT, .ref xP, .ref xR, .ref xG, .ref xF, .int tc, .ref xO, .ref xS, .ref xL, .ref xC, .ref xQ, .ref xU, .ref xW])), (xT, .inr (2, [.ref ca, .ref ta, .int 1, .int 0])), (ca, .inl (cT 5, 6, .inr (.inr (.inr (.inr cf))))), (c0, .inr (1, [.ref v0, .ref ed0, .int n0, .int 0])), (zo, .inl (cT 1, 1, .inr (.inl zf)))] (TY cT) sz) (va_Qi (fun (r : Int32) (_ : Nat → Nat) => r = 0) (BW D vwCl (va_A [(x, .inr (0, [.ref xT, .ref xP, .ref xR, .ref xG, .ref xF, .int tc, .ref xO, .ref xS, .ref xL, .ref xC, .ref xQ, .ref xU, .ref xW])), (xT, .inr (2, [.ref ca, .ref ta, .int 1, .int 0])), (ca, .inl (cT 5, 6, .inr (.inr (.inr (.inr cf))))), (c0, .inr (1, [.ref v0, .ref ed0, .int n0, .int 0])), (zo, .inl (cT 1, 1, .inr (.inl zf)))] sz) (fun u => [(zo, .inl (cT 1, 1, .inr (.inl (vp_updL zf 0 0))))])) (va_A [(x, .inr (0, [.ref xT, .ref xP, .ref xR, .ref xG, .ref xF, .int tc, .ref xO, .ref xS, .ref xL, .ref xC, .ref xQ, .ref xU, .ref xW])), (xT, .inr (2, [.ref ca, .ref ta, .int 1, .int 0])), (ca, .inl (cT 5, 6, .inr (.inr (.inr (.inr cf))))), (c0, .inr (1, [.ref v0, .ref ed0, .int n0, .int 0])), (zo, .inl (cT 1, 1, .inr (.inl zf)))] sz)) 0 0 (va_A [(x, .inr (0, [.ref xT, .ref xP, .ref xR, .ref xG, .ref xF, .int tc, .ref xO, .ref xS, .ref xL, .ref xC, .ref xQ, .ref xU, .ref xW])), (xT, .inr (2, [.ref ca, .ref ta, .int 1, .int 0])), (ca, .inl (cT 5, 6, .inr (.inr (.inr (.inr cf))))), (c0, .inr (1, [.ref v0, .ref ed0, .int n0, .int 0])), (zo, .inl (cT 1, 1, .inr (.inl zf)))] sz) := by
  refine va_MetW (hh := [(0, 12, 15, 13), (0, 12, 19, 19)]) (cc := cL_cut) (maxL := 6) (ret := (some .int)) (by decide) rfl ?_
  intro p e s m args below meth c s₁ B hml hv
  obtain ⟨rfl, hsz, hZ, hP, hK, hD0⟩ := hv
  have hx := B.exec
  have hb := B.bytes
  have hr := B.returns
  have hts := atoms_spec (ws := WL_cut) B.pre
  have hT : ∀ w ∈ TB, w.before _ s = true := fun w h => hts w (List.mem_cons_of_mem _ h)
  have hown : s.vm.findClass R_L = some m.cls := findClass_of_methodNamed B.named
  have htab := tx_table B (bytes := cL_cut) (maxL := 6) (ret := (some .int)) (hh := [(0, 12, 15, 13), (0, 12, 19, 19)]) (hts _ List.mem_cons_self)
  subst hsz
  have hD := hD0.self (sz := s.heap.size)
  generalize hAe : va_A [(x, .inr (0, [.ref xT, .ref xP, .ref xR, .ref xG, .ref xF, .int tc, .ref xO, .ref xS, .ref xL, .ref xC, .ref xQ, .ref xU, .ref xW])), (xT, .inr (2, [.ref ca, .ref ta, .int 1, .int 0])), (ca, .inl (cT 5, 6, .inr (.inr (.inr (.inr cf))))), (c0, .inr (1, [.ref v0, .ref ed0, .int n0, .int 0])), (zo, .inl (cT 1, 1, .inr (.inl zf)))] s.heap.size = A at hD hZ ⊢
  have hA : ∀ q : Nat, s.heap.size ≤ q → A q := fun q h => by rw [← hAe]; exact Or.inr h
  have hS : va_S A s.heap s.heap [] := va_S.rf
  have hl := lv_entry ([.ref x, .int 0, .int a2, .int a3, .ref zo]) (n := 6) (Nat.le_of_ble_eq_true rfl)
  rw [lg_entry_eq]
  generalize (lg_sl ([.ref x, .int 0, .int a2, .int a3, .ref zo]) ++ List.replicate (6 - (lg_sl ([.ref x, .int 0, .int a2, .int a3, .ref zo])).length) Slot.unset).toArray = ls at hl ⊢
  have hl : lv_has ls 6 [(0, .ref x), (1, .int 0), (2, .int a2), (3, .int a3), (4, .ref zo)] := hl
  refine lv_aload hx hb dL_cut_0 (lv_at hl 4 rfl) ?_
  refine lv_iconst (v := 0) hx hb dL_cut_2 (by decide) ?_
  refine lv_aload_n hx hb dL_cut_3 rfl (lv_at hl 0 rfl) ?_
  refine lv_iload_n hx hb dL_cut_4 rfl (lv_at hl 1 rfl) ?_
  refine lv_iload_n hx hb dL_cut_5 rfl (lv_at hl 2 rfl) ?_
  refine lv_iload_n hx hb dL_cut_6 rfl (lv_at hl 3 rfl) ?_
  refine rw_i (wc := [(x, .inr (0, [.ref xT, .ref xP, .ref xR, .ref xG, .ref xF, .int tc, .ref xO, .ref xS, .ref xL, .ref xC, .ref xQ, .ref xU, .ref xW])), (xT, .inr (2, [.ref ca, .ref ta, .int 1, .int 0])), (ca, .inl (cT 5, 6, .inr (.inr (.inr (.inr cf))))), (c0, .inr (1, [.ref v0, .ref ed0, .int n0, .int 0]))]) (wr := [(zo, .inl (cT 1, 1, .inr (.inl zf)))]) hP hD hS hA [0, 1, 2, 3] [4] rfl rfl (by decide) (by decide) (va_runV (As := [.int 0, .int a2, .int a3]) (rest := [.int 0, .ref zo]) ⟨hx, hb, hml, hown, hT⟩ (k_cut_ok l D cT x xT xP xR xG xF tc xO xS xL xC xQ xU xW ca ta cf c0 v0 ed0 n0 a2 a3 hq hf0 _) ⟨callB_of 3 hT (tb_gd w662) rfl rfl rfl (hT _ w1) (hT _ w659) hR_cut ⟨Nat.le_of_ble_eq_true rfl, Nat.le_of_ble_eq_true rfl⟩, (hT _ w660), (hT _ w661)⟩ (RW.preV (ci := 0) (q0 := 0) hZ hS (va_free (wc := [(x, .inr (0, [.ref xT, .ref xP, .ref xR, .ref xG, .ref xF, .int tc, .ref xO, .ref xS, .ref xL, .ref xC, .ref xQ, .ref xU, .ref xW])), (xT, .inr (2, [.ref ca, .ref ta, .int 1, .int 0])), (ca, .inl (cT 5, 6, .inr (.inr (.inr (.inr cf))))), (c0, .inr (1, [.ref v0, .ref ed0, .int n0, .int 0]))]) hD hS hA [0, 1, 2, 3] rfl) (hP.sub (ws' := [(x, .inr (0, [.ref xT, .ref xP, .ref xR, .ref xG, .ref xF, .int tc, .ref xO, .ref xS, .ref xL, .ref xC, .ref xQ, .ref xU, .ref xW])), (xT, .inr (2, [.ref ca, .ref ta, .int 1, .int 0])), (ca, .inl (cT 5, 6, .inr (.inr (.inr (.inr cf))))), (c0, .inr (1, [.ref v0, .ref ed0, .int n0, .int 0]))]) [0, 1, 2, 3] rfl) hK (hD.sub (ws' := [(x, .inr (0, [.ref xT, .ref xP, .ref xR, .ref xG, .ref xF, .int tc, .ref xO, .ref xS, .ref xL, .ref xC, .ref xQ, .ref xU, .ref xW])), (xT, .inr (2, [.ref ca, .ref ta, .int 1, .int 0])), (ca, .inl (cT 5, 6, .inr (.inr (.inr (.inr cf))))), (c0, .inr (1, [.ref v0, .ref ed0, .int n0, .int 0]))]) [0, 1, 2, 3] (by decide) rfl) rfl rfl) rfl rfl hl.1 rfl (lv_room (Nat.le_of_ble_eq_true rfl)) dL_cut_7 ⟨Nat.le_of_ble_eq_true rfl, Nat.le_of_ble_eq_true rfl⟩) (fun ru1 u1 H locs hpu1 hP hD hS => ?_)
  have hP : va_P D vwCl [(zo, .inl (cT 1, 1, .inr (.inl zf))), (x, .inr (0, [.ref xT, .ref xP, .ref xR, .ref xG, .ref xF, .int tc, .ref xO, .ref xS, .ref xL, .ref xC, .ref xQ, .ref xU, .ref xW])), (xT, .inr (2, [.ref ca, .ref ta, .int 1, .int 0])), (ca, .inl (cT 5, 6, .inr (.inr (.inr (.inr cf))))), (c0, .inr (1, [.ref v0, .ref ed0, .int 0, .int 0]))] H := hP
  have hD : va_D A [(zo, .inl (cT 1, 1, .inr (.inl zf))), (x, .inr (0, [.ref xT, .ref xP, .ref xR, .ref xG, .ref xF, .int tc, .ref xO, .ref xS, .ref xL, .ref xC, .ref xQ, .ref xU, .ref xW])), (xT, .inr (2, [.ref ca, .ref ta, .int 1, .int 0])), (ca, .inl (cT 5, 6, .inr (.inr (.inr (.inr cf))))), (c0, .inr (1, [.ref v0, .ref ed0, .int 0, .int 0]))] := hD
  rw [hpu1]
  refine lv_i2l (v := 0) hx hb dL_cut_10 (by decide) ?_
  refine va_last hx hb hK hP hD hS 0 1 rfl rfl (by unfold vp_in; decide) dL_cut_11 (fun H locs hP hD hS => ?_)
  have hP : va_P D vwCl [(zo, .inl (cT 1, 1, .inr (.inl (vp_updL zf 0 0)))), (x, .inr (0, [.ref xT, .ref xP, .ref xR, .ref xG, .ref xF, .int tc, .ref xO, .ref xS, .ref xL, .ref xC, .ref xQ, .ref xU, .ref xW])), (xT, .inr (2, [.ref ca, .ref ta, .int 1, .int 0])), (ca, .inl (cT 5, 6, .inr (.inr (.inr (.inr cf))))), (c0, .inr (1, [.ref v0, .ref ed0, .int 0, .int 0]))] H := hP
  have hD : va_D A [(zo, .inl (cT 1, 1, .inr (.inl (vp_updL zf 0 0)))), (x, .inr (0, [.ref xT, .ref xP, .ref xR, .ref xG, .ref xF, .int tc, .ref xO, .ref xS, .ref xL, .ref xC, .ref xQ, .ref xU, .ref xW])), (xT, .inr (2, [.ref ca, .ref ta, .int 1, .int 0])), (ca, .inl (cT 5, 6, .inr (.inr (.inr (.inr cf))))), (c0, .inr (1, [.ref v0, .ref ed0, .int 0, .int 0]))] := hD
  refine lv_goto (tgt := 23) hx hb dL_cut_12 rfl ?_
  refine lv_iconst (v := 0) hx hb dL_cut_23 (by decide) ?_
  have hP9 := hP.sub (ws' := [(zo, .inl (cT 1, 1, .inr (.inl (vp_updL zf 0 0))))]) [0] rfl
  have hD9 := hD.sub (ws' := [(zo, .inl (cT 1, 1, .inr (.inl (vp_updL zf 0 0))))]) [0] (by decide) rfl
  refine W.widen (k := 0) (n := 0) (Nat.le_of_ble_eq_true rfl) (Nat.le_of_ble_eq_true rfl) ?_
  exact W.iret (v := 0) hx hb hr (fun t ht hW => ⟨⟨0, (fun _ => 0), rfl, rfl, by rw [ht]; exact hP9, hD9⟩, hS.F ht⟩) hS.2.2 dL_cut_24
set_option maxHeartbeats 4000000 in
set_option maxRecDepth 100000 in
theorem l_bin_ok (l : Launch) (D : va_G) (cT : Nat → ClassId) (x : Nat) (xT : Nat) (xP : Nat) (xR : Nat) (xG : Nat) (xF : Nat) (tc : Int32) (xO : Nat) (xS : Nat) (xL : Nat) (xC : Nat) (xQ : Nat) (xU : Nat) (xW : Nat) (ca : Nat) (ta : Nat) (cf : Nat → Option Nat) (c0 : Nat) (v0 : Nat) (ed0 : Nat) (a2 : Int32) (zo : Nat) (zf : Nat → Int64) (h1 : ¬ a2 = (-2147483648)) (hq : a2 = (-2147483648) ∨ ((-1000000) ≤ a2 ∧ a2 ≤ 1000000)) (hf0 : cf 0 = some c0) (sz : Nat) : Met l yL_bin WL_bin ({ frames := 4, cells := 0, slots := 0, locals := 85 } : Room) (RW D vwCl [.ref x, .int 0, .int a2, .ref zo] [(x, .inr (0, [.ref xT, .ref xP, .ref xR, .ref xG, .ref xF, .int tc, .ref xO, .ref xS, .ref xL, .ref xC, .ref xQ, .ref xU, .ref xW])), (xT, .inr (2, [.ref ca, .ref ta, .int 1, .int 0])), (ca, .inl (cT 5, 6, .inr (.inr (.inr (.inr cf))))), (c0, .inr (1, [.ref v0, .ref ed0, .int 0, .int 0])), (zo, .inl (cT 1, 1, .inr (.inl zf)))] (TY cT) sz) (va_Qi (fun (r : Int32) (_ : Nat → Nat) => r = 0) (BW D vwCl (va_A [(x, .inr (0, [.ref xT, .ref xP, .ref xR, .ref xG, .ref xF, .int tc, .ref xO, .ref xS, .ref xL, .ref xC, .ref xQ, .ref xU, .ref xW])), (xT, .inr (2, [.ref ca, .ref ta, .int 1, .int 0])), (ca, .inl (cT 5, 6, .inr (.inr (.inr (.inr cf))))), (c0, .inr (1, [.ref v0, .ref ed0, .int 0, .int 0])), (zo, .inl (cT 1, 1, .inr (.inl zf)))] sz) (fun u => [(zo, .inl (cT 1, 1, .inr (.inl (vp_updL zf 0 0))))])) (va_A [(x, .inr (0, [.ref xT, .ref xP, .ref xR, .ref xG, .ref xF, .int tc, .ref xO, .ref xS, .ref xL, .ref xC, .ref xQ, .ref xU, .ref xW])), (xT, .inr (2, [.ref ca, .ref ta, .int 1, .int 0])), (ca, .inl (cT 5, 6, .inr (.inr (.inr (.inr cf))))), (c0, .inr (1, [.ref v0, .ref ed0, .int 0, .int 0])), (zo, .inl (cT 1, 1, .inr (.inl zf)))] sz)) 0 0 (va_A [(x, .inr (0, [.ref xT, .ref xP, .ref xR, .ref xG, .ref xF, .int tc, .ref xO, .ref xS, .ref xL, .ref xC, .ref xQ, .ref xU, .ref xW])), (xT, .inr (2, [.ref ca, .ref ta, .int 1, .int 0])), (ca, .inl (cT 5, 6, .inr (.inr (.inr (.inr cf))))), (c0, .inr (1, [.ref v0, .ref ed0, .int 0, .int 0])), (zo, .inl (cT 1, 1, .inr (.inl zf)))] sz) := by
  refine va_MetW (hh := [(0, 10, 13, 13)]) (cc := cL_bin) (maxL := 5) (ret := (some .int)) (by decide) rfl ?_
  intro p e s m args below meth c s₁ B hml hv
  obtain ⟨rfl, hsz, hZ, hP, hK, hD0⟩ := hv
  have hx := B.exec
  have hb := B.bytes
  have hr := B.returns
  have hts := atoms_spec (ws := WL_bin) B.pre
  have hT : ∀ w ∈ TB, w.before _ s = true := fun w h => hts w (List.mem_cons_of_mem _ h)
  have hown : s.vm.findClass R_L = some m.cls := findClass_of_methodNamed B.named
  have htab := tx_table B (bytes := cL_bin) (maxL := 5) (ret := (some .int)) (hh := [(0, 10, 13, 13)]) (hts _ List.mem_cons_self)
  subst hsz
  have hD := hD0.self (sz := s.heap.size)
  generalize hAe : va_A [(x, .inr (0, [.ref xT, .ref xP, .ref xR, .ref xG, .ref xF, .int tc, .ref xO, .ref xS, .ref xL, .ref xC, .ref xQ, .ref xU, .ref xW])), (xT, .inr (2, [.ref ca, .ref ta, .int 1, .int 0])), (ca, .inl (cT 5, 6, .inr (.inr (.inr (.inr cf))))), (c0, .inr (1, [.ref v0, .ref ed0, .int 0, .int 0])), (zo, .inl (cT 1, 1, .inr (.inl zf)))] s.heap.size = A at hD hZ ⊢
  have hA : ∀ q : Nat, s.heap.size ≤ q → A q := fun q h => by rw [← hAe]; exact Or.inr h
  have hS : va_S A s.heap s.heap [] := va_S.rf
  have hl := lv_entry ([.ref x, .int 0, .int a2, .ref zo]) (n := 5) (Nat.le_of_ble_eq_true rfl)
  rw [lg_entry_eq]
  generalize (lg_sl ([.ref x, .int 0, .int a2, .ref zo]) ++ List.replicate (5 - (lg_sl ([.ref x, .int 0, .int a2, .ref zo])).length) Slot.unset).toArray = ls at hl ⊢
  have hl : lv_has ls 5 [(0, .ref x), (1, .int 0), (2, .int a2), (3, .ref zo)] := hl
  refine lv_aload_n hx hb dL_bin_0 rfl (lv_at hl 3 rfl) ?_
  refine lv_iconst (v := 0) hx hb dL_bin_1 (by decide) ?_
  refine lv_aload_n hx hb dL_bin_2 rfl (lv_at hl 0 rfl) ?_
  refine lv_iload_n hx hb dL_bin_3 rfl (lv_at hl 1 rfl) ?_
  refine lv_iload_n hx hb dL_bin_4 rfl (lv_at hl 2 rfl) ?_
  refine ro_i (va_Run.run (va_runV (As := [.int 0, .int a2]) (rest := [.int 0, .ref zo]) ⟨hx, hb, hml, hown, hT⟩ (k_bin_ok l D cT x xT xP xR xG xF tc xO xS xL xC xQ xU xW ca ta cf c0 v0 ed0 a2 h1 hq hf0) ⟨callB_of 2 hT (tb_gd w684) rfl rfl rfl (hT _ w1) (hT _ w681) hR_bin ⟨Nat.le_of_ble_eq_true rfl, Nat.le_of_ble_eq_true rfl⟩, (hT _ w682), (hT _ w683)⟩ (RO.preV (ci := 0) (q0 := 0) hZ hS (hP.sub (ws' := [(x, .inr (0, [.ref xT, .ref xP, .ref xR, .ref xG, .ref xF, .int tc, .ref xO, .ref xS, .ref xL, .ref xC, .ref xQ, .ref xU, .ref xW])), (xT, .inr (2, [.ref ca, .ref ta, .int 1, .int 0])), (ca, .inl (cT 5, 6, .inr (.inr (.inr (.inr cf))))), (c0, .inr (1, [.ref v0, .ref ed0, .int 0, .int 0]))]) [0, 1, 2, 3] rfl) hK rfl rfl) rfl rfl hl.1 rfl (lv_room (Nat.le_of_ble_eq_true rfl)) dL_bin_5 ⟨Nat.le_of_ble_eq_true rfl, Nat.le_of_ble_eq_true rfl⟩)) ?_
  refine lv_i2l (v := 0) hx hb dL_bin_8 (by decide) ?_
  refine va_last hx hb hK hP hD hS 4 1 rfl rfl (by unfold vp_in; decide) dL_bin_9 (fun H locs hP hD hS => ?_)
  have hP : va_P D vwCl [(x, .inr (0, [.ref xT, .ref xP, .ref xR, .ref xG, .ref xF, .int tc, .ref xO, .ref xS, .ref xL, .ref xC, .ref xQ, .ref xU, .ref xW])), (xT, .inr (2, [.ref ca, .ref ta, .int 1, .int 0])), (ca, .inl (cT 5, 6, .inr (.inr (.inr (.inr cf))))), (c0, .inr (1, [.ref v0, .ref ed0, .int 0, .int 0])), (zo, .inl (cT 1, 1, .inr (.inl (vp_updL zf 0 0))))] H := hP
  have hD : va_D A [(x, .inr (0, [.ref xT, .ref xP, .ref xR, .ref xG, .ref xF, .int tc, .ref xO, .ref xS, .ref xL, .ref xC, .ref xQ, .ref xU, .ref xW])), (xT, .inr (2, [.ref ca, .ref ta, .int 1, .int 0])), (ca, .inl (cT 5, 6, .inr (.inr (.inr (.inr cf))))), (c0, .inr (1, [.ref v0, .ref ed0, .int 0, .int 0])), (zo, .inl (cT 1, 1, .inr (.inl (vp_updL zf 0 0))))] := hD
  refine lv_goto (tgt := 17) hx hb dL_bin_10 rfl ?_
  refine lv_iconst (v := 0) hx hb dL_bin_17 (by decide) ?_
  have hP9 := hP.sub (ws' := [(zo, .inl (cT 1, 1, .inr (.inl (vp_updL zf 0 0))))]) [4] rfl
  have hD9 := hD.sub (ws' := [(zo, .inl (cT 1, 1, .inr (.inl (vp_updL zf 0 0))))]) [4] (by decide) rfl
  refine W.widen (k := 0) (n := 0) (Nat.le_of_ble_eq_true rfl) (Nat.le_of_ble_eq_true rfl) ?_
  exact W.iret (v := 0) hx hb hr (fun t ht hW => ⟨⟨0, (fun _ => 0), rfl, rfl, by rw [ht]; exact hP9, hD9⟩, hS.F ht⟩) hS.2.2 dL_bin_18
set_option maxHeartbeats 4000000 in
set_option maxRecDepth 100000 in
theorem l_drop_ok (l : Launch) (D : va_G) (cT : Nat → ClassId) (x : Nat) (xT : Nat) (xP : Nat) (xR : Nat) (xG : Nat) (xF : Nat) (tc : Int32) (xO : Nat) (xS : Nat) (xL : Nat) (xC : Nat) (xQ : Nat) (xU : Nat) (xW : Nat) (a1 : Int32) (zo : Nat) (zf : Nat → Int64) (hq : 0 ≤ a1 ∧ a1 ≤ tc) (sz : Nat) : Met l yL_drop WL_drop ({ frames := 2, cells := 0, slots := 0, locals := 44 } : Room) (RW D vwCl [.ref x, .int a1, .ref zo] [(x, .inr (0, [.ref xT, .ref xP, .ref xR, .ref xG, .ref xF, .int tc, .ref xO, .ref xS, .ref xL, .ref xC, .ref xQ, .ref xU, .ref xW])), (zo, .inl (cT 1, 1, .inr (.inl zf)))] (TY cT) sz) (va_Qi (fun (r : Int32) (_ : Nat → Nat) => r = 0) (BW D vwCl (va_A [(x, .inr (0, [.ref xT, .ref xP, .ref xR, .ref xG, .ref xF, .int tc, .ref xO, .ref xS, .ref xL, .ref xC, .ref xQ, .ref xU, .ref xW])), (zo, .inl (cT 1, 1, .inr (.inl zf)))] sz) (fun u => [(zo, .inl (cT 1, 1, .inr (.inl (vp_updL zf 0 ((tc - a1 : Int32).toInt64)))))])) (va_A [(x, .inr (0, [.ref xT, .ref xP, .ref xR, .ref xG, .ref xF, .int tc, .ref xO, .ref xS, .ref xL, .ref xC, .ref xQ, .ref xU, .ref xW])), (zo, .inl (cT 1, 1, .inr (.inl zf)))] sz)) 0 0 (va_A [(x, .inr (0, [.ref xT, .ref xP, .ref xR, .ref xG, .ref xF, .int tc, .ref xO, .ref xS, .ref xL, .ref xC, .ref xQ, .ref xU, .ref xW])), (zo, .inl (cT 1, 1, .inr (.inl zf)))] sz) := by
  refine va_MetW (hh := [(0, 9, 12, 13)]) (cc := cL_drop) (maxL := 4) (ret := (some .int)) (by decide) rfl ?_
  intro p e s m args below meth c s₁ B hml hv
  obtain ⟨rfl, hsz, hZ, hP, hK, hD0⟩ := hv
  have hx := B.exec
  have hb := B.bytes
  have hr := B.returns
  have hts := atoms_spec (ws := WL_drop) B.pre
  have hT : ∀ w ∈ TB, w.before _ s = true := fun w h => hts w (List.mem_cons_of_mem _ h)
  have hown : s.vm.findClass R_L = some m.cls := findClass_of_methodNamed B.named
  have htab := tx_table B (bytes := cL_drop) (maxL := 4) (ret := (some .int)) (hh := [(0, 9, 12, 13)]) (hts _ List.mem_cons_self)
  subst hsz
  have hD := hD0.self (sz := s.heap.size)
  generalize hAe : va_A [(x, .inr (0, [.ref xT, .ref xP, .ref xR, .ref xG, .ref xF, .int tc, .ref xO, .ref xS, .ref xL, .ref xC, .ref xQ, .ref xU, .ref xW])), (zo, .inl (cT 1, 1, .inr (.inl zf)))] s.heap.size = A at hD hZ ⊢
  have hA : ∀ q : Nat, s.heap.size ≤ q → A q := fun q h => by rw [← hAe]; exact Or.inr h
  have hS : va_S A s.heap s.heap [] := va_S.rf
  have hl := lv_entry ([.ref x, .int a1, .ref zo]) (n := 4) (Nat.le_of_ble_eq_true rfl)
  rw [lg_entry_eq]
  generalize (lg_sl ([.ref x, .int a1, .ref zo]) ++ List.replicate (4 - (lg_sl ([.ref x, .int a1, .ref zo])).length) Slot.unset).toArray = ls at hl ⊢
  have hl : lv_has ls 4 [(0, .ref x), (1, .int a1), (2, .ref zo)] := hl
  refine lv_aload_n hx hb dL_drop_0 rfl (lv_at hl 2 rfl) ?_
  refine lv_iconst (v := 0) hx hb dL_drop_1 (by decide) ?_
  refine lv_aload_n hx hb dL_drop_2 rfl (lv_at hl 0 rfl) ?_
  refine lv_iload_n hx hb dL_drop_3 rfl (lv_at hl 1 rfl) ?_
  refine rw_i (wc := [(x, .inr (0, [.ref xT, .ref xP, .ref xR, .ref xG, .ref xF, .int tc, .ref xO, .ref xS, .ref xL, .ref xC, .ref xQ, .ref xU, .ref xW]))]) (wr := [(zo, .inl (cT 1, 1, .inr (.inl zf)))]) hP hD hS hA [0] [1] rfl rfl (by decide) (by decide) (va_runV (As := [.int a1]) (rest := [.int 0, .ref zo]) ⟨hx, hb, hml, hown, hT⟩ (k_drop_ok l D cT x xT xP xR xG xF tc xO xS xL xC xQ xU xW a1 hq _) ⟨callB_of 1 hT (tb_gd w993) rfl rfl rfl (hT _ w1) (hT _ w990) hR_drop ⟨Nat.le_of_ble_eq_true rfl, Nat.le_of_ble_eq_true rfl⟩, (hT _ w991), (hT _ w992)⟩ (RW.preV (ci := 0) (q0 := 0) hZ hS (va_free (wc := [(x, .inr (0, [.ref xT, .ref xP, .ref xR, .ref xG, .ref xF, .int tc, .ref xO, .ref xS, .ref xL, .ref xC, .ref xQ, .ref xU, .ref xW]))]) hD hS hA [0] rfl) (hP.sub (ws' := [(x, .inr (0, [.ref xT, .ref xP, .ref xR, .ref xG, .ref xF, .int tc, .ref xO, .ref xS, .ref xL, .ref xC, .ref xQ, .ref xU, .ref xW]))]) [0] rfl) hK (hD.sub (ws' := [(x, .inr (0, [.ref xT, .ref xP, .ref xR, .ref xG, .ref xF, .int tc, .ref xO, .ref xS, .ref xL, .ref xC, .ref xQ, .ref xU, .ref xW]))]) [0] (by decide) rfl) rfl rfl) rfl rfl hl.1 rfl (lv_room (Nat.le_of_ble_eq_true rfl)) dL_drop_4 ⟨Nat.le_of_ble_eq_true rfl, Nat.le_of_ble_eq_true rfl⟩) (fun ru1 u1 H locs hpu1 hP hD hS => ?_)
  have hP : va_P D vwCl [(zo, .inl (cT 1, 1, .inr (.inl zf))), (x, .inr (0, [.ref xT, .ref xP, .ref xR, .ref xG, .ref xF, .int a1, .ref xO, .ref xS, .ref xL, .ref xC, .ref xQ, .ref xU, .ref xW]))] H := hP
  have hD : va_D A [(zo, .inl (cT 1, 1, .inr (.inl zf))), (x, .inr (0, [.ref xT, .ref xP, .ref xR, .ref xG, .ref xF, .int a1, .ref xO, .ref xS, .ref xL, .ref xC, .ref xQ, .ref xU, .ref xW]))] := hD
  rw [hpu1]
  refine lv_i2l hx hb dL_drop_7 rfl ?_
  refine va_last hx hb hK hP hD hS 0 1 rfl rfl (by unfold vp_in; decide) dL_drop_8 (fun H locs hP hD hS => ?_)
  have hP : va_P D vwCl [(zo, .inl (cT 1, 1, .inr (.inl (vp_updL zf 0 ((tc - a1 : Int32).toInt64))))), (x, .inr (0, [.ref xT, .ref xP, .ref xR, .ref xG, .ref xF, .int a1, .ref xO, .ref xS, .ref xL, .ref xC, .ref xQ, .ref xU, .ref xW]))] H := hP
  have hD : va_D A [(zo, .inl (cT 1, 1, .inr (.inl (vp_updL zf 0 ((tc - a1 : Int32).toInt64))))), (x, .inr (0, [.ref xT, .ref xP, .ref xR, .ref xG, .ref xF, .int a1, .ref xO, .ref xS, .ref xL, .ref xC, .ref xQ, .ref xU, .ref xW]))] := hD
  refine lv_goto (tgt := 15) hx hb dL_drop_9 rfl ?_
  refine lv_iconst (v := 0) hx hb dL_drop_15 (by decide) ?_
  have hP9 := hP.sub (ws' := [(zo, .inl (cT 1, 1, .inr (.inl (vp_updL zf 0 ((tc - a1 : Int32).toInt64)))))]) [0] rfl
  have hD9 := hD.sub (ws' := [(zo, .inl (cT 1, 1, .inr (.inl (vp_updL zf 0 ((tc - a1 : Int32).toInt64)))))]) [0] (by decide) rfl
  refine W.widen (k := 0) (n := 0) (Nat.le_of_ble_eq_true rfl) (Nat.le_of_ble_eq_true rfl) ?_
  exact W.iret (v := 0) hx hb hr (fun t ht hW => ⟨⟨0, (fun _ => 0), rfl, rfl, by rw [ht]; exact hP9, hD9⟩, hS.F ht⟩) hS.2.2 dL_drop_16
set_option maxHeartbeats 4000000 in
set_option maxRecDepth 100000 in
theorem l_uses_ok (l : Launch) (D : va_G) (cT : Nat → ClassId) (x : Nat) (xT : Nat) (xP : Nat) (xR : Nat) (xG : Nat) (xF : Nat) (xO : Nat) (xS : Nat) (xL : Nat) (xC : Nat) (xQ : Nat) (xU : Nat) (xW : Nat) (ca : Nat) (ta : Nat) (zo : Nat) (zf : Nat → Int64) (sz : Nat) : Met l yL_uses WL_uses ({ frames := 3, cells := 0, slots := 0, locals := 66 } : Room) (RW D vwCl [.ref x, .int 0, .ref zo] [(x, .inr (0, [.ref xT, .ref xP, .ref xR, .ref xG, .ref xF, .int 0, .ref xO, .ref xS, .ref xL, .ref xC, .ref xQ, .ref xU, .ref xW])), (xT, .inr (2, [.ref ca, .ref ta, .int 1, .int 0])), (zo, .inl (cT 1, 1, .inr (.inl zf)))] (TY cT) sz) (va_Qi (fun (r : Int32) (_ : Nat → Nat) => r = 0) (BW D vwCl (va_A [(x, .inr (0, [.ref xT, .ref xP, .ref xR, .ref xG, .ref xF, .int 0, .ref xO, .ref xS, .ref xL, .ref xC, .ref xQ, .ref xU, .ref xW])), (xT, .inr (2, [.ref ca, .ref ta, .int 1, .int 0])), (zo, .inl (cT 1, 1, .inr (.inl zf)))] sz) (fun u => [(zo, .inl (cT 1, 1, .inr (.inl (vp_updL zf 0 0))))])) (va_A [(x, .inr (0, [.ref xT, .ref xP, .ref xR, .ref xG, .ref xF, .int 0, .ref xO, .ref xS, .ref xL, .ref xC, .ref xQ, .ref xU, .ref xW])), (xT, .inr (2, [.ref ca, .ref ta, .int 1, .int 0])), (zo, .inl (cT 1, 1, .inr (.inl zf)))] sz)) 0 0 (va_A [(x, .inr (0, [.ref xT, .ref xP, .ref xR, .ref xG, .ref xF, .int 0, .ref xO, .ref xS, .ref xL, .ref xC, .ref xQ, .ref xU, .ref xW])), (xT, .inr (2, [.ref ca, .ref ta, .int 1, .int 0])), (zo, .inl (cT 1, 1, .inr (.inl zf)))] sz) := by
  refine va_MetW (hh := [(0, 9, 12, 13)]) (cc := cL_uses) (maxL := 4) (ret := (some .int)) (by decide) rfl ?_
  intro p e s m args below meth c s₁ B hml hv
  obtain ⟨rfl, hsz, hZ, hP, hK, hD0⟩ := hv
  have hx := B.exec
  have hb := B.bytes
  have hr := B.returns
  have hts := atoms_spec (ws := WL_uses) B.pre
  have hT : ∀ w ∈ TB, w.before _ s = true := fun w h => hts w (List.mem_cons_of_mem _ h)
  have hown : s.vm.findClass R_L = some m.cls := findClass_of_methodNamed B.named
  have htab := tx_table B (bytes := cL_uses) (maxL := 4) (ret := (some .int)) (hh := [(0, 9, 12, 13)]) (hts _ List.mem_cons_self)
  subst hsz
  have hD := hD0.self (sz := s.heap.size)
  generalize hAe : va_A [(x, .inr (0, [.ref xT, .ref xP, .ref xR, .ref xG, .ref xF, .int 0, .ref xO, .ref xS, .ref xL, .ref xC, .ref xQ, .ref xU, .ref xW])), (xT, .inr (2, [.ref ca, .ref ta, .int 1, .int 0])), (zo, .inl (cT 1, 1, .inr (.inl zf)))] s.heap.size = A at hD hZ ⊢
  have hA : ∀ q : Nat, s.heap.size ≤ q → A q := fun q h => by rw [← hAe]; exact Or.inr h
  have hS : va_S A s.heap s.heap [] := va_S.rf
  have hl := lv_entry ([.ref x, .int 0, .ref zo]) (n := 4) (Nat.le_of_ble_eq_true rfl)
  rw [lg_entry_eq]
  generalize (lg_sl ([.ref x, .int 0, .ref zo]) ++ List.replicate (4 - (lg_sl ([.ref x, .int 0, .ref zo])).length) Slot.unset).toArray = ls at hl ⊢
  have hl : lv_has ls 4 [(0, .ref x), (1, .int 0), (2, .ref zo)] := hl
  refine lv_aload_n hx hb dL_uses_0 rfl (lv_at hl 2 rfl) ?_
  refine lv_iconst (v := 0) hx hb dL_uses_1 (by decide) ?_
  refine lv_aload_n hx hb dL_uses_2 rfl (lv_at hl 0 rfl) ?_
  refine lv_iload_n hx hb dL_uses_3 rfl (lv_at hl 1 rfl) ?_
  refine ro_i (va_Run.run (va_runV (As := [.int 0]) (rest := [.int 0, .ref zo]) ⟨hx, hb, hml, hown, hT⟩ (k_uses_ok l D cT x xT xP xR xG xF xO xS xL xC xQ xU xW ca ta) ⟨callB_of 1 hT (tb_gd w1026) rfl rfl rfl (hT _ w1) (hT _ w1023) hR_uses ⟨Nat.le_of_ble_eq_true rfl, Nat.le_of_ble_eq_true rfl⟩, (hT _ w1024), (hT _ w1025)⟩ (RO.preV (ci := 0) (q0 := 0) hZ hS (hP.sub (ws' := [(x, .inr (0, [.ref xT, .ref xP, .ref xR, .ref xG, .ref xF, .int 0, .ref xO, .ref xS, .ref xL, .ref xC, .ref xQ, .ref xU, .ref xW])), (xT, .inr (2, [.ref ca, .ref ta, .int 1, .int 0]))]) [0, 1] rfl) hK rfl rfl) rfl rfl hl.1 rfl (lv_room (Nat.le_of_ble_eq_true rfl)) dL_uses_4 ⟨Nat.le_of_ble_eq_true rfl, Nat.le_of_ble_eq_true rfl⟩)) ?_
  refine lv_i2l (v := 0) hx hb dL_uses_7 (by decide) ?_
  refine va_last hx hb hK hP hD hS 2 1 rfl rfl (by unfold vp_in; decide) dL_uses_8 (fun H locs hP hD hS => ?_)
  have hP : va_P D vwCl [(x, .inr (0, [.ref xT, .ref xP, .ref xR, .ref xG, .ref xF, .int 0, .ref xO, .ref xS, .ref xL, .ref xC, .ref xQ, .ref xU, .ref xW])), (xT, .inr (2, [.ref ca, .ref ta, .int 1, .int 0])), (zo, .inl (cT 1, 1, .inr (.inl (vp_updL zf 0 0))))] H := hP
  have hD : va_D A [(x, .inr (0, [.ref xT, .ref xP, .ref xR, .ref xG, .ref xF, .int 0, .ref xO, .ref xS, .ref xL, .ref xC, .ref xQ, .ref xU, .ref xW])), (xT, .inr (2, [.ref ca, .ref ta, .int 1, .int 0])), (zo, .inl (cT 1, 1, .inr (.inl (vp_updL zf 0 0))))] := hD
  refine lv_goto (tgt := 15) hx hb dL_uses_9 rfl ?_
  refine lv_iconst (v := 0) hx hb dL_uses_15 (by decide) ?_
  have hP9 := hP.sub (ws' := [(zo, .inl (cT 1, 1, .inr (.inl (vp_updL zf 0 0))))]) [2] rfl
  have hD9 := hD.sub (ws' := [(zo, .inl (cT 1, 1, .inr (.inl (vp_updL zf 0 0))))]) [2] (by decide) rfl
  refine W.widen (k := 0) (n := 0) (Nat.le_of_ble_eq_true rfl) (Nat.le_of_ble_eq_true rfl) ?_
  exact W.iret (v := 0) hx hb hr (fun t ht hW => ⟨⟨0, (fun _ => 0), rfl, rfl, by rw [ht]; exact hP9, hD9⟩, hS.F ht⟩) hS.2.2 dL_uses_16
set_option maxHeartbeats 4000000 in
set_option maxRecDepth 100000 in
theorem l_predict_ok (l : Launch) (D : va_G) (cT : Nat → ClassId) (x : Nat) (xT : Nat) (xP : Nat) (xR : Nat) (xG : Nat) (xF : Nat) (xO : Nat) (xS : Nat) (xL : Nat) (xC : Nat) (xQ : Nat) (xU : Nat) (xW : Nat) (ca : Nat) (ta : Nat) (w : Int32) (r : Int32) (tf : Nat → Int32) (ob : Nat) (ou : Nat) (ow : Nat) (bf : Nat → Int32) (ol : Int32) (vf : Nat → Option Nat) (v0 : Nat) (vw : Nat) (vl : Int32) (vb : Int32) (vg : Nat → Int32) (lw : Nat) (ll : Int32) (lb : Int32) (lf : Nat → Int32) (zo : Nat) (zf : Nat → Int64) (h0 : tf 48 = 0) (hv0 : vf 0 = some v0) (sz : Nat) : Met l yL_predict WL_predict ({ frames := 5, cells := 0, slots := 0, locals := 118 } : Room) (RW D vwCl [.ref x, .int 0, .ref zo] [(x, .inr (0, [.ref xT, .ref xP, .ref xR, .ref xG, .ref xF, .int 0, .ref xO, .ref xS, .ref xL, .ref xC, .ref xQ, .ref xU, .ref xW])), (xT, .inr (2, [.ref ca, .ref ta, .int w, .int r])), (ta, .inl (cT 0, 49, .inl tf)), (xO, .inr (8, [.ref ob, .int ol, .ref ou, .ref ow])), (ob, .inl (cT 2, 866, .inl bf)), (ou, .inl (cT 4, 1, .inr (.inr (.inr (.inr vf))))), (v0, .inr (4, [.ref vw, .int vl, .int vb])), (vw, .inl (cT 0, 48, .inl vg)), (ow, .inr (4, [.ref lw, .int ll, .int lb])), (lw, .inl (cT 0, 48, .inl lf)), (zo, .inl (cT 1, 1, .inr (.inl zf)))] (TY cT) sz) (va_Qi (fun (r : Int32) (_ : Nat → Nat) => r = 0) (BW D vwCl (va_A [(x, .inr (0, [.ref xT, .ref xP, .ref xR, .ref xG, .ref xF, .int 0, .ref xO, .ref xS, .ref xL, .ref xC, .ref xQ, .ref xU, .ref xW])), (xT, .inr (2, [.ref ca, .ref ta, .int w, .int r])), (ta, .inl (cT 0, 49, .inl tf)), (xO, .inr (8, [.ref ob, .int ol, .ref ou, .ref ow])), (ob, .inl (cT 2, 866, .inl bf)), (ou, .inl (cT 4, 1, .inr (.inr (.inr (.inr vf))))), (v0, .inr (4, [.ref vw, .int vl, .int vb])), (vw, .inl (cT 0, 48, .inl vg)), (ow, .inr (4, [.ref lw, .int ll, .int lb])), (lw, .inl (cT 0, 48, .inl lf)), (zo, .inl (cT 1, 1, .inr (.inl zf)))] sz) (fun u => [(zo, .inl (cT 1, 1, .inr (.inl (vp_updL zf 0 1))))])) (va_A [(x, .inr (0, [.ref xT, .ref xP, .ref xR, .ref xG, .ref xF, .int 0, .ref xO, .ref xS, .ref xL, .ref xC, .ref xQ, .ref xU, .ref xW])), (xT, .inr (2, [.ref ca, .ref ta, .int w, .int r])), (ta, .inl (cT 0, 49, .inl tf)), (xO, .inr (8, [.ref ob, .int ol, .ref ou, .ref ow])), (ob, .inl (cT 2, 866, .inl bf)), (ou, .inl (cT 4, 1, .inr (.inr (.inr (.inr vf))))), (v0, .inr (4, [.ref vw, .int vl, .int vb])), (vw, .inl (cT 0, 48, .inl vg)), (ow, .inr (4, [.ref lw, .int ll, .int lb])), (lw, .inl (cT 0, 48, .inl lf)), (zo, .inl (cT 1, 1, .inr (.inl zf)))] sz)) 0 0 (va_A [(x, .inr (0, [.ref xT, .ref xP, .ref xR, .ref xG, .ref xF, .int 0, .ref xO, .ref xS, .ref xL, .ref xC, .ref xQ, .ref xU, .ref xW])), (xT, .inr (2, [.ref ca, .ref ta, .int w, .int r])), (ta, .inl (cT 0, 49, .inl tf)), (xO, .inr (8, [.ref ob, .int ol, .ref ou, .ref ow])), (ob, .inl (cT 2, 866, .inl bf)), (ou, .inl (cT 4, 1, .inr (.inr (.inr (.inr vf))))), (v0, .inr (4, [.ref vw, .int vl, .int vb])), (vw, .inl (cT 0, 48, .inl vg)), (ow, .inr (4, [.ref lw, .int ll, .int lb])), (lw, .inl (cT 0, 48, .inl lf)), (zo, .inl (cT 1, 1, .inr (.inl zf)))] sz) := by
  refine va_MetW (hh := [(0, 9, 12, 13)]) (cc := cL_predict) (maxL := 4) (ret := (some .int)) (by decide) rfl ?_
  intro p e s m args below meth c s₁ B hml hv
  obtain ⟨rfl, hsz, hZ, hP, hK, hD0⟩ := hv
  have hx := B.exec
  have hb := B.bytes
  have hr := B.returns
  have hts := atoms_spec (ws := WL_predict) B.pre
  have hT : ∀ w ∈ TB, w.before _ s = true := fun w h => hts w (List.mem_cons_of_mem _ h)
  have hown : s.vm.findClass R_L = some m.cls := findClass_of_methodNamed B.named
  have htab := tx_table B (bytes := cL_predict) (maxL := 4) (ret := (some .int)) (hh := [(0, 9, 12, 13)]) (hts _ List.mem_cons_self)
  subst hsz
  have hD := hD0.self (sz := s.heap.size)
  generalize hAe : va_A [(x, .inr (0, [.ref xT, .ref xP, .ref xR, .ref xG, .ref xF, .int 0, .ref xO, .ref xS, .ref xL, .ref xC, .ref xQ, .ref xU, .ref xW])), (xT, .inr (2, [.ref ca, .ref ta, .int w, .int r])), (ta, .inl (cT 0, 49, .inl tf)), (xO, .inr (8, [.ref ob, .int ol, .ref ou, .ref ow])), (ob, .inl (cT 2, 866, .inl bf)), (ou, .inl (cT 4, 1, .inr (.inr (.inr (.inr vf))))), (v0, .inr (4, [.ref vw, .int vl, .int vb])), (vw, .inl (cT 0, 48, .inl vg)), (ow, .inr (4, [.ref lw, .int ll, .int lb])), (lw, .inl (cT 0, 48, .inl lf)), (zo, .inl (cT 1, 1, .inr (.inl zf)))] s.heap.size = A at hD hZ ⊢
  have hA : ∀ q : Nat, s.heap.size ≤ q → A q := fun q h => by rw [← hAe]; exact Or.inr h
  have hS : va_S A s.heap s.heap [] := va_S.rf
  have hl := lv_entry ([.ref x, .int 0, .ref zo]) (n := 4) (Nat.le_of_ble_eq_true rfl)
  rw [lg_entry_eq]
  generalize (lg_sl ([.ref x, .int 0, .ref zo]) ++ List.replicate (4 - (lg_sl ([.ref x, .int 0, .ref zo])).length) Slot.unset).toArray = ls at hl ⊢
  have hl : lv_has ls 4 [(0, .ref x), (1, .int 0), (2, .ref zo)] := hl
  refine lv_aload_n hx hb dL_predict_0 rfl (lv_at hl 2 rfl) ?_
  refine lv_iconst (v := 0) hx hb dL_predict_1 (by decide) ?_
  refine lv_aload_n hx hb dL_predict_2 rfl (lv_at hl 0 rfl) ?_
  refine lv_iload_n hx hb dL_predict_3 rfl (lv_at hl 1 rfl) ?_
  refine rw_i (wc := [(x, .inr (0, [.ref xT, .ref xP, .ref xR, .ref xG, .ref xF, .int 0, .ref xO, .ref xS, .ref xL, .ref xC, .ref xQ, .ref xU, .ref xW])), (xT, .inr (2, [.ref ca, .ref ta, .int w, .int r])), (ta, .inl (cT 0, 49, .inl tf)), (xO, .inr (8, [.ref ob, .int ol, .ref ou, .ref ow])), (ob, .inl (cT 2, 866, .inl bf)), (ou, .inl (cT 4, 1, .inr (.inr (.inr (.inr vf))))), (v0, .inr (4, [.ref vw, .int vl, .int vb])), (vw, .inl (cT 0, 48, .inl vg)), (ow, .inr (4, [.ref lw, .int ll, .int lb])), (lw, .inl (cT 0, 48, .inl lf))]) (wr := [(zo, .inl (cT 1, 1, .inr (.inl zf)))]) hP hD hS hA [0, 1, 2, 3, 4, 5, 6, 7, 8, 9] [10] rfl rfl (by decide) (by decide) (va_runV (As := [.int 0]) (rest := [.int 0, .ref zo]) ⟨hx, hb, hml, hown, hT⟩ (k_predict_ok l D cT x xT xP xR xG xF xO xS xL xC xQ xU xW ca ta w r tf ob ou ow bf ol vf v0 vw vl vb vg lw ll lb lf h0 hv0 _) ⟨callB_of 1 hT (tb_gd w1079) rfl rfl rfl (hT _ w1) (hT _ w1076) hR_predict ⟨Nat.le_of_ble_eq_true rfl, Nat.le_of_ble_eq_true rfl⟩, (hT _ w1077), (hT _ w1078)⟩ (RW.preV (ci := 0) (q0 := 0) hZ hS (va_free (wc := [(x, .inr (0, [.ref xT, .ref xP, .ref xR, .ref xG, .ref xF, .int 0, .ref xO, .ref xS, .ref xL, .ref xC, .ref xQ, .ref xU, .ref xW])), (xT, .inr (2, [.ref ca, .ref ta, .int w, .int r])), (ta, .inl (cT 0, 49, .inl tf)), (xO, .inr (8, [.ref ob, .int ol, .ref ou, .ref ow])), (ob, .inl (cT 2, 866, .inl bf)), (ou, .inl (cT 4, 1, .inr (.inr (.inr (.inr vf))))), (v0, .inr (4, [.ref vw, .int vl, .int vb])), (vw, .inl (cT 0, 48, .inl vg)), (ow, .inr (4, [.ref lw, .int ll, .int lb])), (lw, .inl (cT 0, 48, .inl lf))]) hD hS hA [0, 1, 2, 3, 4, 5, 6, 7, 8, 9] rfl) (hP.sub (ws' := [(x, .inr (0, [.ref xT, .ref xP, .ref xR, .ref xG, .ref xF, .int 0, .ref xO, .ref xS, .ref xL, .ref xC, .ref xQ, .ref xU, .ref xW])), (xT, .inr (2, [.ref ca, .ref ta, .int w, .int r])), (ta, .inl (cT 0, 49, .inl tf)), (xO, .inr (8, [.ref ob, .int ol, .ref ou, .ref ow])), (ob, .inl (cT 2, 866, .inl bf)), (ou, .inl (cT 4, 1, .inr (.inr (.inr (.inr vf))))), (v0, .inr (4, [.ref vw, .int vl, .int vb])), (vw, .inl (cT 0, 48, .inl vg)), (ow, .inr (4, [.ref lw, .int ll, .int lb])), (lw, .inl (cT 0, 48, .inl lf))]) [0, 1, 2, 3, 4, 5, 6, 7, 8, 9] rfl) hK (hD.sub (ws' := [(x, .inr (0, [.ref xT, .ref xP, .ref xR, .ref xG, .ref xF, .int 0, .ref xO, .ref xS, .ref xL, .ref xC, .ref xQ, .ref xU, .ref xW])), (xT, .inr (2, [.ref ca, .ref ta, .int w, .int r])), (ta, .inl (cT 0, 49, .inl tf)), (xO, .inr (8, [.ref ob, .int ol, .ref ou, .ref ow])), (ob, .inl (cT 2, 866, .inl bf)), (ou, .inl (cT 4, 1, .inr (.inr (.inr (.inr vf))))), (v0, .inr (4, [.ref vw, .int vl, .int vb])), (vw, .inl (cT 0, 48, .inl vg)), (ow, .inr (4, [.ref lw, .int ll, .int lb])), (lw, .inl (cT 0, 48, .inl lf))]) [0, 1, 2, 3, 4, 5, 6, 7, 8, 9] (by decide) rfl) rfl rfl) rfl rfl hl.1 rfl (lv_room (Nat.le_of_ble_eq_true rfl)) dL_predict_4 ⟨Nat.le_of_ble_eq_true rfl, Nat.le_of_ble_eq_true rfl⟩) (fun ru1 u1 H locs hpu1 hP hD hS => ?_)
  have hP : va_P D vwCl [(zo, .inl (cT 1, 1, .inr (.inl zf))), (xT, .inr (2, [.ref ca, .ref ta, .int w, .int r])), (ta, .inl (cT 0, 49, .inl tf)), (vw, .inl (cT 0, 48, .inl (upd vg 0 0))), (x, .inr (0, [.ref xT, .ref xP, .ref xR, .ref xG, .ref xF, .int 0, .ref xO, .ref xS, .ref xL, .ref xC, .ref xQ, .ref xU, .ref xW])), (ou, .inl (cT 4, 1, .inr (.inr (.inr (.inr vf))))), (ow, .inr (4, [.ref lw, .int 1, .int 0])), (lw, .inl (cT 0, 48, .inl (upd lf 0 1))), (v0, .inr (4, [.ref vw, .int 0, .int 1])), (xO, .inr (8, [.ref ob, .int 1, .ref ou, .ref ow])), (ob, .inl (cT 2, 866, .inl (upd bf 0 (vp_nar .byte 48))))] H := hP
  have hD : va_D A [(zo, .inl (cT 1, 1, .inr (.inl zf))), (xT, .inr (2, [.ref ca, .ref ta, .int w, .int r])), (ta, .inl (cT 0, 49, .inl tf)), (vw, .inl (cT 0, 48, .inl (upd vg 0 0))), (x, .inr (0, [.ref xT, .ref xP, .ref xR, .ref xG, .ref xF, .int 0, .ref xO, .ref xS, .ref xL, .ref xC, .ref xQ, .ref xU, .ref xW])), (ou, .inl (cT 4, 1, .inr (.inr (.inr (.inr vf))))), (ow, .inr (4, [.ref lw, .int 1, .int 0])), (lw, .inl (cT 0, 48, .inl (upd lf 0 1))), (v0, .inr (4, [.ref vw, .int 0, .int 1])), (xO, .inr (8, [.ref ob, .int 1, .ref ou, .ref ow])), (ob, .inl (cT 2, 866, .inl (upd bf 0 (vp_nar .byte 48))))] := hD
  rw [hpu1]
  refine lv_i2l (v := 1) hx hb dL_predict_7 (by decide) ?_
  refine va_last hx hb hK hP hD hS 0 1 rfl rfl (by unfold vp_in; decide) dL_predict_8 (fun H locs hP hD hS => ?_)
  have hP : va_P D vwCl [(zo, .inl (cT 1, 1, .inr (.inl (vp_updL zf 0 1)))), (xT, .inr (2, [.ref ca, .ref ta, .int w, .int r])), (ta, .inl (cT 0, 49, .inl tf)), (vw, .inl (cT 0, 48, .inl (upd vg 0 0))), (x, .inr (0, [.ref xT, .ref xP, .ref xR, .ref xG, .ref xF, .int 0, .ref xO, .ref xS, .ref xL, .ref xC, .ref xQ, .ref xU, .ref xW])), (ou, .inl (cT 4, 1, .inr (.inr (.inr (.inr vf))))), (ow, .inr (4, [.ref lw, .int 1, .int 0])), (lw, .inl (cT 0, 48, .inl (upd lf 0 1))), (v0, .inr (4, [.ref vw, .int 0, .int 1])), (xO, .inr (8, [.ref ob, .int 1, .ref ou, .ref ow])), (ob, .inl (cT 2, 866, .inl (upd bf 0 (vp_nar .byte 48))))] H := hP
  have hD : va_D A [(zo, .inl (cT 1, 1, .inr (.inl (vp_updL zf 0 1)))), (xT, .inr (2, [.ref ca, .ref ta, .int w, .int r])), (ta, .inl (cT 0, 49, .inl tf)), (vw, .inl (cT 0, 48, .inl (upd vg 0 0))), (x, .inr (0, [.ref xT, .ref xP, .ref xR, .ref xG, .ref xF, .int 0, .ref xO, .ref xS, .ref xL, .ref xC, .ref xQ, .ref xU, .ref xW])), (ou, .inl (cT 4, 1, .inr (.inr (.inr (.inr vf))))), (ow, .inr (4, [.ref lw, .int 1, .int 0])), (lw, .inl (cT 0, 48, .inl (upd lf 0 1))), (v0, .inr (4, [.ref vw, .int 0, .int 1])), (xO, .inr (8, [.ref ob, .int 1, .ref ou, .ref ow])), (ob, .inl (cT 2, 866, .inl (upd bf 0 (vp_nar .byte 48))))] := hD
  refine lv_goto (tgt := 15) hx hb dL_predict_9 rfl ?_
  refine lv_iconst (v := 0) hx hb dL_predict_15 (by decide) ?_
  have hP9 := hP.sub (ws' := [(zo, .inl (cT 1, 1, .inr (.inl (vp_updL zf 0 1))))]) [0] rfl
  have hD9 := hD.sub (ws' := [(zo, .inl (cT 1, 1, .inr (.inl (vp_updL zf 0 1))))]) [0] (by decide) rfl
  refine W.widen (k := 0) (n := 0) (Nat.le_of_ble_eq_true rfl) (Nat.le_of_ble_eq_true rfl) ?_
  exact W.iret (v := 0) hx hb hr (fun t ht hW => ⟨⟨0, (fun _ => 0), rfl, rfl, by rw [ht]; exact hP9, hD9⟩, hS.F ht⟩) hS.2.2 dL_predict_16
set_option maxHeartbeats 4000000 in
set_option maxRecDepth 100000 in
theorem l_error_ok (l : Launch) (D : va_G) (cT : Nat → ClassId) (x : Nat) (xT : Nat) (xP : Nat) (xR : Nat) (xG : Nat) (xF : Nat) (xO : Nat) (xS : Nat) (xL : Nat) (xC : Nat) (xQ : Nat) (xU : Nat) (xW : Nat) (ca : Nat) (ta : Nat) (w : Int32) (ob : Nat) (ou : Nat) (ow : Nat) (bf : Nat → Int32) (ol : Int32) (vf : Nat → Option Nat) (v0 : Nat) (vw : Nat) (vl : Int32) (vb : Int32) (vg : Nat → Int32) (lw : Nat) (ll : Int32) (lb : Int32) (lf : Nat → Int32) (uw : Nat) (ul : Int32) (ub : Int32) (uf : Nat → Int32) (cw : Nat) (cl : Int32) (cb : Int32) (cg : Nat → Int32) (a1 : Int64) (zo : Nat) (zf : Nat → Int64) (hv0 : vf 0 = some v0) (sz : Nat) : Met l yL_error WL_error ({ frames := 5, cells := 0, slots := 0, locals := 120 } : Room) (RW D vwCl [.ref x, .long a1, .int 0, .ref zo] [(x, .inr (0, [.ref xT, .ref xP, .ref xR, .ref xG, .ref xF, .int 0, .ref xO, .ref xS, .ref xL, .ref xC, .ref xQ, .ref xU, .ref xW])), (xT, .inr (2, [.ref ca, .ref ta, .int w, .int 0])), (xO, .inr (8, [.ref ob, .int ol, .ref ou, .ref ow])), (ob, .inl (cT 2, 866, .inl bf)), (ou, .inl (cT 4, 1, .inr (.inr (.inr (.inr vf))))), (v0, .inr (4, [.ref vw, .int vl, .int vb])), (vw, .inl (cT 0, 48, .inl vg)), (ow, .inr (4, [.ref lw, .int ll, .int lb])), (lw, .inl (cT 0, 48, .inl lf)), (xU, .inr (4, [.ref uw, .int ul, .int ub])), (uw, .inl (cT 0, 48, .inl uf)), (xC, .inr (4, [.ref cw, .int cl, .int cb])), (cw, .inl (cT 0, 24, .inl cg)), (zo, .inl (cT 1, 1, .inr (.inl zf)))] (TY cT) sz) (va_Qi (fun (r : Int32) (_ : Nat → Nat) => r = 0) (BW D vwCl (va_A [(x, .inr (0, [.ref xT, .ref xP, .ref xR, .ref xG, .ref xF, .int 0, .ref xO, .ref xS, .ref xL, .ref xC, .ref xQ, .ref xU, .ref xW])), (xT, .inr (2, [.ref ca, .ref ta, .int w, .int 0])), (xO, .inr (8, [.ref ob, .int ol, .ref ou, .ref ow])), (ob, .inl (cT 2, 866, .inl bf)), (ou, .inl (cT 4, 1, .inr (.inr (.inr (.inr vf))))), (v0, .inr (4, [.ref vw, .int vl, .int vb])), (vw, .inl (cT 0, 48, .inl vg)), (ow, .inr (4, [.ref lw, .int ll, .int lb])), (lw, .inl (cT 0, 48, .inl lf)), (xU, .inr (4, [.ref uw, .int ul, .int ub])), (uw, .inl (cT 0, 48, .inl uf)), (xC, .inr (4, [.ref cw, .int cl, .int cb])), (cw, .inl (cT 0, 24, .inl cg)), (zo, .inl (cT 1, 1, .inr (.inl zf)))] sz) (fun u => [(zo, .inl (cT 1, 1, .inr (.inl (vp_updL zf 0 1))))])) (va_A [(x, .inr (0, [.ref xT, .ref xP, .ref xR, .ref xG, .ref xF, .int 0, .ref xO, .ref xS, .ref xL, .ref xC, .ref xQ, .ref xU, .ref xW])), (xT, .inr (2, [.ref ca, .ref ta, .int w, .int 0])), (xO, .inr (8, [.ref ob, .int ol, .ref ou, .ref ow])), (ob, .inl (cT 2, 866, .inl bf)), (ou, .inl (cT 4, 1, .inr (.inr (.inr (.inr vf))))), (v0, .inr (4, [.ref vw, .int vl, .int vb])), (vw, .inl (cT 0, 48, .inl vg)), (ow, .inr (4, [.ref lw, .int ll, .int lb])), (lw, .inl (cT 0, 48, .inl lf)), (xU, .inr (4, [.ref uw, .int ul, .int ub])), (uw, .inl (cT 0, 48, .inl uf)), (xC, .inr (4, [.ref cw, .int cl, .int cb])), (cw, .inl (cT 0, 24, .inl cg)), (zo, .inl (cT 1, 1, .inr (.inl zf)))] sz)) 0 0 (va_A [(x, .inr (0, [.ref xT, .ref xP, .ref xR, .ref xG, .ref xF, .int 0, .ref xO, .ref xS, .ref xL, .ref xC, .ref xQ, .ref xU, .ref xW])), (xT, .inr (2, [.ref ca, .ref ta, .int w, .int 0])), (xO, .inr (8, [.ref ob, .int ol, .ref ou, .ref ow])), (ob, .inl (cT 2, 866, .inl bf)), (ou, .inl (cT 4, 1, .inr (.inr (.inr (.inr vf))))), (v0, .inr (4, [.ref vw, .int vl, .int vb])), (vw, .inl (cT 0, 48, .inl vg)), (ow, .inr (4, [.ref lw, .int ll, .int lb])), (lw, .inl (cT 0, 48, .inl lf)), (xU, .inr (4, [.ref uw, .int ul, .int ub])), (uw, .inl (cT 0, 48, .inl uf)), (xC, .inr (4, [.ref cw, .int cl, .int cb])), (cw, .inl (cT 0, 24, .inl cg)), (zo, .inl (cT 1, 1, .inr (.inl zf)))] sz) := by
  refine va_MetW (hh := [(0, 11, 14, 13)]) (cc := cL_error) (maxL := 6) (ret := (some .int)) (by decide) rfl ?_
  intro p e s m args below meth c s₁ B hml hv
  obtain ⟨rfl, hsz, hZ, hP, hK, hD0⟩ := hv
  have hx := B.exec
  have hb := B.bytes
  have hr := B.returns
  have hts := atoms_spec (ws := WL_error) B.pre
  have hT : ∀ w ∈ TB, w.before _ s = true := fun w h => hts w (List.mem_cons_of_mem _ h)
  have hown : s.vm.findClass R_L = some m.cls := findClass_of_methodNamed B.named
  have htab := tx_table B (bytes := cL_error) (maxL := 6) (ret := (some .int)) (hh := [(0, 11, 14, 13)]) (hts _ List.mem_cons_self)
  subst hsz
  have hD := hD0.self (sz := s.heap.size)
  generalize hAe : va_A [(x, .inr (0, [.ref xT, .ref xP, .ref xR, .ref xG, .ref xF, .int 0, .ref xO, .ref xS, .ref xL, .ref xC, .ref xQ, .ref xU, .ref xW])), (xT, .inr (2, [.ref ca, .ref ta, .int w, .int 0])), (xO, .inr (8, [.ref ob, .int ol, .ref ou, .ref ow])), (ob, .inl (cT 2, 866, .inl bf)), (ou, .inl (cT 4, 1, .inr (.inr (.inr (.inr vf))))), (v0, .inr (4, [.ref vw, .int vl, .int vb])), (vw, .inl (cT 0, 48, .inl vg)), (ow, .inr (4, [.ref lw, .int ll, .int lb])), (lw, .inl (cT 0, 48, .inl lf)), (xU, .inr (4, [.ref uw, .int ul, .int ub])), (uw, .inl (cT 0, 48, .inl uf)), (xC, .inr (4, [.ref cw, .int cl, .int cb])), (cw, .inl (cT 0, 24, .inl cg)), (zo, .inl (cT 1, 1, .inr (.inl zf)))] s.heap.size = A at hD hZ ⊢
  have hA : ∀ q : Nat, s.heap.size ≤ q → A q := fun q h => by rw [← hAe]; exact Or.inr h
  have hS : va_S A s.heap s.heap [] := va_S.rf
  have hl := lv_entry ([.ref x, .long a1, .int 0, .ref zo]) (n := 6) (Nat.le_of_ble_eq_true rfl)
  rw [lg_entry_eq]
  generalize (lg_sl ([.ref x, .long a1, .int 0, .ref zo]) ++ List.replicate (6 - (lg_sl ([.ref x, .long a1, .int 0, .ref zo])).length) Slot.unset).toArray = ls at hl ⊢
  have hl : lv_has ls 6 [(0, .ref x), (1, .long a1), (3, .int 0), (4, .ref zo)] := hl
  refine lv_aload hx hb dL_error_0 (lv_at hl 3 rfl) ?_
  refine lv_iconst (v := 0) hx hb dL_error_2 (by decide) ?_
  refine lv_aload_n hx hb dL_error_3 rfl (lv_at hl 0 rfl) ?_
  refine lv_lload_n hx hb dL_error_4 rfl (lv_at hl 1 rfl) ?_
  refine lv_iload_n hx hb dL_error_5 rfl (lv_at hl 2 rfl) ?_
  refine rw_i (wc := [(x, .inr (0, [.ref xT, .ref xP, .ref xR, .ref xG, .ref xF, .int 0, .ref xO, .ref xS, .ref xL, .ref xC, .ref xQ, .ref xU, .ref xW])), (xT, .inr (2, [.ref ca, .ref ta, .int w, .int 0])), (xO, .inr (8, [.ref ob, .int ol, .ref ou, .ref ow])), (ob, .inl (cT 2, 866, .inl bf)), (ou, .inl (cT 4, 1, .inr (.inr (.inr (.inr vf))))), (v0, .inr (4, [.ref vw, .int vl, .int vb])), (vw, .inl (cT 0, 48, .inl vg)), (ow, .inr (4, [.ref lw, .int ll, .int lb])), (lw, .inl (cT 0, 48, .inl lf)), (xU, .inr (4, [.ref uw, .int ul, .int ub])), (uw, .inl (cT 0, 48, .inl uf)), (xC, .inr (4, [.ref cw, .int cl, .int cb])), (cw, .inl (cT 0, 24, .inl cg))]) (wr := [(zo, .inl (cT 1, 1, .inr (.inl zf)))]) hP hD hS hA [0, 1, 2, 3, 4, 5, 6, 7, 8, 9, 10, 11, 12] [13] rfl rfl (by decide) (by decide) (va_runV (As := [.long a1, .int 0]) (rest := [.int 0, .ref zo]) ⟨hx, hb, hml, hown, hT⟩ (k_error_ok l D cT x xT xP xR xG xF xO xS xL xC xQ xU xW ca ta w ob ou ow bf ol vf v0 vw vl vb vg lw ll lb lf uw ul ub uf cw cl cb cg a1 hv0 _) ⟨callB_of 2 hT (tb_gd w1090) rfl rfl rfl (hT _ w1) (hT _ w1087) hR_error ⟨Nat.le_of_ble_eq_true rfl, Nat.le_of_ble_eq_true rfl⟩, (hT _ w1088), (hT _ w1089)⟩ (RW.preV (ci := 0) (q0 := 0) hZ hS (va_free (wc := [(x, .inr (0, [.ref xT, .ref xP, .ref xR, .ref xG, .ref xF, .int 0, .ref xO, .ref xS, .ref xL, .ref xC, .ref xQ, .ref xU, .ref xW])), (xT, .inr (2, [.ref ca, .ref ta, .int w, .int 0])), (xO, .inr (8, [.ref ob, .int ol, .ref ou, .ref ow])), (ob, .inl (cT 2, 866, .inl bf)), (ou, .inl (cT 4, 1, .inr (.inr (.inr (.inr vf))))), (v0, .inr (4, [.ref vw, .int vl, .int vb])), (vw, .inl (cT 0, 48, .inl vg)), (ow, .inr (4, [.ref lw, .int ll, .int lb])), (lw, .inl (cT 0, 48, .inl lf)), (xU, .inr (4, [.ref uw, .int ul, .int ub])), (uw, .inl (cT 0, 48, .inl uf)), (xC, .inr (4, [.ref cw, .int cl, .int cb])), (cw, .inl (cT 0, 24, .inl cg))]) hD hS hA [0, 1, 2, 3, 4, 5, 6, 7, 8, 9, 10, 11, 12] rfl) (hP.sub (ws' := [(x, .inr (0, [.ref xT, .ref xP, .ref xR, .ref xG, .ref xF, .int 0, .ref xO, .ref xS, .ref xL, .ref xC, .ref xQ, .ref xU, .ref xW])), (xT, .inr (2, [.ref ca, .ref ta, .int w, .int 0])), (xO, .inr (8, [.ref ob, .int ol, .ref ou, .ref ow])), (ob, .inl (cT 2, 866, .inl bf)), (ou, .inl (cT 4, 1, .inr (.inr (.inr (.inr vf))))), (v0, .inr (4, [.ref vw, .int vl, .int vb])), (vw, .inl (cT 0, 48, .inl vg)), (ow, .inr (4, [.ref lw, .int ll, .int lb])), (lw, .inl (cT 0, 48, .inl lf)), (xU, .inr (4, [.ref uw, .int ul, .int ub])), (uw, .inl (cT 0, 48, .inl uf)), (xC, .inr (4, [.ref cw, .int cl, .int cb])), (cw, .inl (cT 0, 24, .inl cg))]) [0, 1, 2, 3, 4, 5, 6, 7, 8, 9, 10, 11, 12] rfl) hK (hD.sub (ws' := [(x, .inr (0, [.ref xT, .ref xP, .ref xR, .ref xG, .ref xF, .int 0, .ref xO, .ref xS, .ref xL, .ref xC, .ref xQ, .ref xU, .ref xW])), (xT, .inr (2, [.ref ca, .ref ta, .int w, .int 0])), (xO, .inr (8, [.ref ob, .int ol, .ref ou, .ref ow])), (ob, .inl (cT 2, 866, .inl bf)), (ou, .inl (cT 4, 1, .inr (.inr (.inr (.inr vf))))), (v0, .inr (4, [.ref vw, .int vl, .int vb])), (vw, .inl (cT 0, 48, .inl vg)), (ow, .inr (4, [.ref lw, .int ll, .int lb])), (lw, .inl (cT 0, 48, .inl lf)), (xU, .inr (4, [.ref uw, .int ul, .int ub])), (uw, .inl (cT 0, 48, .inl uf)), (xC, .inr (4, [.ref cw, .int cl, .int cb])), (cw, .inl (cT 0, 24, .inl cg))]) [0, 1, 2, 3, 4, 5, 6, 7, 8, 9, 10, 11, 12] (by decide) rfl) rfl rfl) rfl rfl hl.1 rfl (lv_room (Nat.le_of_ble_eq_true rfl)) dL_error_6 ⟨Nat.le_of_ble_eq_true rfl, Nat.le_of_ble_eq_true rfl⟩) (fun ru1 u1 H locs hpu1 hP hD hS => ?_)
  have hP : va_P D vwCl [(zo, .inl (cT 1, 1, .inr (.inl zf))), (xT, .inr (2, [.ref ca, .ref ta, .int w, .int 0])), (vw, .inl (cT 0, 48, .inl (va_cpy (upd uf 0 0) vg 0 0 0))), (xU, .inr (4, [.ref uw, .int 0, .int 0])), (uw, .inl (cT 0, 48, .inl (upd uf 0 0))), (x, .inr (0, [.ref xT, .ref xP, .ref xR, .ref xG, .ref xF, .int 0, .ref xO, .ref xS, .ref xL, .ref xC, .ref xQ, .ref xU, .ref xW])), (xC, .inr (4, [.ref cw, .int 1, .int 0])), (cw, .inl (cT 0, 24, .inl (upd cg 0 1))), (ou, .inl (cT 4, 1, .inr (.inr (.inr (.inr vf))))), (ow, .inr (4, [.ref lw, .int 1, .int 0])), (lw, .inl (cT 0, 48, .inl (upd (upd (upd (upd lf 0 0) 1 0) 0 1) 1 0))), (v0, .inr (4, [.ref vw, .int 0, .int 0])), (xO, .inr (8, [.ref ob, .int 1, .ref ou, .ref ow])), (ob, .inl (cT 2, 866, .inl (upd bf 0 (vp_nar .byte 48))))] H := hP
  have hD : va_D A [(zo, .inl (cT 1, 1, .inr (.inl zf))), (xT, .inr (2, [.ref ca, .ref ta, .int w, .int 0])), (vw, .inl (cT 0, 48, .inl (va_cpy (upd uf 0 0) vg 0 0 0))), (xU, .inr (4, [.ref uw, .int 0, .int 0])), (uw, .inl (cT 0, 48, .inl (upd uf 0 0))), (x, .inr (0, [.ref xT, .ref xP, .ref xR, .ref xG, .ref xF, .int 0, .ref xO, .ref xS, .ref xL, .ref xC, .ref xQ, .ref xU, .ref xW])), (xC, .inr (4, [.ref cw, .int 1, .int 0])), (cw, .inl (cT 0, 24, .inl (upd cg 0 1))), (ou, .inl (cT 4, 1, .inr (.inr (.inr (.inr vf))))), (ow, .inr (4, [.ref lw, .int 1, .int 0])), (lw, .inl (cT 0, 48, .inl (upd (upd (upd (upd lf 0 0) 1 0) 0 1) 1 0))), (v0, .inr (4, [.ref vw, .int 0, .int 0])), (xO, .inr (8, [.ref ob, .int 1, .ref ou, .ref ow])), (ob, .inl (cT 2, 866, .inl (upd bf 0 (vp_nar .byte 48))))] := hD
  rw [hpu1]
  refine lv_i2l (v := 1) hx hb dL_error_9 (by decide) ?_
  refine va_last hx hb hK hP hD hS 0 1 rfl rfl (by unfold vp_in; decide) dL_error_10 (fun H locs hP hD hS => ?_)
  have hP : va_P D vwCl [(zo, .inl (cT 1, 1, .inr (.inl (vp_updL zf 0 1)))), (xT, .inr (2, [.ref ca, .ref ta, .int w, .int 0])), (vw, .inl (cT 0, 48, .inl (va_cpy (upd uf 0 0) vg 0 0 0))), (xU, .inr (4, [.ref uw, .int 0, .int 0])), (uw, .inl (cT 0, 48, .inl (upd uf 0 0))), (x, .inr (0, [.ref xT, .ref xP, .ref xR, .ref xG, .ref xF, .int 0, .ref xO, .ref xS, .ref xL, .ref xC, .ref xQ, .ref xU, .ref xW])), (xC, .inr (4, [.ref cw, .int 1, .int 0])), (cw, .inl (cT 0, 24, .inl (upd cg 0 1))), (ou, .inl (cT 4, 1, .inr (.inr (.inr (.inr vf))))), (ow, .inr (4, [.ref lw, .int 1, .int 0])), (lw, .inl (cT 0, 48, .inl (upd (upd (upd (upd lf 0 0) 1 0) 0 1) 1 0))), (v0, .inr (4, [.ref vw, .int 0, .int 0])), (xO, .inr (8, [.ref ob, .int 1, .ref ou, .ref ow])), (ob, .inl (cT 2, 866, .inl (upd bf 0 (vp_nar .byte 48))))] H := hP
  have hD : va_D A [(zo, .inl (cT 1, 1, .inr (.inl (vp_updL zf 0 1)))), (xT, .inr (2, [.ref ca, .ref ta, .int w, .int 0])), (vw, .inl (cT 0, 48, .inl (va_cpy (upd uf 0 0) vg 0 0 0))), (xU, .inr (4, [.ref uw, .int 0, .int 0])), (uw, .inl (cT 0, 48, .inl (upd uf 0 0))), (x, .inr (0, [.ref xT, .ref xP, .ref xR, .ref xG, .ref xF, .int 0, .ref xO, .ref xS, .ref xL, .ref xC, .ref xQ, .ref xU, .ref xW])), (xC, .inr (4, [.ref cw, .int 1, .int 0])), (cw, .inl (cT 0, 24, .inl (upd cg 0 1))), (ou, .inl (cT 4, 1, .inr (.inr (.inr (.inr vf))))), (ow, .inr (4, [.ref lw, .int 1, .int 0])), (lw, .inl (cT 0, 48, .inl (upd (upd (upd (upd lf 0 0) 1 0) 0 1) 1 0))), (v0, .inr (4, [.ref vw, .int 0, .int 0])), (xO, .inr (8, [.ref ob, .int 1, .ref ou, .ref ow])), (ob, .inl (cT 2, 866, .inl (upd bf 0 (vp_nar .byte 48))))] := hD
  refine lv_goto (tgt := 18) hx hb dL_error_11 rfl ?_
  refine lv_iconst (v := 0) hx hb dL_error_18 (by decide) ?_
  have hP9 := hP.sub (ws' := [(zo, .inl (cT 1, 1, .inr (.inl (vp_updL zf 0 1))))]) [0] rfl
  have hD9 := hD.sub (ws' := [(zo, .inl (cT 1, 1, .inr (.inl (vp_updL zf 0 1))))]) [0] (by decide) rfl
  refine W.widen (k := 0) (n := 0) (Nat.le_of_ble_eq_true rfl) (Nat.le_of_ble_eq_true rfl) ?_
  exact W.iret (v := 0) hx hb hr (fun t ht hW => ⟨⟨0, (fun _ => 0), rfl, rfl, by rw [ht]; exact hP9, hD9⟩, hS.F ht⟩) hS.2.2 dL_error_19
set_option maxHeartbeats 4000000 in
set_option maxRecDepth 100000 in
theorem l_ask_ok (l : Launch) (D : va_G) (cT : Nat → ClassId) (x : Nat) (xT : Nat) (xP : Nat) (xR : Nat) (xG : Nat) (xF : Nat) (tc : Int32) (xO : Nat) (xS : Nat) (xL : Nat) (xC : Nat) (xQ : Nat) (xU : Nat) (xW : Nat) (ca : Nat) (ta : Nat) (cf : Nat → Option Nat) (c0 : Nat) (v0 : Nat) (ed0 : Nat) (n0 : Int32) (f0 : Nat → Int32) (zo : Nat) (zf : Nat → Int64) (hf0 : cf 0 = some c0) (sz : Nat) : Met l yL_ask WL_ask ({ frames := 3, cells := 0, slots := 0, locals := 65 } : Room) (RW D vwCl [.ref x, .int 0, .int (-2147483648), .ref zo] [(x, .inr (0, [.ref xT, .ref xP, .ref xR, .ref xG, .ref xF, .int tc, .ref xO, .ref xS, .ref xL, .ref xC, .ref xQ, .ref xU, .ref xW])), (xT, .inr (2, [.ref ca, .ref ta, .int 1, .int 0])), (ca, .inl (cT 5, 6, .inr (.inr (.inr (.inr cf))))), (c0, .inr (1, [.ref v0, .ref ed0, .int n0, .int 0])), (v0, .inl (cT 0, 49, .inl f0)), (zo, .inl (cT 1, 1, .inr (.inl zf)))] (TY cT) sz) (va_Qi (fun (r : Int32) (_ : Nat → Nat) => r = 0) (BW D vwCl (va_A [(x, .inr (0, [.ref xT, .ref xP, .ref xR, .ref xG, .ref xF, .int tc, .ref xO, .ref xS, .ref xL, .ref xC, .ref xQ, .ref xU, .ref xW])), (xT, .inr (2, [.ref ca, .ref ta, .int 1, .int 0])), (ca, .inl (cT 5, 6, .inr (.inr (.inr (.inr cf))))), (c0, .inr (1, [.ref v0, .ref ed0, .int n0, .int 0])), (v0, .inl (cT 0, 49, .inl f0)), (zo, .inl (cT 1, 1, .inr (.inl zf)))] sz) (fun u => [(zo, .inl (cT 1, 1, .inr (.inl (vp_updL zf 0 ((f0 48 : Int32).toInt64)))))])) (va_A [(x, .inr (0, [.ref xT, .ref xP, .ref xR, .ref xG, .ref xF, .int tc, .ref xO, .ref xS, .ref xL, .ref xC, .ref xQ, .ref xU, .ref xW])), (xT, .inr (2, [.ref ca, .ref ta, .int 1, .int 0])), (ca, .inl (cT 5, 6, .inr (.inr (.inr (.inr cf))))), (c0, .inr (1, [.ref v0, .ref ed0, .int n0, .int 0])), (v0, .inl (cT 0, 49, .inl f0)), (zo, .inl (cT 1, 1, .inr (.inl zf)))] sz)) 0 0 (va_A [(x, .inr (0, [.ref xT, .ref xP, .ref xR, .ref xG, .ref xF, .int tc, .ref xO, .ref xS, .ref xL, .ref xC, .ref xQ, .ref xU, .ref xW])), (xT, .inr (2, [.ref ca, .ref ta, .int 1, .int 0])), (ca, .inl (cT 5, 6, .inr (.inr (.inr (.inr cf))))), (c0, .inr (1, [.ref v0, .ref ed0, .int n0, .int 0])), (v0, .inl (cT 0, 49, .inl f0)), (zo, .inl (cT 1, 1, .inr (.inl zf)))] sz) := by
  refine va_MetW (hh := [(0, 10, 13, 13)]) (cc := cL_ask) (maxL := 5) (ret := (some .int)) (by decide) rfl ?_
  intro p e s m args below meth c s₁ B hml hv
  obtain ⟨rfl, hsz, hZ, hP, hK, hD0⟩ := hv
  have hx := B.exec
  have hb := B.bytes
  have hr := B.returns
  have hts := atoms_spec (ws := WL_ask) B.pre
  have hT : ∀ w ∈ TB, w.before _ s = true := fun w h => hts w (List.mem_cons_of_mem _ h)
  have hown : s.vm.findClass R_L = some m.cls := findClass_of_methodNamed B.named
  have htab := tx_table B (bytes := cL_ask) (maxL := 5) (ret := (some .int)) (hh := [(0, 10, 13, 13)]) (hts _ List.mem_cons_self)
  subst hsz
  have hD := hD0.self (sz := s.heap.size)
  generalize hAe : va_A [(x, .inr (0, [.ref xT, .ref xP, .ref xR, .ref xG, .ref xF, .int tc, .ref xO, .ref xS, .ref xL, .ref xC, .ref xQ, .ref xU, .ref xW])), (xT, .inr (2, [.ref ca, .ref ta, .int 1, .int 0])), (ca, .inl (cT 5, 6, .inr (.inr (.inr (.inr cf))))), (c0, .inr (1, [.ref v0, .ref ed0, .int n0, .int 0])), (v0, .inl (cT 0, 49, .inl f0)), (zo, .inl (cT 1, 1, .inr (.inl zf)))] s.heap.size = A at hD hZ ⊢
  have hA : ∀ q : Nat, s.heap.size ≤ q → A q := fun q h => by rw [← hAe]; exact Or.inr h
  have hS : va_S A s.heap s.heap [] := va_S.rf
  have hl := lv_entry ([.ref x, .int 0, .int (-2147483648), .ref zo]) (n := 5) (Nat.le_of_ble_eq_true rfl)
  rw [lg_entry_eq]
  generalize (lg_sl ([.ref x, .int 0, .int (-2147483648), .ref zo]) ++ List.replicate (5 - (lg_sl ([.ref x, .int 0, .int (-2147483648), .ref zo])).length) Slot.unset).toArray = ls at hl ⊢
  have hl : lv_has ls 5 [(0, .ref x), (1, .int 0), (2, .int (-2147483648)), (3, .ref zo)] := hl
  refine lv_aload_n hx hb dL_ask_0 rfl (lv_at hl 3 rfl) ?_
  refine lv_iconst (v := 0) hx hb dL_ask_1 (by decide) ?_
  refine lv_aload_n hx hb dL_ask_2 rfl (lv_at hl 0 rfl) ?_
  refine lv_iload_n hx hb dL_ask_3 rfl (lv_at hl 1 rfl) ?_
  refine lv_iload_n hx hb dL_ask_4 rfl (lv_at hl 2 rfl) ?_
  refine rw_i (wc := [(x, .inr (0, [.ref xT, .ref xP, .ref xR, .ref xG, .ref xF, .int tc, .ref xO, .ref xS, .ref xL, .ref xC, .ref xQ, .ref xU, .ref xW])), (xT, .inr (2, [.ref ca, .ref ta, .int 1, .int 0])), (ca, .inl (cT 5, 6, .inr (.inr (.inr (.inr cf))))), (c0, .inr (1, [.ref v0, .ref ed0, .int n0, .int 0])), (v0, .inl (cT 0, 49, .inl f0))]) (wr := [(zo, .inl (cT 1, 1, .inr (.inl zf)))]) hP hD hS hA [0, 1, 2, 3, 4] [5] rfl rfl (by decide) (by decide) (va_runV (As := [.int 0, .int (-2147483648)]) (rest := [.int 0, .ref zo]) ⟨hx, hb, hml, hown, hT⟩ (k_ask_ok0 l D cT x xT xP xR xG xF tc xO xS xL xC xQ xU xW ca ta cf c0 v0 ed0 n0 f0 hf0 _) ⟨callB_of 2 hT (tb_gd w1071) rfl rfl rfl (hT _ w1) (hT _ w1068) hR_ask ⟨Nat.le_of_ble_eq_true rfl, Nat.le_of_ble_eq_true rfl⟩, (hT _ w1069), (hT _ w1070)⟩ (RW.preV (ci := 0) (q0 := 0) hZ hS (va_free (wc := [(x, .inr (0, [.ref xT, .ref xP, .ref xR, .ref xG, .ref xF, .int tc, .ref xO, .ref xS, .ref xL, .ref xC, .ref xQ, .ref xU, .ref xW])), (xT, .inr (2, [.ref ca, .ref ta, .int 1, .int 0])), (ca, .inl (cT 5, 6, .inr (.inr (.inr (.inr cf))))), (c0, .inr (1, [.ref v0, .ref ed0, .int n0, .int 0])), (v0, .inl (cT 0, 49, .inl f0))]) hD hS hA [0, 1, 2, 3, 4] rfl) (hP.sub (ws' := [(x, .inr (0, [.ref xT, .ref xP, .ref xR, .ref xG, .ref xF, .int tc, .ref xO, .ref xS, .ref xL, .ref xC, .ref xQ, .ref xU, .ref xW])), (xT, .inr (2, [.ref ca, .ref ta, .int 1, .int 0])), (ca, .inl (cT 5, 6, .inr (.inr (.inr (.inr cf))))), (c0, .inr (1, [.ref v0, .ref ed0, .int n0, .int 0])), (v0, .inl (cT 0, 49, .inl f0))]) [0, 1, 2, 3, 4] rfl) hK (hD.sub (ws' := [(x, .inr (0, [.ref xT, .ref xP, .ref xR, .ref xG, .ref xF, .int tc, .ref xO, .ref xS, .ref xL, .ref xC, .ref xQ, .ref xU, .ref xW])), (xT, .inr (2, [.ref ca, .ref ta, .int 1, .int 0])), (ca, .inl (cT 5, 6, .inr (.inr (.inr (.inr cf))))), (c0, .inr (1, [.ref v0, .ref ed0, .int n0, .int 0])), (v0, .inl (cT 0, 49, .inl f0))]) [0, 1, 2, 3, 4] (by decide) rfl) rfl rfl) rfl rfl hl.1 rfl (lv_room (Nat.le_of_ble_eq_true rfl)) dL_ask_5 ⟨Nat.le_of_ble_eq_true rfl, Nat.le_of_ble_eq_true rfl⟩) (fun ru1 u1 H locs hpu1 hP hD hS => ?_)
  have hP : va_P D vwCl [(zo, .inl (cT 1, 1, .inr (.inl zf))), (x, .inr (0, [.ref xT, .ref xP, .ref xR, .ref xG, .ref xF, .int tc, .ref xO, .ref xS, .ref xL, .ref xC, .ref xQ, .ref xU, .ref xW])), (xT, .inr (2, [.ref ca, .ref ta, .int 1, .int 0])), (ca, .inl (cT 5, 6, .inr (.inr (.inr (.inr cf))))), (c0, .inr (1, [.ref v0, .ref ed0, .int n0, .int 0])), (v0, .inl (cT 0, 49, .inl (upd f0 48 (-2147483648))))] H := hP
  have hD : va_D A [(zo, .inl (cT 1, 1, .inr (.inl zf))), (x, .inr (0, [.ref xT, .ref xP, .ref xR, .ref xG, .ref xF, .int tc, .ref xO, .ref xS, .ref xL, .ref xC, .ref xQ, .ref xU, .ref xW])), (xT, .inr (2, [.ref ca, .ref ta, .int 1, .int 0])), (ca, .inl (cT 5, 6, .inr (.inr (.inr (.inr cf))))), (c0, .inr (1, [.ref v0, .ref ed0, .int n0, .int 0])), (v0, .inl (cT 0, 49, .inl (upd f0 48 (-2147483648))))] := hD
  rw [hpu1]
  refine lv_i2l hx hb dL_ask_8 rfl ?_
  refine va_last hx hb hK hP hD hS 0 1 rfl rfl (by unfold vp_in; decide) dL_ask_9 (fun H locs hP hD hS => ?_)
  have hP : va_P D vwCl [(zo, .inl (cT 1, 1, .inr (.inl (vp_updL zf 0 ((f0 48 : Int32).toInt64))))), (x, .inr (0, [.ref xT, .ref xP, .ref xR, .ref xG, .ref xF, .int tc, .ref xO, .ref xS, .ref xL, .ref xC, .ref xQ, .ref xU, .ref xW])), (xT, .inr (2, [.ref ca, .ref ta, .int 1, .int 0])), (ca, .inl (cT 5, 6, .inr (.inr (.inr (.inr cf))))), (c0, .inr (1, [.ref v0, .ref ed0, .int n0, .int 0])), (v0, .inl (cT 0, 49, .inl (upd f0 48 (-2147483648))))] H := hP
  have hD : va_D A [(zo, .inl (cT 1, 1, .inr (.inl (vp_updL zf 0 ((f0 48 : Int32).toInt64))))), (x, .inr (0, [.ref xT, .ref xP, .ref xR, .ref xG, .ref xF, .int tc, .ref xO, .ref xS, .ref xL, .ref xC, .ref xQ, .ref xU, .ref xW])), (xT, .inr (2, [.ref ca, .ref ta, .int 1, .int 0])), (ca, .inl (cT 5, 6, .inr (.inr (.inr (.inr cf))))), (c0, .inr (1, [.ref v0, .ref ed0, .int n0, .int 0])), (v0, .inl (cT 0, 49, .inl (upd f0 48 (-2147483648))))] := hD
  refine lv_goto (tgt := 17) hx hb dL_ask_10 rfl ?_
  refine lv_iconst (v := 0) hx hb dL_ask_17 (by decide) ?_
  have hP9 := hP.sub (ws' := [(zo, .inl (cT 1, 1, .inr (.inl (vp_updL zf 0 ((f0 48 : Int32).toInt64)))))]) [0] rfl
  have hD9 := hD.sub (ws' := [(zo, .inl (cT 1, 1, .inr (.inl (vp_updL zf 0 ((f0 48 : Int32).toInt64)))))]) [0] (by decide) rfl
  refine W.widen (k := 0) (n := 0) (Nat.le_of_ble_eq_true rfl) (Nat.le_of_ble_eq_true rfl) ?_
  exact W.iret (v := 0) hx hb hr (fun t ht hW => ⟨⟨0, (fun _ => 0), rfl, rfl, by rw [ht]; exact hP9, hD9⟩, hS.F ht⟩) hS.2.2 dL_ask_18
set_option maxHeartbeats 4000000 in
set_option maxRecDepth 100000 in
theorem l_kinds_ok1 (l : Launch) (D : va_G) (cT : Nat → ClassId) (x : Nat) (xT : Nat) (xP : Nat) (xR : Nat) (xG : Nat) (xF : Nat) (tc : Int32) (xO : Nat) (xS : Nat) (xL : Nat) (xC : Nat) (xQ : Nat) (xU : Nat) (xW : Nat) (ca : Nat) (ta : Nat) (cf : Nat → Option Nat) (c0 : Nat) (v0 : Nat) (ed0 : Nat) (n0 : Int32) (zo : Nat) (zf : Nat → Int64) (hf0 : cf 0 = some c0) (sz : Nat) : Met l yL_kinds WL_kinds ({ frames := 3, cells := 0, slots := 0, locals := 65 } : Room) (RW D vwCl [.ref x, .int 0, .int 1, .ref zo] [(x, .inr (0, [.ref xT, .ref xP, .ref xR, .ref xG, .ref xF, .int tc, .ref xO, .ref xS, .ref xL, .ref xC, .ref xQ, .ref xU, .ref xW])), (xT, .inr (2, [.ref ca, .ref ta, .int 1, .int 0])), (ca, .inl (cT 5, 6, .inr (.inr (.inr (.inr cf))))), (c0, .inr (1, [.ref v0, .ref ed0, .int n0, .int 0])), (zo, .inl (cT 1, 1, .inr (.inl zf)))] (TY cT) sz) (va_Qi (fun (r : Int32) (_ : Nat → Nat) => r = 0) (BW D vwCl (va_A [(x, .inr (0, [.ref xT, .ref xP, .ref xR, .ref xG, .ref xF, .int tc, .ref xO, .ref xS, .ref xL, .ref xC, .ref xQ, .ref xU, .ref xW])), (xT, .inr (2, [.ref ca, .ref ta, .int 1, .int 0])), (ca, .inl (cT 5, 6, .inr (.inr (.inr (.inr cf))))), (c0, .inr (1, [.ref v0, .ref ed0, .int n0, .int 0])), (zo, .inl (cT 1, 1, .inr (.inl zf)))] sz) (fun u => [(zo, .inl (cT 1, 1, .inr (.inl (vp_updL zf 0 0))))])) (va_A [(x, .inr (0, [.ref xT, .ref xP, .ref xR, .ref xG, .ref xF, .int tc, .ref xO, .ref xS, .ref xL, .ref xC, .ref xQ, .ref xU, .ref xW])), (xT, .inr (2, [.ref ca, .ref ta, .int 1, .int 0])), (ca, .inl (cT 5, 6, .inr (.inr (.inr (.inr cf))))), (c0, .inr (1, [.ref v0, .ref ed0, .int n0, .int 0])), (zo, .inl (cT 1, 1, .inr (.inl zf)))] sz)) 0 0 (va_A [(x, .inr (0, [.ref xT, .ref xP, .ref xR, .ref xG, .ref xF, .int tc, .ref xO, .ref xS, .ref xL, .ref xC, .ref xQ, .ref xU, .ref xW])), (xT, .inr (2, [.ref ca, .ref ta, .int 1, .int 0])), (ca, .inl (cT 5, 6, .inr (.inr (.inr (.inr cf))))), (c0, .inr (1, [.ref v0, .ref ed0, .int n0, .int 0])), (zo, .inl (cT 1, 1, .inr (.inl zf)))] sz) := by
  refine va_MetW (hh := [(0, 17, 20, 13), (0, 17, 24, 19)]) (cc := cL_kinds) (maxL := 5) (ret := (some .int)) (by decide) rfl ?_
  intro p e s m args below meth c s₁ B hml hv
  obtain ⟨rfl, hsz, hZ, hP, hK, hD0⟩ := hv
  have hx := B.exec
  have hb := B.bytes
  have hr := B.returns
  have hts := atoms_spec (ws := WL_kinds) B.pre
  have hT : ∀ w ∈ TB, w.before _ s = true := fun w h => hts w (List.mem_cons_of_mem _ h)
  have hown : s.vm.findClass R_L = some m.cls := findClass_of_methodNamed B.named
  have htab := tx_table B (bytes := cL_kinds) (maxL := 5) (ret := (some .int)) (hh := [(0, 17, 20, 13), (0, 17, 24, 19)]) (hts _ List.mem_cons_self)
  subst hsz
  have hD := hD0.self (sz := s.heap.size)
  generalize hAe : va_A [(x, .inr (0, [.ref xT, .ref xP, .ref xR, .ref xG, .ref xF, .int tc, .ref xO, .ref xS, .ref xL, .ref xC, .ref xQ, .ref xU, .ref xW])), (xT, .inr (2, [.ref ca, .ref ta, .int 1, .int 0])), (ca, .inl (cT 5, 6, .inr (.inr (.inr (.inr cf))))), (c0, .inr (1, [.ref v0, .ref ed0, .int n0, .int 0])), (zo, .inl (cT 1, 1, .inr (.inl zf)))] s.heap.size = A at hD hZ ⊢
  have hA : ∀ q : Nat, s.heap.size ≤ q → A q := fun q h => by rw [← hAe]; exact Or.inr h
  have hS : va_S A s.heap s.heap [] := va_S.rf
  have hl := lv_entry ([.ref x, .int 0, .int 1, .ref zo]) (n := 5) (Nat.le_of_ble_eq_true rfl)
  rw [lg_entry_eq]
  generalize (lg_sl ([.ref x, .int 0, .int 1, .ref zo]) ++ List.replicate (5 - (lg_sl ([.ref x, .int 0, .int 1, .ref zo])).length) Slot.unset).toArray = ls at hl ⊢
  have hl : lv_has ls 5 [(0, .ref x), (1, .int 0), (2, .int 1), (3, .ref zo)] := hl
  refine lv_aload_n hx hb dL_kinds_0 rfl (lv_at hl 3 rfl) ?_
  refine lv_iconst (v := 0) hx hb dL_kinds_1 (by decide) ?_
  refine lv_aload_n hx hb dL_kinds_2 rfl (lv_at hl 0 rfl) ?_
  refine lv_iload_n hx hb dL_kinds_3 rfl (lv_at hl 1 rfl) ?_
  refine lv_iload_n hx hb dL_kinds_4 rfl (lv_at hl 2 rfl) ?_
  refine rw_i (wc := [(x, .inr (0, [.ref xT, .ref xP, .ref xR, .ref xG, .ref xF, .int tc, .ref xO, .ref xS, .ref xL, .ref xC, .ref xQ, .ref xU, .ref xW])), (xT, .inr (2, [.ref ca, .ref ta, .int 1, .int 0])), (ca, .inl (cT 5, 6, .inr (.inr (.inr (.inr cf))))), (c0, .inr (1, [.ref v0, .ref ed0, .int n0, .int 0]))]) (wr := [(zo, .inl (cT 1, 1, .inr (.inl zf)))]) hP hD hS hA [0, 1, 2, 3] [4] rfl rfl (by decide) (by decide) (va_runV (As := [.int 0, .int 1]) (rest := [.int 0, .ref zo]) ⟨hx, hb, hml, hown, hT⟩ (k_kinds_ok1 l D cT x xT xP xR xG xF tc xO xS xL xC xQ xU xW ca ta cf c0 v0 ed0 n0 hf0 _) ⟨callB_of 2 hT (tb_gd w650) rfl rfl rfl (hT _ w1) (hT _ w647) hR_kinds ⟨Nat.le_of_ble_eq_true rfl, Nat.le_of_ble_eq_true rfl⟩, (hT _ w648), (hT _ w649)⟩ (RW.preV (ci := 0) (q0 := 0) hZ hS (va_free (wc := [(x, .inr (0, [.ref xT, .ref xP, .ref xR, .ref xG, .ref xF, .int tc, .ref xO, .ref xS, .ref xL, .ref xC, .ref xQ, .ref xU, .ref xW])), (xT, .inr (2, [.ref ca, .ref ta, .int 1, .int 0])), (ca, .inl (cT 5, 6, .inr (.inr (.inr (.inr cf))))), (c0, .inr (1, [.ref v0, .ref ed0, .int n0, .int 0]))]) hD hS hA [0, 1, 2, 3] rfl) (hP.sub (ws' := [(x, .inr (0, [.ref xT, .ref xP, .ref xR, .ref xG, .ref xF, .int tc, .ref xO, .ref xS, .ref xL, .ref xC, .ref xQ, .ref xU, .ref xW])), (xT, .inr (2, [.ref ca, .ref ta, .int 1, .int 0])), (ca, .inl (cT 5, 6, .inr (.inr (.inr (.inr cf))))), (c0, .inr (1, [.ref v0, .ref ed0, .int n0, .int 0]))]) [0, 1, 2, 3] rfl) hK (hD.sub (ws' := [(x, .inr (0, [.ref xT, .ref xP, .ref xR, .ref xG, .ref xF, .int tc, .ref xO, .ref xS, .ref xL, .ref xC, .ref xQ, .ref xU, .ref xW])), (xT, .inr (2, [.ref ca, .ref ta, .int 1, .int 0])), (ca, .inl (cT 5, 6, .inr (.inr (.inr (.inr cf))))), (c0, .inr (1, [.ref v0, .ref ed0, .int n0, .int 0]))]) [0, 1, 2, 3] (by decide) rfl) rfl rfl) rfl rfl hl.1 rfl (lv_room (Nat.le_of_ble_eq_true rfl)) dL_kinds_5 ⟨Nat.le_of_ble_eq_true rfl, Nat.le_of_ble_eq_true rfl⟩) (fun ru1 u1 H locs hpu1 hP hD hS => ?_)
  have hP : va_P D vwCl [(zo, .inl (cT 1, 1, .inr (.inl zf))), (x, .inr (0, [.ref xT, .ref xP, .ref xR, .ref xG, .ref xF, .int tc, .ref xO, .ref xS, .ref xL, .ref xC, .ref xQ, .ref xU, .ref xW])), (xT, .inr (2, [.ref ca, .ref ta, .int 1, .int 0])), (ca, .inl (cT 5, 6, .inr (.inr (.inr (.inr cf))))), (c0, .inr (1, [.ref v0, .ref ed0, .int 0, .int 1]))] H := hP
  have hD : va_D A [(zo, .inl (cT 1, 1, .inr (.inl zf))), (x, .inr (0, [.ref xT, .ref xP, .ref xR, .ref xG, .ref xF, .int tc, .ref xO, .ref xS, .ref xL, .ref xC, .ref xQ, .ref xU, .ref xW])), (xT, .inr (2, [.ref ca, .ref ta, .int 1, .int 0])), (ca, .inl (cT 5, 6, .inr (.inr (.inr (.inr cf))))), (c0, .inr (1, [.ref v0, .ref ed0, .int 0, .int 1]))] := hD
  rw [hpu1]
  refine lv_if_eq (tgt := 15) hx hb dL_kinds_8 rfl (fun _ => ?_) (fun hj2 => absurd (by decide) hj2)
  refine lv_lconst (v := 0) hx hb dL_kinds_15 (by decide) ?_
  refine va_last hx hb hK hP hD hS 0 1 rfl rfl (by unfold vp_in; decide) dL_kinds_16 (fun H locs hP hD hS => ?_)
  have hP : va_P D vwCl [(zo, .inl (cT 1, 1, .inr (.inl (vp_updL zf 0 0)))), (x, .inr (0, [.ref xT, .ref xP, .ref xR, .ref xG, .ref xF, .int tc, .ref xO, .ref xS, .ref xL, .ref xC, .ref xQ, .ref xU, .ref xW])), (xT, .inr (2, [.ref ca, .ref ta, .int 1, .int 0])), (ca, .inl (cT 5, 6, .inr (.inr (.inr (.inr cf))))), (c0, .inr (1, [.ref v0, .ref ed0, .int 0, .int 1]))] H := hP
  have hD : va_D A [(zo, .inl (cT 1, 1, .inr (.inl (vp_updL zf 0 0)))), (x, .inr (0, [.ref xT, .ref xP, .ref xR, .ref xG, .ref xF, .int tc, .ref xO, .ref xS, .ref xL, .ref xC, .ref xQ, .ref xU, .ref xW])), (xT, .inr (2, [.ref ca, .ref ta, .int 1, .int 0])), (ca, .inl (cT 5, 6, .inr (.inr (.inr (.inr cf))))), (c0, .inr (1, [.ref v0, .ref ed0, .int 0, .int 1]))] := hD
  refine lv_goto (tgt := 28) hx hb dL_kinds_17 rfl ?_
  refine lv_iconst (v := 0) hx hb dL_kinds_28 (by decide) ?_
  have hP9 := hP.sub (ws' := [(zo, .inl (cT 1, 1, .inr (.inl (vp_updL zf 0 0))))]) [0] rfl
  have hD9 := hD.sub (ws' := [(zo, .inl (cT 1, 1, .inr (.inl (vp_updL zf 0 0))))]) [0] (by decide) rfl
  refine W.widen (k := 0) (n := 0) (Nat.le_of_ble_eq_true rfl) (Nat.le_of_ble_eq_true rfl) ?_
  exact W.iret (v := 0) hx hb hr (fun t ht hW => ⟨⟨0, (fun _ => 0), rfl, rfl, by rw [ht]; exact hP9, hD9⟩, hS.F ht⟩) hS.2.2 dL_kinds_29
set_option maxHeartbeats 4000000 in
set_option maxRecDepth 100000 in
theorem l_ask_ok1 (l : Launch) (D : va_G) (cT : Nat → ClassId) (x : Nat) (xT : Nat) (xP : Nat) (xR : Nat) (xG : Nat) (xF : Nat) (tc : Int32) (xO : Nat) (xS : Nat) (xL : Nat) (xC : Nat) (xQ : Nat) (xU : Nat) (xW : Nat) (ca : Nat) (ta : Nat) (cf : Nat → Option Nat) (c0 : Nat) (v0 : Nat) (ed0 : Nat) (n0 : Int32) (f0 : Nat → Int32) (a2 : Int32) (zo : Nat) (zf : Nat → Int64) (h1 : ¬ a2 = (-2147483648)) (hq : (-1000000) ≤ a2 ∧ a2 ≤ 1000000) (hf0 : cf 0 = some c0) (sz : Nat) : Met l yL_ask WL_ask ({ frames := 3, cells := 0, slots := 0, locals := 65 } : Room) (RW D vwCl [.ref x, .int 0, .int a2, .ref zo] [(x, .inr (0, [.ref xT, .ref xP, .ref xR, .ref xG, .ref xF, .int tc, .ref xO, .ref xS, .ref xL, .ref xC, .ref xQ, .ref xU, .ref xW])), (xT, .inr (2, [.ref ca, .ref ta, .int 1, .int 0])), (ca, .inl (cT 5, 6, .inr (.inr (.inr (.inr cf))))), (c0, .inr (1, [.ref v0, .ref ed0, .int n0, .int 0])), (v0, .inl (cT 0, 49, .inl f0)), (zo, .inl (cT 1, 1, .inr (.inl zf)))] (TY cT) sz) (va_Qi (fun (r : Int32) (_ : Nat → Nat) => r = 0) (BW D vwCl (va_A [(x, .inr (0, [.ref xT, .ref xP, .ref xR, .ref xG, .ref xF, .int tc, .ref xO, .ref xS, .ref xL, .ref xC, .ref xQ, .ref xU, .ref xW])), (xT, .inr (2, [.ref ca, .ref ta, .int 1, .int 0])), (ca, .inl (cT 5, 6, .inr (.inr (.inr (.inr cf))))), (c0, .inr (1, [.ref v0, .ref ed0, .int n0, .int 0])), (v0, .inl (cT 0, 49, .inl f0)), (zo, .inl (cT 1, 1, .inr (.inl zf)))] sz) (fun u => [(zo, .inl (cT 1, 1, .inr (.inl (vp_updL zf 0 ((f0 48 : Int32).toInt64)))))])) (va_A [(x, .inr (0, [.ref xT, .ref xP, .ref xR, .ref xG, .ref xF, .int tc, .ref xO, .ref xS, .ref xL, .ref xC, .ref xQ, .ref xU, .ref xW])), (xT, .inr (2, [.ref ca, .ref ta, .int 1, .int 0])), (ca, .inl (cT 5, 6, .inr (.inr (.inr (.inr cf))))), (c0, .inr (1, [.ref v0, .ref ed0, .int n0, .int 0])), (v0, .inl (cT 0, 49, .inl f0)), (zo, .inl (cT 1, 1, .inr (.inl zf)))] sz)) 0 0 (va_A [(x, .inr (0, [.ref xT, .ref xP, .ref xR, .ref xG, .ref xF, .int tc, .ref xO, .ref xS, .ref xL, .ref xC, .ref xQ, .ref xU, .ref xW])), (xT, .inr (2, [.ref ca, .ref ta, .int 1, .int 0])), (ca, .inl (cT 5, 6, .inr (.inr (.inr (.inr cf))))), (c0, .inr (1, [.ref v0, .ref ed0, .int n0, .int 0])), (v0, .inl (cT 0, 49, .inl f0)), (zo, .inl (cT 1, 1, .inr (.inl zf)))] sz) := by
  refine va_MetW (hh := [(0, 10, 13, 13)]) (cc := cL_ask) (maxL := 5) (ret := (some .int)) (by decide) rfl ?_
  intro p e s m args below meth c s₁ B hml hv
  obtain ⟨rfl, hsz, hZ, hP, hK, hD0⟩ := hv
  have hx := B.exec
  have hb := B.bytes
  have hr := B.returns
  have hts := atoms_spec (ws := WL_ask) B.pre
  have hT : ∀ w ∈ TB, w.before _ s = true := fun w h => hts w (List.mem_cons_of_mem _ h)
  have hown : s.vm.findClass R_L = some m.cls := findClass_of_methodNamed B.named
  have htab := tx_table B (bytes := cL_ask) (maxL := 5) (ret := (some .int)) (hh := [(0, 10, 13, 13)]) (hts _ List.mem_cons_self)
  subst hsz
  have hD := hD0.self (sz := s.heap.size)
  generalize hAe : va_A [(x, .inr (0, [.ref xT, .ref xP, .ref xR, .ref xG, .ref xF, .int tc, .ref xO, .ref xS, .ref xL, .ref xC, .ref xQ, .ref xU, .ref xW])), (xT, .inr (2, [.ref ca, .ref ta, .int 1, .int 0])), (ca, .inl (cT 5, 6, .inr (.inr (.inr (.inr cf))))), (c0, .inr (1, [.ref v0, .ref ed0, .int n0, .int 0])), (v0, .inl (cT 0, 49, .inl f0)), (zo, .inl (cT 1, 1, .inr (.inl zf)))] s.heap.size = A at hD hZ ⊢
  have hA : ∀ q : Nat, s.heap.size ≤ q → A q := fun q h => by rw [← hAe]; exact Or.inr h
  have hS : va_S A s.heap s.heap [] := va_S.rf
  have hl := lv_entry ([.ref x, .int 0, .int a2, .ref zo]) (n := 5) (Nat.le_of_ble_eq_true rfl)
  rw [lg_entry_eq]
  generalize (lg_sl ([.ref x, .int 0, .int a2, .ref zo]) ++ List.replicate (5 - (lg_sl ([.ref x, .int 0, .int a2, .ref zo])).length) Slot.unset).toArray = ls at hl ⊢
  have hl : lv_has ls 5 [(0, .ref x), (1, .int 0), (2, .int a2), (3, .ref zo)] := hl
  refine lv_aload_n hx hb dL_ask_0 rfl (lv_at hl 3 rfl) ?_
  refine lv_iconst (v := 0) hx hb dL_ask_1 (by decide) ?_
  refine lv_aload_n hx hb dL_ask_2 rfl (lv_at hl 0 rfl) ?_
  refine lv_iload_n hx hb dL_ask_3 rfl (lv_at hl 1 rfl) ?_
  refine lv_iload_n hx hb dL_ask_4 rfl (lv_at hl 2 rfl) ?_
  refine rw_i (wc := [(x, .inr (0, [.ref xT, .ref xP, .ref xR, .ref xG, .ref xF, .int tc, .ref xO, .ref xS, .ref xL, .ref xC, .ref xQ, .ref xU, .ref xW])), (xT, .inr (2, [.ref ca, .ref ta, .int 1, .int 0])), (ca, .inl (cT 5, 6, .inr (.inr (.inr (.inr cf))))), (c0, .inr (1, [.ref v0, .ref ed0, .int n0, .int 0])), (v0, .inl (cT 0, 49, .inl f0))]) (wr := [(zo, .inl (cT 1, 1, .inr (.inl zf)))]) hP hD hS hA [0, 1, 2, 3, 4] [5] rfl rfl (by decide) (by decide) (va_runV (As := [.int 0, .int a2]) (rest := [.int 0, .ref zo]) ⟨hx, hb, hml, hown, hT⟩ (k_ask_ok1 l D cT x xT xP xR xG xF tc xO xS xL xC xQ xU xW ca ta cf c0 v0 ed0 n0 f0 a2 h1 hq hf0 _) ⟨callB_of 2 hT (tb_gd w1071) rfl rfl rfl (hT _ w1) (hT _ w1068) hR_ask ⟨Nat.le_of_ble_eq_true rfl, Nat.le_of_ble_eq_true rfl⟩, (hT _ w1069), (hT _ w1070)⟩ (RW.preV (ci := 0) (q0 := 0) hZ hS (va_free (wc := [(x, .inr (0, [.ref xT, .ref xP, .ref xR, .ref xG, .ref xF, .int tc, .ref xO, .ref xS, .ref xL, .ref xC, .ref xQ, .ref xU, .ref xW])), (xT, .inr (2, [.ref ca, .ref ta, .int 1, .int 0])), (ca, .inl (cT 5, 6, .inr (.inr (.inr (.inr cf))))), (c0, .inr (1, [.ref v0, .ref ed0, .int n0, .int 0])), (v0, .inl (cT 0, 49, .inl f0))]) hD hS hA [0, 1, 2, 3, 4] rfl) (hP.sub (ws' := [(x, .inr (0, [.ref xT, .ref xP, .ref xR, .ref xG, .ref xF, .int tc, .ref xO, .ref xS, .ref xL, .ref xC, .ref xQ, .ref xU, .ref xW])), (xT, .inr (2, [.ref ca, .ref ta, .int 1, .int 0])), (ca, .inl (cT 5, 6, .inr (.inr (.inr (.inr cf))))), (c0, .inr (1, [.ref v0, .ref ed0, .int n0, .int 0])), (v0, .inl (cT 0, 49, .inl f0))]) [0, 1, 2, 3, 4] rfl) hK (hD.sub (ws' := [(x, .inr (0, [.ref xT, .ref xP, .ref xR, .ref xG, .ref xF, .int tc, .ref xO, .ref xS, .ref xL, .ref xC, .ref xQ, .ref xU, .ref xW])), (xT, .inr (2, [.ref ca, .ref ta, .int 1, .int 0])), (ca, .inl (cT 5, 6, .inr (.inr (.inr (.inr cf))))), (c0, .inr (1, [.ref v0, .ref ed0, .int n0, .int 0])), (v0, .inl (cT 0, 49, .inl f0))]) [0, 1, 2, 3, 4] (by decide) rfl) rfl rfl) rfl rfl hl.1 rfl (lv_room (Nat.le_of_ble_eq_true rfl)) dL_ask_5 ⟨Nat.le_of_ble_eq_true rfl, Nat.le_of_ble_eq_true rfl⟩) (fun ru1 u1 H locs hpu1 hP hD hS => ?_)
  have hP : va_P D vwCl [(zo, .inl (cT 1, 1, .inr (.inl zf))), (x, .inr (0, [.ref xT, .ref xP, .ref xR, .ref xG, .ref xF, .int tc, .ref xO, .ref xS, .ref xL, .ref xC, .ref xQ, .ref xU, .ref xW])), (xT, .inr (2, [.ref ca, .ref ta, .int 1, .int 0])), (ca, .inl (cT 5, 6, .inr (.inr (.inr (.inr cf))))), (c0, .inr (1, [.ref v0, .ref ed0, .int n0, .int 0])), (v0, .inl (cT 0, 49, .inl (upd f0 48 a2)))] H := hP
  have hD : va_D A [(zo, .inl (cT 1, 1, .inr (.inl zf))), (x, .inr (0, [.ref xT, .ref xP, .ref xR, .ref xG, .ref xF, .int tc, .ref xO, .ref xS, .ref xL, .ref xC, .ref xQ, .ref xU, .ref xW])), (xT, .inr (2, [.ref ca, .ref ta, .int 1, .int 0])), (ca, .inl (cT 5, 6, .inr (.inr (.inr (.inr cf))))), (c0, .inr (1, [.ref v0, .ref ed0, .int n0, .int 0])), (v0, .inl (cT 0, 49, .inl (upd f0 48 a2)))] := hD
  rw [hpu1]
  refine lv_i2l hx hb dL_ask_8 rfl ?_
  refine va_last hx hb hK hP hD hS 0 1 rfl rfl (by unfold vp_in; decide) dL_ask_9 (fun H locs hP hD hS => ?_)
  have hP : va_P D vwCl [(zo, .inl (cT 1, 1, .inr (.inl (vp_updL zf 0 ((f0 48 : Int32).toInt64))))), (x, .inr (0, [.ref xT, .ref xP, .ref xR, .ref xG, .ref xF, .int tc, .ref xO, .ref xS, .ref xL, .ref xC, .ref xQ, .ref xU, .ref xW])), (xT, .inr (2, [.ref ca, .ref ta, .int 1, .int 0])), (ca, .inl (cT 5, 6, .inr (.inr (.inr (.inr cf))))), (c0, .inr (1, [.ref v0, .ref ed0, .int n0, .int 0])), (v0, .inl (cT 0, 49, .inl (upd f0 48 a2)))] H := hP
  have hD : va_D A [(zo, .inl (cT 1, 1, .inr (.inl (vp_updL zf 0 ((f0 48 : Int32).toInt64))))), (x, .inr (0, [.ref xT, .ref xP, .ref xR, .ref xG, .ref xF, .int tc, .ref xO, .ref xS, .ref xL, .ref xC, .ref xQ, .ref xU, .ref xW])), (xT, .inr (2, [.ref ca, .ref ta, .int 1, .int 0])), (ca, .inl (cT 5, 6, .inr (.inr (.inr (.inr cf))))), (c0, .inr (1, [.ref v0, .ref ed0, .int n0, .int 0])), (v0, .inl (cT 0, 49, .inl (upd f0 48 a2)))] := hD
  refine lv_goto (tgt := 17) hx hb dL_ask_10 rfl ?_
  refine lv_iconst (v := 0) hx hb dL_ask_17 (by decide) ?_
  have hP9 := hP.sub (ws' := [(zo, .inl (cT 1, 1, .inr (.inl (vp_updL zf 0 ((f0 48 : Int32).toInt64)))))]) [0] rfl
  have hD9 := hD.sub (ws' := [(zo, .inl (cT 1, 1, .inr (.inl (vp_updL zf 0 ((f0 48 : Int32).toInt64)))))]) [0] (by decide) rfl
  refine W.widen (k := 0) (n := 0) (Nat.le_of_ble_eq_true rfl) (Nat.le_of_ble_eq_true rfl) ?_
  exact W.iret (v := 0) hx hb hr (fun t ht hW => ⟨⟨0, (fun _ => 0), rfl, rfl, by rw [ht]; exact hP9, hD9⟩, hS.F ht⟩) hS.2.2 dL_ask_18
set_option maxHeartbeats 4000000 in
set_option maxRecDepth 100000 in
theorem l_count0 (l : Launch) (D : va_G) (cT : Nat → ClassId) (x : Nat) (xT : Nat) (xP : Nat) (xR : Nat) (xG : Nat) (xF : Nat) (tc : Int32) (xO : Nat) (xS : Nat) (xL : Nat) (xC : Nat) (xQ : Nat) (xU : Nat) (xW : Nat) (ca : Nat) (ta : Nat) (w : Int32) (r : Int32) (zo : Nat) (zf : Nat → Int64) (sz : Nat) : Met l yL_count WL_count ({ frames := 1, cells := 0, slots := 0, locals := 21 } : Room) (RW D vwCl [.ref x, .int 0, .ref zo] [(x, .inr (0, [.ref xT, .ref xP, .ref xR, .ref xG, .ref xF, .int tc, .ref xO, .ref xS, .ref xL, .ref xC, .ref xQ, .ref xU, .ref xW])), (xT, .inr (2, [.ref ca, .ref ta, .int w, .int r])), (zo, .inl (cT 1, 1, .inr (.inl zf)))] (TY cT) sz) (va_Qi (fun (r : Int32) (_ : Nat → Nat) => r = 0) (BW D vwCl (va_A [(x, .inr (0, [.ref xT, .ref xP, .ref xR, .ref xG, .ref xF, .int tc, .ref xO, .ref xS, .ref xL, .ref xC, .ref xQ, .ref xU, .ref xW])), (xT, .inr (2, [.ref ca, .ref ta, .int w, .int r])), (zo, .inl (cT 1, 1, .inr (.inl zf)))] sz) (fun u => [(zo, .inl (cT 1, 1, .inr (.inl (vp_updL zf 0 ((w : Int32).toInt64)))))])) (va_A [(x, .inr (0, [.ref xT, .ref xP, .ref xR, .ref xG, .ref xF, .int tc, .ref xO, .ref xS, .ref xL, .ref xC, .ref xQ, .ref xU, .ref xW])), (xT, .inr (2, [.ref ca, .ref ta, .int w, .int r])), (zo, .inl (cT 1, 1, .inr (.inl zf)))] sz)) 0 0 (va_A [(x, .inr (0, [.ref xT, .ref xP, .ref xR, .ref xG, .ref xF, .int tc, .ref xO, .ref xS, .ref xL, .ref xC, .ref xQ, .ref xU, .ref xW])), (xT, .inr (2, [.ref ca, .ref ta, .int w, .int r])), (zo, .inl (cT 1, 1, .inr (.inl zf)))] sz) := by
  refine va_MetW (hh := [(0, 9, 12, 13)]) (cc := cL_count) (maxL := 4) (ret := (some .int)) (by decide) rfl ?_
  intro p e s m args below meth c s₁ B hml hv
  obtain ⟨rfl, hsz, hZ, hP, hK, hD0⟩ := hv
  have hx := B.exec
  have hb := B.bytes
  have hr := B.returns
  have hts := atoms_spec (ws := WL_count) B.pre
  have hT : ∀ w ∈ TB, w.before _ s = true := fun w h => hts w (List.mem_cons_of_mem _ h)
  have hown : s.vm.findClass R_L = some m.cls := findClass_of_methodNamed B.named
  have htab := tx_table B (bytes := cL_count) (maxL := 4) (ret := (some .int)) (hh := [(0, 9, 12, 13)]) (hts _ List.mem_cons_self)
  subst hsz
  have hD := hD0.self (sz := s.heap.size)
  generalize hAe : va_A [(x, .inr (0, [.ref xT, .ref xP, .ref xR, .ref xG, .ref xF, .int tc, .ref xO, .ref xS, .ref xL, .ref xC, .ref xQ, .ref xU, .ref xW])), (xT, .inr (2, [.ref ca, .ref ta, .int w, .int r])), (zo, .inl (cT 1, 1, .inr (.inl zf)))] s.heap.size = A at hD hZ ⊢
  have hA : ∀ q : Nat, s.heap.size ≤ q → A q := fun q h => by rw [← hAe]; exact Or.inr h
  have hS : va_S A s.heap s.heap [] := va_S.rf
  have hl := lv_entry ([.ref x, .int 0, .ref zo]) (n := 4) (Nat.le_of_ble_eq_true rfl)
  rw [lg_entry_eq]
  generalize (lg_sl ([.ref x, .int 0, .ref zo]) ++ List.replicate (4 - (lg_sl ([.ref x, .int 0, .ref zo])).length) Slot.unset).toArray = ls at hl ⊢
  have hl : lv_has ls 4 [(0, .ref x), (1, .int 0), (2, .ref zo)] := hl
  refine lv_aload_n hx hb dL_count_0 rfl (lv_at hl 2 rfl) ?_
  refine lv_iconst (v := 0) hx hb dL_count_1 (by decide) ?_
  refine lv_aload_n hx hb dL_count_2 rfl (lv_at hl 0 rfl) ?_
  refine lv_iload_n hx hb dL_count_3 rfl (lv_at hl 1 rfl) ?_
  refine ro_i (va_Run.run (va_runV (As := [.int 0]) (rest := [.int 0, .ref zo]) ⟨hx, hb, hml, hown, hT⟩ (k_count0 l D cT x xT xP xR xG xF tc xO xS xL xC xQ xU xW ca ta w r) ⟨callB_of 1 hT (tb_gd w1012) rfl rfl rfl (hT _ w1) (hT _ w1009) hR_count ⟨Nat.le_of_ble_eq_true rfl, Nat.le_of_ble_eq_true rfl⟩, (hT _ w1010), (hT _ w1011)⟩ (RO.preV (ci := 0) (q0 := 0) hZ hS (hP.sub (ws' := [(x, .inr (0, [.ref xT, .ref xP, .ref xR, .ref xG, .ref xF, .int tc, .ref xO, .ref xS, .ref xL, .ref xC, .ref xQ, .ref xU, .ref xW])), (xT, .inr (2, [.ref ca, .ref ta, .int w, .int r]))]) [0, 1] rfl) hK rfl rfl) rfl rfl hl.1 rfl (lv_room (Nat.le_of_ble_eq_true rfl)) dL_count_4 ⟨Nat.le_of_ble_eq_true rfl, Nat.le_of_ble_eq_true rfl⟩)) ?_
  refine lv_i2l hx hb dL_count_7 rfl ?_
  refine va_last hx hb hK hP hD hS 2 1 rfl rfl (by unfold vp_in; decide) dL_count_8 (fun H locs hP hD hS => ?_)
  have hP : va_P D vwCl [(x, .inr (0, [.ref xT, .ref xP, .ref xR, .ref xG, .ref xF, .int tc, .ref xO, .ref xS, .ref xL, .ref xC, .ref xQ, .ref xU, .ref xW])), (xT, .inr (2, [.ref ca, .ref ta, .int w, .int r])), (zo, .inl (cT 1, 1, .inr (.inl (vp_updL zf 0 ((w : Int32).toInt64)))))] H := hP
  have hD : va_D A [(x, .inr (0, [.ref xT, .ref xP, .ref xR, .ref xG, .ref xF, .int tc, .ref xO, .ref xS, .ref xL, .ref xC, .ref xQ, .ref xU, .ref xW])), (xT, .inr (2, [.ref ca, .ref ta, .int w, .int r])), (zo, .inl (cT 1, 1, .inr (.inl (vp_updL zf 0 ((w : Int32).toInt64)))))] := hD
  refine lv_goto (tgt := 15) hx hb dL_count_9 rfl ?_
  refine lv_iconst (v := 0) hx hb dL_count_15 (by decide) ?_
  have hP9 := hP.sub (ws' := [(zo, .inl (cT 1, 1, .inr (.inl (vp_updL zf 0 ((w : Int32).toInt64)))))]) [2] rfl
  have hD9 := hD.sub (ws' := [(zo, .inl (cT 1, 1, .inr (.inl (vp_updL zf 0 ((w : Int32).toInt64)))))]) [2] (by decide) rfl
  refine W.widen (k := 0) (n := 0) (Nat.le_of_ble_eq_true rfl) (Nat.le_of_ble_eq_true rfl) ?_
  exact W.iret (v := 0) hx hb hr (fun t ht hW => ⟨⟨0, (fun _ => 0), rfl, rfl, by rw [ht]; exact hP9, hD9⟩, hS.F ht⟩) hS.2.2 dL_count_16
set_option maxHeartbeats 4000000 in
set_option maxRecDepth 100000 in
theorem l_count1 (l : Launch) (D : va_G) (cT : Nat → ClassId) (x : Nat) (xT : Nat) (xP : Nat) (xR : Nat) (xG : Nat) (xF : Nat) (tc : Int32) (xO : Nat) (xS : Nat) (xL : Nat) (xC : Nat) (xQ : Nat) (xU : Nat) (xW : Nat) (ca : Nat) (ta : Nat) (w : Int32) (r : Int32) (zo : Nat) (zf : Nat → Int64) (sz : Nat) : Met l yL_count WL_count ({ frames := 1, cells := 0, slots := 0, locals := 21 } : Room) (RW D vwCl [.ref x, .int 1, .ref zo] [(x, .inr (0, [.ref xT, .ref xP, .ref xR, .ref xG, .ref xF, .int tc, .ref xO, .ref xS, .ref xL, .ref xC, .ref xQ, .ref xU, .ref xW])), (xT, .inr (2, [.ref ca, .ref ta, .int w, .int r])), (zo, .inl (cT 1, 1, .inr (.inl zf)))] (TY cT) sz) (va_Qi (fun (r : Int32) (_ : Nat → Nat) => r = 0) (BW D vwCl (va_A [(x, .inr (0, [.ref xT, .ref xP, .ref xR, .ref xG, .ref xF, .int tc, .ref xO, .ref xS, .ref xL, .ref xC, .ref xQ, .ref xU, .ref xW])), (xT, .inr (2, [.ref ca, .ref ta, .int w, .int r])), (zo, .inl (cT 1, 1, .inr (.inl zf)))] sz) (fun u => [(zo, .inl (cT 1, 1, .inr (.inl (vp_updL zf 0 ((r : Int32).toInt64)))))])) (va_A [(x, .inr (0, [.ref xT, .ref xP, .ref xR, .ref xG, .ref xF, .int tc, .ref xO, .ref xS, .ref xL, .ref xC, .ref xQ, .ref xU, .ref xW])), (xT, .inr (2, [.ref ca, .ref ta, .int w, .int r])), (zo, .inl (cT 1, 1, .inr (.inl zf)))] sz)) 0 0 (va_A [(x, .inr (0, [.ref xT, .ref xP, .ref xR, .ref xG, .ref xF, .int tc, .ref xO, .ref xS, .ref xL, .ref xC, .ref xQ, .ref xU, .ref xW])), (xT, .inr (2, [.ref ca, .ref ta, .int w, .int r])), (zo, .inl (cT 1, 1, .inr (.inl zf)))] sz) := by
  refine va_MetW (hh := [(0, 9, 12, 13)]) (cc := cL_count) (maxL := 4) (ret := (some .int)) (by decide) rfl ?_
  intro p e s m args below meth c s₁ B hml hv
  obtain ⟨rfl, hsz, hZ, hP, hK, hD0⟩ := hv
  have hx := B.exec
  have hb := B.bytes
  have hr := B.returns
  have hts := atoms_spec (ws := WL_count) B.pre
  have hT : ∀ w ∈ TB, w.before _ s = true := fun w h => hts w (List.mem_cons_of_mem _ h)
  have hown : s.vm.findClass R_L = some m.cls := findClass_of_methodNamed B.named
  have htab := tx_table B (bytes := cL_count) (maxL := 4) (ret := (some .int)) (hh := [(0, 9, 12, 13)]) (hts _ List.mem_cons_self)
  subst hsz
  have hD := hD0.self (sz := s.heap.size)
  generalize hAe : va_A [(x, .inr (0, [.ref xT, .ref xP, .ref xR, .ref xG, .ref xF, .int tc, .ref xO, .ref xS, .ref xL, .ref xC, .ref xQ, .ref xU, .ref xW])), (xT, .inr (2, [.ref ca, .ref ta, .int w, .int r])), (zo, .inl (cT 1, 1, .inr (.inl zf)))] s.heap.size = A at hD hZ ⊢
  have hA : ∀ q : Nat, s.heap.size ≤ q → A q := fun q h => by rw [← hAe]; exact Or.inr h
  have hS : va_S A s.heap s.heap [] := va_S.rf
  have hl := lv_entry ([.ref x, .int 1, .ref zo]) (n := 4) (Nat.le_of_ble_eq_true rfl)
  rw [lg_entry_eq]
  generalize (lg_sl ([.ref x, .int 1, .ref zo]) ++ List.replicate (4 - (lg_sl ([.ref x, .int 1, .ref zo])).length) Slot.unset).toArray = ls at hl ⊢
  have hl : lv_has ls 4 [(0, .ref x), (1, .int 1), (2, .ref zo)] := hl
  refine lv_aload_n hx hb dL_count_0 rfl (lv_at hl 2 rfl) ?_
  refine lv_iconst (v := 0) hx hb dL_count_1 (by decide) ?_
  refine lv_aload_n hx hb dL_count_2 rfl (lv_at hl 0 rfl) ?_
  refine lv_iload_n hx hb dL_count_3 rfl (lv_at hl 1 rfl) ?_
  refine ro_i (va_Run.run (va_runV (As := [.int 1]) (rest := [.int 0, .ref zo]) ⟨hx, hb, hml, hown, hT⟩ (k_count1 l D cT x xT xP xR xG xF tc xO xS xL xC xQ xU xW ca ta w r) ⟨callB_of 1 hT (tb_gd w1012) rfl rfl rfl (hT _ w1) (hT _ w1009) hR_count ⟨Nat.le_of_ble_eq_true rfl, Nat.le_of_ble_eq_true rfl⟩, (hT _ w1010), (hT _ w1011)⟩ (RO.preV (ci := 0) (q0 := 0) hZ hS (hP.sub (ws' := [(x, .inr (0, [.ref xT, .ref xP, .ref xR, .ref xG, .ref xF, .int tc, .ref xO, .ref xS, .ref xL, .ref xC, .ref xQ, .ref xU, .ref xW])), (xT, .inr (2, [.ref ca, .ref ta, .int w, .int r]))]) [0, 1] rfl) hK rfl rfl) rfl rfl hl.1 rfl (lv_room (Nat.le_of_ble_eq_true rfl)) dL_count_4 ⟨Nat.le_of_ble_eq_true rfl, Nat.le_of_ble_eq_true rfl⟩)) ?_
  refine lv_i2l hx hb dL_count_7 rfl ?_
  refine va_last hx hb hK hP hD hS 2 1 rfl rfl (by unfold vp_in; decide) dL_count_8 (fun H locs hP hD hS => ?_)
  have hP : va_P D vwCl [(x, .inr (0, [.ref xT, .ref xP, .ref xR, .ref xG, .ref xF, .int tc, .ref xO, .ref xS, .ref xL, .ref xC, .ref xQ, .ref xU, .ref xW])), (xT, .inr (2, [.ref ca, .ref ta, .int w, .int r])), (zo, .inl (cT 1, 1, .inr (.inl (vp_updL zf 0 ((r : Int32).toInt64)))))] H := hP
  have hD : va_D A [(x, .inr (0, [.ref xT, .ref xP, .ref xR, .ref xG, .ref xF, .int tc, .ref xO, .ref xS, .ref xL, .ref xC, .ref xQ, .ref xU, .ref xW])), (xT, .inr (2, [.ref ca, .ref ta, .int w, .int r])), (zo, .inl (cT 1, 1, .inr (.inl (vp_updL zf 0 ((r : Int32).toInt64)))))] := hD
  refine lv_goto (tgt := 15) hx hb dL_count_9 rfl ?_
  refine lv_iconst (v := 0) hx hb dL_count_15 (by decide) ?_
  have hP9 := hP.sub (ws' := [(zo, .inl (cT 1, 1, .inr (.inl (vp_updL zf 0 ((r : Int32).toInt64)))))]) [2] rfl
  have hD9 := hD.sub (ws' := [(zo, .inl (cT 1, 1, .inr (.inl (vp_updL zf 0 ((r : Int32).toInt64)))))]) [2] (by decide) rfl
  refine W.widen (k := 0) (n := 0) (Nat.le_of_ble_eq_true rfl) (Nat.le_of_ble_eq_true rfl) ?_
  exact W.iret (v := 0) hx hb hr (fun t ht hW => ⟨⟨0, (fun _ => 0), rfl, rfl, by rw [ht]; exact hP9, hD9⟩, hS.F ht⟩) hS.2.2 dL_count_16
set_option maxHeartbeats 4000000 in
set_option maxRecDepth 100000 in
theorem l_count2 (l : Launch) (D : va_G) (cT : Nat → ClassId) (x : Nat) (xT : Nat) (xP : Nat) (xR : Nat) (xG : Nat) (xF : Nat) (tc : Int32) (xO : Nat) (xS : Nat) (xL : Nat) (xC : Nat) (xQ : Nat) (xU : Nat) (xW : Nat) (zo : Nat) (zf : Nat → Int64) (sz : Nat) : Met l yL_count WL_count ({ frames := 1, cells := 0, slots := 0, locals := 21 } : Room) (RW D vwCl [.ref x, .int 2, .ref zo] [(x, .inr (0, [.ref xT, .ref xP, .ref xR, .ref xG, .ref xF, .int tc, .ref xO, .ref xS, .ref xL, .ref xC, .ref xQ, .ref xU, .ref xW])), (zo, .inl (cT 1, 1, .inr (.inl zf)))] (TY cT) sz) (va_Qi (fun (r : Int32) (_ : Nat → Nat) => r = 0) (BW D vwCl (va_A [(x, .inr (0, [.ref xT, .ref xP, .ref xR, .ref xG, .ref xF, .int tc, .ref xO, .ref xS, .ref xL, .ref xC, .ref xQ, .ref xU, .ref xW])), (zo, .inl (cT 1, 1, .inr (.inl zf)))] sz) (fun u => [(zo, .inl (cT 1, 1, .inr (.inl (vp_updL zf 0 ((tc : Int32).toInt64)))))])) (va_A [(x, .inr (0, [.ref xT, .ref xP, .ref xR, .ref xG, .ref xF, .int tc, .ref xO, .ref xS, .ref xL, .ref xC, .ref xQ, .ref xU, .ref xW])), (zo, .inl (cT 1, 1, .inr (.inl zf)))] sz)) 0 0 (va_A [(x, .inr (0, [.ref xT, .ref xP, .ref xR, .ref xG, .ref xF, .int tc, .ref xO, .ref xS, .ref xL, .ref xC, .ref xQ, .ref xU, .ref xW])), (zo, .inl (cT 1, 1, .inr (.inl zf)))] sz) := by
  refine va_MetW (hh := [(0, 9, 12, 13)]) (cc := cL_count) (maxL := 4) (ret := (some .int)) (by decide) rfl ?_
  intro p e s m args below meth c s₁ B hml hv
  obtain ⟨rfl, hsz, hZ, hP, hK, hD0⟩ := hv
  have hx := B.exec
  have hb := B.bytes
  have hr := B.returns
  have hts := atoms_spec (ws := WL_count) B.pre
  have hT : ∀ w ∈ TB, w.before _ s = true := fun w h => hts w (List.mem_cons_of_mem _ h)
  have hown : s.vm.findClass R_L = some m.cls := findClass_of_methodNamed B.named
  have htab := tx_table B (bytes := cL_count) (maxL := 4) (ret := (some .int)) (hh := [(0, 9, 12, 13)]) (hts _ List.mem_cons_self)
  subst hsz
  have hD := hD0.self (sz := s.heap.size)
  generalize hAe : va_A [(x, .inr (0, [.ref xT, .ref xP, .ref xR, .ref xG, .ref xF, .int tc, .ref xO, .ref xS, .ref xL, .ref xC, .ref xQ, .ref xU, .ref xW])), (zo, .inl (cT 1, 1, .inr (.inl zf)))] s.heap.size = A at hD hZ ⊢
  have hA : ∀ q : Nat, s.heap.size ≤ q → A q := fun q h => by rw [← hAe]; exact Or.inr h
  have hS : va_S A s.heap s.heap [] := va_S.rf
  have hl := lv_entry ([.ref x, .int 2, .ref zo]) (n := 4) (Nat.le_of_ble_eq_true rfl)
  rw [lg_entry_eq]
  generalize (lg_sl ([.ref x, .int 2, .ref zo]) ++ List.replicate (4 - (lg_sl ([.ref x, .int 2, .ref zo])).length) Slot.unset).toArray = ls at hl ⊢
  have hl : lv_has ls 4 [(0, .ref x), (1, .int 2), (2, .ref zo)] := hl
  refine lv_aload_n hx hb dL_count_0 rfl (lv_at hl 2 rfl) ?_
  refine lv_iconst (v := 0) hx hb dL_count_1 (by decide) ?_
  refine lv_aload_n hx hb dL_count_2 rfl (lv_at hl 0 rfl) ?_
  refine lv_iload_n hx hb dL_count_3 rfl (lv_at hl 1 rfl) ?_
  refine ro_i (va_Run.run (va_runV (As := [.int 2]) (rest := [.int 0, .ref zo]) ⟨hx, hb, hml, hown, hT⟩ (k_count2 l D cT x xT xP xR xG xF tc xO xS xL xC xQ xU xW) ⟨callB_of 1 hT (tb_gd w1012) rfl rfl rfl (hT _ w1) (hT _ w1009) hR_count ⟨Nat.le_of_ble_eq_true rfl, Nat.le_of_ble_eq_true rfl⟩, (hT _ w1010), (hT _ w1011)⟩ (RO.preV (ci := 0) (q0 := 0) hZ hS (hP.sub (ws' := [(x, .inr (0, [.ref xT, .ref xP, .ref xR, .ref xG, .ref xF, .int tc, .ref xO, .ref xS, .ref xL, .ref xC, .ref xQ, .ref xU, .ref xW]))]) [0] rfl) hK rfl rfl) rfl rfl hl.1 rfl (lv_room (Nat.le_of_ble_eq_true rfl)) dL_count_4 ⟨Nat.le_of_ble_eq_true rfl, Nat.le_of_ble_eq_true rfl⟩)) ?_
  refine lv_i2l hx hb dL_count_7 rfl ?_
  refine va_last hx hb hK hP hD hS 1 1 rfl rfl (by unfold vp_in; decide) dL_count_8 (fun H locs hP hD hS => ?_)
  have hP : va_P D vwCl [(x, .inr (0, [.ref xT, .ref xP, .ref xR, .ref xG, .ref xF, .int tc, .ref xO, .ref xS, .ref xL, .ref xC, .ref xQ, .ref xU, .ref xW])), (zo, .inl (cT 1, 1, .inr (.inl (vp_updL zf 0 ((tc : Int32).toInt64)))))] H := hP
  have hD : va_D A [(x, .inr (0, [.ref xT, .ref xP, .ref xR, .ref xG, .ref xF, .int tc, .ref xO, .ref xS, .ref xL, .ref xC, .ref xQ, .ref xU, .ref xW])), (zo, .inl (cT 1, 1, .inr (.inl (vp_updL zf 0 ((tc : Int32).toInt64)))))] := hD
  refine lv_goto (tgt := 15) hx hb dL_count_9 rfl ?_
  refine lv_iconst (v := 0) hx hb dL_count_15 (by decide) ?_
  have hP9 := hP.sub (ws' := [(zo, .inl (cT 1, 1, .inr (.inl (vp_updL zf 0 ((tc : Int32).toInt64)))))]) [1] rfl
  have hD9 := hD.sub (ws' := [(zo, .inl (cT 1, 1, .inr (.inl (vp_updL zf 0 ((tc : Int32).toInt64)))))]) [1] (by decide) rfl
  refine W.widen (k := 0) (n := 0) (Nat.le_of_ble_eq_true rfl) (Nat.le_of_ble_eq_true rfl) ?_
  exact W.iret (v := 0) hx hb hr (fun t ht hW => ⟨⟨0, (fun _ => 0), rfl, rfl, by rw [ht]; exact hP9, hD9⟩, hS.F ht⟩) hS.2.2 dL_count_16
set_option maxHeartbeats 4000000 in
set_option maxRecDepth 100000 in
theorem l_count3 (l : Launch) (D : va_G) (cT : Nat → ClassId) (x : Nat) (xT : Nat) (xP : Nat) (xR : Nat) (xG : Nat) (xF : Nat) (xO : Nat) (xS : Nat) (xL : Nat) (xC : Nat) (xQ : Nat) (xU : Nat) (xW : Nat) (ca : Nat) (ta : Nat) (w : Int32) (cw : Nat) (cl : Int32) (cb : Int32) (cg : Nat → Int32) (zo : Nat) (zf : Nat → Int64) (sz : Nat) : Met l yL_count WL_count ({ frames := 5, cells := 0, slots := 0, locals := 118 } : Room) (RW D vwCl [.ref x, .int 3, .ref zo] [(x, .inr (0, [.ref xT, .ref xP, .ref xR, .ref xG, .ref xF, .int 0, .ref xO, .ref xS, .ref xL, .ref xC, .ref xQ, .ref xU, .ref xW])), (xT, .inr (2, [.ref ca, .ref ta, .int w, .int 0])), (xC, .inr (4, [.ref cw, .int cl, .int cb])), (cw, .inl (cT 0, 24, .inl cg)), (zo, .inl (cT 1, 1, .inr (.inl zf)))] (TY cT) sz) (va_Qi (fun (r : Int32) (_ : Nat → Nat) => r = 0) (BW D vwCl (va_A [(x, .inr (0, [.ref xT, .ref xP, .ref xR, .ref xG, .ref xF, .int 0, .ref xO, .ref xS, .ref xL, .ref xC, .ref xQ, .ref xU, .ref xW])), (xT, .inr (2, [.ref ca, .ref ta, .int w, .int 0])), (xC, .inr (4, [.ref cw, .int cl, .int cb])), (cw, .inl (cT 0, 24, .inl cg)), (zo, .inl (cT 1, 1, .inr (.inl zf)))] sz) (fun u => [(zo, .inl (cT 1, 1, .inr (.inl (vp_updL zf 0 1))))])) (va_A [(x, .inr (0, [.ref xT, .ref xP, .ref xR, .ref xG, .ref xF, .int 0, .ref xO, .ref xS, .ref xL, .ref xC, .ref xQ, .ref xU, .ref xW])), (xT, .inr (2, [.ref ca, .ref ta, .int w, .int 0])), (xC, .inr (4, [.ref cw, .int cl, .int cb])), (cw, .inl (cT 0, 24, .inl cg)), (zo, .inl (cT 1, 1, .inr (.inl zf)))] sz)) 0 0 (va_A [(x, .inr (0, [.ref xT, .ref xP, .ref xR, .ref xG, .ref xF, .int 0, .ref xO, .ref xS, .ref xL, .ref xC, .ref xQ, .ref xU, .ref xW])), (xT, .inr (2, [.ref ca, .ref ta, .int w, .int 0])), (xC, .inr (4, [.ref cw, .int cl, .int cb])), (cw, .inl (cT 0, 24, .inl cg)), (zo, .inl (cT 1, 1, .inr (.inl zf)))] sz) := by
  refine va_MetW (hh := [(0, 9, 12, 13)]) (cc := cL_count) (maxL := 4) (ret := (some .int)) (by decide) rfl ?_
  intro p e s m args below meth c s₁ B hml hv
  obtain ⟨rfl, hsz, hZ, hP, hK, hD0⟩ := hv
  have hx := B.exec
  have hb := B.bytes
  have hr := B.returns
  have hts := atoms_spec (ws := WL_count) B.pre
  have hT : ∀ w ∈ TB, w.before _ s = true := fun w h => hts w (List.mem_cons_of_mem _ h)
  have hown : s.vm.findClass R_L = some m.cls := findClass_of_methodNamed B.named
  have htab := tx_table B (bytes := cL_count) (maxL := 4) (ret := (some .int)) (hh := [(0, 9, 12, 13)]) (hts _ List.mem_cons_self)
  subst hsz
  have hD := hD0.self (sz := s.heap.size)
  generalize hAe : va_A [(x, .inr (0, [.ref xT, .ref xP, .ref xR, .ref xG, .ref xF, .int 0, .ref xO, .ref xS, .ref xL, .ref xC, .ref xQ, .ref xU, .ref xW])), (xT, .inr (2, [.ref ca, .ref ta, .int w, .int 0])), (xC, .inr (4, [.ref cw, .int cl, .int cb])), (cw, .inl (cT 0, 24, .inl cg)), (zo, .inl (cT 1, 1, .inr (.inl zf)))] s.heap.size = A at hD hZ ⊢
  have hA : ∀ q : Nat, s.heap.size ≤ q → A q := fun q h => by rw [← hAe]; exact Or.inr h
  have hS : va_S A s.heap s.heap [] := va_S.rf
  have hl := lv_entry ([.ref x, .int 3, .ref zo]) (n := 4) (Nat.le_of_ble_eq_true rfl)
  rw [lg_entry_eq]
  generalize (lg_sl ([.ref x, .int 3, .ref zo]) ++ List.replicate (4 - (lg_sl ([.ref x, .int 3, .ref zo])).length) Slot.unset).toArray = ls at hl ⊢
  have hl : lv_has ls 4 [(0, .ref x), (1, .int 3), (2, .ref zo)] := hl
  refine lv_aload_n hx hb dL_count_0 rfl (lv_at hl 2 rfl) ?_
  refine lv_iconst (v := 0) hx hb dL_count_1 (by decide) ?_
  refine lv_aload_n hx hb dL_count_2 rfl (lv_at hl 0 rfl) ?_
  refine lv_iload_n hx hb dL_count_3 rfl (lv_at hl 1 rfl) ?_
  refine rw_i (wc := [(x, .inr (0, [.ref xT, .ref xP, .ref xR, .ref xG, .ref xF, .int 0, .ref xO, .ref xS, .ref xL, .ref xC, .ref xQ, .ref xU, .ref xW])), (xT, .inr (2, [.ref ca, .ref ta, .int w, .int 0])), (xC, .inr (4, [.ref cw, .int cl, .int cb])), (cw, .inl (cT 0, 24, .inl cg))]) (wr := [(zo, .inl (cT 1, 1, .inr (.inl zf)))]) hP hD hS hA [0, 1, 2, 3] [4] rfl rfl (by decide) (by decide) (va_runV (As := [.int 3]) (rest := [.int 0, .ref zo]) ⟨hx, hb, hml, hown, hT⟩ (k_count3 l D cT x xT xP xR xG xF xO xS xL xC xQ xU xW ca ta w cw cl cb cg _) ⟨callB_of 1 hT (tb_gd w1012) rfl rfl rfl (hT _ w1) (hT _ w1009) hR_count ⟨Nat.le_of_ble_eq_true rfl, Nat.le_of_ble_eq_true rfl⟩, (hT _ w1010), (hT _ w1011)⟩ (RW.preV (ci := 0) (q0 := 0) hZ hS (va_free (wc := [(x, .inr (0, [.ref xT, .ref xP, .ref xR, .ref xG, .ref xF, .int 0, .ref xO, .ref xS, .ref xL, .ref xC, .ref xQ, .ref xU, .ref xW])), (xT, .inr (2, [.ref ca, .ref ta, .int w, .int 0])), (xC, .inr (4, [.ref cw, .int cl, .int cb])), (cw, .inl (cT 0, 24, .inl cg))]) hD hS hA [0, 1, 2, 3] rfl) (hP.sub (ws' := [(x, .inr (0, [.ref xT, .ref xP, .ref xR, .ref xG, .ref xF, .int 0, .ref xO, .ref xS, .ref xL, .ref xC, .ref xQ, .ref xU, .ref xW])), (xT, .inr (2, [.ref ca, .ref ta, .int w, .int 0])), (xC, .inr (4, [.ref cw, .int cl, .int cb])), (cw, .inl (cT 0, 24, .inl cg))]) [0, 1, 2, 3] rfl) hK (hD.sub (ws' := [(x, .inr (0, [.ref xT, .ref xP, .ref xR, .ref xG, .ref xF, .int 0, .ref xO, .ref xS, .ref xL, .ref xC, .ref xQ, .ref xU, .ref xW])), (xT, .inr (2, [.ref ca, .ref ta, .int w, .int 0])), (xC, .inr (4, [.ref cw, .int cl, .int cb])), (cw, .inl (cT 0, 24, .inl cg))]) [0, 1, 2, 3] (by decide) rfl) rfl rfl) rfl rfl hl.1 rfl (lv_room (Nat.le_of_ble_eq_true rfl)) dL_count_4 ⟨Nat.le_of_ble_eq_true rfl, Nat.le_of_ble_eq_true rfl⟩) (fun ru1 u1 H locs hpu1 hP hD hS => ?_)
  have hP : va_P D vwCl [(zo, .inl (cT 1, 1, .inr (.inl zf))), (xT, .inr (2, [.ref ca, .ref ta, .int w, .int 0])), (x, .inr (0, [.ref xT, .ref xP, .ref xR, .ref xG, .ref xF, .int 0, .ref xO, .ref xS, .ref xL, .ref xC, .ref xQ, .ref xU, .ref xW])), (xC, .inr (4, [.ref cw, .int 0, .int 0])), (cw, .inl (cT 0, 24, .inl (upd (upd cg 0 1) 0 0)))] H := hP
  have hD : va_D A [(zo, .inl (cT 1, 1, .inr (.inl zf))), (xT, .inr (2, [.ref ca, .ref ta, .int w, .int 0])), (x, .inr (0, [.ref xT, .ref xP, .ref xR, .ref xG, .ref xF, .int 0, .ref xO, .ref xS, .ref xL, .ref xC, .ref xQ, .ref xU, .ref xW])), (xC, .inr (4, [.ref cw, .int 0, .int 0])), (cw, .inl (cT 0, 24, .inl (upd (upd cg 0 1) 0 0)))] := hD
  rw [hpu1]
  refine lv_i2l (v := 1) hx hb dL_count_7 (by decide) ?_
  refine va_last hx hb hK hP hD hS 0 1 rfl rfl (by unfold vp_in; decide) dL_count_8 (fun H locs hP hD hS => ?_)
  have hP : va_P D vwCl [(zo, .inl (cT 1, 1, .inr (.inl (vp_updL zf 0 1)))), (xT, .inr (2, [.ref ca, .ref ta, .int w, .int 0])), (x, .inr (0, [.ref xT, .ref xP, .ref xR, .ref xG, .ref xF, .int 0, .ref xO, .ref xS, .ref xL, .ref xC, .ref xQ, .ref xU, .ref xW])), (xC, .inr (4, [.ref cw, .int 0, .int 0])), (cw, .inl (cT 0, 24, .inl (upd (upd cg 0 1) 0 0)))] H := hP
  have hD : va_D A [(zo, .inl (cT 1, 1, .inr (.inl (vp_updL zf 0 1)))), (xT, .inr (2, [.ref ca, .ref ta, .int w, .int 0])), (x, .inr (0, [.ref xT, .ref xP, .ref xR, .ref xG, .ref xF, .int 0, .ref xO, .ref xS, .ref xL, .ref xC, .ref xQ, .ref xU, .ref xW])), (xC, .inr (4, [.ref cw, .int 0, .int 0])), (cw, .inl (cT 0, 24, .inl (upd (upd cg 0 1) 0 0)))] := hD
  refine lv_goto (tgt := 15) hx hb dL_count_9 rfl ?_
  refine lv_iconst (v := 0) hx hb dL_count_15 (by decide) ?_
  have hP9 := hP.sub (ws' := [(zo, .inl (cT 1, 1, .inr (.inl (vp_updL zf 0 1))))]) [0] rfl
  have hD9 := hD.sub (ws' := [(zo, .inl (cT 1, 1, .inr (.inl (vp_updL zf 0 1))))]) [0] (by decide) rfl
  refine W.widen (k := 0) (n := 0) (Nat.le_of_ble_eq_true rfl) (Nat.le_of_ble_eq_true rfl) ?_
  exact W.iret (v := 0) hx hb hr (fun t ht hW => ⟨⟨0, (fun _ => 0), rfl, rfl, by rw [ht]; exact hP9, hD9⟩, hS.F ht⟩) hS.2.2 dL_count_16
set_option maxHeartbeats 4000000 in
set_option maxRecDepth 100000 in
theorem l_count4 (l : Launch) (D : va_G) (cT : Nat → ClassId) (x : Nat) (xT : Nat) (xP : Nat) (xR : Nat) (xG : Nat) (xF : Nat) (tc : Int32) (xO : Nat) (xS : Nat) (xL : Nat) (xC : Nat) (xQ : Nat) (xU : Nat) (xW : Nat) (ob : Nat) (ol : Int32) (ou : Nat) (ow : Nat) (zo : Nat) (zf : Nat → Int64) (sz : Nat) : Met l yL_count WL_count ({ frames := 1, cells := 0, slots := 0, locals := 21 } : Room) (RW D vwCl [.ref x, .int 4, .ref zo] [(x, .inr (0, [.ref xT, .ref xP, .ref xR, .ref xG, .ref xF, .int tc, .ref xO, .ref xS, .ref xL, .ref xC, .ref xQ, .ref xU, .ref xW])), (xO, .inr (8, [.ref ob, .int ol, .ref ou, .ref ow])), (zo, .inl (cT 1, 1, .inr (.inl zf)))] (TY cT) sz) (va_Qi (fun (r : Int32) (_ : Nat → Nat) => r = 0) (BW D vwCl (va_A [(x, .inr (0, [.ref xT, .ref xP, .ref xR, .ref xG, .ref xF, .int tc, .ref xO, .ref xS, .ref xL, .ref xC, .ref xQ, .ref xU, .ref xW])), (xO, .inr (8, [.ref ob, .int ol, .ref ou, .ref ow])), (zo, .inl (cT 1, 1, .inr (.inl zf)))] sz) (fun u => [(zo, .inl (cT 1, 1, .inr (.inl (vp_updL zf 0 ((ol : Int32).toInt64)))))])) (va_A [(x, .inr (0, [.ref xT, .ref xP, .ref xR, .ref xG, .ref xF, .int tc, .ref xO, .ref xS, .ref xL, .ref xC, .ref xQ, .ref xU, .ref xW])), (xO, .inr (8, [.ref ob, .int ol, .ref ou, .ref ow])), (zo, .inl (cT 1, 1, .inr (.inl zf)))] sz)) 0 0 (va_A [(x, .inr (0, [.ref xT, .ref xP, .ref xR, .ref xG, .ref xF, .int tc, .ref xO, .ref xS, .ref xL, .ref xC, .ref xQ, .ref xU, .ref xW])), (xO, .inr (8, [.ref ob, .int ol, .ref ou, .ref ow])), (zo, .inl (cT 1, 1, .inr (.inl zf)))] sz) := by
  refine va_MetW (hh := [(0, 9, 12, 13)]) (cc := cL_count) (maxL := 4) (ret := (some .int)) (by decide) rfl ?_
  intro p e s m args below meth c s₁ B hml hv
  obtain ⟨rfl, hsz, hZ, hP, hK, hD0⟩ := hv
  have hx := B.exec
  have hb := B.bytes
  have hr := B.returns
  have hts := atoms_spec (ws := WL_count) B.pre
  have hT : ∀ w ∈ TB, w.before _ s = true := fun w h => hts w (List.mem_cons_of_mem _ h)
  have hown : s.vm.findClass R_L = some m.cls := findClass_of_methodNamed B.named
  have htab := tx_table B (bytes := cL_count) (maxL := 4) (ret := (some .int)) (hh := [(0, 9, 12, 13)]) (hts _ List.mem_cons_self)
  subst hsz
  have hD := hD0.self (sz := s.heap.size)
  generalize hAe : va_A [(x, .inr (0, [.ref xT, .ref xP, .ref xR, .ref xG, .ref xF, .int tc, .ref xO, .ref xS, .ref xL, .ref xC, .ref xQ, .ref xU, .ref xW])), (xO, .inr (8, [.ref ob, .int ol, .ref ou, .ref ow])), (zo, .inl (cT 1, 1, .inr (.inl zf)))] s.heap.size = A at hD hZ ⊢
  have hA : ∀ q : Nat, s.heap.size ≤ q → A q := fun q h => by rw [← hAe]; exact Or.inr h
  have hS : va_S A s.heap s.heap [] := va_S.rf
  have hl := lv_entry ([.ref x, .int 4, .ref zo]) (n := 4) (Nat.le_of_ble_eq_true rfl)
  rw [lg_entry_eq]
  generalize (lg_sl ([.ref x, .int 4, .ref zo]) ++ List.replicate (4 - (lg_sl ([.ref x, .int 4, .ref zo])).length) Slot.unset).toArray = ls at hl ⊢
  have hl : lv_has ls 4 [(0, .ref x), (1, .int 4), (2, .ref zo)] := hl
  refine lv_aload_n hx hb dL_count_0 rfl (lv_at hl 2 rfl) ?_
  refine lv_iconst (v := 0) hx hb dL_count_1 (by decide) ?_
  refine lv_aload_n hx hb dL_count_2 rfl (lv_at hl 0 rfl) ?_
  refine lv_iload_n hx hb dL_count_3 rfl (lv_at hl 1 rfl) ?_
  refine ro_i (va_Run.run (va_runV (As := [.int 4]) (rest := [.int 0, .ref zo]) ⟨hx, hb, hml, hown, hT⟩ (k_count4 l D cT x xT xP xR xG xF tc xO xS xL xC xQ xU xW ob ol ou ow) ⟨callB_of 1 hT (tb_gd w1012) rfl rfl rfl (hT _ w1) (hT _ w1009) hR_count ⟨Nat.le_of_ble_eq_true rfl, Nat.le_of_ble_eq_true rfl⟩, (hT _ w1010), (hT _ w1011)⟩ (RO.preV (ci := 0) (q0 := 0) hZ hS (hP.sub (ws' := [(x, .inr (0, [.ref xT, .ref xP, .ref xR, .ref xG, .ref xF, .int tc, .ref xO, .ref xS, .ref xL, .ref xC, .ref xQ, .ref xU, .ref xW])), (xO, .inr (8, [.ref ob, .int ol, .ref ou, .ref ow]))]) [0, 1] rfl) hK rfl rfl) rfl rfl hl.1 rfl (lv_room (Nat.le_of_ble_eq_true rfl)) dL_count_4 ⟨Nat.le_of_ble_eq_true rfl, Nat.le_of_ble_eq_true rfl⟩)) ?_
  refine lv_i2l hx hb dL_count_7 rfl ?_
  refine va_last hx hb hK hP hD hS 2 1 rfl rfl (by unfold vp_in; decide) dL_count_8 (fun H locs hP hD hS => ?_)
  have hP : va_P D vwCl [(x, .inr (0, [.ref xT, .ref xP, .ref xR, .ref xG, .ref xF, .int tc, .ref xO, .ref xS, .ref xL, .ref xC, .ref xQ, .ref xU, .ref xW])), (xO, .inr (8, [.ref ob, .int ol, .ref ou, .ref ow])), (zo, .inl (cT 1, 1, .inr (.inl (vp_updL zf 0 ((ol : Int32).toInt64)))))] H := hP
  have hD : va_D A [(x, .inr (0, [.ref xT, .ref xP, .ref xR, .ref xG, .ref xF, .int tc, .ref xO, .ref xS, .ref xL, .ref xC, .ref xQ, .ref xU, .ref xW])), (xO, .inr (8, [.ref ob, .int ol, .ref ou, .ref ow])), (zo, .inl (cT 1, 1, .inr (.inl (vp_updL zf 0 ((ol : Int32).toInt64)))))] := hD
  refine lv_goto (tgt := 15) hx hb dL_count_9 rfl ?_
  refine lv_iconst (v := 0) hx hb dL_count_15 (by decide) ?_
  have hP9 := hP.sub (ws' := [(zo, .inl (cT 1, 1, .inr (.inl (vp_updL zf 0 ((ol : Int32).toInt64)))))]) [2] rfl
  have hD9 := hD.sub (ws' := [(zo, .inl (cT 1, 1, .inr (.inl (vp_updL zf 0 ((ol : Int32).toInt64)))))]) [2] (by decide) rfl
  refine W.widen (k := 0) (n := 0) (Nat.le_of_ble_eq_true rfl) (Nat.le_of_ble_eq_true rfl) ?_
  exact W.iret (v := 0) hx hb hr (fun t ht hW => ⟨⟨0, (fun _ => 0), rfl, rfl, by rw [ht]; exact hP9, hD9⟩, hS.F ht⟩) hS.2.2 dL_count_16
