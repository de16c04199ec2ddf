set_option maxHeartbeats 4000000 in
set_option maxRecDepth 100000 in
theorem k_bitCount0 (l : Launch) (D : va_G) (cT : Nat → ClassId) : Met l yLg_bitCount WLg_bitCount ({ frames := 0, cells := 0, slots := 0, locals := 0 } : Room) (RO D vwCl [.long 0] [] (TY cT)) (QcRead 0) 0 0 (fun _ => False) := by
  refine Met.ofW (cc := cLg_bitCount) (maxL := 2) (ret := (some .int)) (by decide) rfl ?_
  intro p e s m args below meth c s₁ B hml hv
  obtain ⟨rfl, hZ, hP, hK⟩ := hv
  have hx := B.exec
  have hb := B.bytes
  have hr := B.returns
  have hts := atoms_spec (ws := WLg_bitCount) B.pre
  have hT : ∀ w ∈ TB, w.before _ s = true := fun w h => hts w (List.mem_cons_of_mem _ h)
  have hown : s.vm.findClass R_Lg = some m.cls := findClass_of_methodNamed B.named
  have hlocks := B.notSynchronized
  have hS : va_S (fun _ => False) s.heap s.heap [] := va_S.rf
  have hl := lv_entry ([.long 0]) (n := 2) (Nat.le_of_ble_eq_true rfl)
  rw [lg_entry_eq]
  generalize (lg_sl ([.long 0]) ++ List.replicate (2 - (lg_sl ([.long 0])).length) Slot.unset).toArray = ls at hl ⊢
  have hl : lv_has ls 2 [(0, .long 0)] := hl
  refine lv_lload_n hx hb dLg_bitCount_0 rfl (lv_at hl 0 rfl) ?_
  refine lv_lload_n hx hb dLg_bitCount_1 rfl (lv_at hl 0 rfl) ?_
  refine lv_iconst (v := 1) hx hb dLg_bitCount_2 (by decide) ?_
  refine lv_lushr (v := 0) hx hb dLg_bitCount_3 (by decide +kernel) ?_
  refine lv_ldc2 (v := 6148914691236517205) hx hb hown (hT _ w375) dLg_bitCount_4 ?_
  refine lv_land hx hb dLg_bitCount_7 ?_
  refine lv_topl (fun y9 e9 => ?_)
  cases (show y9 = 0 from e9.trans (by decide))
  refine lv_lsub hx hb dLg_bitCount_8 ?_
  refine lv_topl (fun y9 e9 => ?_)
  cases (show y9 = 0 from e9.trans (by decide))
  refine lv_lstore_n hx hb dLg_bitCount_9 rfl hl (by decide) rfl (fun ls hl => ?_)
  have hl : lv_has ls 2 [(0, .long 0)] := hl
  refine lv_lload_n hx hb dLg_bitCount_10 rfl (lv_at hl 0 rfl) ?_
  refine lv_ldc2 (v := 3689348814741910323) hx hb hown (hT _ w376) dLg_bitCount_11 ?_
  refine lv_land hx hb dLg_bitCount_14 ?_
  refine lv_topl (fun y9 e9 => ?_)
  cases (show y9 = 0 from e9.trans (by decide))
  refine lv_lload_n hx hb dLg_bitCount_15 rfl (lv_at hl 0 rfl) ?_
  refine lv_iconst (v := 2) hx hb dLg_bitCount_16 (by decide) ?_
  refine lv_lushr (v := 0) hx hb dLg_bitCount_17 (by decide +kernel) ?_
  refine lv_ldc2 (v := 3689348814741910323) hx hb hown (hT _ w376) dLg_bitCount_18 ?_
  refine lv_land hx hb dLg_bitCount_21 ?_
  refine lv_topl (fun y9 e9 => ?_)
  cases (show y9 = 0 from e9.trans (by decide))
  refine lv_ladd hx hb dLg_bitCount_22 ?_
  refine lv_topl (fun y9 e9 => ?_)
  cases (show y9 = 0 from e9.trans (by decide))
  refine lv_lstore_n hx hb dLg_bitCount_23 rfl hl (by decide) rfl (fun ls hl => ?_)
  have hl : lv_has ls 2 [(0, .long 0)] := hl
  refine lv_lload_n hx hb dLg_bitCount_24 rfl (lv_at hl 0 rfl) ?_
  refine lv_lload_n hx hb dLg_bitCount_25 rfl (lv_at hl 0 rfl) ?_
  refine lv_iconst (v := 4) hx hb dLg_bitCount_26 (by decide) ?_
  refine lv_lushr (v := 0) hx hb dLg_bitCount_27 (by decide +kernel) ?_
  refine lv_ladd hx hb dLg_bitCount_28 ?_
  refine lv_topl (fun y9 e9 => ?_)
  cases (show y9 = 0 from e9.trans (by decide))
  refine lv_ldc2 (v := 1085102592571150095) hx hb hown (hT _ w377) dLg_bitCount_29 ?_
  refine lv_land hx hb dLg_bitCount_32 ?_
  refine lv_topl (fun y9 e9 => ?_)
  cases (show y9 = 0 from e9.trans (by decide))
  refine lv_lstore_n hx hb dLg_bitCount_33 rfl hl (by decide) rfl (fun ls hl => ?_)
  have hl : lv_has ls 2 [(0, .long 0)] := hl
  refine lv_lload_n hx hb dLg_bitCount_34 rfl (lv_at hl 0 rfl) ?_
  refine lv_lload_n hx hb dLg_bitCount_35 rfl (lv_at hl 0 rfl) ?_
  refine lv_bipush (v := 8) hx hb dLg_bitCount_36 (by decide) ?_
  refine lv_lushr (v := 0) hx hb dLg_bitCount_38 (by decide +kernel) ?_
  refine lv_ladd hx hb dLg_bitCount_39 ?_
  refine lv_topl (fun y9 e9 => ?_)
  cases (show y9 = 0 from e9.trans (by decide))
  refine lv_lstore_n hx hb dLg_bitCount_40 rfl hl (by decide) rfl (fun ls hl => ?_)
  have hl : lv_has ls 2 [(0, .long 0)] := hl
  refine lv_lload_n hx hb dLg_bitCount_41 rfl (lv_at hl 0 rfl) ?_
  refine lv_lload_n hx hb dLg_bitCount_42 rfl (lv_at hl 0 rfl) ?_
  refine lv_bipush (v := 16) hx hb dLg_bitCount_43 (by decide) ?_
  refine lv_lushr (v := 0) hx hb dLg_bitCount_45 (by decide +kernel) ?_
  refine lv_ladd hx hb dLg_bitCount_46 ?_
  refine lv_topl (fun y9 e9 => ?_)
  cases (show y9 = 0 from e9.trans (by decide))
  refine lv_lstore_n hx hb dLg_bitCount_47 rfl hl (by decide) rfl (fun ls hl => ?_)
  have hl : lv_has ls 2 [(0, .long 0)] := hl
  refine lv_lload_n hx hb dLg_bitCount_48 rfl (lv_at hl 0 rfl) ?_
  refine lv_lload_n hx hb dLg_bitCount_49 rfl (lv_at hl 0 rfl) ?_
  refine lv_bipush (v := 32) hx hb dLg_bitCount_50 (by decide) ?_
  refine lv_lushr (v := 0) hx hb dLg_bitCount_52 (by decide +kernel) ?_
  refine lv_ladd hx hb dLg_bitCount_53 ?_
  refine lv_topl (fun y9 e9 => ?_)
  cases (show y9 = 0 from e9.trans (by decide))
  refine lv_lstore_n hx hb dLg_bitCount_54 rfl hl (by decide) rfl (fun ls hl => ?_)
  have hl : lv_has ls 2 [(0, .long 0)] := hl
  refine lv_lload_n hx hb dLg_bitCount_55 rfl (lv_at hl 0 rfl) ?_
  refine lv_l2i (v := 0) hx hb dLg_bitCount_56 (by decide) ?_
  refine lv_bipush (v := 127) hx hb dLg_bitCount_57 (by decide) ?_
  refine lv_iand hx hb dLg_bitCount_59 ?_
  refine lv_topi (fun y9 e9 => ?_)
  cases (show y9 = 0 from e9.trans (by decide))
  exact W.iret (v := 0) hx hb hr (fun t ht hW => ⟨rfl, ht⟩) (fun q h => nomatch h) dLg_bitCount_60
set_option maxHeartbeats 4000000 in
set_option maxRecDepth 100000 in
theorem k_begin_ok (l : Launch) (D : va_G) (cT : Nat → ClassId) (x : Nat) (xT : Nat) (xP : Nat) (xR : Nat) (xG : Nat) (xF : Nat) (tc : Int32) (xO : Nat) (xS : Nat) (xL : Nat) (xC : Nat) (xQ : Nat) (xU : Nat) (xW : Nat) (ca : Nat) (ta : Nat) (w : Int32) (r : Int32) (cf : Nat → Option Nat) (c0 : Nat) (v0 : Nat) (ed0 : Nat) (n0 : Int32) (k0 : Int32) (f0 : Nat → Int32) (c1 : Nat) (v1 : Nat) (ed1 : Nat) (n1 : Int32) (k1 : Int32) (f1 : Nat → Int32) (c2 : Nat) (v2 : Nat) (ed2 : Nat) (n2 : Int32) (k2 : Int32) (f2 : Nat → Int32) (c3 : Nat) (v3 : Nat) (ed3 : Nat) (n3 : Int32) (k3 : Int32) (f3 : Nat → Int32) (c4 : Nat) (v4 : Nat) (ed4 : Nat) (n4 : Int32) (k4 : Int32) (f4 : Nat → Int32) (c5 : Nat) (v5 : Nat) (ed5 : Nat) (n5 : Int32) (k5 : Int32) (f5 : Nat → Int32) (pd : Int32) (pl : Int32) (pw : Int32) (pu : Int32) (pv : Int32) (ps : Int64) (pc0 : Int32) (ob : Nat) (ol : Int32) (ou : Nat) (ow : Nat) (a1 : Int32) (hq : 1 ≤ a1 ∧ a1 ≤ 6) (hf0 : cf 0 = some c0) (hf1 : cf 1 = some c1) (hf2 : cf 2 = some c2) (hf3 : cf 3 = some c3) (hf4 : cf 4 = some c4) (hf5 : cf 5 = some c5) (hk0 : narrow .boolean (.int k0) = .int k0) (hk1 : narrow .boolean (.int k1) = .int k1) (hk2 : narrow .boolean (.int k2) = .int k2) (hk3 : narrow .boolean (.int k3) = .int k3) (hk4 : narrow .boolean (.int k4) = .int k4) (hk5 : narrow .boolean (.int k5) = .int k5) (sz : Nat) : Met l yR_begin WR_begin ({ frames := 3, cells := 0, slots := 0, locals := 68 } : Room) (RW D vwCl [.ref x, .int a1] [(x, .inr (0, [.ref xT, .ref xP, .ref xR, .ref xG, .ref xF, .int tc, .ref xO, .ref xS, .ref xL, .ref xC, .ref xQ, .ref xU, .ref xW])), (xT, .inr (2, [.ref ca, .ref ta, .int w, .int r])), (ca, .inl (cT 5, 6, .inr (.inr (.inr (.inr cf))))), (c0, .inr (1, [.ref v0, .ref ed0, .int n0, .int k0])), (v0, .inl (cT 0, 49, .inl f0)), (c1, .inr (1, [.ref v1, .ref ed1, .int n1, .int k1])), (v1, .inl (cT 0, 49, .inl f1)), (c2, .inr (1, [.ref v2, .ref ed2, .int n2, .int k2])), (v2, .inl (cT 0, 49, .inl f2)), (c3, .inr (1, [.ref v3, .ref ed3, .int n3, .int k3])), (v3, .inl (cT 0, 49, .inl f3)), (c4, .inr (1, [.ref v4, .ref ed4, .int n4, .int k4])), (v4, .inl (cT 0, 49, .inl f4)), (c5, .inr (1, [.ref v5, .ref ed5, .int n5, .int k5])), (v5, .inl (cT 0, 49, .inl f5)), (xP, .inr (3, [.int pd, .int pl, .int pw, .int pu, .int pv, .long ps, .int pc0])), (xO, .inr (8, [.ref ob, .int ol, .ref ou, .ref ow]))] (TY cT) sz) (va_Qv (fun _ : Nat → Nat => True) (BW D vwCl (va_A [(x, .inr (0, [.ref xT, .ref xP, .ref xR, .ref xG, .ref xF, .int tc, .ref xO, .ref xS, .ref xL, .ref xC, .ref xQ, .ref xU, .ref xW])), (xT, .inr (2, [.ref ca, .ref ta, .int w, .int r])), (ca, .inl (cT 5, 6, .inr (.inr (.inr (.inr cf))))), (c0, .inr (1, [.ref v0, .ref ed0, .int n0, .int k0])), (v0, .inl (cT 0, 49, .inl f0)), (c1, .inr (1, [.ref v1, .ref ed1, .int n1, .int k1])), (v1, .inl (cT 0, 49, .inl f1)), (c2, .inr (1, [.ref v2, .ref ed2, .int n2, .int k2])), (v2, .inl (cT 0, 49, .inl f2)), (c3, .inr (1, [.ref v3, .ref ed3, .int n3, .int k3])), (v3, .inl (cT 0, 49, .inl f3)), (c4, .inr (1, [.ref v4, .ref ed4, .int n4, .int k4])), (v4, .inl (cT 0, 49, .inl f4)), (c5, .inr (1, [.ref v5, .ref ed5, .int n5, .int k5])), (v5, .inl (cT 0, 49, .inl f5)), (xP, .inr (3, [.int pd, .int pl, .int pw, .int pu, .int pv, .long ps, .int pc0])), (xO, .inr (8, [.ref ob, .int ol, .ref ou, .ref ow]))] sz) (fun u => [(x, .inr (0, [.ref xT, .ref xP, .ref xR, .ref xG, .ref xF, .int 0, .ref xO, .ref xS, .ref xL, .ref xC, .ref xQ, .ref xU, .ref xW])), (xO, .inr (8, [.ref ob, .int 0, .ref ou, .ref ow])), (xT, .inr (2, [.ref ca, .ref ta, .int a1, .int 0])), (ca, .inl (cT 5, 6, .inr (.inr (.inr (.inr cf))))), (v0, .inl (cT 0, 49, .inl (upd f0 48 (-2147483648)))), (v1, .inl (cT 0, 49, .inl (upd f1 48 (-2147483648)))), (v2, .inl (cT 0, 49, .inl (upd f2 48 (-2147483648)))), (v3, .inl (cT 0, 49, .inl (upd f3 48 (-2147483648)))), (v4, .inl (cT 0, 49, .inl (upd f4 48 (-2147483648)))), (v5, .inl (cT 0, 49, .inl (upd f5 48 (-2147483648)))), (c0, .inr (1, [.ref v0, .ref ed0, .int 0, .int 0])), (c1, .inr (1, [.ref v1, .ref ed1, .int 0, .int 0])), (c2, .inr (1, [.ref v2, .ref ed2, .int 0, .int 0])), (c3, .inr (1, [.ref v3, .ref ed3, .int 0, .int 0])), (c4, .inr (1, [.ref v4, .ref ed4, .int 0, .int 0])), (c5, .inr (1, [.ref v5, .ref ed5, .int 0, .int 0])), (xP, .inr (3, [.int 2, .int 1, .int 0, .int 1, .int 2, .long (-1), .int (-1)]))])) (va_A [(x, .inr (0, [.ref xT, .ref xP, .ref xR, .ref xG, .ref xF, .int tc, .ref xO, .ref xS, .ref xL, .ref xC, .ref xQ, .ref xU, .ref xW])), (xT, .inr (2, [.ref ca, .ref ta, .int w, .int r])), (ca, .inl (cT 5, 6, .inr (.inr (.inr (.inr cf))))), (c0, .inr (1, [.ref v0, .ref ed0, .int n0, .int k0])), (v0, .inl (cT 0, 49, .inl f0)), (c1, .inr (1, [.ref v1, .ref ed1, .int n1, .int k1])), (v1, .inl (cT 0, 49, .inl f1)), (c2, .inr (1, [.ref v2, .ref ed2, .int n2, .int k2])), (v2, .inl (cT 0, 49, .inl f2)), (c3, .inr (1, [.ref v3, .ref ed3, .int n3, .int k3])), (v3, .inl (cT 0, 49, .inl f3)), (c4, .inr (1, [.ref v4, .ref ed4, .int n4, .int k4])), (v4, .inl (cT 0, 49, .inl f4)), (c5, .inr (1, [.ref v5, .ref ed5, .int n5, .int k5])), (v5, .inl (cT 0, 49, .inl f5)), (xP, .inr (3, [.int pd, .int pl, .int pw, .int pu, .int pv, .long ps, .int pc0])), (xO, .inr (8, [.ref ob, .int ol, .ref ou, .ref ow]))] sz)) 0 0 (va_A [(x, .inr (0, [.ref xT, .ref xP, .ref xR, .ref xG, .ref xF, .int tc, .ref xO, .ref xS, .ref xL, .ref xC, .ref xQ, .ref xU, .ref xW])), (xT, .inr (2, [.ref ca, .ref ta, .int w, .int r])), (ca, .inl (cT 5, 6, .inr (.inr (.inr (.inr cf))))), (c0, .inr (1, [.ref v0, .ref ed0, .int n0, .int k0])), (v0, .inl (cT 0, 49, .inl f0)), (c1, .inr (1, [.ref v1, .ref ed1, .int n1, .int k1])), (v1, .inl (cT 0, 49, .inl f1)), (c2, .inr (1, [.ref v2, .ref ed2, .int n2, .int k2])), (v2, .inl (cT 0, 49, .inl f2)), (c3, .inr (1, [.ref v3, .ref ed3, .int n3, .int k3])), (v3, .inl (cT 0, 49, .inl f3)), (c4, .inr (1, [.ref v4, .ref ed4, .int n4, .int k4])), (v4, .inl (cT 0, 49, .inl f4)), (c5, .inr (1, [.ref v5, .ref ed5, .int n5, .int k5])), (v5, .inl (cT 0, 49, .inl f5)), (xP, .inr (3, [.int pd, .int pl, .int pw, .int pu, .int pv, .long ps, .int pc0])), (xO, .inr (8, [.ref ob, .int ol, .ref ou, .ref ow]))] sz) := by
  refine Met.ofW (cc := cR_begin) (maxL := 2) (ret := none) (by decide) rfl ?_
  intro p e s m args below meth c s₁ B hml hv
  obtain ⟨rfl, hsz, hZ, hP, hK, hD0⟩ := hv
  have hx := B.exec
  have hb := B.bytes
  have hr := B.returns
  have hts := atoms_spec (ws := WR_begin) B.pre
  have hT : ∀ w ∈ TB, w.before _ s = true := fun w h => hts w (List.mem_cons_of_mem _ h)
  have hown : s.vm.findClass R_R = some m.cls := findClass_of_methodNamed B.named
  have hlocks := B.notSynchronized
  subst hsz
  have hD := hD0.self (sz := s.heap.size)
  generalize hAe : va_A [(x, .inr (0, [.ref xT, .ref xP, .ref xR, .ref xG, .ref xF, .int tc, .ref xO, .ref xS, .ref xL, .ref xC, .ref xQ, .ref xU, .ref xW])), (xT, .inr (2, [.ref ca, .ref ta, .int w, .int r])), (ca, .inl (cT 5, 6, .inr (.inr (.inr (.inr cf))))), (c0, .inr (1, [.ref v0, .ref ed0, .int n0, .int k0])), (v0, .inl (cT 0, 49, .inl f0)), (c1, .inr (1, [.ref v1, .ref ed1, .int n1, .int k1])), (v1, .inl (cT 0, 49, .inl f1)), (c2, .inr (1, [.ref v2, .ref ed2, .int n2, .int k2])), (v2, .inl (cT 0, 49, .inl f2)), (c3, .inr (1, [.ref v3, .ref ed3, .int n3, .int k3])), (v3, .inl (cT 0, 49, .inl f3)), (c4, .inr (1, [.ref v4, .ref ed4, .int n4, .int k4])), (v4, .inl (cT 0, 49, .inl f4)), (c5, .inr (1, [.ref v5, .ref ed5, .int n5, .int k5])), (v5, .inl (cT 0, 49, .inl f5)), (xP, .inr (3, [.int pd, .int pl, .int pw, .int pu, .int pv, .long ps, .int pc0])), (xO, .inr (8, [.ref ob, .int ol, .ref ou, .ref ow]))] s.heap.size = A at hD hZ ⊢
  have hA : ∀ q : Nat, s.heap.size ≤ q → A q := fun q h => by rw [← hAe]; exact Or.inr h
  have hS : va_S A s.heap s.heap [] := va_S.rf
  have hl := lv_entry ([.ref x, .int a1]) (n := 2) (Nat.le_of_ble_eq_true rfl)
  rw [lg_entry_eq]
  generalize (lg_sl ([.ref x, .int a1]) ++ List.replicate (2 - (lg_sl ([.ref x, .int a1])).length) Slot.unset).toArray = ls at hl ⊢
  have hl : lv_has ls 2 [(0, .ref x), (1, .int a1)] := hl
  refine lv_iload_n hx hb dR_begin_0 rfl (lv_at hl 1 rfl) ?_
  refine lv_iconst (v := 1) hx hb dR_begin_1 (by decide) ?_
  refine lv_bipush (v := 6) hx hb dR_begin_2 (by decide) ?_
  refine ro_i (va_Run.run (va_runS (As := [.int a1, .int 1, .int 6]) (rest := []) ⟨hx, hb, hml, hown, hT⟩ (k_isWithin l D cT a1 1 6) ⟨callB_of 3 hT (tb_gd w499) rfl rfl rfl (hT _ w1) (hT _ w497) hR_isWithin ⟨Nat.le_of_ble_eq_true rfl, Nat.le_of_ble_eq_true rfl⟩, (hT _ w498)⟩ (RO.preS hZ hS ((show va_P D vwCl [] _ from fun _ _ h => nomatch h)) hK) rfl rfl hl.1 rfl (lv_room (Nat.le_of_ble_eq_true rfl)) dR_begin_4 ⟨Nat.le_of_ble_eq_true rfl, Nat.le_of_ble_eq_true rfl⟩)) ?_
  refine ro_v (va_Run.run (va_runS (As := [.int (bi (1 ≤ a1 ∧ a1 ≤ 6))]) (rest := []) ⟨hx, hb, hml, hown, hT⟩ (k_demand_ok l D cT (bi (1 ≤ a1 ∧ a1 ≤ 6)) (by rw [bi_t hq]; decide)) ⟨callB_of 1 hT (tb_gd w510) rfl rfl rfl (hT _ w1) (hT _ w508) hR_demand ⟨Nat.le_of_ble_eq_true rfl, Nat.le_of_ble_eq_true rfl⟩, (hT _ w509)⟩ (RO.preS hZ hS ((show va_P D vwCl [] _ from fun _ _ h => nomatch h)) hK) rfl rfl hl.1 rfl (lv_room (Nat.le_of_ble_eq_true rfl)) dR_begin_7 ⟨Nat.le_of_ble_eq_true rfl, Nat.le_of_ble_eq_true rfl⟩)) ?_
  refine lv_aload_n hx hb dR_begin_10 rfl (lv_at hl 0 rfl) ?_
  refine lv_iload_n hx hb dR_begin_11 rfl (lv_at hl 1 rfl) ?_
  refine rw_v (wc := [(x, .inr (0, [.ref xT, .ref xP, .ref xR, .ref xG, .ref xF, .int tc, .ref xO, .ref xS, .ref xL, .ref xC, .ref xQ, .ref xU, .ref xW])), (xT, .inr (2, [.ref ca, .ref ta, .int w, .int r])), (ca, .inl (cT 5, 6, .inr (.inr (.inr (.inr cf))))), (c0, .inr (1, [.ref v0, .ref ed0, .int n0, .int k0])), (v0, .inl (cT 0, 49, .inl f0)), (c1, .inr (1, [.ref v1, .ref ed1, .int n1, .int k1])), (v1, .inl (cT 0, 49, .inl f1)), (c2, .inr (1, [.ref v2, .ref ed2, .int n2, .int k2])), (v2, .inl (cT 0, 49, .inl f2)), (c3, .inr (1, [.ref v3, .ref ed3, .int n3, .int k3])), (v3, .inl (cT 0, 49, .inl f3)), (c4, .inr (1, [.ref v4, .ref ed4, .int n4, .int k4])), (v4, .inl (cT 0, 49, .inl f4)), (c5, .inr (1, [.ref v5, .ref ed5, .int n5, .int k5])), (v5, .inl (cT 0, 49, .inl f5)), (xP, .inr (3, [.int pd, .int pl, .int pw, .int pu, .int pv, .long ps, .int pc0])), (xO, .inr (8, [.ref ob, .int ol, .ref ou, .ref ow]))]) (wr := []) hP hD hS hA [0, 1, 2, 3, 4, 5, 6, 7, 8, 9, 10, 11, 12, 13, 14, 15, 16] [] rfl rfl (by decide) (by decide) (va_runV (As := [.int a1]) (rest := []) ⟨hx, hb, hml, hown, hT⟩ (k_startOver l D cT x xT xP xR xG xF tc xO xS xL xC xQ xU xW ca ta w r cf c0 v0 ed0 n0 k0 f0 c1 v1 ed1 n1 k1 f1 c2 v2 ed2 n2 k2 f2 c3 v3 ed3 n3 k3 f3 c4 v4 ed4 n4 k4 f4 c5 v5 ed5 n5 k5 f5 pd pl pw pu pv ps pc0 ob ol ou ow a1 hf0 hf1 hf2 hf3 hf4 hf5 hk0 hk1 hk2 hk3 hk4 hk5 _) ⟨callB_of 1 hT (tb_gd w309) rfl rfl rfl (hT _ w1) (hT _ w306) hR_startOver ⟨Nat.le_of_ble_eq_true rfl, Nat.le_of_ble_eq_true rfl⟩, (hT _ w308), (hT _ wp0)⟩ (RW.preV (ci := 0) (q0 := 0) hZ hS (va_free (wc := [(x, .inr (0, [.ref xT, .ref xP, .ref xR, .ref xG, .ref xF, .int tc, .ref xO, .ref xS, .ref xL, .ref xC, .ref xQ, .ref xU, .ref xW])), (xT, .inr (2, [.ref ca, .ref ta, .int w, .int r])), (ca, .inl (cT 5, 6, .inr (.inr (.inr (.inr cf))))), (c0, .inr (1, [.ref v0, .ref ed0, .int n0, .int k0])), (v0, .inl (cT 0, 49, .inl f0)), (c1, .inr (1, [.ref v1, .ref ed1, .int n1, .int k1])), (v1, .inl (cT 0, 49, .inl f1)), (c2, .inr (1, [.ref v2, .ref ed2, .int n2, .int k2])), (v2, .inl (cT 0, 49, .inl f2)), (c3, .inr (1, [.ref v3, .ref ed3, .int n3, .int k3])), (v3, .inl (cT 0, 49, .inl f3)), (c4, .inr (1, [.ref v4, .ref ed4, .int n4, .int k4])), (v4, .inl (cT 0, 49, .inl f4)), (c5, .inr (1, [.ref v5, .ref ed5, .int n5, .int k5])), (v5, .inl (cT 0, 49, .inl f5)), (xP, .inr (3, [.int pd, .int pl, .int pw, .int pu, .int pv, .long ps, .int pc0])), (xO, .inr (8, [.ref ob, .int ol, .ref ou, .ref ow]))]) hD hS hA [0, 1, 2, 3, 4, 5, 6, 7, 8, 9, 10, 11, 12, 13, 14, 15, 16] rfl) (hP.sub (ws' := [(x, .inr (0, [.ref xT, .ref xP, .ref xR, .ref xG, .ref xF, .int tc, .ref xO, .ref xS, .ref xL, .ref xC, .ref xQ, .ref xU, .ref xW])), (xT, .inr (2, [.ref ca, .ref ta, .int w, .int r])), (ca, .inl (cT 5, 6, .inr (.inr (.inr (.inr cf))))), (c0, .inr (1, [.ref v0, .ref ed0, .int n0, .int k0])), (v0, .inl (cT 0, 49, .inl f0)), (c1, .inr (1, [.ref v1, .ref ed1, .int n1, .int k1])), (v1, .inl (cT 0, 49, .inl f1)), (c2, .inr (1, [.ref v2, .ref ed2, .int n2, .int k2])), (v2, .inl (cT 0, 49, .inl f2)), (c3, .inr (1, [.ref v3, .ref ed3, .int n3, .int k3])), (v3, .inl (cT 0, 49, .inl f3)), (c4, .inr (1, [.ref v4, .ref ed4, .int n4, .int k4])), (v4, .inl (cT 0, 49, .inl f4)), (c5, .inr (1, [.ref v5, .ref ed5, .int n5, .int k5])), (v5, .inl (cT 0, 49, .inl f5)), (xP, .inr (3, [.int pd, .int pl, .int pw, .int pu, .int pv, .long ps, .int pc0])), (xO, .inr (8, [.ref ob, .int ol, .ref ou, .ref ow]))]) [0, 1, 2, 3, 4, 5, 6, 7, 8, 9, 10, 11, 12, 13, 14, 15, 16] rfl) hK (hD.sub (ws' := [(x, .inr (0, [.ref xT, .ref xP, .ref xR, .ref xG, .ref xF, .int tc, .ref xO, .ref xS, .ref xL, .ref xC, .ref xQ, .ref xU, .ref xW])), (xT, .inr (2, [.ref ca, .ref ta, .int w, .int r])), (ca, .inl (cT 5, 6, .inr (.inr (.inr (.inr cf))))), (c0, .inr (1, [.ref v0, .ref ed0, .int n0, .int k0])), (v0, .inl (cT 0, 49, .inl f0)), (c1, .inr (1, [.ref v1, .ref ed1, .int n1, .int k1])), (v1, .inl (cT 0, 49, .inl f1)), (c2, .inr (1, [.ref v2, .ref ed2, .int n2, .int k2])), (v2, .inl (cT 0, 49, .inl f2)), (c3, .inr (1, [.ref v3, .ref ed3, .int n3, .int k3])), (v3, .inl (cT 0, 49, .inl f3)), (c4, .inr (1, [.ref v4, .ref ed4, .int n4, .int k4])), (v4, .inl (cT 0, 49, .inl f4)), (c5, .inr (1, [.ref v5, .ref ed5, .int n5, .int k5])), (v5, .inl (cT 0, 49, .inl f5)), (xP, .inr (3, [.int pd, .int pl, .int pw, .int pu, .int pv, .long ps, .int pc0])), (xO, .inr (8, [.ref ob, .int ol, .ref ou, .ref ow]))]) [0, 1, 2, 3, 4, 5, 6, 7, 8, 9, 10, 11, 12, 13, 14, 15, 16] (by decide) rfl) rfl rfl) rfl rfl hl.1 rfl (lv_room (Nat.le_of_ble_eq_true rfl)) dR_begin_12 ⟨Nat.le_of_ble_eq_true rfl, Nat.le_of_ble_eq_true rfl⟩) (fun u1 H locs hpu1 hP hD hS => ?_)
  have hP : va_P D vwCl [(x, .inr (0, [.ref xT, .ref xP, .ref xR, .ref xG, .ref xF, .int 0, .ref xO, .ref xS, .ref xL, .ref xC, .ref xQ, .ref xU, .ref xW])), (xO, .inr (8, [.ref ob, .int 0, .ref ou, .ref ow])), (xT, .inr (2, [.ref ca, .ref ta, .int a1, .int 0])), (ca, .inl (cT 5, 6, .inr (.inr (.inr (.inr cf))))), (v0, .inl (cT 0, 49, .inl (upd f0 48 (-2147483648)))), (v1, .inl (cT 0, 49, .inl (upd f1 48 (-2147483648)))), (v2, .inl (cT 0, 49, .inl (upd f2 48 (-2147483648)))), (v3, .inl (cT 0, 49, .inl (upd f3 48 (-2147483648)))), (v4, .inl (cT 0, 49, .inl (upd f4 48 (-2147483648)))), (v5, .inl (cT 0, 49, .inl (upd f5 48 (-2147483648)))), (c0, .inr (1, [.ref v0, .ref ed0, .int 0, .int 0])), (c1, .inr (1, [.ref v1, .ref ed1, .int 0, .int 0])), (c2, .inr (1, [.ref v2, .ref ed2, .int 0, .int 0])), (c3, .inr (1, [.ref v3, .ref ed3, .int 0, .int 0])), (c4, .inr (1, [.ref v4, .ref ed4, .int 0, .int 0])), (c5, .inr (1, [.ref v5, .ref ed5, .int 0, .int 0])), (xP, .inr (3, [.int 2, .int 1, .int 0, .int 1, .int 2, .long (-1), .int (-1)]))] H := hP
  have hD : va_D A [(x, .inr (0, [.ref xT, .ref xP, .ref xR, .ref xG, .ref xF, .int 0, .ref xO, .ref xS, .ref xL, .ref xC, .ref xQ, .ref xU, .ref xW])), (xO, .inr (8, [.ref ob, .int 0, .ref ou, .ref ow])), (xT, .inr (2, [.ref ca, .ref ta, .int a1, .int 0])), (ca, .inl (cT 5, 6, .inr (.inr (.inr (.inr cf))))), (v0, .inl (cT 0, 49, .inl (upd f0 48 (-2147483648)))), (v1, .inl (cT 0, 49, .inl (upd f1 48 (-2147483648)))), (v2, .inl (cT 0, 49, .inl (upd f2 48 (-2147483648)))), (v3, .inl (cT 0, 49, .inl (upd f3 48 (-2147483648)))), (v4, .inl (cT 0, 49, .inl (upd f4 48 (-2147483648)))), (v5, .inl (cT 0, 49, .inl (upd f5 48 (-2147483648)))), (c0, .inr (1, [.ref v0, .ref ed0, .int 0, .int 0])), (c1, .inr (1, [.ref v1, .ref ed1, .int 0, .int 0])), (c2, .inr (1, [.ref v2, .ref ed2, .int 0, .int 0])), (c3, .inr (1, [.ref v3, .ref ed3, .int 0, .int 0])), (c4, .inr (1, [.ref v4, .ref ed4, .int 0, .int 0])), (c5, .inr (1, [.ref v5, .ref ed5, .int 0, .int 0])), (xP, .inr (3, [.int 2, .int 1, .int 0, .int 1, .int 2, .long (-1), .int (-1)]))] := hD
  have hP9 := hP.sub (ws' := [(x, .inr (0, [.ref xT, .ref xP, .ref xR, .ref xG, .ref xF, .int 0, .ref xO, .ref xS, .ref xL, .ref xC, .ref xQ, .ref xU, .ref xW])), (xO, .inr (8, [.ref ob, .int 0, .ref ou, .ref ow])), (xT, .inr (2, [.ref ca, .ref ta, .int a1, .int 0])), (ca, .inl (cT 5, 6, .inr (.inr (.inr (.inr cf))))), (v0, .inl (cT 0, 49, .inl (upd f0 48 (-2147483648)))), (v1, .inl (cT 0, 49, .inl (upd f1 48 (-2147483648)))), (v2, .inl (cT 0, 49, .inl (upd f2 48 (-2147483648)))), (v3, .inl (cT 0, 49, .inl (upd f3 48 (-2147483648)))), (v4, .inl (cT 0, 49, .inl (upd f4 48 (-2147483648)))), (v5, .inl (cT 0, 49, .inl (upd f5 48 (-2147483648)))), (c0, .inr (1, [.ref v0, .ref ed0, .int 0, .int 0])), (c1, .inr (1, [.ref v1, .ref ed1, .int 0, .int 0])), (c2, .inr (1, [.ref v2, .ref ed2, .int 0, .int 0])), (c3, .inr (1, [.ref v3, .ref ed3, .int 0, .int 0])), (c4, .inr (1, [.ref v4, .ref ed4, .int 0, .int 0])), (c5, .inr (1, [.ref v5, .ref ed5, .int 0, .int 0])), (xP, .inr (3, [.int 2, .int 1, .int 0, .int 1, .int 2, .long (-1), .int (-1)]))]) [0, 1, 2, 3, 4, 5, 6, 7, 8, 9, 10, 11, 12, 13, 14, 15, 16] rfl
  have hD9 := hD.sub (ws' := [(x, .inr (0, [.ref xT, .ref xP, .ref xR, .ref xG, .ref xF, .int 0, .ref xO, .ref xS, .ref xL, .ref xC, .ref xQ, .ref xU, .ref xW])), (xO, .inr (8, [.ref ob, .int 0, .ref ou, .ref ow])), (xT, .inr (2, [.ref ca, .ref ta, .int a1, .int 0])), (ca, .inl (cT 5, 6, .inr (.inr (.inr (.inr cf))))), (v0, .inl (cT 0, 49, .inl (upd f0 48 (-2147483648)))), (v1, .inl (cT 0, 49, .inl (upd f1 48 (-2147483648)))), (v2, .inl (cT 0, 49, .inl (upd f2 48 (-2147483648)))), (v3, .inl (cT 0, 49, .inl (upd f3 48 (-2147483648)))), (v4, .inl (cT 0, 49, .inl (upd f4 48 (-2147483648)))), (v5, .inl (cT 0, 49, .inl (upd f5 48 (-2147483648)))), (c0, .inr (1, [.ref v0, .ref ed0, .int 0, .int 0])), (c1, .inr (1, [.ref v1, .ref ed1, .int 0, .int 0])), (c2, .inr (1, [.ref v2, .ref ed2, .int 0, .int 0])), (c3, .inr (1, [.ref v3, .ref ed3, .int 0, .int 0])), (c4, .inr (1, [.ref v4, .ref ed4, .int 0, .int 0])), (c5, .inr (1, [.ref v5, .ref ed5, .int 0, .int 0])), (xP, .inr (3, [.int 2, .int 1, .int 0, .int 1, .int 2, .long (-1), .int (-1)]))]) [0, 1, 2, 3, 4, 5, 6, 7, 8, 9, 10, 11, 12, 13, 14, 15, 16] (by decide) rfl
  refine W.widen (k := 0) (n := 0) (Nat.le_of_ble_eq_true rfl) (Nat.le_of_ble_eq_true rfl) ?_
  exact W.vret hx hb hr (fun t ht hW => ⟨⟨(fun _ => 0), rfl, trivial, by rw [ht]; exact hP9, hD9⟩, hS.F ht⟩) hS.2.2 dR_begin_15
set_option maxHeartbeats 4000000 in
set_option maxRecDepth 100000 in
theorem k_newRow0 (l : Launch) (D : va_G) (cT : Nat → ClassId) (h : Nat) (ca : Nat) (ta : Nat) (w : Int32) (cf : Nat → Option Nat) (c0 : Nat) (v0 : Nat) (ed0 : Nat) (n0 : Int32) (k0 : Int32) (f0 : Nat → Int32) (c1 : Nat) (v1 : Nat) (ed1 : Nat) (n1 : Int32) (k1 : Int32) (f1 : Nat → Int32) (c2 : Nat) (v2 : Nat) (ed2 : Nat) (n2 : Int32) (k2 : Int32) (f2 : Nat → Int32) (c3 : Nat) (v3 : Nat) (ed3 : Nat) (n3 : Int32) (k3 : Int32) (f3 : Nat → Int32) (c4 : Nat) (v4 : Nat) (ed4 : Nat) (n4 : Int32) (k4 : Int32) (f4 : Nat → Int32) (c5 : Nat) (v5 : Nat) (ed5 : Nat) (n5 : Int32) (k5 : Int32) (f5 : Nat → Int32) (tf : Nat → Int32) (v : Int32) (hf0 : cf 0 = some c0) (hf1 : cf 1 = some c1) (hf2 : cf 2 = some c2) (hf3 : cf 3 = some c3) (hf4 : cf 4 = some c4) (hf5 : cf 5 = some c5) (sz : Nat) : Met l yT_newRow WT_newRow ({ frames := 0, cells := 0, slots := 0, locals := 0 } : Room) (RW D vwCl [.ref h, .int v] [(h, .inr (2, [.ref ca, .ref ta, .int w, .int 0])), (ca, .inl (cT 5, 6, .inr (.inr (.inr (.inr cf))))), (c0, .inr (1, [.ref v0, .ref ed0, .int n0, .int k0])), (v0, .inl (cT 0, 49, .inl f0)), (c1, .inr (1, [.ref v1, .ref ed1, .int n1, .int k1])), (v1, .inl (cT 0, 49, .inl f1)), (c2, .inr (1, [.ref v2, .ref ed2, .int n2, .int k2])), (v2, .inl (cT 0, 49, .inl f2)), (c3, .inr (1, [.ref v3, .ref ed3, .int n3, .int k3])), (v3, .inl (cT 0, 49, .inl f3)), (c4, .inr (1, [.ref v4, .ref ed4, .int n4, .int k4])), (v4, .inl (cT 0, 49, .inl f4)), (c5, .inr (1, [.ref v5, .ref ed5, .int n5, .int k5])), (v5, .inl (cT 0, 49, .inl f5)), (ta, .inl (cT 0, 49, .inl tf))] (TY cT) sz) (va_Qi (fun (r : Int32) (_ : Nat → Nat) => r = 0) (BW D vwCl (va_A [(h, .inr (2, [.ref ca, .ref ta, .int w, .int 0])), (ca, .inl (cT 5, 6, .inr (.inr (.inr (.inr cf))))), (c0, .inr (1, [.ref v0, .ref ed0, .int n0, .int k0])), (v0, .inl (cT 0, 49, .inl f0)), (c1, .inr (1, [.ref v1, .ref ed1, .int n1, .int k1])), (v1, .inl (cT 0, 49, .inl f1)), (c2, .inr (1, [.ref v2, .ref ed2, .int n2, .int k2])), (v2, .inl (cT 0, 49, .inl f2)), (c3, .inr (1, [.ref v3, .ref ed3, .int n3, .int k3])), (v3, .inl (cT 0, 49, .inl f3)), (c4, .inr (1, [.ref v4, .ref ed4, .int n4, .int k4])), (v4, .inl (cT 0, 49, .inl f4)), (c5, .inr (1, [.ref v5, .ref ed5, .int n5, .int k5])), (v5, .inl (cT 0, 49, .inl f5)), (ta, .inl (cT 0, 49, .inl tf))] sz) (fun u => [(h, .inr (2, [.ref ca, .ref ta, .int w, .int 1])), (ca, .inl (cT 5, 6, .inr (.inr (.inr (.inr cf))))), (c0, .inr (1, [.ref v0, .ref ed0, .int n0, .int k0])), (v0, .inl (cT 0, 49, .inl (upd f0 0 (-2147483648)))), (c1, .inr (1, [.ref v1, .ref ed1, .int n1, .int k1])), (v1, .inl (cT 0, 49, .inl (upd f1 0 (-2147483648)))), (c2, .inr (1, [.ref v2, .ref ed2, .int n2, .int k2])), (v2, .inl (cT 0, 49, .inl (upd f2 0 (-2147483648)))), (c3, .inr (1, [.ref v3, .ref ed3, .int n3, .int k3])), (v3, .inl (cT 0, 49, .inl (upd f3 0 (-2147483648)))), (c4, .inr (1, [.ref v4, .ref ed4, .int n4, .int k4])), (v4, .inl (cT 0, 49, .inl (upd f4 0 (-2147483648)))), (c5, .inr (1, [.ref v5, .ref ed5, .int n5, .int k5])), (v5, .inl (cT 0, 49, .inl (upd f5 0 (-2147483648)))), (ta, .inl (cT 0, 49, .inl (upd tf 0 v)))])) (va_A [(h, .inr (2, [.ref ca, .ref ta, .int w, .int 0])), (ca, .inl (cT 5, 6, .inr (.inr (.inr (.inr cf))))), (c0, .inr (1, [.ref v0, .ref ed0, .int n0, .int k0])), (v0, .inl (cT 0, 49, .inl f0)), (c1, .inr (1, [.ref v1, .ref ed1, .int n1, .int k1])), (v1, .inl (cT 0, 49, .inl f1)), (c2, .inr (1, [.ref v2, .ref ed2, .int n2, .int k2])), (v2, .inl (cT 0, 49, .inl f2)), (c3, .inr (1, [.ref v3, .ref ed3, .int n3, .int k3])), (v3, .inl (cT 0, 49, .inl f3)), (c4, .inr (1, [.ref v4, .ref ed4, .int n4, .int k4])), (v4, .inl (cT 0, 49, .inl f4)), (c5, .inr (1, [.ref v5, .ref ed5, .int n5, .int k5])), (v5, .inl (cT 0, 49, .inl f5)), (ta, .inl (cT 0, 49, .inl tf))] sz)) 0 0 (va_A [(h, .inr (2, [.ref ca, .ref ta, .int w, .int 0])), (ca, .inl (cT 5, 6, .inr (.inr (.inr (.inr cf))))), (c0, .inr (1, [.ref v0, .ref ed0, .int n0, .int k0])), (v0, .inl (cT 0, 49, .inl f0)), (c1, .inr (1, [.ref v1, .ref ed1, .int n1, .int k1])), (v1, .inl (cT 0, 49, .inl f1)), (c2, .inr (1, [.ref v2, .ref ed2, .int n2, .int k2])), (v2, .inl (cT 0, 49, .inl f2)), (c3, .inr (1, [.ref v3, .ref ed3, .int n3, .int k3])), (v3, .inl (cT 0, 49, .inl f3)), (c4, .inr (1, [.ref v4, .ref ed4, .int n4, .int k4])), (v4, .inl (cT 0, 49, .inl f4)), (c5, .inr (1, [.ref v5, .ref ed5, .int n5, .int k5])), (v5, .inl (cT 0, 49, .inl f5)), (ta, .inl (cT 0, 49, .inl tf))] sz) := by
  refine Met.ofW (cc := cT_newRow) (maxL := 6) (ret := (some .int)) (by decide) rfl ?_
  intro p e s m args below meth c s₁ B hml hv
  obtain ⟨rfl, hsz, hZ, hP, hK, hD0⟩ := hv
  have hx := B.exec
  have hb := B.bytes
  have hr := B.returns
  have hts := atoms_spec (ws := WT_newRow) B.pre
  have hT : ∀ w ∈ TB, w.before _ s = true := fun w h => hts w (List.mem_cons_of_mem _ h)
  have hown : s.vm.findClass R_T = some m.cls := findClass_of_methodNamed B.named
  have hlocks := B.notSynchronized
  subst hsz
  have hD := hD0.self (sz := s.heap.size)
  generalize hAe : va_A [(h, .inr (2, [.ref ca, .ref ta, .int w, .int 0])), (ca, .inl (cT 5, 6, .inr (.inr (.inr (.inr cf))))), (c0, .inr (1, [.ref v0, .ref ed0, .int n0, .int k0])), (v0, .inl (cT 0, 49, .inl f0)), (c1, .inr (1, [.ref v1, .ref ed1, .int n1, .int k1])), (v1, .inl (cT 0, 49, .inl f1)), (c2, .inr (1, [.ref v2, .ref ed2, .int n2, .int k2])), (v2, .inl (cT 0, 49, .inl f2)), (c3, .inr (1, [.ref v3, .ref ed3, .int n3, .int k3])), (v3, .inl (cT 0, 49, .inl f3)), (c4, .inr (1, [.ref v4, .ref ed4, .int n4, .int k4])), (v4, .inl (cT 0, 49, .inl f4)), (c5, .inr (1, [.ref v5, .ref ed5, .int n5, .int k5])), (v5, .inl (cT 0, 49, .inl f5)), (ta, .inl (cT 0, 49, .inl tf))] s.heap.size = A at hD hZ ⊢
  have hA : ∀ q : Nat, s.heap.size ≤ q → A q := fun q h => by rw [← hAe]; exact Or.inr h
  have hS : va_S A s.heap s.heap [] := va_S.rf
  have hl := lv_entry ([.ref h, .int v]) (n := 6) (Nat.le_of_ble_eq_true rfl)
  rw [lg_entry_eq]
  generalize (lg_sl ([.ref h, .int v]) ++ List.replicate (6 - (lg_sl ([.ref h, .int v])).length) Slot.unset).toArray = ls at hl ⊢
  have hl : lv_has ls 6 [(0, .ref h), (1, .int v)] := hl
  refine lv_aload_n hx hb dT_newRow_0 rfl (lv_at hl 0 rfl) ?_
  refine va_get (D := D) (ci := 2) (v := .ref ta) (C := R_T) (T := T_T) (N := 4) hx hb hT in_T hown hK hP 0 rfl rfl 1 (by decide) (hT _ w76) (fun _ h9 => h9) rfl dT_newRow_1 ?_
  refine lv_aload_n hx hb dT_newRow_4 rfl (lv_at hl 0 rfl) ?_
  refine va_get (D := D) (ci := 2) (v := .int 0) (C := R_T) (T := T_T) (N := 4) hx hb hT in_T hown hK hP 0 rfl rfl 3 (by decide) (hT _ w81) (fun _ h9 => h9) rfl dT_newRow_5 ?_
  refine lv_iload_n hx hb dT_newRow_8 rfl (lv_at hl 1 rfl) ?_
  refine va_iast hx hb hK hP hD hS 14 0 rfl rfl (by unfold vp_in; decide) dT_newRow_9 (fun H locs hP hD hS => ?_)
  have hP : va_P D vwCl [(h, .inr (2, [.ref ca, .ref ta, .int w, .int 0])), (ca, .inl (cT 5, 6, .inr (.inr (.inr (.inr cf))))), (c0, .inr (1, [.ref v0, .ref ed0, .int n0, .int k0])), (v0, .inl (cT 0, 49, .inl f0)), (c1, .inr (1, [.ref v1, .ref ed1, .int n1, .int k1])), (v1, .inl (cT 0, 49, .inl f1)), (c2, .inr (1, [.ref v2, .ref ed2, .int n2, .int k2])), (v2, .inl (cT 0, 49, .inl f2)), (c3, .inr (1, [.ref v3, .ref ed3, .int n3, .int k3])), (v3, .inl (cT 0, 49, .inl f3)), (c4, .inr (1, [.ref v4, .ref ed4, .int n4, .int k4])), (v4, .inl (cT 0, 49, .inl f4)), (c5, .inr (1, [.ref v5, .ref ed5, .int n5, .int k5])), (v5, .inl (cT 0, 49, .inl f5)), (ta, .inl (cT 0, 49, .inl (upd tf 0 v)))] H := hP
  have hD : va_D A [(h, .inr (2, [.ref ca, .ref ta, .int w, .int 0])), (ca, .inl (cT 5, 6, .inr (.inr (.inr (.inr cf))))), (c0, .inr (1, [.ref v0, .ref ed0, .int n0, .int k0])), (v0, .inl (cT 0, 49, .inl f0)), (c1, .inr (1, [.ref v1, .ref ed1, .int n1, .int k1])), (v1, .inl (cT 0, 49, .inl f1)), (c2, .inr (1, [.ref v2, .ref ed2, .int n2, .int k2])), (v2, .inl (cT 0, 49, .inl f2)), (c3, .inr (1, [.ref v3, .ref ed3, .int n3, .int k3])), (v3, .inl (cT 0, 49, .inl f3)), (c4, .inr (1, [.ref v4, .ref ed4, .int n4, .int k4])), (v4, .inl (cT 0, 49, .inl f4)), (c5, .inr (1, [.ref v5, .ref ed5, .int n5, .int k5])), (v5, .inl (cT 0, 49, .inl f5)), (ta, .inl (cT 0, 49, .inl (upd tf 0 v)))] := hD
  refine lv_aload_n hx hb dT_newRow_10 rfl (lv_at hl 0 rfl) ?_
  refine va_get (D := D) (ci := 2) (v := .ref ca) (C := R_T) (T := T_T) (N := 4) hx hb hT in_T hown hK hP 0 rfl rfl 0 (by decide) (hT _ w73) (fun _ h9 => h9) rfl dT_newRow_11 ?_
  refine lv_astore_n hx hb dT_newRow_14 rfl hl (by decide) rfl (fun ls hl => ?_)
  have hl : lv_has ls 6 [(2, .ref ca), (0, .ref h), (1, .int v)] := hl
  refine lv_aload_n hx hb dT_newRow_15 rfl (lv_at hl 0 rfl) ?_
  refine va_alen (v := 6) hx hb hK hP 1 5 rfl rfl rfl dT_newRow_16 ?_
  refine lv_istore_n hx hb dT_newRow_17 rfl hl (by decide) rfl (fun ls hl => ?_)
  have hl : lv_has ls 6 [(3, .int 6), (2, .ref ca), (0, .ref h), (1, .int v)] := hl
  refine lv_iconst (v := 0) hx hb dT_newRow_18 (by decide) ?_
  refine lv_istore hx hb dT_newRow_19 hl (by decide) rfl (fun ls hl => ?_)
  have hl : lv_has ls 6 [(4, .int 0), (3, .int 6), (2, .ref ca), (0, .ref h), (1, .int v)] := hl
  refine lv_iload hx hb dT_newRow_21 (lv_at hl 0 rfl) ?_
  refine lv_iload_n hx hb dT_newRow_23 rfl (lv_at hl 1 rfl) ?_
  refine lv_icmp_ge (tgt := 51) hx hb dT_newRow_24 rfl (fun hj1 => absurd hj1 (by decide)) (fun _ => ?_)
  refine lv_aload_n hx hb dT_newRow_27 rfl (lv_at hl 2 rfl) ?_
  refine lv_iload hx hb dT_newRow_28 (lv_at hl 0 rfl) ?_
  refine al_q (q := c0) hx hb hK hP 1 5 rfl rfl (by unfold vp_in; decide) hf0 dT_newRow_30 ?_
  refine lv_astore hx hb dT_newRow_31 hl (by decide) rfl (fun ls hl => ?_)
  have hl : lv_has ls 6 [(5, .ref c0), (4, .int 0), (3, .int 6), (2, .ref ca), (0, .ref h), (1, .int v)] := hl
  refine lv_aload hx hb dT_newRow_33 (lv_at hl 0 rfl) ?_
  refine va_get (D := D) (ci := 1) (v := .ref v0) (C := R_C) (T := T_C) (N := 4) hx hb hT in_C hown hK hP 2 rfl rfl 0 (by decide) (hT _ w51) (fun _ h9 => h9) rfl dT_newRow_35 ?_
  refine lv_aload_n hx hb dT_newRow_38 rfl (lv_at hl 4 rfl) ?_
  refine va_get (D := D) (ci := 2) (v := .int 0) (C := R_T) (T := T_T) (N := 4) hx hb hT in_T hown hK hP 0 rfl rfl 3 (by decide) (hT _ w81) (fun _ h9 => h9) rfl dT_newRow_39 ?_
  refine lv_ldc (v := (-2147483648)) hx hb hown (hT _ w318) dT_newRow_42 ?_
  refine va_iast hx hb hK hP hD hS 3 0 rfl rfl (by unfold vp_in; decide) dT_newRow_44 (fun H locs hP hD hS => ?_)
  have hP : va_P D vwCl [(h, .inr (2, [.ref ca, .ref ta, .int w, .int 0])), (ca, .inl (cT 5, 6, .inr (.inr (.inr (.inr cf))))), (c0, .inr (1, [.ref v0, .ref ed0, .int n0, .int k0])), (v0, .inl (cT 0, 49, .inl (upd f0 0 (-2147483648)))), (c1, .inr (1, [.ref v1, .ref ed1, .int n1, .int k1])), (v1, .inl (cT 0, 49, .inl f1)), (c2, .inr (1, [.ref v2, .ref ed2, .int n2, .int k2])), (v2, .inl (cT 0, 49, .inl f2)), (c3, .inr (1, [.ref v3, .ref ed3, .int n3, .int k3])), (v3, .inl (cT 0, 49, .inl f3)), (c4, .inr (1, [.ref v4, .ref ed4, .int n4, .int k4])), (v4, .inl (cT 0, 49, .inl f4)), (c5, .inr (1, [.ref v5, .ref ed5, .int n5, .int k5])), (v5, .inl (cT 0, 49, .inl f5)), (ta, .inl (cT 0, 49, .inl (upd tf 0 v)))] H := hP
  have hD : va_D A [(h, .inr (2, [.ref ca, .ref ta, .int w, .int 0])), (ca, .inl (cT 5, 6, .inr (.inr (.inr (.inr cf))))), (c0, .inr (1, [.ref v0, .ref ed0, .int n0, .int k0])), (v0, .inl (cT 0, 49, .inl (upd f0 0 (-2147483648)))), (c1, .inr (1, [.ref v1, .ref ed1, .int n1, .int k1])), (v1, .inl (cT 0, 49, .inl f1)), (c2, .inr (1, [.ref v2, .ref ed2, .int n2, .int k2])), (v2, .inl (cT 0, 49, .inl f2)), (c3, .inr (1, [.ref v3, .ref ed3, .int n3, .int k3])), (v3, .inl (cT 0, 49, .inl f3)), (c4, .inr (1, [.ref v4, .ref ed4, .int n4, .int k4])), (v4, .inl (cT 0, 49, .inl f4)), (c5, .inr (1, [.ref v5, .ref ed5, .int n5, .int k5])), (v5, .inl (cT 0, 49, .inl f5)), (ta, .inl (cT 0, 49, .inl (upd tf 0 v)))] := hD
  refine lv_iinc (k := 1) (v := 1) hx hb dT_newRow_45 hl rfl (by decide) (by decide) rfl (fun ls hl => ?_)
  have hl : lv_has ls 6 [(4, .int 1), (5, .ref c0), (3, .int 6), (2, .ref ca), (0, .ref h), (1, .int v)] := hl
  refine lv_goto (tgt := 21) hx hb dT_newRow_48 rfl ?_
  refine lv_iload hx hb dT_newRow_21 (lv_at hl 0 rfl) ?_
  refine lv_iload_n hx hb dT_newRow_23 rfl (lv_at hl 2 rfl) ?_
  refine lv_icmp_ge (tgt := 51) hx hb dT_newRow_24 rfl (fun hj2 => absurd hj2 (by decide)) (fun _ => ?_)
  refine lv_aload_n hx hb dT_newRow_27 rfl (lv_at hl 3 rfl) ?_
  refine lv_iload hx hb dT_newRow_28 (lv_at hl 0 rfl) ?_
  refine al_q (q := c1) hx hb hK hP 1 5 rfl rfl (by unfold vp_in; decide) hf1 dT_newRow_30 ?_
  refine lv_astore hx hb dT_newRow_31 hl (by decide) rfl (fun ls hl => ?_)
  have hl : lv_has ls 6 [(5, .ref c1), (4, .int 1), (3, .int 6), (2, .ref ca), (0, .ref h), (1, .int v)] := hl
  refine lv_aload hx hb dT_newRow_33 (lv_at hl 0 rfl) ?_
  refine va_get (D := D) (ci := 1) (v := .ref v1) (C := R_C) (T := T_C) (N := 4) hx hb hT in_C hown hK hP 4 rfl rfl 0 (by decide) (hT _ w51) (fun _ h9 => h9) rfl dT_newRow_35 ?_
  refine lv_aload_n hx hb dT_newRow_38 rfl (lv_at hl 4 rfl) ?_
  refine va_get (D := D) (ci := 2) (v := .int 0) (C := R_T) (T := T_T) (N := 4) hx hb hT in_T hown hK hP 0 rfl rfl 3 (by decide) (hT _ w81) (fun _ h9 => h9) rfl dT_newRow_39 ?_
  refine lv_ldc (v := (-2147483648)) hx hb hown (hT _ w318) dT_newRow_42 ?_
  refine va_iast hx hb hK hP hD hS 5 0 rfl rfl (by unfold vp_in; decide) dT_newRow_44 (fun H locs hP hD hS => ?_)
  have hP : va_P D vwCl [(h, .inr (2, [.ref ca, .ref ta, .int w, .int 0])), (ca, .inl (cT 5, 6, .inr (.inr (.inr (.inr cf))))), (c0, .inr (1, [.ref v0, .ref ed0, .int n0, .int k0])), (v0, .inl (cT 0, 49, .inl (upd f0 0 (-2147483648)))), (c1, .inr (1, [.ref v1, .ref ed1, .int n1, .int k1])), (v1, .inl (cT 0, 49, .inl (upd f1 0 (-2147483648)))), (c2, .inr (1, [.ref v2, .ref ed2, .int n2, .int k2])), (v2, .inl (cT 0, 49, .inl f2)), (c3, .inr (1, [.ref v3, .ref ed3, .int n3, .int k3])), (v3, .inl (cT 0, 49, .inl f3)), (c4, .inr (1, [.ref v4, .ref ed4, .int n4, .int k4])), (v4, .inl (cT 0, 49, .inl f4)), (c5, .inr (1, [.ref v5, .ref ed5, .int n5, .int k5])), (v5, .inl (cT 0, 49, .inl f5)), (ta, .inl (cT 0, 49, .inl (upd tf 0 v)))] H := hP
  have hD : va_D A [(h, .inr (2, [.ref ca, .ref ta, .int w, .int 0])), (ca, .inl (cT 5, 6, .inr (.inr (.inr (.inr cf))))), (c0, .inr (1, [.ref v0, .ref ed0, .int n0, .int k0])), (v0, .inl (cT 0, 49, .inl (upd f0 0 (-2147483648)))), (c1, .inr (1, [.ref v1, .ref ed1, .int n1, .int k1])), (v1, .inl (cT 0, 49, .inl (upd f1 0 (-2147483648)))), (c2, .inr (1, [.ref v2, .ref ed2, .int n2, .int k2])), (v2, .inl (cT 0, 49, .inl f2)), (c3, .inr (1, [.ref v3, .ref ed3, .int n3, .int k3])), (v3, .inl (cT 0, 49, .inl f3)), (c4, .inr (1, [.ref v4, .ref ed4, .int n4, .int k4])), (v4, .inl (cT 0, 49, .inl f4)), (c5, .inr (1, [.ref v5, .ref ed5, .int n5, .int k5])), (v5, .inl (cT 0, 49, .inl f5)), (ta, .inl (cT 0, 49, .inl (upd tf 0 v)))] := hD
  refine lv_iinc (k := 1) (v := 2) hx hb dT_newRow_45 hl rfl (by decide) (by decide) rfl (fun ls hl => ?_)
  have hl : lv_has ls 6 [(4, .int 2), (5, .ref c1), (3, .int 6), (2, .ref ca), (0, .ref h), (1, .int v)] := hl
  refine lv_goto (tgt := 21) hx hb dT_newRow_48 rfl ?_
  refine lv_iload hx hb dT_newRow_21 (lv_at hl 0 rfl) ?_
  refine lv_iload_n hx hb dT_newRow_23 rfl (lv_at hl 2 rfl) ?_
  refine lv_icmp_ge (tgt := 51) hx hb dT_newRow_24 rfl (fun hj3 => absurd hj3 (by decide)) (fun _ => ?_)
  refine lv_aload_n hx hb dT_newRow_27 rfl (lv_at hl 3 rfl) ?_
  refine lv_iload hx hb dT_newRow_28 (lv_at hl 0 rfl) ?_
  refine al_q (q := c2) hx hb hK hP 1 5 rfl rfl (by unfold vp_in; decide) hf2 dT_newRow_30 ?_
  refine lv_astore hx hb dT_newRow_31 hl (by decide) rfl (fun ls hl => ?_)
  have hl : lv_has ls 6 [(5, .ref c2), (4, .int 2), (3, .int 6), (2, .ref ca), (0, .ref h), (1, .int v)] := hl
  refine lv_aload hx hb dT_newRow_33 (lv_at hl 0 rfl) ?_
  refine va_get (D := D) (ci := 1) (v := .ref v2) (C := R_C) (T := T_C) (N := 4) hx hb hT in_C hown hK hP 6 rfl rfl 0 (by decide) (hT _ w51) (fun _ h9 => h9) rfl dT_newRow_35 ?_
  refine lv_aload_n hx hb dT_newRow_38 rfl (lv_at hl 4 rfl) ?_
  refine va_get (D := D) (ci := 2) (v := .int 0) (C := R_T) (T := T_T) (N := 4) hx hb hT in_T hown hK hP 0 rfl rfl 3 (by decide) (hT _ w81) (fun _ h9 => h9) rfl dT_newRow_39 ?_
  refine lv_ldc (v := (-2147483648)) hx hb hown (hT _ w318) dT_newRow_42 ?_
  refine va_iast hx hb hK hP hD hS 7 0 rfl rfl (by unfold vp_in; decide) dT_newRow_44 (fun H locs hP hD hS => ?_)
  have hP : va_P D vwCl [(h, .inr (2, [.ref ca, .ref ta, .int w, .int 0])), (ca, .inl (cT 5, 6, .inr (.inr (.inr (.inr cf))))), (c0, .inr (1, [.ref v0, .ref ed0, .int n0, .int k0])), (v0, .inl (cT 0, 49, .inl (upd f0 0 (-2147483648)))), (c1, .inr (1, [.ref v1, .ref ed1, .int n1, .int k1])), (v1, .inl (cT 0, 49, .inl (upd f1 0 (-2147483648)))), (c2, .inr (1, [.ref v2, .ref ed2, .int n2, .int k2])), (v2, .inl (cT 0, 49, .inl (upd f2 0 (-2147483648)))), (c3, .inr (1, [.ref v3, .ref ed3, .int n3, .int k3])), (v3, .inl (cT 0, 49, .inl f3)), (c4, .inr (1, [.ref v4, .ref ed4, .int n4, .int k4])), (v4, .inl (cT 0, 49, .inl f4)), (c5, .inr (1, [.ref v5, .ref ed5, .int n5, .int k5])), (v5, .inl (cT 0, 49, .inl f5)), (ta, .inl (cT 0, 49, .inl (upd tf 0 v)))] H := hP
  have hD : va_D A [(h, .inr (2, [.ref ca, .ref ta, .int w, .int 0])), (ca, .inl (cT 5, 6, .inr (.inr (.inr (.inr cf))))), (c0, .inr (1, [.ref v0, .ref ed0, .int n0, .int k0])), (v0, .inl (cT 0, 49, .inl (upd f0 0 (-2147483648)))), (c1, .inr (1, [.ref v1, .ref ed1, .int n1, .int k1])), (v1, .inl (cT 0, 49, .inl (upd f1 0 (-2147483648)))), (c2, .inr (1, [.ref v2, .ref ed2, .int n2, .int k2])), (v2, .inl (cT 0, 49, .inl (upd f2 0 (-2147483648)))), (c3, .inr (1, [.ref v3, .ref ed3, .int n3, .int k3])), (v3, .inl (cT 0, 49, .inl f3)), (c4, .inr (1, [.ref v4, .ref ed4, .int n4, .int k4])), (v4, .inl (cT 0, 49, .inl f4)), (c5, .inr (1, [.ref v5, .ref ed5, .int n5, .int k5])), (v5, .inl (cT 0, 49, .inl f5)), (ta, .inl (cT 0, 49, .inl (upd tf 0 v)))] := hD
  refine lv_iinc (k := 1) (v := 3) hx hb dT_newRow_45 hl rfl (by decide) (by decide) rfl (fun ls hl => ?_)
  have hl : lv_has ls 6 [(4, .int 3), (5, .ref c2), (3, .int 6), (2, .ref ca), (0, .ref h), (1, .int v)] := hl
  refine lv_goto (tgt := 21) hx hb dT_newRow_48 rfl ?_
  refine lv_iload hx hb dT_newRow_21 (lv_at hl 0 rfl) ?_
  refine lv_iload_n hx hb dT_newRow_23 rfl (lv_at hl 2 rfl) ?_
  refine lv_icmp_ge (tgt := 51) hx hb dT_newRow_24 rfl (fun hj4 => absurd hj4 (by decide)) (fun _ => ?_)
  refine lv_aload_n hx hb dT_newRow_27 rfl (lv_at hl 3 rfl) ?_
  refine lv_iload hx hb dT_newRow_28 (lv_at hl 0 rfl) ?_
  refine al_q (q := c3) hx hb hK hP 1 5 rfl rfl (by unfold vp_in; decide) hf3 dT_newRow_30 ?_
  refine lv_astore hx hb dT_newRow_31 hl (by decide) rfl (fun ls hl => ?_)
  have hl : lv_has ls 6 [(5, .ref c3), (4, .int 3), (3, .int 6), (2, .ref ca), (0, .ref h), (1, .int v)] := hl
  refine lv_aload hx hb dT_newRow_33 (lv_at hl 0 rfl) ?_
  refine va_get (D := D) (ci := 1) (v := .ref v3) (C := R_C) (T := T_C) (N := 4) hx hb hT in_C hown hK hP 8 rfl rfl 0 (by decide) (hT _ w51) (fun _ h9 => h9) rfl dT_newRow_35 ?_
  refine lv_aload_n hx hb dT_newRow_38 rfl (lv_at hl 4 rfl) ?_
  refine va_get (D := D) (ci := 2) (v := .int 0) (C := R_T) (T := T_T) (N := 4) hx hb hT in_T hown hK hP 0 rfl rfl 3 (by decide) (hT _ w81) (fun _ h9 => h9) rfl dT_newRow_39 ?_
  refine lv_ldc (v := (-2147483648)) hx hb hown (hT _ w318) dT_newRow_42 ?_
  refine va_iast hx hb hK hP hD hS 9 0 rfl rfl (by unfold vp_in; decide) dT_newRow_44 (fun H locs hP hD hS => ?_)
  have hP : va_P D vwCl [(h, .inr (2, [.ref ca, .ref ta, .int w, .int 0])), (ca, .inl (cT 5, 6, .inr (.inr (.inr (.inr cf))))), (c0, .inr (1, [.ref v0, .ref ed0, .int n0, .int k0])), (v0, .inl (cT 0, 49, .inl (upd f0 0 (-2147483648)))), (c1, .inr (1, [.ref v1, .ref ed1, .int n1, .int k1])), (v1, .inl (cT 0, 49, .inl (upd f1 0 (-2147483648)))), (c2, .inr (1, [.ref v2, .ref ed2, .int n2, .int k2])), (v2, .inl (cT 0, 49, .inl (upd f2 0 (-2147483648)))), (c3, .inr (1, [.ref v3, .ref ed3, .int n3, .int k3])), (v3, .inl (cT 0, 49, .inl (upd f3 0 (-2147483648)))), (c4, .inr (1, [.ref v4, .ref ed4, .int n4, .int k4])), (v4, .inl (cT 0, 49, .inl f4)), (c5, .inr (1, [.ref v5, .ref ed5, .int n5, .int k5])), (v5, .inl (cT 0, 49, .inl f5)), (ta, .inl (cT 0, 49, .inl (upd tf 0 v)))] H := hP
  have hD : va_D A [(h, .inr (2, [.ref ca, .ref ta, .int w, .int 0])), (ca, .inl (cT 5, 6, .inr (.inr (.inr (.inr cf))))), (c0, .inr (1, [.ref v0, .ref ed0, .int n0, .int k0])), (v0, .inl (cT 0, 49, .inl (upd f0 0 (-2147483648)))), (c1, .inr (1, [.ref v1, .ref ed1, .int n1, .int k1])), (v1, .inl (cT 0, 49, .inl (upd f1 0 (-2147483648)))), (c2, .inr (1, [.ref v2, .ref ed2, .int n2, .int k2])), (v2, .inl (cT 0, 49, .inl (upd f2 0 (-2147483648)))), (c3, .inr (1, [.ref v3, .ref ed3, .int n3, .int k3])), (v3, .inl (cT 0, 49, .inl (upd f3 0 (-2147483648)))), (c4, .inr (1, [.ref v4, .ref ed4, .int n4, .int k4])), (v4, .inl (cT 0, 49, .inl f4)), (c5, .inr (1, [.ref v5, .ref ed5, .int n5, .int k5])), (v5, .inl (cT 0, 49, .inl f5)), (ta, .inl (cT 0, 49, .inl (upd tf 0 v)))] := hD
  refine lv_iinc (k := 1) (v := 4) hx hb dT_newRow_45 hl rfl (by decide) (by decide) rfl (fun ls hl => ?_)
  have hl : lv_has ls 6 [(4, .int 4), (5, .ref c3), (3, .int 6), (2, .ref ca), (0, .ref h), (1, .int v)] := hl
  refine lv_goto (tgt := 21) hx hb dT_newRow_48 rfl ?_
  refine lv_iload hx hb dT_newRow_21 (lv_at hl 0 rfl) ?_
  refine lv_iload_n hx hb dT_newRow_23 rfl (lv_at hl 2 rfl) ?_
  refine lv_icmp_ge (tgt := 51) hx hb dT_newRow_24 rfl (fun hj5 => absurd hj5 (by decide)) (fun _ => ?_)
  refine lv_aload_n hx hb dT_newRow_27 rfl (lv_at hl 3 rfl) ?_
  refine lv_iload hx hb dT_newRow_28 (lv_at hl 0 rfl) ?_
  refine al_q (q := c4) hx hb hK hP 1 5 rfl rfl (by unfold vp_in; decide) hf4 dT_newRow_30 ?_
  refine lv_astore hx hb dT_newRow_31 hl (by decide) rfl (fun ls hl => ?_)
  have hl : lv_has ls 6 [(5, .ref c4), (4, .int 4), (3, .int 6), (2, .ref ca), (0, .ref h), (1, .int v)] := hl
  refine lv_aload hx hb dT_newRow_33 (lv_at hl 0 rfl) ?_
  refine va_get (D := D) (ci := 1) (v := .ref v4) (C := R_C) (T := T_C) (N := 4) hx hb hT in_C hown hK hP 10 rfl rfl 0 (by decide) (hT _ w51) (fun _ h9 => h9) rfl dT_newRow_35 ?_
  refine lv_aload_n hx hb dT_newRow_38 rfl (lv_at hl 4 rfl) ?_
  refine va_get (D := D) (ci := 2) (v := .int 0) (C := R_T) (T := T_T) (N := 4) hx hb hT in_T hown hK hP 0 rfl rfl 3 (by decide) (hT _ w81) (fun _ h9 => h9) rfl dT_newRow_39 ?_
  refine lv_ldc (v := (-2147483648)) hx hb hown (hT _ w318) dT_newRow_42 ?_
  refine va_iast hx hb hK hP hD hS 11 0 rfl rfl (by unfold vp_in; decide) dT_newRow_44 (fun H locs hP hD hS => ?_)
  have hP : va_P D vwCl [(h, .inr (2, [.ref ca, .ref ta, .int w, .int 0])), (ca, .inl (cT 5, 6, .inr (.inr (.inr (.inr cf))))), (c0, .inr (1, [.ref v0, .ref ed0, .int n0, .int k0])), (v0, .inl (cT 0, 49, .inl (upd f0 0 (-2147483648)))), (c1, .inr (1, [.ref v1, .ref ed1, .int n1, .int k1])), (v1, .inl (cT 0, 49, .inl (upd f1 0 (-2147483648)))), (c2, .inr (1, [.ref v2, .ref ed2, .int n2, .int k2])), (v2, .inl (cT 0, 49, .inl (upd f2 0 (-2147483648)))), (c3, .inr (1, [.ref v3, .ref ed3, .int n3, .int k3])), (v3, .inl (cT 0, 49, .inl (upd f3 0 (-2147483648)))), (c4, .inr (1, [.ref v4, .ref ed4, .int n4, .int k4])), (v4, .inl (cT 0, 49, .inl (upd f4 0 (-2147483648)))), (c5, .inr (1, [.ref v5, .ref ed5, .int n5, .int k5])), (v5, .inl (cT 0, 49, .inl f5)), (ta, .inl (cT 0, 49, .inl (upd tf 0 v)))] H := hP
  have hD : va_D A [(h, .inr (2, [.ref ca, .ref ta, .int w, .int 0])), (ca, .inl (cT 5, 6, .inr (.inr (.inr (.inr cf))))), (c0, .inr (1, [.ref v0, .ref ed0, .int n0, .int k0])), (v0, .inl (cT 0, 49, .inl (upd f0 0 (-2147483648)))), (c1, .inr (1, [.ref v1, .ref ed1, .int n1, .int k1])), (v1, .inl (cT 0, 49, .inl (upd f1 0 (-2147483648)))), (c2, .inr (1, [.ref v2, .ref ed2, .int n2, .int k2])), (v2, .inl (cT 0, 49, .inl (upd f2 0 (-2147483648)))), (c3, .inr (1, [.ref v3, .ref ed3, .int n3, .int k3])), (v3, .inl (cT 0, 49, .inl (upd f3 0 (-2147483648)))), (c4, .inr (1, [.ref v4, .ref ed4, .int n4, .int k4])), (v4, .inl (cT 0, 49, .inl (upd f4 0 (-2147483648)))), (c5, .inr (1, [.ref v5, .ref ed5, .int n5, .int k5])), (v5, .inl (cT 0, 49, .inl f5)), (ta, .inl (cT 0, 49, .inl (upd tf 0 v)))] := hD
  refine lv_iinc (k := 1) (v := 5) hx hb dT_newRow_45 hl rfl (by decide) (by decide) rfl (fun ls hl => ?_)
  have hl : lv_has ls 6 [(4, .int 5), (5, .ref c4), (3, .int 6), (2, .ref ca), (0, .ref h), (1, .int v)] := hl
  refine lv_goto (tgt := 21) hx hb dT_newRow_48 rfl ?_
  refine lv_iload hx hb dT_newRow_21 (lv_at hl 0 rfl) ?_
  refine lv_iload_n hx hb dT_newRow_23 rfl (lv_at hl 2 rfl) ?_
  refine lv_icmp_ge (tgt := 51) hx hb dT_newRow_24 rfl (fun hj6 => absurd hj6 (by decide)) (fun _ => ?_)
  refine lv_aload_n hx hb dT_newRow_27 rfl (lv_at hl 3 rfl) ?_
  refine lv_iload hx hb dT_newRow_28 (lv_at hl 0 rfl) ?_
  refine al_q (q := c5) hx hb hK hP 1 5 rfl rfl (by unfold vp_in; decide) hf5 dT_newRow_30 ?_
  refine lv_astore hx hb dT_newRow_31 hl (by decide) rfl (fun ls hl => ?_)
  have hl : lv_has ls 6 [(5, .ref c5), (4, .int 5), (3, .int 6), (2, .ref ca), (0, .ref h), (1, .int v)] := hl
  refine lv_aload hx hb dT_newRow_33 (lv_at hl 0 rfl) ?_
  refine va_get (D := D) (ci := 1) (v := .ref v5) (C := R_C) (T := T_C) (N := 4) hx hb hT in_C hown hK hP 12 rfl rfl 0 (by decide) (hT _ w51) (fun _ h9 => h9) rfl dT_newRow_35 ?_
  refine lv_aload_n hx hb dT_newRow_38 rfl (lv_at hl 4 rfl) ?_
  refine va_get (D := D) (ci := 2) (v := .int 0) (C := R_T) (T := T_T) (N := 4) hx hb hT in_T hown hK hP 0 rfl rfl 3 (by decide) (hT _ w81) (fun _ h9 => h9) rfl dT_newRow_39 ?_
  refine lv_ldc (v := (-2147483648)) hx hb hown (hT _ w318) dT_newRow_42 ?_
  refine va_iast hx hb hK hP hD hS 13 0 rfl rfl (by unfold vp_in; decide) dT_newRow_44 (fun H locs hP hD hS => ?_)
  have hP : va_P D vwCl [(h, .inr (2, [.ref ca, .ref ta, .int w, .int 0])), (ca, .inl (cT 5, 6, .inr (.inr (.inr (.inr cf))))), (c0, .inr (1, [.ref v0, .ref ed0, .int n0, .int k0])), (v0, .inl (cT 0, 49, .inl (upd f0 0 (-2147483648)))), (c1, .inr (1, [.ref v1, .ref ed1, .int n1, .int k1])), (v1, .inl (cT 0, 49, .inl (upd f1 0 (-2147483648)))), (c2, .inr (1, [.ref v2, .ref ed2, .int n2, .int k2])), (v2, .inl (cT 0, 49, .inl (upd f2 0 (-2147483648)))), (c3, .inr (1, [.ref v3, .ref ed3, .int n3, .int k3])), (v3, .inl (cT 0, 49, .inl (upd f3 0 (-2147483648)))), (c4, .inr (1, [.ref v4, .ref ed4, .int n4, .int k4])), (v4, .inl (cT 0, 49, .inl (upd f4 0 (-2147483648)))), (c5, .inr (1, [.ref v5, .ref ed5, .int n5, .int k5])), (v5, .inl (cT 0, 49, .inl (upd f5 0 (-2147483648)))), (ta, .inl (cT 0, 49, .inl (upd tf 0 v)))] H := hP
  have hD : va_D A [(h, .inr (2, [.ref ca, .ref ta, .int w, .int 0])), (ca, .inl (cT 5, 6, .inr (.inr (.inr (.inr cf))))), (c0, .inr (1, [.ref v0, .ref ed0, .int n0, .int k0])), (v0, .inl (cT 0, 49, .inl (upd f0 0 (-2147483648)))), (c1, .inr (1, [.ref v1, .ref ed1, .int n1, .int k1])), (v1, .inl (cT 0, 49, .inl (upd f1 0 (-2147483648)))), (c2, .inr (1, [.ref v2, .ref ed2, .int n2, .int k2])), (v2, .inl (cT 0, 49, .inl (upd f2 0 (-2147483648)))), (c3, .inr (1, [.ref v3, .ref ed3, .int n3, .int k3])), (v3, .inl (cT 0, 49, .inl (upd f3 0 (-2147483648)))), (c4, .inr (1, [.ref v4, .ref ed4, .int n4, .int k4])), (v4, .inl (cT 0, 49, .inl (upd f4 0 (-2147483648)))), (c5, .inr (1, [.ref v5, .ref ed5, .int n5, .int k5])), (v5, .inl (cT 0, 49, .inl (upd f5 0 (-2147483648)))), (ta, .inl (cT 0, 49, .inl (upd tf 0 v)))] := hD
  refine lv_iinc (k := 1) (v := 6) hx hb dT_newRow_45 hl rfl (by decide) (by decide) rfl (fun ls hl => ?_)
  have hl : lv_has ls 6 [(4, .int 6), (5, .ref c5), (3, .int 6), (2, .ref ca), (0, .ref h), (1, .int v)] := hl
  refine lv_goto (tgt := 21) hx hb dT_newRow_48 rfl ?_
  refine lv_iload hx hb dT_newRow_21 (lv_at hl 0 rfl) ?_
  refine lv_iload_n hx hb dT_newRow_23 rfl (lv_at hl 2 rfl) ?_
  refine lv_icmp_ge (tgt := 51) hx hb dT_newRow_24 rfl (fun _ => ?_) (fun hj7 => absurd (by decide) hj7)
  refine lv_aload_n hx hb dT_newRow_51 rfl (lv_at hl 4 rfl) ?_
  refine lv_dup hx hb dT_newRow_52 rfl ?_
  refine va_get (D := D) (ci := 2) (v := .int 0) (C := R_T) (T := T_T) (N := 4) hx hb hT in_T hown hK hP 0 rfl rfl 3 (by decide) (hT _ w81) (fun _ h9 => h9) rfl dT_newRow_53 ?_
  refine lv_dup_x1 hx hb dT_newRow_56 rfl rfl ?_
  refine lv_iconst (v := 1) hx hb dT_newRow_57 (by decide) ?_
  refine lv_iadd hx hb dT_newRow_58 ?_
  refine lv_topi (fun y9 e9 => ?_)
  cases (show y9 = 1 from e9.trans (by decide))
  refine va_put (D := D) (ci := 2) (v := .int 1) (ty := .int) (C := R_T) (T := T_T) (N := 4) hx hb hT in_T ty_T ty_T_ok m_T hown hK hP hD hS 0 rfl rfl 3 (by decide) (hT _ w81) (fun _ h9 => h9) rfl (by decide +kernel) rfl rfl (Nat.le_of_ble_eq_true rfl) dT_newRow_59 (fun H locs hP hD hS => ?_)
  have hP : va_P D vwCl [(h, .inr (2, [.ref ca, .ref ta, .int w, .int 1])), (ca, .inl (cT 5, 6, .inr (.inr (.inr (.inr cf))))), (c0, .inr (1, [.ref v0, .ref ed0, .int n0, .int k0])), (v0, .inl (cT 0, 49, .inl (upd f0 0 (-2147483648)))), (c1, .inr (1, [.ref v1, .ref ed1, .int n1, .int k1])), (v1, .inl (cT 0, 49, .inl (upd f1 0 (-2147483648)))), (c2, .inr (1, [.ref v2, .ref ed2, .int n2, .int k2])), (v2, .inl (cT 0, 49, .inl (upd f2 0 (-2147483648)))), (c3, .inr (1, [.ref v3, .ref ed3, .int n3, .int k3])), (v3, .inl (cT 0, 49, .inl (upd f3 0 (-2147483648)))), (c4, .inr (1, [.ref v4, .ref ed4, .int n4, .int k4])), (v4, .inl (cT 0, 49, .inl (upd f4 0 (-2147483648)))), (c5, .inr (1, [.ref v5, .ref ed5, .int n5, .int k5])), (v5, .inl (cT 0, 49, .inl (upd f5 0 (-2147483648)))), (ta, .inl (cT 0, 49, .inl (upd tf 0 v)))] H := hP
  have hD : va_D A [(h, .inr (2, [.ref ca, .ref ta, .int w, .int 1])), (ca, .inl (cT 5, 6, .inr (.inr (.inr (.inr cf))))), (c0, .inr (1, [.ref v0, .ref ed0, .int n0, .int k0])), (v0, .inl (cT 0, 49, .inl (upd f0 0 (-2147483648)))), (c1, .inr (1, [.ref v1, .ref ed1, .int n1, .int k1])), (v1, .inl (cT 0, 49, .inl (upd f1 0 (-2147483648)))), (c2, .inr (1, [.ref v2, .ref ed2, .int n2, .int k2])), (v2, .inl (cT 0, 49, .inl (upd f2 0 (-2147483648)))), (c3, .inr (1, [.ref v3, .ref ed3, .int n3, .int k3])), (v3, .inl (cT 0, 49, .inl (upd f3 0 (-2147483648)))), (c4, .inr (1, [.ref v4, .ref ed4, .int n4, .int k4])), (v4, .inl (cT 0, 49, .inl (upd f4 0 (-2147483648)))), (c5, .inr (1, [.ref v5, .ref ed5, .int n5, .int k5])), (v5, .inl (cT 0, 49, .inl (upd f5 0 (-2147483648)))), (ta, .inl (cT 0, 49, .inl (upd tf 0 v)))] := hD
  have hP9 := hP.sub (ws' := [(h, .inr (2, [.ref ca, .ref ta, .int w, .int 1])), (ca, .inl (cT 5, 6, .inr (.inr (.inr (.inr cf))))), (c0, .inr (1, [.ref v0, .ref ed0, .int n0, .int k0])), (v0, .inl (cT 0, 49, .inl (upd f0 0 (-2147483648)))), (c1, .inr (1, [.ref v1, .ref ed1, .int n1, .int k1])), (v1, .inl (cT 0, 49, .inl (upd f1 0 (-2147483648)))), (c2, .inr (1, [.ref v2, .ref ed2, .int n2, .int k2])), (v2, .inl (cT 0, 49, .inl (upd f2 0 (-2147483648)))), (c3, .inr (1, [.ref v3, .ref ed3, .int n3, .int k3])), (v3, .inl (cT 0, 49, .inl (upd f3 0 (-2147483648)))), (c4, .inr (1, [.ref v4, .ref ed4, .int n4, .int k4])), (v4, .inl (cT 0, 49, .inl (upd f4 0 (-2147483648)))), (c5, .inr (1, [.ref v5, .ref ed5, .int n5, .int k5])), (v5, .inl (cT 0, 49, .inl (upd f5 0 (-2147483648)))), (ta, .inl (cT 0, 49, .inl (upd tf 0 v)))]) [0, 1, 2, 3, 4, 5, 6, 7, 8, 9, 10, 11, 12, 13, 14] rfl
  have hD9 := hD.sub (ws' := [(h, .inr (2, [.ref ca, .ref ta, .int w, .int 1])), (ca, .inl (cT 5, 6, .inr (.inr (.inr (.inr cf))))), (c0, .inr (1, [.ref v0, .ref ed0, .int n0, .int k0])), (v0, .inl (cT 0, 49, .inl (upd f0 0 (-2147483648)))), (c1, .inr (1, [.ref v1, .ref ed1, .int n1, .int k1])), (v1, .inl (cT 0, 49, .inl (upd f1 0 (-2147483648)))), (c2, .inr (1, [.ref v2, .ref ed2, .int n2, .int k2])), (v2, .inl (cT 0, 49, .inl (upd f2 0 (-2147483648)))), (c3, .inr (1, [.ref v3, .ref ed3, .int n3, .int k3])), (v3, .inl (cT 0, 49, .inl (upd f3 0 (-2147483648)))), (c4, .inr (1, [.ref v4, .ref ed4, .int n4, .int k4])), (v4, .inl (cT 0, 49, .inl (upd f4 0 (-2147483648)))), (c5, .inr (1, [.ref v5, .ref ed5, .int n5, .int k5])), (v5, .inl (cT 0, 49, .inl (upd f5 0 (-2147483648)))), (ta, .inl (cT 0, 49, .inl (upd tf 0 v)))]) [0, 1, 2, 3, 4, 5, 6, 7, 8, 9, 10, 11, 12, 13, 14] (by decide) rfl
  refine W.widen (k := 0) (n := 0) (Nat.le_of_ble_eq_true rfl) (Nat.le_of_ble_eq_true rfl) ?_
  exact W.iret (v := 0) hx hb hr (fun t ht hW => ⟨⟨0, (fun _ => 0), rfl, rfl, by rw [ht]; exact hP9, hD9⟩, hS.F ht⟩) hS.2.2 dT_newRow_62
set_option maxHeartbeats 4000000 in
set_option maxRecDepth 100000 in
theorem k_add_ok (l : Launch) (D : va_G) (cT : Nat → ClassId) (x : Nat) (xT : Nat) (xP : Nat) (xR : Nat) (xG : Nat) (xF : Nat) (tc : Int32) (xO : Nat) (xS : Nat) (xL : Nat) (xC : Nat) (xQ : Nat) (xU : Nat) (xW : Nat) (ca : Nat) (ta : Nat) (w : Int32) (cf : Nat → Option Nat) (c0 : Nat) (v0 : Nat) (ed0 : Nat) (n0 : Int32) (k0 : Int32) (f0 : Nat → Int32) (c1 : Nat) (v1 : Nat) (ed1 : Nat) (n1 : Int32) (k1 : Int32) (f1 : Nat → Int32) (c2 : Nat) (v2 : Nat) (ed2 : Nat) (n2 : Int32) (k2 : Int32) (f2 : Nat → Int32) (c3 : Nat) (v3 : Nat) (ed3 : Nat) (n3 : Int32) (k3 : Int32) (f3 : Nat → Int32) (c4 : Nat) (v4 : Nat) (ed4 : Nat) (n4 : Int32) (k4 : Int32) (f4 : Nat → Int32) (c5 : Nat) (v5 : Nat) (ed5 : Nat) (n5 : Int32) (k5 : Int32) (f5 : Nat → Int32) (tf : Nat → Int32) (a1 : Int32) (hq : (-1000) ≤ a1 ∧ a1 ≤ 1000) (hf0 : cf 0 = some c0) (hf1 : cf 1 = some c1) (hf2 : cf 2 = some c2) (hf3 : cf 3 = some c3) (hf4 : cf 4 = some c4) (hf5 : cf 5 = some c5) (sz : Nat) : Met l yR_add WR_add ({ frames := 2, cells := 0, slots := 0, locals := 42 } : Room) (RW D vwCl [.ref x, .int a1] [(x, .inr (0, [.ref xT, .ref xP, .ref xR, .ref xG, .ref xF, .int tc, .ref xO, .ref xS, .ref xL, .ref xC, .ref xQ, .ref xU, .ref xW])), (xT, .inr (2, [.ref ca, .ref ta, .int w, .int 0])), (ca, .inl (cT 5, 6, .inr (.inr (.inr (.inr cf))))), (c0, .inr (1, [.ref v0, .ref ed0, .int n0, .int k0])), (v0, .inl (cT 0, 49, .inl f0)), (c1, .inr (1, [.ref v1, .ref ed1, .int n1, .int k1])), (v1, .inl (cT 0, 49, .inl f1)), (c2, .inr (1, [.ref v2, .ref ed2, .int n2, .int k2])), (v2, .inl (cT 0, 49, .inl f2)), (c3, .inr (1, [.ref v3, .ref ed3, .int n3, .int k3])), (v3, .inl (cT 0, 49, .inl f3)), (c4, .inr (1, [.ref v4, .ref ed4, .int n4, .int k4])), (v4, .inl (cT 0, 49, .inl f4)), (c5, .inr (1, [.ref v5, .ref ed5, .int n5, .int k5])), (v5, .inl (cT 0, 49, .inl f5)), (ta, .inl (cT 0, 49, .inl tf))] (TY cT) sz) (va_Qi (fun (r : Int32) (_ : Nat → Nat) => r = 0) (BW D vwCl (va_A [(x, .inr (0, [.ref xT, .ref xP, .ref xR, .ref xG, .ref xF, .int tc, .ref xO, .ref xS, .ref xL, .ref xC, .ref xQ, .ref xU, .ref xW])), (xT, .inr (2, [.ref ca, .ref ta, .int w, .int 0])), (ca, .inl (cT 5, 6, .inr (.inr (.inr (.inr cf))))), (c0, .inr (1, [.ref v0, .ref ed0, .int n0, .int k0])), (v0, .inl (cT 0, 49, .inl f0)), (c1, .inr (1, [.ref v1, .ref ed1, .int n1, .int k1])), (v1, .inl (cT 0, 49, .inl f1)), (c2, .inr (1, [.ref v2, .ref ed2, .int n2, .int k2])), (v2, .inl (cT 0, 49, .inl f2)), (c3, .inr (1, [.ref v3, .ref ed3, .int n3, .int k3])), (v3, .inl (cT 0, 49, .inl f3)), (c4, .inr (1, [.ref v4, .ref ed4, .int n4, .int k4])), (v4, .inl (cT 0, 49, .inl f4)), (c5, .inr (1, [.ref v5, .ref ed5, .int n5, .int k5])), (v5, .inl (cT 0, 49, .inl f5)), (ta, .inl (cT 0, 49, .inl tf))] sz) (fun u => [(x, .inr (0, [.ref xT, .ref xP, .ref xR, .ref xG, .ref xF, .int tc, .ref xO, .ref xS, .ref xL, .ref xC, .ref xQ, .ref xU, .ref xW])), (xT, .inr (2, [.ref ca, .ref ta, .int w, .int 1])), (ca, .inl (cT 5, 6, .inr (.inr (.inr (.inr cf))))), (c0, .inr (1, [.ref v0, .ref ed0, .int n0, .int k0])), (v0, .inl (cT 0, 49, .inl (upd f0 0 (-2147483648)))), (c1, .inr (1, [.ref v1, .ref ed1, .int n1, .int k1])), (v1, .inl (cT 0, 49, .inl (upd f1 0 (-2147483648)))), (c2, .inr (1, [.ref v2, .ref ed2, .int n2, .int k2])), (v2, .inl (cT 0, 49, .inl (upd f2 0 (-2147483648)))), (c3, .inr (1, [.ref v3, .ref ed3, .int n3, .int k3])), (v3, .inl (cT 0, 49, .inl (upd f3 0 (-2147483648)))), (c4, .inr (1, [.ref v4, .ref ed4, .int n4, .int k4])), (v4, .inl (cT 0, 49, .inl (upd f4 0 (-2147483648)))), (c5, .inr (1, [.ref v5, .ref ed5, .int n5, .int k5])), (v5, .inl (cT 0, 49, .inl (upd f5 0 (-2147483648)))), (ta, .inl (cT 0, 49, .inl (upd tf 0 a1)))])) (va_A [(x, .inr (0, [.ref xT, .ref xP, .ref xR, .ref xG, .ref xF, .int tc, .ref xO, .ref xS, .ref xL, .ref xC, .ref xQ, .ref xU, .ref xW])), (xT, .inr (2, [.ref ca, .ref ta, .int w, .int 0])), (ca, .inl (cT 5, 6, .inr (.inr (.inr (.inr cf))))), (c0, .inr (1, [.ref v0, .ref ed0, .int n0, .int k0])), (v0, .inl (cT 0, 49, .inl f0)), (c1, .inr (1, [.ref v1, .ref ed1, .int n1, .int k1])), (v1, .inl (cT 0, 49, .inl f1)), (c2, .inr (1, [.ref v2, .ref ed2, .int n2, .int k2])), (v2, .inl (cT 0, 49, .inl f2)), (c3, .inr (1, [.ref v3, .ref ed3, .int n3, .int k3])), (v3, .inl (cT 0, 49, .inl f3)), (c4, .inr (1, [.ref v4, .ref ed4, .int n4, .int k4])), (v4, .inl (cT 0, 49, .inl f4)), (c5, .inr (1, [.ref v5, .ref ed5, .int n5, .int k5])), (v5, .inl (cT 0, 49, .inl f5)), (ta, .inl (cT 0, 49, .inl tf))] sz)) 0 0 (va_A [(x, .inr (0, [.ref xT, .ref xP, .ref xR, .ref xG, .ref xF, .int tc, .ref xO, .ref xS, .ref xL, .ref xC, .ref xQ, .ref xU, .ref xW])), (xT, .inr (2, [.ref ca, .ref ta, .int w, .int 0])), (ca, .inl (cT 5, 6, .inr (.inr (.inr (.inr cf))))), (c0, .inr (1, [.ref v0, .ref ed0, .int n0, .int k0])), (v0, .inl (cT 0, 49, .inl f0)), (c1, .inr (1, [.ref v1, .ref ed1, .int n1, .int k1])), (v1, .inl (cT 0, 49, .inl f1)), (c2, .inr (1, [.ref v2, .ref ed2, .int n2, .int k2])), (v2, .inl (cT 0, 49, .inl f2)), (c3, .inr (1, [.ref v3, .ref ed3, .int n3, .int k3])), (v3, .inl (cT 0, 49, .inl f3)), (c4, .inr (1, [.ref v4, .ref ed4, .int n4, .int k4])), (v4, .inl (cT 0, 49, .inl f4)), (c5, .inr (1, [.ref v5, .ref ed5, .int n5, .int k5])), (v5, .inl (cT 0, 49, .inl f5)), (ta, .inl (cT 0, 49, .inl tf))] sz) := by
  refine Met.ofW (cc := cR_add) (maxL := 2) (ret := (some .int)) (by decide) rfl ?_
  intro p e s m args below meth c s₁ B hml hv
  obtain ⟨rfl, hsz, hZ, hP, hK, hD0⟩ := hv
  have hx := B.exec
  have hb := B.bytes
  have hr := B.returns
  have hts := atoms_spec (ws := WR_add) B.pre
  have hT : ∀ w ∈ TB, w.before _ s = true := fun w h => hts w (List.mem_cons_of_mem _ h)
  have hown : s.vm.findClass R_R = some m.cls := findClass_of_methodNamed B.named
  have hlocks := B.notSynchronized
  subst hsz
  have hD := hD0.self (sz := s.heap.size)
  generalize hAe : va_A [(x, .inr (0, [.ref xT, .ref xP, .ref xR, .ref xG, .ref xF, .int tc, .ref xO, .ref xS, .ref xL, .ref xC, .ref xQ, .ref xU, .ref xW])), (xT, .inr (2, [.ref ca, .ref ta, .int w, .int 0])), (ca, .inl (cT 5, 6, .inr (.inr (.inr (.inr cf))))), (c0, .inr (1, [.ref v0, .ref ed0, .int n0, .int k0])), (v0, .inl (cT 0, 49, .inl f0)), (c1, .inr (1, [.ref v1, .ref ed1, .int n1, .int k1])), (v1, .inl (cT 0, 49, .inl f1)), (c2, .inr (1, [.ref v2, .ref ed2, .int n2, .int k2])), (v2, .inl (cT 0, 49, .inl f2)), (c3, .inr (1, [.ref v3, .ref ed3, .int n3, .int k3])), (v3, .inl (cT 0, 49, .inl f3)), (c4, .inr (1, [.ref v4, .ref ed4, .int n4, .int k4])), (v4, .inl (cT 0, 49, .inl f4)), (c5, .inr (1, [.ref v5, .ref ed5, .int n5, .int k5])), (v5, .inl (cT 0, 49, .inl f5)), (ta, .inl (cT 0, 49, .inl tf))] s.heap.size = A at hD hZ ⊢
  have hA : ∀ q : Nat, s.heap.size ≤ q → A q := fun q h => by rw [← hAe]; exact Or.inr h
  have hS : va_S A s.heap s.heap [] := va_S.rf
  have hl := lv_entry ([.ref x, .int a1]) (n := 2) (Nat.le_of_ble_eq_true rfl)
  rw [lg_entry_eq]
  generalize (lg_sl ([.ref x, .int a1]) ++ List.replicate (2 - (lg_sl ([.ref x, .int a1])).length) Slot.unset).toArray = ls at hl ⊢
  have hl : lv_has ls 2 [(0, .ref x), (1, .int a1)] := hl
  refine lv_iload_n hx hb dR_add_0 rfl (lv_at hl 1 rfl) ?_
  refine ro_i (va_Run.run (va_runS (As := [.int a1]) (rest := []) ⟨hx, hb, hml, hown, hT⟩ (k_isTarget l D cT a1) ⟨callB_of 1 hT (tb_gd w583) rfl rfl rfl (hT _ w1) (hT _ w581) hR_isTarget ⟨Nat.le_of_ble_eq_true rfl, Nat.le_of_ble_eq_true rfl⟩, (hT _ w582)⟩ (RO.preS hZ hS ((show va_P D vwCl [] _ from fun _ _ h => nomatch h)) hK) rfl rfl hl.1 rfl (lv_room (Nat.le_of_ble_eq_true rfl)) dR_add_1 ⟨Nat.le_of_ble_eq_true rfl, Nat.le_of_ble_eq_true rfl⟩)) ?_
  refine ro_v (va_Run.run (va_runS (As := [.int (bi ((-1000) ≤ a1 ∧ a1 ≤ 1000))]) (rest := []) ⟨hx, hb, hml, hown, hT⟩ (k_demand_ok l D cT (bi ((-1000) ≤ a1 ∧ a1 ≤ 1000)) (by rw [bi_t hq]; decide)) ⟨callB_of 1 hT (tb_gd w510) rfl rfl rfl (hT _ w1) (hT _ w508) hR_demand ⟨Nat.le_of_ble_eq_true rfl, Nat.le_of_ble_eq_true rfl⟩, (hT _ w509)⟩ (RO.preS hZ hS ((show va_P D vwCl [] _ from fun _ _ h => nomatch h)) hK) rfl rfl hl.1 rfl (lv_room (Nat.le_of_ble_eq_true rfl)) dR_add_4 ⟨Nat.le_of_ble_eq_true rfl, Nat.le_of_ble_eq_true rfl⟩)) ?_
  refine lv_aload_n hx hb dR_add_7 rfl (lv_at hl 0 rfl) ?_
  refine va_get (D := D) (ci := 0) (v := .ref xT) (C := R_R) (T := T_R) (N := 13) hx hb hT in_R hown hK hP 0 rfl rfl 0 (by decide) (hT _ w324) (fun _ h9 => h9) rfl dR_add_8 ?_
  refine va_get (D := D) (ci := 2) (v := .int 0) (C := R_T) (T := T_T) (N := 4) hx hb hT in_T hown hK hP 1 rfl rfl 3 (by decide) (hT _ w82) (fun _ h9 => h9) rfl dR_add_11 ?_
  refine lv_bipush (v := 48) hx hb dR_add_14 (by decide) ?_
  refine lv_icmp_ge (tgt := 23) hx hb dR_add_16 rfl (fun hj1 => absurd hj1 (by decide)) (fun _ => ?_)
  refine lv_iconst (v := 1) hx hb dR_add_19 (by decide) ?_
  refine lv_goto (tgt := 24) hx hb dR_add_20 rfl ?_
  refine ro_v (va_Run.run (va_runS (As := [.int 1]) (rest := []) ⟨hx, hb, hml, hown, hT⟩ (k_demandState_ok l D cT 1 (by decide)) ⟨callB_of 1 hT (tb_gd w586) rfl rfl rfl (hT _ w1) (hT _ w584) hR_demandState ⟨Nat.le_of_ble_eq_true rfl, Nat.le_of_ble_eq_true rfl⟩, (hT _ w585)⟩ (RO.preS hZ hS ((show va_P D vwCl [] _ from fun _ _ h => nomatch h)) hK) rfl rfl hl.1 rfl (lv_room (Nat.le_of_ble_eq_true rfl)) dR_add_24 ⟨Nat.le_of_ble_eq_true rfl, Nat.le_of_ble_eq_true rfl⟩)) ?_
  refine lv_aload_n hx hb dR_add_27 rfl (lv_at hl 0 rfl) ?_
  refine va_get (D := D) (ci := 0) (v := .ref xT) (C := R_R) (T := T_R) (N := 13) hx hb hT in_R hown hK hP 0 rfl rfl 0 (by decide) (hT _ w324) (fun _ h9 => h9) rfl dR_add_28 ?_
  refine lv_iload_n hx hb dR_add_31 rfl (lv_at hl 1 rfl) ?_
  refine rw_i (wc := [(xT, .inr (2, [.ref ca, .ref ta, .int w, .int 0])), (ca, .inl (cT 5, 6, .inr (.inr (.inr (.inr cf))))), (c0, .inr (1, [.ref v0, .ref ed0, .int n0, .int k0])), (v0, .inl (cT 0, 49, .inl f0)), (c1, .inr (1, [.ref v1, .ref ed1, .int n1, .int k1])), (v1, .inl (cT 0, 49, .inl f1)), (c2, .inr (1, [.ref v2, .ref ed2, .int n2, .int k2])), (v2, .inl (cT 0, 49, .inl f2)), (c3, .inr (1, [.ref v3, .ref ed3, .int n3, .int k3])), (v3, .inl (cT 0, 49, .inl f3)), (c4, .inr (1, [.ref v4, .ref ed4, .int n4, .int k4])), (v4, .inl (cT 0, 49, .inl f4)), (c5, .inr (1, [.ref v5, .ref ed5, .int n5, .int k5])), (v5, .inl (cT 0, 49, .inl f5)), (ta, .inl (cT 0, 49, .inl tf))]) (wr := [(x, .inr (0, [.ref xT, .ref xP, .ref xR, .ref xG, .ref xF, .int tc, .ref xO, .ref xS, .ref xL, .ref xC, .ref xQ, .ref xU, .ref xW]))]) hP hD hS hA [1, 2, 3, 4, 5, 6, 7, 8, 9, 10, 11, 12, 13, 14, 15] [0] rfl rfl (by decide) (by decide) (va_runV (As := [.int a1]) (rest := []) ⟨hx, hb, hml, hown, hT⟩ (k_newRow0 l D cT xT ca ta w cf c0 v0 ed0 n0 k0 f0 c1 v1 ed1 n1 k1 f1 c2 v2 ed2 n2 k2 f2 c3 v3 ed3 n3 k3 f3 c4 v4 ed4 n4 k4 f4 c5 v5 ed5 n5 k5 f5 tf a1 hf0 hf1 hf2 hf3 hf4 hf5 _) ⟨callB_of 1 hT (tb_gd w605) rfl rfl rfl (hT _ w2) (hT _ w602) hT_newRow ⟨Nat.le_of_ble_eq_true rfl, Nat.le_of_ble_eq_true rfl⟩, (hT _ w603), (hT _ w604)⟩ (RW.preV (ci := 2) (q0 := 0) hZ hS (va_free (wc := [(xT, .inr (2, [.ref ca, .ref ta, .int w, .int 0])), (ca, .inl (cT 5, 6, .inr (.inr (.inr (.inr cf))))), (c0, .inr (1, [.ref v0, .ref ed0, .int n0, .int k0])), (v0, .inl (cT 0, 49, .inl f0)), (c1, .inr (1, [.ref v1, .ref ed1, .int n1, .int k1])), (v1, .inl (cT 0, 49, .inl f1)), (c2, .inr (1, [.ref v2, .ref ed2, .int n2, .int k2])), (v2, .inl (cT 0, 49, .inl f2)), (c3, .inr (1, [.ref v3, .ref ed3, .int n3, .int k3])), (v3, .inl (cT 0, 49, .inl f3)), (c4, .inr (1, [.ref v4, .ref ed4, .int n4, .int k4])), (v4, .inl (cT 0, 49, .inl f4)), (c5, .inr (1, [.ref v5, .ref ed5, .int n5, .int k5])), (v5, .inl (cT 0, 49, .inl f5)), (ta, .inl (cT 0, 49, .inl tf))]) hD hS hA [1, 2, 3, 4, 5, 6, 7, 8, 9, 10, 11, 12, 13, 14, 15] rfl) (hP.sub (ws' := [(xT, .inr (2, [.ref ca, .ref ta, .int w, .int 0])), (ca, .inl (cT 5, 6, .inr (.inr (.inr (.inr cf))))), (c0, .inr (1, [.ref v0, .ref ed0, .int n0, .int k0])), (v0, .inl (cT 0, 49, .inl f0)), (c1, .inr (1, [.ref v1, .ref ed1, .int n1, .int k1])), (v1, .inl (cT 0, 49, .inl f1)), (c2, .inr (1, [.ref v2, .ref ed2, .int n2, .int k2])), (v2, .inl (cT 0, 49, .inl f2)), (c3, .inr (1, [.ref v3, .ref ed3, .int n3, .int k3])), (v3, .inl (cT 0, 49, .inl f3)), (c4, .inr (1, [.ref v4, .ref ed4, .int n4, .int k4])), (v4, .inl (cT 0, 49, .inl f4)), (c5, .inr (1, [.ref v5, .ref ed5, .int n5, .int k5])), (v5, .inl (cT 0, 49, .inl f5)), (ta, .inl (cT 0, 49, .inl tf))]) [1, 2, 3, 4, 5, 6, 7, 8, 9, 10, 11, 12, 13, 14, 15] rfl) hK (hD.sub (ws' := [(xT, .inr (2, [.ref ca, .ref ta, .int w, .int 0])), (ca, .inl (cT 5, 6, .inr (.inr (.inr (.inr cf))))), (c0, .inr (1, [.ref v0, .ref ed0, .int n0, .int k0])), (v0, .inl (cT 0, 49, .inl f0)), (c1, .inr (1, [.ref v1, .ref ed1, .int n1, .int k1])), (v1, .inl (cT 0, 49, .inl f1)), (c2, .inr (1, [.ref v2, .ref ed2, .int n2, .int k2])), (v2, .inl (cT 0, 49, .inl f2)), (c3, .inr (1, [.ref v3, .ref ed3, .int n3, .int k3])), (v3, .inl (cT 0, 49, .inl f3)), (c4, .inr (1, [.ref v4, .ref ed4, .int n4, .int k4])), (v4, .inl (cT 0, 49, .inl f4)), (c5, .inr (1, [.ref v5, .ref ed5, .int n5, .int k5])), (v5, .inl (cT 0, 49, .inl f5)), (ta, .inl (cT 0, 49, .inl tf))]) [1, 2, 3, 4, 5, 6, 7, 8, 9, 10, 11, 12, 13, 14, 15] (by decide) rfl) rfl rfl) rfl rfl hl.1 rfl (lv_room (Nat.le_of_ble_eq_true rfl)) dR_add_32 ⟨Nat.le_of_ble_eq_true rfl, Nat.le_of_ble_eq_true rfl⟩) (fun ru2 u2 H locs hpu2 hP hD hS => ?_)
  have hP : va_P D vwCl [(x, .inr (0, [.ref xT, .ref xP, .ref xR, .ref xG, .ref xF, .int tc, .ref xO, .ref xS, .ref xL, .ref xC, .ref xQ, .ref xU, .ref xW])), (xT, .inr (2, [.ref ca, .ref ta, .int w, .int 1])), (ca, .inl (cT 5, 6, .inr (.inr (.inr (.inr cf))))), (c0, .inr (1, [.ref v0, .ref ed0, .int n0, .int k0])), (v0, .inl (cT 0, 49, .inl (upd f0 0 (-2147483648)))), (c1, .inr (1, [.ref v1, .ref ed1, .int n1, .int k1])), (v1, .inl (cT 0, 49, .inl (upd f1 0 (-2147483648)))), (c2, .inr (1, [.ref v2, .ref ed2, .int n2, .int k2])), (v2, .inl (cT 0, 49, .inl (upd f2 0 (-2147483648)))), (c3, .inr (1, [.ref v3, .ref ed3, .int n3, .int k3])), (v3, .inl (cT 0, 49, .inl (upd f3 0 (-2147483648)))), (c4, .inr (1, [.ref v4, .ref ed4, .int n4, .int k4])), (v4, .inl (cT 0, 49, .inl (upd f4 0 (-2147483648)))), (c5, .inr (1, [.ref v5, .ref ed5, .int n5, .int k5])), (v5, .inl (cT 0, 49, .inl (upd f5 0 (-2147483648)))), (ta, .inl (cT 0, 49, .inl (upd tf 0 a1)))] H := hP
  have hD : va_D A [(x, .inr (0, [.ref xT, .ref xP, .ref xR, .ref xG, .ref xF, .int tc, .ref xO, .ref xS, .ref xL, .ref xC, .ref xQ, .ref xU, .ref xW])), (xT, .inr (2, [.ref ca, .ref ta, .int w, .int 1])), (ca, .inl (cT 5, 6, .inr (.inr (.inr (.inr cf))))), (c0, .inr (1, [.ref v0, .ref ed0, .int n0, .int k0])), (v0, .inl (cT 0, 49, .inl (upd f0 0 (-2147483648)))), (c1, .inr (1, [.ref v1, .ref ed1, .int n1, .int k1])), (v1, .inl (cT 0, 49, .inl (upd f1 0 (-2147483648)))), (c2, .inr (1, [.ref v2, .ref ed2, .int n2, .int k2])), (v2, .inl (cT 0, 49, .inl (upd f2 0 (-2147483648)))), (c3, .inr (1, [.ref v3, .ref ed3, .int n3, .int k3])), (v3, .inl (cT 0, 49, .inl (upd f3 0 (-2147483648)))), (c4, .inr (1, [.ref v4, .ref ed4, .int n4, .int k4])), (v4, .inl (cT 0, 49, .inl (upd f4 0 (-2147483648)))), (c5, .inr (1, [.ref v5, .ref ed5, .int n5, .int k5])), (v5, .inl (cT 0, 49, .inl (upd f5 0 (-2147483648)))), (ta, .inl (cT 0, 49, .inl (upd tf 0 a1)))] := hD
  rw [hpu2]
  have hP9 := hP.sub (ws' := [(x, .inr (0, [.ref xT, .ref xP, .ref xR, .ref xG, .ref xF, .int tc, .ref xO, .ref xS, .ref xL, .ref xC, .ref xQ, .ref xU, .ref xW])), (xT, .inr (2, [.ref ca, .ref ta, .int w, .int 1])), (ca, .inl (cT 5, 6, .inr (.inr (.inr (.inr cf))))), (c0, .inr (1, [.ref v0, .ref ed0, .int n0, .int k0])), (v0, .inl (cT 0, 49, .inl (upd f0 0 (-2147483648)))), (c1, .inr (1, [.ref v1, .ref ed1, .int n1, .int k1])), (v1, .inl (cT 0, 49, .inl (upd f1 0 (-2147483648)))), (c2, .inr (1, [.ref v2, .ref ed2, .int n2, .int k2])), (v2, .inl (cT 0, 49, .inl (upd f2 0 (-2147483648)))), (c3, .inr (1, [.ref v3, .ref ed3, .int n3, .int k3])), (v3, .inl (cT 0, 49, .inl (upd f3 0 (-2147483648)))), (c4, .inr (1, [.ref v4, .ref ed4, .int n4, .int k4])), (v4, .inl (cT 0, 49, .inl (upd f4 0 (-2147483648)))), (c5, .inr (1, [.ref v5, .ref ed5, .int n5, .int k5])), (v5, .inl (cT 0, 49, .inl (upd f5 0 (-2147483648)))), (ta, .inl (cT 0, 49, .inl (upd tf 0 a1)))]) [0, 1, 2, 3, 4, 5, 6, 7, 8, 9, 10, 11, 12, 13, 14, 15] rfl
  have hD9 := hD.sub (ws' := [(x, .inr (0, [.ref xT, .ref xP, .ref xR, .ref xG, .ref xF, .int tc, .ref xO, .ref xS, .ref xL, .ref xC, .ref xQ, .ref xU, .ref xW])), (xT, .inr (2, [.ref ca, .ref ta, .int w, .int 1])), (ca, .inl (cT 5, 6, .inr (.inr (.inr (.inr cf))))), (c0, .inr (1, [.ref v0, .ref ed0, .int n0, .int k0])), (v0, .inl (cT 0, 49, .inl (upd f0 0 (-2147483648)))), (c1, .inr (1, [.ref v1, .ref ed1, .int n1, .int k1])), (v1, .inl (cT 0, 49, .inl (upd f1 0 (-2147483648)))), (c2, .inr (1, [.ref v2, .ref ed2, .int n2, .int k2])), (v2, .inl (cT 0, 49, .inl (upd f2 0 (-2147483648)))), (c3, .inr (1, [.ref v3, .ref ed3, .int n3, .int k3])), (v3, .inl (cT 0, 49, .inl (upd f3 0 (-2147483648)))), (c4, .inr (1, [.ref v4, .ref ed4, .int n4, .int k4])), (v4, .inl (cT 0, 49, .inl (upd f4 0 (-2147483648)))), (c5, .inr (1, [.ref v5, .ref ed5, .int n5, .int k5])), (v5, .inl (cT 0, 49, .inl (upd f5 0 (-2147483648)))), (ta, .inl (cT 0, 49, .inl (upd tf 0 a1)))]) [0, 1, 2, 3, 4, 5, 6, 7, 8, 9, 10, 11, 12, 13, 14, 15] (by decide) rfl
  refine W.widen (k := 0) (n := 0) (Nat.le_of_ble_eq_true rfl) (Nat.le_of_ble_eq_true rfl) ?_
  exact W.iret (v := 0) hx hb hr (fun t ht hW => ⟨⟨0, (fun _ => 0), rfl, rfl, by rw [ht]; exact hP9, hD9⟩, hS.F ht⟩) hS.2.2 dR_add_35
set_option maxHeartbeats 4000000 in
set_option maxRecDepth 100000 in
theorem k_kinds_ok0 (l : Launch) (D : va_G) (cT : Nat → ClassId) (x : Nat) (xT : Nat) (xP : Nat) (xR : Nat) (xG : Nat) (xF : Nat) (tc : Int32) (xO : Nat) (xS : Nat) (xL : Nat) (xC : Nat) (xQ : Nat) (xU : Nat) (xW : Nat) (ca : Nat) (ta : Nat) (cf : Nat → Option Nat) (c0 : Nat) (v0 : Nat) (ed0 : Nat) (n0 : Int32) (hf0 : cf 0 = some c0) (sz : Nat) : Met l yR_kinds WR_kinds ({ frames := 2, cells := 0, slots := 0, locals := 43 } : Room) (RW D vwCl [.ref x, .int 0, .int 0] [(x, .inr (0, [.ref xT, .ref xP, .ref xR, .ref xG, .ref xF, .int tc, .ref xO, .ref xS, .ref xL, .ref xC, .ref xQ, .ref xU, .ref xW])), (xT, .inr (2, [.ref ca, .ref ta, .int 1, .int 0])), (ca, .inl (cT 5, 6, .inr (.inr (.inr (.inr cf))))), (c0, .inr (1, [.ref v0, .ref ed0, .int n0, .int 0]))] (TY cT) sz) (va_Qi (fun (r : Int32) (_ : Nat → Nat) => r = 0) (BW D vwCl (va_A [(x, .inr (0, [.ref xT, .ref xP, .ref xR, .ref xG, .ref xF, .int tc, .ref xO, .ref xS, .ref xL, .ref xC, .ref xQ, .ref xU, .ref xW])), (xT, .inr (2, [.ref ca, .ref ta, .int 1, .int 0])), (ca, .inl (cT 5, 6, .inr (.inr (.inr (.inr cf))))), (c0, .inr (1, [.ref v0, .ref ed0, .int n0, .int 0]))] sz) (fun u => [(x, .inr (0, [.ref xT, .ref xP, .ref xR, .ref xG, .ref xF, .int tc, .ref xO, .ref xS, .ref xL, .ref xC, .ref xQ, .ref xU, .ref xW])), (xT, .inr (2, [.ref ca, .ref ta, .int 1, .int 0])), (ca, .inl (cT 5, 6, .inr (.inr (.inr (.inr cf))))), (c0, .inr (1, [.ref v0, .ref ed0, .int 0, .int 0]))])) (va_A [(x, .inr (0, [.ref xT, .ref xP, .ref xR, .ref xG, .ref xF, .int tc, .ref xO, .ref xS, .ref xL, .ref xC, .ref xQ, .ref xU, .ref xW])), (xT, .inr (2, [.ref ca, .ref ta, .int 1, .int 0])), (ca, .inl (cT 5, 6, .inr (.inr (.inr (.inr cf))))), (c0, .inr (1, [.ref v0, .ref ed0, .int n0, .int 0]))] sz)) 0 0 (va_A [(x, .inr (0, [.ref xT, .ref xP, .ref xR, .ref xG, .ref xF, .int tc, .ref xO, .ref xS, .ref xL, .ref xC, .ref xQ, .ref xU, .ref xW])), (xT, .inr (2, [.ref ca, .ref ta, .int 1, .int 0])), (ca, .inl (cT 5, 6, .inr (.inr (.inr (.inr cf))))), (c0, .inr (1, [.ref v0, .ref ed0, .int n0, .int 0]))] sz) := by
  refine Met.ofW (cc := cR_kinds) (maxL := 3) (ret := (some .boolean)) (by decide) rfl ?_
  intro p e s m args below meth c s₁ B hml hv
  obtain ⟨rfl, hsz, hZ, hP, hK, hD0⟩ := hv
  have hx := B.exec
  have hb := B.bytes
  have hr := B.returns
  have hts := atoms_spec (ws := WR_kinds) B.pre
  have hT : ∀ w ∈ TB, w.before _ s = true := fun w h => hts w (List.mem_cons_of_mem _ h)
  have hown : s.vm.findClass R_R = some m.cls := findClass_of_methodNamed B.named
  have hlocks := B.notSynchronized
  subst hsz
  have hD := hD0.self (sz := s.heap.size)
  generalize hAe : va_A [(x, .inr (0, [.ref xT, .ref xP, .ref xR, .ref xG, .ref xF, .int tc, .ref xO, .ref xS, .ref xL, .ref xC, .ref xQ, .ref xU, .ref xW])), (xT, .inr (2, [.ref ca, .ref ta, .int 1, .int 0])), (ca, .inl (cT 5, 6, .inr (.inr (.inr (.inr cf))))), (c0, .inr (1, [.ref v0, .ref ed0, .int n0, .int 0]))] s.heap.size = A at hD hZ ⊢
  have hA : ∀ q : Nat, s.heap.size ≤ q → A q := fun q h => by rw [← hAe]; exact Or.inr h
  have hS : va_S A s.heap s.heap [] := va_S.rf
  have hl := lv_entry ([.ref x, .int 0, .int 0]) (n := 3) (Nat.le_of_ble_eq_true rfl)
  rw [lg_entry_eq]
  generalize (lg_sl ([.ref x, .int 0, .int 0]) ++ List.replicate (3 - (lg_sl ([.ref x, .int 0, .int 0])).length) Slot.unset).toArray = ls at hl ⊢
  have hl : lv_has ls 3 [(0, .ref x), (1, .int 0), (2, .int 0)] := hl
  refine lv_aload_n hx hb dR_kinds_0 rfl (lv_at hl 0 rfl) ?_
  refine va_get (D := D) (ci := 0) (v := .ref xT) (C := R_R) (T := T_R) (N := 13) hx hb hT in_R hown hK hP 0 rfl rfl 0 (by decide) (hT _ w324) (fun _ h9 => h9) rfl dR_kinds_1 ?_
  refine lv_iload_n hx hb dR_kinds_4 rfl (lv_at hl 1 rfl) ?_
  refine ro_i (va_Run.run (va_runV (As := [.int 0]) (rest := []) ⟨hx, hb, hml, hown, hT⟩ (k_hasColumn l D cT xT ca ta 1 0 0) ⟨callB_of 1 hT (tb_gd w621) rfl rfl rfl (hT _ w2) (hT _ w618) hT_hasColumn ⟨Nat.le_of_ble_eq_true rfl, Nat.le_of_ble_eq_true rfl⟩, (hT _ w619), (hT _ w620)⟩ (RO.preV (ci := 2) (q0 := 0) hZ hS (hP.sub (ws' := [(xT, .inr (2, [.ref ca, .ref ta, .int 1, .int 0]))]) [1] rfl) hK rfl rfl) rfl rfl hl.1 rfl (lv_room (Nat.le_of_ble_eq_true rfl)) dR_kinds_5 ⟨Nat.le_of_ble_eq_true rfl, Nat.le_of_ble_eq_true rfl⟩)) ?_
  refine ro_v (va_Run.run (va_runS (As := [.int (bi (0 ≤ 0 ∧ 0 ≤ 1 - 1))]) (rest := []) ⟨hx, hb, hml, hown, hT⟩ (k_demand_ok l D cT (bi (0 ≤ 0 ∧ 0 ≤ 1 - 1)) (by rw [bi_t (by decide)]; decide)) ⟨callB_of 1 hT (tb_gd w510) rfl rfl rfl (hT _ w1) (hT _ w508) hR_demand ⟨Nat.le_of_ble_eq_true rfl, Nat.le_of_ble_eq_true rfl⟩, (hT _ w509)⟩ (RO.preS hZ hS ((show va_P D vwCl [] _ from fun _ _ h => nomatch h)) hK) rfl rfl hl.1 rfl (lv_room (Nat.le_of_ble_eq_true rfl)) dR_kinds_8 ⟨Nat.le_of_ble_eq_true rfl, Nat.le_of_ble_eq_true rfl⟩)) ?_
  refine lv_iload_n hx hb dR_kinds_11 rfl (lv_at hl 2 rfl) ?_
  refine lv_if_eq (tgt := 37) hx hb dR_kinds_12 rfl (fun _ => ?_) (fun hj1 => absurd (by decide) hj1)
  refine lv_iconst (v := 1) hx hb dR_kinds_37 (by decide) ?_
  refine lv_goto (tgt := 42) hx hb dR_kinds_38 rfl ?_
  refine ro_v (va_Run.run (va_runS (As := [.int 1]) (rest := []) ⟨hx, hb, hml, hown, hT⟩ (k_demandState_ok l D cT 1 (by decide)) ⟨callB_of 1 hT (tb_gd w586) rfl rfl rfl (hT _ w1) (hT _ w584) hR_demandState ⟨Nat.le_of_ble_eq_true rfl, Nat.le_of_ble_eq_true rfl⟩, (hT _ w585)⟩ (RO.preS hZ hS ((show va_P D vwCl [] _ from fun _ _ h => nomatch h)) hK) rfl rfl hl.1 rfl (lv_room (Nat.le_of_ble_eq_true rfl)) dR_kinds_42 ⟨Nat.le_of_ble_eq_true rfl, Nat.le_of_ble_eq_true rfl⟩)) ?_
  refine lv_aload_n hx hb dR_kinds_45 rfl (lv_at hl 0 rfl) ?_
  refine va_get (D := D) (ci := 0) (v := .ref xT) (C := R_R) (T := T_R) (N := 13) hx hb hT in_R hown hK hP 0 rfl rfl 0 (by decide) (hT _ w324) (fun _ h9 => h9) rfl dR_kinds_46 ?_
  refine va_get (D := D) (ci := 2) (v := .ref ca) (C := R_T) (T := T_T) (N := 4) hx hb hT in_T hown hK hP 1 rfl rfl 0 (by decide) (hT _ w74) (fun _ h9 => h9) rfl dR_kinds_49 ?_
  refine lv_iload_n hx hb dR_kinds_52 rfl (lv_at hl 1 rfl) ?_
  refine al_q (q := c0) hx hb hK hP 2 5 rfl rfl (by unfold vp_in; decide) hf0 dR_kinds_53 ?_
  refine lv_iload_n hx hb dR_kinds_54 rfl (lv_at hl 2 rfl) ?_
  refine rw_i (wc := [(c0, .inr (1, [.ref v0, .ref ed0, .int n0, .int 0]))]) (wr := [(x, .inr (0, [.ref xT, .ref xP, .ref xR, .ref xG, .ref xF, .int tc, .ref xO, .ref xS, .ref xL, .ref xC, .ref xQ, .ref xU, .ref xW])), (xT, .inr (2, [.ref ca, .ref ta, .int 1, .int 0])), (ca, .inl (cT 5, 6, .inr (.inr (.inr (.inr cf)))))]) hP hD hS hA [3] [0, 1, 2] rfl rfl (by decide) (by decide) (va_runV (As := [.int 0]) (rest := []) ⟨hx, hb, hml, hown, hT⟩ (k_become l D cT c0 v0 ed0 n0 0 0 rfl rfl rfl _) ⟨callB_of 1 hT (tb_gd w317) rfl rfl rfl (hT _ w3) (hT _ w655) hC_become ⟨Nat.le_of_ble_eq_true rfl, Nat.le_of_ble_eq_true rfl⟩, (hT _ w315), (hT _ w316)⟩ (RW.preV (ci := 1) (q0 := 0) hZ hS (va_free (wc := [(c0, .inr (1, [.ref v0, .ref ed0, .int n0, .int 0]))]) hD hS hA [3] rfl) (hP.sub (ws' := [(c0, .inr (1, [.ref v0, .ref ed0, .int n0, .int 0]))]) [3] rfl) hK (hD.sub (ws' := [(c0, .inr (1, [.ref v0, .ref ed0, .int n0, .int 0]))]) [3] (by decide) rfl) rfl rfl) rfl rfl hl.1 rfl (lv_room (Nat.le_of_ble_eq_true rfl)) dR_kinds_55 ⟨Nat.le_of_ble_eq_true rfl, Nat.le_of_ble_eq_true rfl⟩) (fun ru2 u2 H locs hpu2 hP hD hS => ?_)
  have hP : va_P D vwCl [(x, .inr (0, [.ref xT, .ref xP, .ref xR, .ref xG, .ref xF, .int tc, .ref xO, .ref xS, .ref xL, .ref xC, .ref xQ, .ref xU, .ref xW])), (xT, .inr (2, [.ref ca, .ref ta, .int 1, .int 0])), (ca, .inl (cT 5, 6, .inr (.inr (.inr (.inr cf))))), (c0, .inr (1, [.ref v0, .ref ed0, .int 0, .int 0]))] H := hP
  have hD : va_D A [(x, .inr (0, [.ref xT, .ref xP, .ref xR, .ref xG, .ref xF, .int tc, .ref xO, .ref xS, .ref xL, .ref xC, .ref xQ, .ref xU, .ref xW])), (xT, .inr (2, [.ref ca, .ref ta, .int 1, .int 0])), (ca, .inl (cT 5, 6, .inr (.inr (.inr (.inr cf))))), (c0, .inr (1, [.ref v0, .ref ed0, .int 0, .int 0]))] := hD
  rw [hpu2]
  have hP9 := hP.sub (ws' := [(x, .inr (0, [.ref xT, .ref xP, .ref xR, .ref xG, .ref xF, .int tc, .ref xO, .ref xS, .ref xL, .ref xC, .ref xQ, .ref xU, .ref xW])), (xT, .inr (2, [.ref ca, .ref ta, .int 1, .int 0])), (ca, .inl (cT 5, 6, .inr (.inr (.inr (.inr cf))))), (c0, .inr (1, [.ref v0, .ref ed0, .int 0, .int 0]))]) [0, 1, 2, 3] rfl
  have hD9 := hD.sub (ws' := [(x, .inr (0, [.ref xT, .ref xP, .ref xR, .ref xG, .ref xF, .int tc, .ref xO, .ref xS, .ref xL, .ref xC, .ref xQ, .ref xU, .ref xW])), (xT, .inr (2, [.ref ca, .ref ta, .int 1, .int 0])), (ca, .inl (cT 5, 6, .inr (.inr (.inr (.inr cf))))), (c0, .inr (1, [.ref v0, .ref ed0, .int 0, .int 0]))]) [0, 1, 2, 3] (by decide) rfl
  refine W.widen (k := 0) (n := 0) (Nat.le_of_ble_eq_true rfl) (Nat.le_of_ble_eq_true rfl) ?_
  exact W.zret (v := 0) hx hb hr rfl (fun t ht hW => ⟨⟨0, (fun _ => 0), rfl, rfl, by rw [ht]; exact hP9, hD9⟩, hS.F ht⟩) hS.2.2 dR_kinds_58
set_option maxHeartbeats 4000000 in
set_option maxRecDepth 100000 in
theorem k_kinds_ok1 (l : Launch) (D : va_G) (cT : Nat → ClassId) (x : Nat) (xT : Nat) (xP : Nat) (xR : Nat) (xG : Nat) (xF : Nat) (tc : Int32) (xO : Nat) (xS : Nat) (xL : Nat) (xC : Nat) (xQ : Nat) (xU : Nat) (xW : Nat) (ca : Nat) (ta : Nat) (cf : Nat → Option Nat) (c0 : Nat) (v0 : Nat) (ed0 : Nat) (n0 : Int32) (hf0 : cf 0 = some c0) (sz : Nat) : Met l yR_kinds WR_kinds ({ frames := 2, cells := 0, slots := 0, locals := 43 } : Room) (RW D vwCl [.ref x, .int 0, .int 1] [(x, .inr (0, [.ref xT, .ref xP, .ref xR, .ref xG, .ref xF, .int tc, .ref xO, .ref xS, .ref xL, .ref xC, .ref xQ, .ref xU, .ref xW])), (xT, .inr (2, [.ref ca, .ref ta, .int 1, .int 0])), (ca, .inl (cT 5, 6, .inr (.inr (.inr (.inr cf))))), (c0, .inr (1, [.ref v0, .ref ed0, .int n0, .int 0]))] (TY cT) sz) (va_Qi (fun (r : Int32) (_ : Nat → Nat) => r = 0) (BW D vwCl (va_A [(x, .inr (0, [.ref xT, .ref xP, .ref xR, .ref xG, .ref xF, .int tc, .ref xO, .ref xS, .ref xL, .ref xC, .ref xQ, .ref xU, .ref xW])), (xT, .inr (2, [.ref ca, .ref ta, .int 1, .int 0])), (ca, .inl (cT 5, 6, .inr (.inr (.inr (.inr cf))))), (c0, .inr (1, [.ref v0, .ref ed0, .int n0, .int 0]))] sz) (fun u => [(x, .inr (0, [.ref xT, .ref xP, .ref xR, .ref xG, .ref xF, .int tc, .ref xO, .ref xS, .ref xL, .ref xC, .ref xQ, .ref xU, .ref xW])), (xT, .inr (2, [.ref ca, .ref ta, .int 1, .int 0])), (ca, .inl (cT 5, 6, .inr (.inr (.inr (.inr cf))))), (c0, .inr (1, [.ref v0, .ref ed0, .int 0, .int 1]))])) (va_A [(x, .inr (0, [.ref xT, .ref xP, .ref xR, .ref xG, .ref xF, .int tc, .ref xO, .ref xS, .ref xL, .ref xC, .ref xQ, .ref xU, .ref xW])), (xT, .inr (2, [.ref ca, .ref ta, .int 1, .int 0])), (ca, .inl (cT 5, 6, .inr (.inr (.inr (.inr cf))))), (c0, .inr (1, [.ref v0, .ref ed0, .int n0, .int 0]))] sz)) 0 0 (va_A [(x, .inr (0, [.ref xT, .ref xP, .ref xR, .ref xG, .ref xF, .int tc, .ref xO, .ref xS, .ref xL, .ref xC, .ref xQ, .ref xU, .ref xW])), (xT, .inr (2, [.ref ca, .ref ta, .int 1, .int 0])), (ca, .inl (cT 5, 6, .inr (.inr (.inr (.inr cf))))), (c0, .inr (1, [.ref v0, .ref ed0, .int n0, .int 0]))] sz) := by
  refine Met.ofW (cc := cR_kinds) (maxL := 3) (ret := (some .boolean)) (by decide) rfl ?_
  intro p e s m args below meth c s₁ B hml hv
  obtain ⟨rfl, hsz, hZ, hP, hK, hD0⟩ := hv
  have hx := B.exec
  have hb := B.bytes
  have hr := B.returns
  have hts := atoms_spec (ws := WR_kinds) B.pre
  have hT : ∀ w ∈ TB, w.before _ s = true := fun w h => hts w (List.mem_cons_of_mem _ h)
  have hown : s.vm.findClass R_R = some m.cls := findClass_of_methodNamed B.named
  have hlocks := B.notSynchronized
  subst hsz
  have hD := hD0.self (sz := s.heap.size)
  generalize hAe : va_A [(x, .inr (0, [.ref xT, .ref xP, .ref xR, .ref xG, .ref xF, .int tc, .ref xO, .ref xS, .ref xL, .ref xC, .ref xQ, .ref xU, .ref xW])), (xT, .inr (2, [.ref ca, .ref ta, .int 1, .int 0])), (ca, .inl (cT 5, 6, .inr (.inr (.inr (.inr cf))))), (c0, .inr (1, [.ref v0, .ref ed0, .int n0, .int 0]))] s.heap.size = A at hD hZ ⊢
  have hA : ∀ q : Nat, s.heap.size ≤ q → A q := fun q h => by rw [← hAe]; exact Or.inr h
  have hS : va_S A s.heap s.heap [] := va_S.rf
  have hl := lv_entry ([.ref x, .int 0, .int 1]) (n := 3) (Nat.le_of_ble_eq_true rfl)
  rw [lg_entry_eq]
  generalize (lg_sl ([.ref x, .int 0, .int 1]) ++ List.replicate (3 - (lg_sl ([.ref x, .int 0, .int 1])).length) Slot.unset).toArray = ls at hl ⊢
  have hl : lv_has ls 3 [(0, .ref x), (1, .int 0), (2, .int 1)] := hl
  refine lv_aload_n hx hb dR_kinds_0 rfl (lv_at hl 0 rfl) ?_
  refine va_get (D := D) (ci := 0) (v := .ref xT) (C := R_R) (T := T_R) (N := 13) hx hb hT in_R hown hK hP 0 rfl rfl 0 (by decide) (hT _ w324) (fun _ h9 => h9) rfl dR_kinds_1 ?_
  refine lv_iload_n hx hb dR_kinds_4 rfl (lv_at hl 1 rfl) ?_
  refine ro_i (va_Run.run (va_runV (As := [.int 0]) (rest := []) ⟨hx, hb, hml, hown, hT⟩ (k_hasColumn l D cT xT ca ta 1 0 0) ⟨callB_of 1 hT (tb_gd w621) rfl rfl rfl (hT _ w2) (hT _ w618) hT_hasColumn ⟨Nat.le_of_ble_eq_true rfl, Nat.le_of_ble_eq_true rfl⟩, (hT _ w619), (hT _ w620)⟩ (RO.preV (ci := 2) (q0 := 0) hZ hS (hP.sub (ws' := [(xT, .inr (2, [.ref ca, .ref ta, .int 1, .int 0]))]) [1] rfl) hK rfl rfl) rfl rfl hl.1 rfl (lv_room (Nat.le_of_ble_eq_true rfl)) dR_kinds_5 ⟨Nat.le_of_ble_eq_true rfl, Nat.le_of_ble_eq_true rfl⟩)) ?_
  refine ro_v (va_Run.run (va_runS (As := [.int (bi (0 ≤ 0 ∧ 0 ≤ 1 - 1))]) (rest := []) ⟨hx, hb, hml, hown, hT⟩ (k_demand_ok l D cT (bi (0 ≤ 0 ∧ 0 ≤ 1 - 1)) (by rw [bi_t (by decide)]; decide)) ⟨callB_of 1 hT (tb_gd w510) rfl rfl rfl (hT _ w1) (hT _ w508) hR_demand ⟨Nat.le_of_ble_eq_true rfl, Nat.le_of_ble_eq_true rfl⟩, (hT _ w509)⟩ (RO.preS hZ hS ((show va_P D vwCl [] _ from fun _ _ h => nomatch h)) hK) rfl rfl hl.1 rfl (lv_room (Nat.le_of_ble_eq_true rfl)) dR_kinds_8 ⟨Nat.le_of_ble_eq_true rfl, Nat.le_of_ble_eq_true rfl⟩)) ?_
  refine lv_iload_n hx hb dR_kinds_11 rfl (lv_at hl 2 rfl) ?_
  refine lv_if_eq (tgt := 37) hx hb dR_kinds_12 rfl (fun hj1 => absurd hj1 (by decide)) (fun _ => ?_)
  refine lv_aload_n hx hb dR_kinds_15 rfl (lv_at hl 0 rfl) ?_
  refine va_get (D := D) (ci := 0) (v := .ref xT) (C := R_R) (T := T_R) (N := 13) hx hb hT in_R hown hK hP 0 rfl rfl 0 (by decide) (hT _ w324) (fun _ h9 => h9) rfl dR_kinds_16 ?_
  refine va_get (D := D) (ci := 2) (v := .ref ca) (C := R_T) (T := T_T) (N := 4) hx hb hT in_T hown hK hP 1 rfl rfl 0 (by decide) (hT _ w74) (fun _ h9 => h9) rfl dR_kinds_19 ?_
  refine lv_iload_n hx hb dR_kinds_22 rfl (lv_at hl 1 rfl) ?_
  refine al_q (q := c0) hx hb hK hP 2 5 rfl rfl (by unfold vp_in; decide) hf0 dR_kinds_23 ?_
  refine lv_aload_n hx hb dR_kinds_24 rfl (lv_at hl 0 rfl) ?_
  refine va_get (D := D) (ci := 0) (v := .ref xT) (C := R_R) (T := T_R) (N := 13) hx hb hT in_R hown hK hP 0 rfl rfl 0 (by decide) (hT _ w324) (fun _ h9 => h9) rfl dR_kinds_25 ?_
  refine va_get (D := D) (ci := 2) (v := .int 0) (C := R_T) (T := T_T) (N := 4) hx hb hT in_T hown hK hP 1 rfl rfl 3 (by decide) (hT _ w82) (fun _ h9 => h9) rfl dR_kinds_28 ?_
  refine ro_i (va_Run.run (va_runV (As := [.int 0]) (rest := []) ⟨hx, hb, hml, hown, hT⟩ (k_hasKinds0 l D cT c0 v0 ed0 n0 0) ⟨callB_of 1 hT (tb_gd w654) rfl rfl rfl (hT _ w3) (hT _ w651) hC_hasKindsAlone ⟨Nat.le_of_ble_eq_true rfl, Nat.le_of_ble_eq_true rfl⟩, (hT _ w652), (hT _ w653)⟩ (RO.preV (ci := 1) (q0 := 0) hZ hS (hP.sub (ws' := [(c0, .inr (1, [.ref v0, .ref ed0, .int n0, .int 0]))]) [3] rfl) hK rfl rfl) rfl rfl hl.1 rfl (lv_room (Nat.le_of_ble_eq_true rfl)) dR_kinds_31 ⟨Nat.le_of_ble_eq_true rfl, Nat.le_of_ble_eq_true rfl⟩)) ?_
  refine lv_if_eq (tgt := 41) hx hb dR_kinds_34 rfl (fun hj2 => absurd hj2 (by decide)) (fun _ => ?_)
  refine lv_iconst (v := 1) hx hb dR_kinds_37 (by decide) ?_
  refine lv_goto (tgt := 42) hx hb dR_kinds_38 rfl ?_
  refine ro_v (va_Run.run (va_runS (As := [.int 1]) (rest := []) ⟨hx, hb, hml, hown, hT⟩ (k_demandState_ok l D cT 1 (by decide)) ⟨callB_of 1 hT (tb_gd w586) rfl rfl rfl (hT _ w1) (hT _ w584) hR_demandState ⟨Nat.le_of_ble_eq_true rfl, Nat.le_of_ble_eq_true rfl⟩, (hT _ w585)⟩ (RO.preS hZ hS ((show va_P D vwCl [] _ from fun _ _ h => nomatch h)) hK) rfl rfl hl.1 rfl (lv_room (Nat.le_of_ble_eq_true rfl)) dR_kinds_42 ⟨Nat.le_of_ble_eq_true rfl, Nat.le_of_ble_eq_true rfl⟩)) ?_
  refine lv_aload_n hx hb dR_kinds_45 rfl (lv_at hl 0 rfl) ?_
  refine va_get (D := D) (ci := 0) (v := .ref xT) (C := R_R) (T := T_R) (N := 13) hx hb hT in_R hown hK hP 0 rfl rfl 0 (by decide) (hT _ w324) (fun _ h9 => h9) rfl dR_kinds_46 ?_
  refine va_get (D := D) (ci := 2) (v := .ref ca) (C := R_T) (T := T_T) (N := 4) hx hb hT in_T hown hK hP 1 rfl rfl 0 (by decide) (hT _ w74) (fun _ h9 => h9) rfl dR_kinds_49 ?_
  refine lv_iload_n hx hb dR_kinds_52 rfl (lv_at hl 1 rfl) ?_
  refine al_q (q := c0) hx hb hK hP 2 5 rfl rfl (by unfold vp_in; decide) hf0 dR_kinds_53 ?_
  refine lv_iload_n hx hb dR_kinds_54 rfl (lv_at hl 2 rfl) ?_
  refine rw_i (wc := [(c0, .inr (1, [.ref v0, .ref ed0, .int n0, .int 0]))]) (wr := [(x, .inr (0, [.ref xT, .ref xP, .ref xR, .ref xG, .ref xF, .int tc, .ref xO, .ref xS, .ref xL, .ref xC, .ref xQ, .ref xU, .ref xW])), (xT, .inr (2, [.ref ca, .ref ta, .int 1, .int 0])), (ca, .inl (cT 5, 6, .inr (.inr (.inr (.inr cf)))))]) hP hD hS hA [3] [0, 1, 2] rfl rfl (by decide) (by decide) (va_runV (As := [.int 1]) (rest := []) ⟨hx, hb, hml, hown, hT⟩ (k_become l D cT c0 v0 ed0 n0 0 1 rfl rfl rfl _) ⟨callB_of 1 hT (tb_gd w317) rfl rfl rfl (hT _ w3) (hT _ w655) hC_become ⟨Nat.le_of_ble_eq_true rfl, Nat.le_of_ble_eq_true rfl⟩, (hT _ w315), (hT _ w316)⟩ (RW.preV (ci := 1) (q0 := 0) hZ hS (va_free (wc := [(c0, .inr (1, [.ref v0, .ref ed0, .int n0, .int 0]))]) hD hS hA [3] rfl) (hP.sub (ws' := [(c0, .inr (1, [.ref v0, .ref ed0, .int n0, .int 0]))]) [3] rfl) hK (hD.sub (ws' := [(c0, .inr (1, [.ref v0, .ref ed0, .int n0, .int 0]))]) [3] (by decide) rfl) rfl rfl) rfl rfl hl.1 rfl (lv_room (Nat.le_of_ble_eq_true rfl)) dR_kinds_55 ⟨Nat.le_of_ble_eq_true rfl, Nat.le_of_ble_eq_true rfl⟩) (fun ru3 u3 H locs hpu3 hP hD hS => ?_)
  have hP : va_P D vwCl [(x, .inr (0, [.ref xT, .ref xP, .ref xR, .ref xG, .ref xF, .int tc, .ref xO, .ref xS, .ref xL, .ref xC, .ref xQ, .ref xU, .ref xW])), (xT, .inr (2, [.ref ca, .ref ta, .int 1, .int 0])), (ca, .inl (cT 5, 6, .inr (.inr (.inr (.inr cf))))), (c0, .inr (1, [.ref v0, .ref ed0, .int 0, .int 1]))] H := hP
  have hD : va_D A [(x, .inr (0, [.ref xT, .ref xP, .ref xR, .ref xG, .ref xF, .int tc, .ref xO, .ref xS, .ref xL, .ref xC, .ref xQ, .ref xU, .ref xW])), (xT, .inr (2, [.ref ca, .ref ta, .int 1, .int 0])), (ca, .inl (cT 5, 6, .inr (.inr (.inr (.inr cf))))), (c0, .inr (1, [.ref v0, .ref ed0, .int 0, .int 1]))] := hD
  rw [hpu3]
  have hP9 := hP.sub (ws' := [(x, .inr (0, [.ref xT, .ref xP, .ref xR, .ref xG, .ref xF, .int tc, .ref xO, .ref xS, .ref xL, .ref xC, .ref xQ, .ref xU, .ref xW])), (xT, .inr (2, [.ref ca, .ref ta, .int 1, .int 0])), (ca, .inl (cT 5, 6, .inr (.inr (.inr (.inr cf))))), (c0, .inr (1, [.ref v0, .ref ed0, .int 0, .int 1]))]) [0, 1, 2, 3] rfl
  have hD9 := hD.sub (ws' := [(x, .inr (0, [.ref xT, .ref xP, .ref xR, .ref xG, .ref xF, .int tc, .ref xO, .ref xS, .ref xL, .ref xC, .ref xQ, .ref xU, .ref xW])), (xT, .inr (2, [.ref ca, .ref ta, .int 1, .int 0])), (ca, .inl (cT 5, 6, .inr (.inr (.inr (.inr cf))))), (c0, .inr (1, [.ref v0, .ref ed0, .int 0, .int 1]))]) [0, 1, 2, 3] (by decide) rfl
  refine W.widen (k := 0) (n := 0) (Nat.le_of_ble_eq_true rfl) (Nat.le_of_ble_eq_true rfl) ?_
  exact W.zret (v := 0) hx hb hr rfl (fun t ht hW => ⟨⟨0, (fun _ => 0), rfl, rfl, by rw [ht]; exact hP9, hD9⟩, hS.F ht⟩) hS.2.2 dR_kinds_58
set_option maxHeartbeats 4000000 in
set_option maxRecDepth 100000 in
theorem k_cut_ok (l : Launch) (D : va_G) (cT : Nat → ClassId) (x : Nat) (xT : Nat) (xP : Nat) (xR : Nat) (xG : Nat) (xF : Nat) (tc : Int32) (xO : Nat) (xS : Nat) (xL : Nat) (xC : Nat) (xQ : Nat) (xU : Nat) (xW : Nat) (ca : Nat) (ta : Nat) (cf : Nat → Option Nat) (c0 : Nat) (v0 : Nat) (ed0 : Nat) (n0 : Int32) (a2 : Int32) (a3 : Int32) (hq : 2 ≤ a3 ∧ a3 ≤ 12) (hf0 : cf 0 = some c0) (sz : Nat) : Met l yR_cut WR_cut ({ frames := 2, cells := 0, slots := 0, locals := 43 } : Room) (RW D vwCl [.ref x, .int 0, .int a2, .int a3] [(x, .inr (0, [.ref xT, .ref xP, .ref xR, .ref xG, .ref xF, .int tc, .ref xO, .ref xS, .ref xL, .ref xC, .ref xQ, .ref xU, .ref xW])), (xT, .inr (2, [.ref ca, .ref ta, .int 1, .int 0])), (ca, .inl (cT 5, 6, .inr (.inr (.inr (.inr cf))))), (c0, .inr (1, [.ref v0, .ref ed0, .int n0, .int 0]))] (TY cT) sz) (va_Qi (fun (r : Int32) (_ : Nat → Nat) => r = 0) (BW D vwCl (va_A [(x, .inr (0, [.ref xT, .ref xP, .ref xR, .ref xG, .ref xF, .int tc, .ref xO, .ref xS, .ref xL, .ref xC, .ref xQ, .ref xU, .ref xW])), (xT, .inr (2, [.ref ca, .ref ta, .int 1, .int 0])), (ca, .inl (cT 5, 6, .inr (.inr (.inr (.inr cf))))), (c0, .inr (1, [.ref v0, .ref ed0, .int n0, .int 0]))] sz) (fun u => [(x, .inr (0, [.ref xT, .ref xP, .ref xR, .ref xG, .ref xF, .int tc, .ref xO, .ref xS, .ref xL, .ref xC, .ref xQ, .ref xU, .ref xW])), (xT, .inr (2, [.ref ca, .ref ta, .int 1, .int 0])), (ca, .inl (cT 5, 6, .inr (.inr (.inr (.inr cf))))), (c0, .inr (1, [.ref v0, .ref ed0, .int 0, .int 0]))])) (va_A [(x, .inr (0, [.ref xT, .ref xP, .ref xR, .ref xG, .ref xF, .int tc, .ref xO, .ref xS, .ref xL, .ref xC, .ref xQ, .ref xU, .ref xW])), (xT, .inr (2, [.ref ca, .ref ta, .int 1, .int 0])), (ca, .inl (cT 5, 6, .inr (.inr (.inr (.inr cf))))), (c0, .inr (1, [.ref v0, .ref ed0, .int n0, .int 0]))] sz)) 0 0 (va_A [(x, .inr (0, [.ref xT, .ref xP, .ref xR, .ref xG, .ref xF, .int tc, .ref xO, .ref xS, .ref xL, .ref xC, .ref xQ, .ref xU, .ref xW])), (xT, .inr (2, [.ref ca, .ref ta, .int 1, .int 0])), (ca, .inl (cT 5, 6, .inr (.inr (.inr (.inr cf))))), (c0, .inr (1, [.ref v0, .ref ed0, .int n0, .int 0]))] sz) := by
  refine Met.ofW (cc := cR_cut) (maxL := 5) (ret := (some .int)) (by decide) rfl ?_
  intro p e s m args below meth c s₁ B hml hv
  obtain ⟨rfl, hsz, hZ, hP, hK, hD0⟩ := hv
  have hx := B.exec
  have hb := B.bytes
  have hr := B.returns
  have hts := atoms_spec (ws := WR_cut) B.pre
  have hT : ∀ w ∈ TB, w.before _ s = true := fun w h => hts w (List.mem_cons_of_mem _ h)
  have hown : s.vm.findClass R_R = some m.cls := findClass_of_methodNamed B.named
  have hlocks := B.notSynchronized
  subst hsz
  have hD := hD0.self (sz := s.heap.size)
  generalize hAe : va_A [(x, .inr (0, [.ref xT, .ref xP, .ref xR, .ref xG, .ref xF, .int tc, .ref xO, .ref xS, .ref xL, .ref xC, .ref xQ, .ref xU, .ref xW])), (xT, .inr (2, [.ref ca, .ref ta, .int 1, .int 0])), (ca, .inl (cT 5, 6, .inr (.inr (.inr (.inr cf))))), (c0, .inr (1, [.ref v0, .ref ed0, .int n0, .int 0]))] s.heap.size = A at hD hZ ⊢
  have hA : ∀ q : Nat, s.heap.size ≤ q → A q := fun q h => by rw [← hAe]; exact Or.inr h
  have hS : va_S A s.heap s.heap [] := va_S.rf
  have hl := lv_entry ([.ref x, .int 0, .int a2, .int a3]) (n := 5) (Nat.le_of_ble_eq_true rfl)
  rw [lg_entry_eq]
  generalize (lg_sl ([.ref x, .int 0, .int a2, .int a3]) ++ List.replicate (5 - (lg_sl ([.ref x, .int 0, .int a2, .int a3])).length) Slot.unset).toArray = ls at hl ⊢
  have hl : lv_has ls 5 [(0, .ref x), (1, .int 0), (2, .int a2), (3, .int a3)] := hl
  refine lv_aload_n hx hb dR_cut_0 rfl (lv_at hl 0 rfl) ?_
  refine va_get (D := D) (ci := 0) (v := .ref xT) (C := R_R) (T := T_R) (N := 13) hx hb hT in_R hown hK hP 0 rfl rfl 0 (by decide) (hT _ w324) (fun _ h9 => h9) rfl dR_cut_1 ?_
  refine lv_iload_n hx hb dR_cut_4 rfl (lv_at hl 1 rfl) ?_
  refine ro_i (va_Run.run (va_runV (As := [.int 0]) (rest := []) ⟨hx, hb, hml, hown, hT⟩ (k_hasColumn l D cT xT ca ta 1 0 0) ⟨callB_of 1 hT (tb_gd w621) rfl rfl rfl (hT _ w2) (hT _ w618) hT_hasColumn ⟨Nat.le_of_ble_eq_true rfl, Nat.le_of_ble_eq_true rfl⟩, (hT _ w619), (hT _ w620)⟩ (RO.preV (ci := 2) (q0 := 0) hZ hS (hP.sub (ws' := [(xT, .inr (2, [.ref ca, .ref ta, .int 1, .int 0]))]) [1] rfl) hK rfl rfl) rfl rfl hl.1 rfl (lv_room (Nat.le_of_ble_eq_true rfl)) dR_cut_5 ⟨Nat.le_of_ble_eq_true rfl, Nat.le_of_ble_eq_true rfl⟩)) ?_
  refine lv_if_eq (tgt := 25) hx hb dR_cut_8 rfl (fun hj1 => absurd hj1 (by rw [bi_t (by decide)]; decide)) (fun _ => ?_)
  refine lv_iload_n hx hb dR_cut_11 rfl (lv_at hl 3 rfl) ?_
  refine lv_iconst (v := 2) hx hb dR_cut_12 (by decide) ?_
  refine lv_bipush (v := 12) hx hb dR_cut_13 (by decide) ?_
  refine ro_i (va_Run.run (va_runS (As := [.int a3, .int 2, .int 12]) (rest := []) ⟨hx, hb, hml, hown, hT⟩ (k_isWithin l D cT a3 2 12) ⟨callB_of 3 hT (tb_gd w499) rfl rfl rfl (hT _ w1) (hT _ w497) hR_isWithin ⟨Nat.le_of_ble_eq_true rfl, Nat.le_of_ble_eq_true rfl⟩, (hT _ w498)⟩ (RO.preS hZ hS ((show va_P D vwCl [] _ from fun _ _ h => nomatch h)) hK) rfl rfl hl.1 rfl (lv_room (Nat.le_of_ble_eq_true rfl)) dR_cut_15 ⟨Nat.le_of_ble_eq_true rfl, Nat.le_of_ble_eq_true rfl⟩)) ?_
  refine lv_if_eq (tgt := 25) hx hb dR_cut_18 rfl (fun hj2 => absurd hj2 (by rw [bi_t hq]; decide)) (fun _ => ?_)
  refine lv_iconst (v := 1) hx hb dR_cut_21 (by decide) ?_
  refine lv_goto (tgt := 26) hx hb dR_cut_22 rfl ?_
  refine ro_v (va_Run.run (va_runS (As := [.int 1]) (rest := []) ⟨hx, hb, hml, hown, hT⟩ (k_demand_ok l D cT 1 (by decide)) ⟨callB_of 1 hT (tb_gd w510) rfl rfl rfl (hT _ w1) (hT _ w508) hR_demand ⟨Nat.le_of_ble_eq_true rfl, Nat.le_of_ble_eq_true rfl⟩, (hT _ w509)⟩ (RO.preS hZ hS ((show va_P D vwCl [] _ from fun _ _ h => nomatch h)) hK) rfl rfl hl.1 rfl (lv_room (Nat.le_of_ble_eq_true rfl)) dR_cut_26 ⟨Nat.le_of_ble_eq_true rfl, Nat.le_of_ble_eq_true rfl⟩)) ?_
  refine lv_aload_n hx hb dR_cut_29 rfl (lv_at hl 0 rfl) ?_
  refine va_get (D := D) (ci := 0) (v := .ref xT) (C := R_R) (T := T_R) (N := 13) hx hb hT in_R hown hK hP 0 rfl rfl 0 (by decide) (hT _ w324) (fun _ h9 => h9) rfl dR_cut_30 ?_
  refine va_get (D := D) (ci := 2) (v := .ref ca) (C := R_T) (T := T_T) (N := 4) hx hb hT in_T hown hK hP 1 rfl rfl 0 (by decide) (hT _ w74) (fun _ h9 => h9) rfl dR_cut_33 ?_
  refine lv_iload_n hx hb dR_cut_36 rfl (lv_at hl 1 rfl) ?_
  refine al_q (q := c0) hx hb hK hP 2 5 rfl rfl (by unfold vp_in; decide) hf0 dR_cut_37 ?_
  refine va_get (D := D) (ci := 1) (v := .int 0) (C := R_C) (T := T_C) (N := 4) hx hb hT in_C hown hK hP 3 rfl rfl 3 (by decide) (hT _ w62) (fun _ h9 => h9) rfl dR_cut_38 ?_
  refine lv_if_ne (tgt := 48) hx hb dR_cut_41 rfl (fun hj3 => absurd (by decide) hj3) (fun _ => ?_)
  refine lv_iconst (v := 1) hx hb dR_cut_44 (by decide) ?_
  refine lv_goto (tgt := 49) hx hb dR_cut_45 rfl ?_
  refine ro_v (va_Run.run (va_runS (As := [.int 1]) (rest := []) ⟨hx, hb, hml, hown, hT⟩ (k_demandState_ok l D cT 1 (by decide)) ⟨callB_of 1 hT (tb_gd w586) rfl rfl rfl (hT _ w1) (hT _ w584) hR_demandState ⟨Nat.le_of_ble_eq_true rfl, Nat.le_of_ble_eq_true rfl⟩, (hT _ w585)⟩ (RO.preS hZ hS ((show va_P D vwCl [] _ from fun _ _ h => nomatch h)) hK) rfl rfl hl.1 rfl (lv_room (Nat.le_of_ble_eq_true rfl)) dR_cut_49 ⟨Nat.le_of_ble_eq_true rfl, Nat.le_of_ble_eq_true rfl⟩)) ?_
  refine lv_aload_n hx hb dR_cut_52 rfl (lv_at hl 0 rfl) ?_
  refine va_get (D := D) (ci := 0) (v := .ref xT) (C := R_R) (T := T_R) (N := 13) hx hb hT in_R hown hK hP 0 rfl rfl 0 (by decide) (hT _ w324) (fun _ h9 => h9) rfl dR_cut_53 ?_
  refine va_get (D := D) (ci := 2) (v := .ref ca) (C := R_T) (T := T_T) (N := 4) hx hb hT in_T hown hK hP 1 rfl rfl 0 (by decide) (hT _ w74) (fun _ h9 => h9) rfl dR_cut_56 ?_
  refine lv_iload_n hx hb dR_cut_59 rfl (lv_at hl 1 rfl) ?_
  refine al_q (q := c0) hx hb hK hP 2 5 rfl rfl (by unfold vp_in; decide) hf0 dR_cut_60 ?_
  refine lv_aload_n hx hb dR_cut_61 rfl (lv_at hl 0 rfl) ?_
  refine va_get (D := D) (ci := 0) (v := .ref xS) (C := R_R) (T := T_R) (N := 13) hx hb hT in_R hown hK hP 0 rfl rfl 7 (by decide) (hT _ w331) (fun _ h9 => h9) rfl dR_cut_62 ?_
  refine lv_aload_n hx hb dR_cut_65 rfl (lv_at hl 0 rfl) ?_
  refine va_get (D := D) (ci := 0) (v := .ref xT) (C := R_R) (T := T_R) (N := 13) hx hb hT in_R hown hK hP 0 rfl rfl 0 (by decide) (hT _ w324) (fun _ h9 => h9) rfl dR_cut_66 ?_
  refine va_get (D := D) (ci := 2) (v := .int 0) (C := R_T) (T := T_T) (N := 4) hx hb hT in_T hown hK hP 1 rfl rfl 3 (by decide) (hT _ w82) (fun _ h9 => h9) rfl dR_cut_69 ?_
  refine ro_i (va_Run.run (va_runV (As := [.ref xS, .int 0]) (rest := []) ⟨hx, hb, hml, hown, hT⟩ (k_sortInto0 l D cT c0 v0 ed0 n0 0 xS) ⟨callB_of 2 hT (tb_gd w666) rfl rfl rfl (hT _ w3) (hT _ w663) hC_sortInto ⟨Nat.le_of_ble_eq_true rfl, Nat.le_of_ble_eq_true rfl⟩, (hT _ w664), (hT _ w665)⟩ (RO.preV (ci := 1) (q0 := 0) hZ hS (hP.sub (ws' := [(c0, .inr (1, [.ref v0, .ref ed0, .int n0, .int 0]))]) [3] rfl) hK rfl rfl) rfl rfl hl.1 rfl (lv_room (Nat.le_of_ble_eq_true rfl)) dR_cut_72 ⟨Nat.le_of_ble_eq_true rfl, Nat.le_of_ble_eq_true rfl⟩)) ?_
  refine lv_istore hx hb dR_cut_75 hl (by decide) rfl (fun ls hl => ?_)
  have hl : lv_has ls 5 [(4, .int 0), (0, .ref x), (1, .int 0), (2, .int a2), (3, .int a3)] := hl
  refine lv_aload_n hx hb dR_cut_77 rfl (lv_at hl 1 rfl) ?_
  refine va_get (D := D) (ci := 0) (v := .ref xT) (C := R_R) (T := T_R) (N := 13) hx hb hT in_R hown hK hP 0 rfl rfl 0 (by decide) (hT _ w324) (fun _ h9 => h9) rfl dR_cut_78 ?_
  refine va_get (D := D) (ci := 2) (v := .ref ca) (C := R_T) (T := T_T) (N := 4) hx hb hT in_T hown hK hP 1 rfl rfl 0 (by decide) (hT _ w74) (fun _ h9 => h9) rfl dR_cut_81 ?_
  refine lv_iload_n hx hb dR_cut_84 rfl (lv_at hl 2 rfl) ?_
  refine al_q (q := c0) hx hb hK hP 2 5 rfl rfl (by unfold vp_in; decide) hf0 dR_cut_85 ?_
  refine lv_iload_n hx hb dR_cut_86 rfl (lv_at hl 3 rfl) ?_
  refine lv_iload_n hx hb dR_cut_87 rfl (lv_at hl 4 rfl) ?_
  refine lv_aload_n hx hb dR_cut_88 rfl (lv_at hl 1 rfl) ?_
  refine va_get (D := D) (ci := 0) (v := .ref xS) (C := R_R) (T := T_R) (N := 13) hx hb hT in_R hown hK hP 0 rfl rfl 7 (by decide) (hT _ w331) (fun _ h9 => h9) rfl dR_cut_89 ?_
  refine lv_iload hx hb dR_cut_92 (lv_at hl 0 rfl) ?_
  refine rw_i (wc := [(c0, .inr (1, [.ref v0, .ref ed0, .int n0, .int 0]))]) (wr := [(x, .inr (0, [.ref xT, .ref xP, .ref xR, .ref xG, .ref xF, .int tc, .ref xO, .ref xS, .ref xL, .ref xC, .ref xQ, .ref xU, .ref xW])), (xT, .inr (2, [.ref ca, .ref ta, .int 1, .int 0])), (ca, .inl (cT 5, 6, .inr (.inr (.inr (.inr cf)))))]) hP hD hS hA [3] [0, 1, 2] rfl rfl (by decide) (by decide) (va_runV (As := [.int a2, .int a3, .ref xS, .int 0]) (rest := []) ⟨hx, hb, hml, hown, hT⟩ (k_cutEdges0 l D cT c0 v0 ed0 n0 0 a2 a3 xS _) ⟨callB_of 4 hT (tb_gd w670) rfl rfl rfl (hT _ w3) (hT _ w667) hC_cutEdges ⟨Nat.le_of_ble_eq_true rfl, Nat.le_of_ble_eq_true rfl⟩, (hT _ w668), (hT _ w669)⟩ (RW.preV (ci := 1) (q0 := 0) hZ hS (va_free (wc := [(c0, .inr (1, [.ref v0, .ref ed0, .int n0, .int 0]))]) hD hS hA [3] rfl) (hP.sub (ws' := [(c0, .inr (1, [.ref v0, .ref ed0, .int n0, .int 0]))]) [3] rfl) hK (hD.sub (ws' := [(c0, .inr (1, [.ref v0, .ref ed0, .int n0, .int 0]))]) [3] (by decide) rfl) rfl rfl) rfl rfl hl.1 rfl (lv_room (Nat.le_of_ble_eq_true rfl)) dR_cut_94 ⟨Nat.le_of_ble_eq_true rfl, Nat.le_of_ble_eq_true rfl⟩) (fun ru4 u4 H locs hpu4 hP hD hS => ?_)
  have hP : va_P D vwCl [(x, .inr (0, [.ref xT, .ref xP, .ref xR, .ref xG, .ref xF, .int tc, .ref xO, .ref xS, .ref xL, .ref xC, .ref xQ, .ref xU, .ref xW])), (xT, .inr (2, [.ref ca, .ref ta, .int 1, .int 0])), (ca, .inl (cT 5, 6, .inr (.inr (.inr (.inr cf))))), (c0, .inr (1, [.ref v0, .ref ed0, .int 0, .int 0]))] H := hP
  have hD : va_D A [(x, .inr (0, [.ref xT, .ref xP, .ref xR, .ref xG, .ref xF, .int tc, .ref xO, .ref xS, .ref xL, .ref xC, .ref xQ, .ref xU, .ref xW])), (xT, .inr (2, [.ref ca, .ref ta, .int 1, .int 0])), (ca, .inl (cT 5, 6, .inr (.inr (.inr (.inr cf))))), (c0, .inr (1, [.ref v0, .ref ed0, .int 0, .int 0]))] := hD
  rw [hpu4]
  have hP9 := hP.sub (ws' := [(x, .inr (0, [.ref xT, .ref xP, .ref xR, .ref xG, .ref xF, .int tc, .ref xO, .ref xS, .ref xL, .ref xC, .ref xQ, .ref xU, .ref xW])), (xT, .inr (2, [.ref ca, .ref ta, .int 1, .int 0])), (ca, .inl (cT 5, 6, .inr (.inr (.inr (.inr cf))))), (c0, .inr (1, [.ref v0, .ref ed0, .int 0, .int 0]))]) [0, 1, 2, 3] rfl
  have hD9 := hD.sub (ws' := [(x, .inr (0, [.ref xT, .ref xP, .ref xR, .ref xG, .ref xF, .int tc, .ref xO, .ref xS, .ref xL, .ref xC, .ref xQ, .ref xU, .ref xW])), (xT, .inr (2, [.ref ca, .ref ta, .int 1, .int 0])), (ca, .inl (cT 5, 6, .inr (.inr (.inr (.inr cf))))), (c0, .inr (1, [.ref v0, .ref ed0, .int 0, .int 0]))]) [0, 1, 2, 3] (by decide) rfl
  refine W.widen (k := 0) (n := 0) (Nat.le_of_ble_eq_true rfl) (Nat.le_of_ble_eq_true rfl) ?_
  exact W.iret (v := 0) hx hb hr (fun t ht hW => ⟨⟨0, (fun _ => 0), rfl, rfl, by rw [ht]; exact hP9, hD9⟩, hS.F ht⟩) hS.2.2 dR_cut_97
set_option maxHeartbeats 4000000 in
set_option maxRecDepth 100000 in
theorem k_edge_no0 (l : Launch) (D : va_G) (cT : Nat → ClassId) (x : Nat) (xT : Nat) (xP : Nat) (xR : Nat) (xG : Nat) (xF : Nat) (tc : Int32) (xO : Nat) (xS : Nat) (xL : Nat) (xC : Nat) (xQ : Nat) (xU : Nat) (xW : Nat) (ca : Nat) (ta : Nat) (cf : Nat → Option Nat) (c0 : Nat) (v0 : Nat) (ed0 : Nat) (a2 : Int32) (hlt : l.stackTraces = false) (hf0 : cf 0 = some c0) : MetT l yR_edge WR_edge ({ frames := 7, cells := 1, slots := 6, locals := 111 } : Room) (RO D vwCl [.ref x, .int 0, .int a2] [(x, .inr (0, [.ref xT, .ref xP, .ref xR, .ref xG, .ref xF, .int tc, .ref xO, .ref xS, .ref xL, .ref xC, .ref xQ, .ref xU, .ref xW])), (xT, .inr (2, [.ref ca, .ref ta, .int 1, .int 0])), (ca, .inl (cT 5, 6, .inr (.inr (.inr (.inr cf))))), (c0, .inr (1, [.ref v0, .ref ed0, .int 0, .int 0]))] (TY cT)) "java/lang/IllegalArgumentException" 1 6 := by
  refine MetT.ofW (cc := cR_edge) (maxL := 3) (ret := (some .int)) (by decide) rfl ?_
  intro p e s m args below meth c s₁ B hml hno hv
  obtain ⟨rfl, hZ, hP, hK⟩ := hv
  have hx := B.exec
  have hb := B.bytes
  have hr := B.returns
  have hts := atoms_spec (ws := WR_edge) B.pre
  have hT : ∀ w ∈ TB, w.before _ s = true := fun w h => hts w (List.mem_cons_of_mem _ h)
  have hown : s.vm.findClass R_R = some m.cls := findClass_of_methodNamed B.named
  have hlocks := B.notSynchronized
  have hS : va_S (fun _ => False) s.heap s.heap [] := va_S.rf
  have hl := lv_entry ([.ref x, .int 0, .int a2]) (n := 3) (Nat.le_of_ble_eq_true rfl)
  rw [lg_entry_eq]
  generalize (lg_sl ([.ref x, .int 0, .int a2]) ++ List.replicate (3 - (lg_sl ([.ref x, .int 0, .int a2])).length) Slot.unset).toArray = ls at hl ⊢
  have hl : lv_has ls 3 [(0, .ref x), (1, .int 0), (2, .int a2)] := hl
  refine lv_aload_n hx hb dR_edge_0 rfl (lv_at hl 0 rfl) ?_
  refine va_get (D := D) (ci := 0) (v := .ref xT) (C := R_R) (T := T_R) (N := 13) hx hb hT in_R hown hK hP 0 rfl rfl 0 (by decide) (hT _ w324) (fun _ h9 => h9) rfl dR_edge_1 ?_
  refine lv_iload_n hx hb dR_edge_4 rfl (lv_at hl 1 rfl) ?_
  refine ro_i (va_Run.run (va_runV (As := [.int 0]) (rest := []) ⟨hx, hb, hml, hown, hT⟩ (k_hasColumn l D cT xT ca ta 1 0 0) ⟨callB_of 1 hT (tb_gd w621) rfl rfl rfl (hT _ w2) (hT _ w618) hT_hasColumn ⟨Nat.le_of_ble_eq_true rfl, Nat.le_of_ble_eq_true rfl⟩, (hT _ w619), (hT _ w620)⟩ (RO.preV (ci := 2) (q0 := 0) hZ hS (hP.sub (ws' := [(xT, .inr (2, [.ref ca, .ref ta, .int 1, .int 0]))]) [1] rfl) hK rfl rfl) rfl rfl hl.1 rfl (lv_room (Nat.le_of_ble_eq_true rfl)) dR_edge_5 ⟨Nat.le_of_ble_eq_true rfl, Nat.le_of_ble_eq_true rfl⟩)) ?_
  refine ro_v (va_Run.run (va_runS (As := [.int (bi (0 ≤ 0 ∧ 0 ≤ 1 - 1))]) (rest := []) ⟨hx, hb, hml, hown, hT⟩ (k_demand_ok l D cT (bi (0 ≤ 0 ∧ 0 ≤ 1 - 1)) (by rw [bi_t (by decide)]; decide)) ⟨callB_of 1 hT (tb_gd w510) rfl rfl rfl (hT _ w1) (hT _ w508) hR_demand ⟨Nat.le_of_ble_eq_true rfl, Nat.le_of_ble_eq_true rfl⟩, (hT _ w509)⟩ (RO.preS hZ hS ((show va_P D vwCl [] _ from fun _ _ h => nomatch h)) hK) rfl rfl hl.1 rfl (lv_room (Nat.le_of_ble_eq_true rfl)) dR_edge_8 ⟨Nat.le_of_ble_eq_true rfl, Nat.le_of_ble_eq_true rfl⟩)) ?_
  refine lv_iload_n hx hb dR_edge_11 rfl (lv_at hl 2 rfl) ?_
  refine lv_iconst (v := 0) hx hb dR_edge_12 (by decide) ?_
  refine lv_aload_n hx hb dR_edge_13 rfl (lv_at hl 0 rfl) ?_
  refine va_get (D := D) (ci := 0) (v := .ref xT) (C := R_R) (T := T_R) (N := 13) hx hb hT in_R hown hK hP 0 rfl rfl 0 (by decide) (hT _ w324) (fun _ h9 => h9) rfl dR_edge_14 ?_
  refine va_get (D := D) (ci := 2) (v := .ref ca) (C := R_T) (T := T_T) (N := 4) hx hb hT in_T hown hK hP 1 rfl rfl 0 (by decide) (hT _ w74) (fun _ h9 => h9) rfl dR_edge_17 ?_
  refine lv_iload_n hx hb dR_edge_20 rfl (lv_at hl 1 rfl) ?_
  refine al_q (q := c0) hx hb hK hP 2 5 rfl rfl (by unfold vp_in; decide) hf0 dR_edge_21 ?_
  refine va_get (D := D) (ci := 1) (v := .int 0) (C := R_C) (T := T_C) (N := 4) hx hb hT in_C hown hK hP 3 rfl rfl 2 (by decide) (hT _ w59) (fun _ h9 => h9) rfl dR_edge_22 ?_
  refine lv_iconst (v := 1) hx hb dR_edge_25 (by decide) ?_
  refine lv_isub hx hb dR_edge_26 ?_
  refine lv_topi (fun y9 e9 => ?_)
  cases (show y9 = (-1) from e9.trans (by decide))
  refine ro_i (va_Run.run (va_runS (As := [.int a2, .int 0, .int (-1)]) (rest := []) ⟨hx, hb, hml, hown, hT⟩ (k_isWithin l D cT a2 0 (-1)) ⟨callB_of 3 hT (tb_gd w499) rfl rfl rfl (hT _ w1) (hT _ w497) hR_isWithin ⟨Nat.le_of_ble_eq_true rfl, Nat.le_of_ble_eq_true rfl⟩, (hT _ w498)⟩ (RO.preS hZ hS ((show va_P D vwCl [] _ from fun _ _ h => nomatch h)) hK) rfl rfl hl.1 rfl (lv_room (Nat.le_of_ble_eq_true rfl)) dR_edge_27 ⟨Nat.le_of_ble_eq_true rfl, Nat.le_of_ble_eq_true rfl⟩)) ?_
  exact tx_out (tx_goS (As := [.int (bi (0 ≤ a2 ∧ a2 ≤ (-1)))]) (rest := []) ⟨hx, hb, hml, hown, hT⟩ (k_demand_no l D cT (bi (0 ≤ a2 ∧ a2 ≤ (-1))) hlt (bi_f (fun q => absurd (Int32.le_trans q.1 q.2) (by decide)))) ⟨callB_of 1 hT (tb_gd w510) rfl rfl rfl (hT _ w1) (hT _ w508) hR_demand ⟨Nat.le_of_ble_eq_true rfl, Nat.le_of_ble_eq_true rfl⟩, (hT _ w509)⟩ (RO.preS hZ hS ((show va_P D vwCl [] _ from fun _ _ h => nomatch h)) hK) rfl hl.1 rfl (Nat.le_of_ble_eq_true rfl) dR_edge_30 ⟨Nat.le_of_ble_eq_true rfl, Nat.le_of_ble_eq_true rfl⟩) hno hlocks
set_option maxHeartbeats 4000000 in
set_option maxRecDepth 100000 in
theorem k_bin_no0 (l : Launch) (D : va_G) (cT : Nat → ClassId) (x : Nat) (xT : Nat) (xP : Nat) (xR : Nat) (xG : Nat) (xF : Nat) (tc : Int32) (xO : Nat) (xS : Nat) (xL : Nat) (xC : Nat) (xQ : Nat) (xU : Nat) (xW : Nat) (ca : Nat) (ta : Nat) (cf : Nat → Option Nat) (c0 : Nat) (v0 : Nat) (ed0 : Nat) (n0 : Int32) (a2 : Int32) (hlt : l.stackTraces = false) (h1 : ¬ a2 = (-2147483648)) (hq : ¬ (a2 = (-2147483648) ∨ ((-1000000) ≤ a2 ∧ a2 ≤ 1000000))) (hf0 : cf 0 = some c0) : MetT l yR_bin WR_bin ({ frames := 7, cells := 1, slots := 6, locals := 111 } : Room) (RO D vwCl [.ref x, .int 0, .int a2] [(x, .inr (0, [.ref xT, .ref xP, .ref xR, .ref xG, .ref xF, .int tc, .ref xO, .ref xS, .ref xL, .ref xC, .ref xQ, .ref xU, .ref xW])), (xT, .inr (2, [.ref ca, .ref ta, .int 1, .int 0])), (ca, .inl (cT 5, 6, .inr (.inr (.inr (.inr cf))))), (c0, .inr (1, [.ref v0, .ref ed0, .int n0, .int 0]))] (TY cT)) "java/lang/IllegalArgumentException" 1 6 := by
  refine MetT.ofW (cc := cR_bin) (maxL := 3) (ret := (some .int)) (by decide) rfl ?_
  intro p e s m args below meth c s₁ B hml hno hv
  obtain ⟨rfl, hZ, hP, hK⟩ := hv
  have hx := B.exec
  have hb := B.bytes
  have hr := B.returns
  have hts := atoms_spec (ws := WR_bin) B.pre
  have hT : ∀ w ∈ TB, w.before _ s = true := fun w h => hts w (List.mem_cons_of_mem _ h)
  have hown : s.vm.findClass R_R = some m.cls := findClass_of_methodNamed B.named
  have hlocks := B.notSynchronized
  have hS : va_S (fun _ => False) s.heap s.heap [] := va_S.rf
  have hl := lv_entry ([.ref x, .int 0, .int a2]) (n := 3) (Nat.le_of_ble_eq_true rfl)
  rw [lg_entry_eq]
  generalize (lg_sl ([.ref x, .int 0, .int a2]) ++ List.replicate (3 - (lg_sl ([.ref x, .int 0, .int a2])).length) Slot.unset).toArray = ls at hl ⊢
  have hl : lv_has ls 3 [(0, .ref x), (1, .int 0), (2, .int a2)] := hl
  refine lv_aload_n hx hb dR_bin_0 rfl (lv_at hl 0 rfl) ?_
  refine va_get (D := D) (ci := 0) (v := .ref xT) (C := R_R) (T := T_R) (N := 13) hx hb hT in_R hown hK hP 0 rfl rfl 0 (by decide) (hT _ w324) (fun _ h9 => h9) rfl dR_bin_1 ?_
  refine lv_iload_n hx hb dR_bin_4 rfl (lv_at hl 1 rfl) ?_
  refine ro_i (va_Run.run (va_runV (As := [.int 0]) (rest := []) ⟨hx, hb, hml, hown, hT⟩ (k_hasColumn l D cT xT ca ta 1 0 0) ⟨callB_of 1 hT (tb_gd w621) rfl rfl rfl (hT _ w2) (hT _ w618) hT_hasColumn ⟨Nat.le_of_ble_eq_true rfl, Nat.le_of_ble_eq_true rfl⟩, (hT _ w619), (hT _ w620)⟩ (RO.preV (ci := 2) (q0 := 0) hZ hS (hP.sub (ws' := [(xT, .inr (2, [.ref ca, .ref ta, .int 1, .int 0]))]) [1] rfl) hK rfl rfl) rfl rfl hl.1 rfl (lv_room (Nat.le_of_ble_eq_true rfl)) dR_bin_5 ⟨Nat.le_of_ble_eq_true rfl, Nat.le_of_ble_eq_true rfl⟩)) ?_
  refine lv_if_eq (tgt := 21) hx hb dR_bin_8 rfl (fun hj1 => absurd hj1 (by rw [bi_t (by decide)]; decide)) (fun _ => ?_)
  refine lv_iload_n hx hb dR_bin_11 rfl (lv_at hl 2 rfl) ?_
  refine lv_ldc (v := (-2147483648)) hx hb hown (hT _ w685) dR_bin_12 ?_
  refine lv_icmp_eq (tgt := 21) hx hb dR_bin_14 rfl (fun hj2 => absurd hj2 h1) (fun _ => ?_)
  refine lv_iconst (v := 1) hx hb dR_bin_17 (by decide) ?_
  refine lv_goto (tgt := 22) hx hb dR_bin_18 rfl ?_
  refine ro_v (va_Run.run (va_runS (As := [.int 1]) (rest := []) ⟨hx, hb, hml, hown, hT⟩ (k_demand_ok l D cT 1 (by decide)) ⟨callB_of 1 hT (tb_gd w510) rfl rfl rfl (hT _ w1) (hT _ w508) hR_demand ⟨Nat.le_of_ble_eq_true rfl, Nat.le_of_ble_eq_true rfl⟩, (hT _ w509)⟩ (RO.preS hZ hS ((show va_P D vwCl [] _ from fun _ _ h => nomatch h)) hK) rfl rfl hl.1 rfl (lv_room (Nat.le_of_ble_eq_true rfl)) dR_bin_22 ⟨Nat.le_of_ble_eq_true rfl, Nat.le_of_ble_eq_true rfl⟩)) ?_
  refine lv_aload_n hx hb dR_bin_25 rfl (lv_at hl 0 rfl) ?_
  refine va_get (D := D) (ci := 0) (v := .ref xT) (C := R_R) (T := T_R) (N := 13) hx hb hT in_R hown hK hP 0 rfl rfl 0 (by decide) (hT _ w324) (fun _ h9 => h9) rfl dR_bin_26 ?_
  refine va_get (D := D) (ci := 2) (v := .ref ca) (C := R_T) (T := T_T) (N := 4) hx hb hT in_T hown hK hP 1 rfl rfl 0 (by decide) (hT _ w74) (fun _ h9 => h9) rfl dR_bin_29 ?_
  refine lv_iload_n hx hb dR_bin_32 rfl (lv_at hl 1 rfl) ?_
  refine al_q (q := c0) hx hb hK hP 2 5 rfl rfl (by unfold vp_in; decide) hf0 dR_bin_33 ?_
  refine lv_iload_n hx hb dR_bin_34 rfl (lv_at hl 2 rfl) ?_
  refine ro_i (va_Run.run (va_runV (As := [.int a2]) (rest := []) ⟨hx, hb, hml, hown, hT⟩ (k_takes0 l D cT c0 v0 ed0 n0 a2) ⟨callB_of 1 hT (tb_gd w625) rfl rfl rfl (hT _ w3) (hT _ w622) hC_takes ⟨Nat.le_of_ble_eq_true rfl, Nat.le_of_ble_eq_true rfl⟩, (hT _ w623), (hT _ w624)⟩ (RO.preV (ci := 1) (q0 := 0) hZ hS (hP.sub (ws' := [(c0, .inr (1, [.ref v0, .ref ed0, .int n0, .int 0]))]) [3] rfl) hK rfl rfl) rfl rfl hl.1 rfl (lv_room (Nat.le_of_ble_eq_true rfl)) dR_bin_35 ⟨Nat.le_of_ble_eq_true rfl, Nat.le_of_ble_eq_true rfl⟩)) ?_
  exact tx_out (tx_goS (As := [.int (bi (a2 = (-2147483648) ∨ ((-1000000) ≤ a2 ∧ a2 ≤ 1000000)))]) (rest := []) ⟨hx, hb, hml, hown, hT⟩ (k_demand_no l D cT (bi (a2 = (-2147483648) ∨ ((-1000000) ≤ a2 ∧ a2 ≤ 1000000))) hlt (bi_f hq)) ⟨callB_of 1 hT (tb_gd w510) rfl rfl rfl (hT _ w1) (hT _ w508) hR_demand ⟨Nat.le_of_ble_eq_true rfl, Nat.le_of_ble_eq_true rfl⟩, (hT _ w509)⟩ (RO.preS hZ hS ((show va_P D vwCl [] _ from fun _ _ h => nomatch h)) hK) rfl hl.1 rfl (Nat.le_of_ble_eq_true rfl) dR_bin_38 ⟨Nat.le_of_ble_eq_true rfl, Nat.le_of_ble_eq_true rfl⟩) hno hlocks
set_option maxHeartbeats 4000000 in
set_option maxRecDepth 100000 in
theorem k_bin_ok (l : Launch) (D : va_G) (cT : Nat → ClassId) (x : Nat) (xT : Nat) (xP : Nat) (xR : Nat) (xG : Nat) (xF : Nat) (tc : Int32) (xO : Nat) (xS : Nat) (xL : Nat) (xC : Nat) (xQ : Nat) (xU : Nat) (xW : Nat) (ca : Nat) (ta : Nat) (cf : Nat → Option Nat) (c0 : Nat) (v0 : Nat) (ed0 : Nat) (a2 : Int32) (h1 : ¬ a2 = (-2147483648)) (hq : a2 = (-2147483648) ∨ ((-1000000) ≤ a2 ∧ a2 ≤ 1000000)) (hf0 : cf 0 = some c0) : Met l yR_bin WR_bin ({ frames := 3, cells := 0, slots := 0, locals := 63 } : Room) (RO D vwCl [.ref x, .int 0, .int a2] [(x, .inr (0, [.ref xT, .ref xP, .ref xR, .ref xG, .ref xF, .int tc, .ref xO, .ref xS, .ref xL, .ref xC, .ref xQ, .ref xU, .ref xW])), (xT, .inr (2, [.ref ca, .ref ta, .int 1, .int 0])), (ca, .inl (cT 5, 6, .inr (.inr (.inr (.inr cf))))), (c0, .inr (1, [.ref v0, .ref ed0, .int 0, .int 0]))] (TY cT)) (QcRead 0) 0 0 (fun _ => False) := by
  refine Met.ofW (cc := cR_bin) (maxL := 3) (ret := (some .int)) (by decide) rfl ?_
  intro p e s m args below meth c s₁ B hml hv
  obtain ⟨rfl, hZ, hP, hK⟩ := hv
  have hx := B.exec
  have hb := B.bytes
  have hr := B.returns
  have hts := atoms_spec (ws := WR_bin) B.pre
  have hT : ∀ w ∈ TB, w.before _ s = true := fun w h => hts w (List.mem_cons_of_mem _ h)
  have hown : s.vm.findClass R_R = some m.cls := findClass_of_methodNamed B.named
  have hlocks := B.notSynchronized
  have hS : va_S (fun _ => False) s.heap s.heap [] := va_S.rf
  have hl := lv_entry ([.ref x, .int 0, .int a2]) (n := 3) (Nat.le_of_ble_eq_true rfl)
  rw [lg_entry_eq]
  generalize (lg_sl ([.ref x, .int 0, .int a2]) ++ List.replicate (3 - (lg_sl ([.ref x, .int 0, .int a2])).length) Slot.unset).toArray = ls at hl ⊢
  have hl : lv_has ls 3 [(0, .ref x), (1, .int 0), (2, .int a2)] := hl
  refine lv_aload_n hx hb dR_bin_0 rfl (lv_at hl 0 rfl) ?_
  refine va_get (D := D) (ci := 0) (v := .ref xT) (C := R_R) (T := T_R) (N := 13) hx hb hT in_R hown hK hP 0 rfl rfl 0 (by decide) (hT _ w324) (fun _ h9 => h9) rfl dR_bin_1 ?_
  refine lv_iload_n hx hb dR_bin_4 rfl (lv_at hl 1 rfl) ?_
  refine ro_i (va_Run.run (va_runV (As := [.int 0]) (rest := []) ⟨hx, hb, hml, hown, hT⟩ (k_hasColumn l D cT xT ca ta 1 0 0) ⟨callB_of 1 hT (tb_gd w621) rfl rfl rfl (hT _ w2) (hT _ w618) hT_hasColumn ⟨Nat.le_of_ble_eq_true rfl, Nat.le_of_ble_eq_true rfl⟩, (hT _ w619), (hT _ w620)⟩ (RO.preV (ci := 2) (q0 := 0) hZ hS (hP.sub (ws' := [(xT, .inr (2, [.ref ca, .ref ta, .int 1, .int 0]))]) [1] rfl) hK rfl rfl) rfl rfl hl.1 rfl (lv_room (Nat.le_of_ble_eq_true rfl)) dR_bin_5 ⟨Nat.le_of_ble_eq_true rfl, Nat.le_of_ble_eq_true rfl⟩)) ?_
  refine lv_if_eq (tgt := 21) hx hb dR_bin_8 rfl (fun hj1 => absurd hj1 (by rw [bi_t (by decide)]; decide)) (fun _ => ?_)
  refine lv_iload_n hx hb dR_bin_11 rfl (lv_at hl 2 rfl) ?_
  refine lv_ldc (v := (-2147483648)) hx hb hown (hT _ w685) dR_bin_12 ?_
  refine lv_icmp_eq (tgt := 21) hx hb dR_bin_14 rfl (fun hj2 => absurd hj2 h1) (fun _ => ?_)
  refine lv_iconst (v := 1) hx hb dR_bin_17 (by decide) ?_
  refine lv_goto (tgt := 22) hx hb dR_bin_18 rfl ?_
  refine ro_v (va_Run.run (va_runS (As := [.int 1]) (rest := []) ⟨hx, hb, hml, hown, hT⟩ (k_demand_ok l D cT 1 (by decide)) ⟨callB_of 1 hT (tb_gd w510) rfl rfl rfl (hT _ w1) (hT _ w508) hR_demand ⟨Nat.le_of_ble_eq_true rfl, Nat.le_of_ble_eq_true rfl⟩, (hT _ w509)⟩ (RO.preS hZ hS ((show va_P D vwCl [] _ from fun _ _ h => nomatch h)) hK) rfl rfl hl.1 rfl (lv_room (Nat.le_of_ble_eq_true rfl)) dR_bin_22 ⟨Nat.le_of_ble_eq_true rfl, Nat.le_of_ble_eq_true rfl⟩)) ?_
  refine lv_aload_n hx hb dR_bin_25 rfl (lv_at hl 0 rfl) ?_
  refine va_get (D := D) (ci := 0) (v := .ref xT) (C := R_R) (T := T_R) (N := 13) hx hb hT in_R hown hK hP 0 rfl rfl 0 (by decide) (hT _ w324) (fun _ h9 => h9) rfl dR_bin_26 ?_
  refine va_get (D := D) (ci := 2) (v := .ref ca) (C := R_T) (T := T_T) (N := 4) hx hb hT in_T hown hK hP 1 rfl rfl 0 (by decide) (hT _ w74) (fun _ h9 => h9) rfl dR_bin_29 ?_
  refine lv_iload_n hx hb dR_bin_32 rfl (lv_at hl 1 rfl) ?_
  refine al_q (q := c0) hx hb hK hP 2 5 rfl rfl (by unfold vp_in; decide) hf0 dR_bin_33 ?_
  refine lv_iload_n hx hb dR_bin_34 rfl (lv_at hl 2 rfl) ?_
  refine ro_i (va_Run.run (va_runV (As := [.int a2]) (rest := []) ⟨hx, hb, hml, hown, hT⟩ (k_takes0 l D cT c0 v0 ed0 0 a2) ⟨callB_of 1 hT (tb_gd w625) rfl rfl rfl (hT _ w3) (hT _ w622) hC_takes ⟨Nat.le_of_ble_eq_true rfl, Nat.le_of_ble_eq_true rfl⟩, (hT _ w623), (hT _ w624)⟩ (RO.preV (ci := 1) (q0 := 0) hZ hS (hP.sub (ws' := [(c0, .inr (1, [.ref v0, .ref ed0, .int 0, .int 0]))]) [3] rfl) hK rfl rfl) rfl rfl hl.1 rfl (lv_room (Nat.le_of_ble_eq_true rfl)) dR_bin_35 ⟨Nat.le_of_ble_eq_true rfl, Nat.le_of_ble_eq_true rfl⟩)) ?_
  refine ro_v (va_Run.run (va_runS (As := [.int (bi (a2 = (-2147483648) ∨ ((-1000000) ≤ a2 ∧ a2 ≤ 1000000)))]) (rest := []) ⟨hx, hb, hml, hown, hT⟩ (k_demand_ok l D cT (bi (a2 = (-2147483648) ∨ ((-1000000) ≤ a2 ∧ a2 ≤ 1000000))) (by rw [bi_t hq]; decide)) ⟨callB_of 1 hT (tb_gd w510) rfl rfl rfl (hT _ w1) (hT _ w508) hR_demand ⟨Nat.le_of_ble_eq_true rfl, Nat.le_of_ble_eq_true rfl⟩, (hT _ w509)⟩ (RO.preS hZ hS ((show va_P D vwCl [] _ from fun _ _ h => nomatch h)) hK) rfl rfl hl.1 rfl (lv_room (Nat.le_of_ble_eq_true rfl)) dR_bin_38 ⟨Nat.le_of_ble_eq_true rfl, Nat.le_of_ble_eq_true rfl⟩)) ?_
  refine lv_aload_n hx hb dR_bin_41 rfl (lv_at hl 0 rfl) ?_
  refine va_get (D := D) (ci := 0) (v := .ref xT) (C := R_R) (T := T_R) (N := 13) hx hb hT in_R hown hK hP 0 rfl rfl 0 (by decide) (hT _ w324) (fun _ h9 => h9) rfl dR_bin_42 ?_
  refine va_get (D := D) (ci := 2) (v := .ref ca) (C := R_T) (T := T_T) (N := 4) hx hb hT in_T hown hK hP 1 rfl rfl 0 (by decide) (hT _ w74) (fun _ h9 => h9) rfl dR_bin_45 ?_
  refine lv_iload_n hx hb dR_bin_48 rfl (lv_at hl 1 rfl) ?_
  refine al_q (q := c0) hx hb hK hP 2 5 rfl rfl (by unfold vp_in; decide) hf0 dR_bin_49 ?_
  refine lv_iload_n hx hb dR_bin_50 rfl (lv_at hl 2 rfl) ?_
  refine ro_i (va_Run.run (va_runV (As := [.int a2]) (rest := []) ⟨hx, hb, hml, hown, hT⟩ (k_binOf0 l D cT c0 v0 ed0 a2) ⟨callB_of 1 hT (tb_gd w689) rfl rfl rfl (hT _ w3) (hT _ w686) hC_binOf ⟨Nat.le_of_ble_eq_true rfl, Nat.le_of_ble_eq_true rfl⟩, (hT _ w687), (hT _ w688)⟩ (RO.preV (ci := 1) (q0 := 0) hZ hS (hP.sub (ws' := [(c0, .inr (1, [.ref v0, .ref ed0, .int 0, .int 0]))]) [3] rfl) hK rfl rfl) rfl rfl hl.1 rfl (lv_room (Nat.le_of_ble_eq_true rfl)) dR_bin_51 ⟨Nat.le_of_ble_eq_true rfl, Nat.le_of_ble_eq_true rfl⟩)) ?_
  exact W.iret (v := 0) hx hb hr (fun t ht hW => ⟨rfl, ht⟩) (fun q h => nomatch h) dR_bin_54
set_option maxHeartbeats 4000000 in
set_option maxRecDepth 100000 in
theorem k_shape_ok (l : Launch) (D : va_G) (cT : Nat → ClassId) (x : Nat) (xT : Nat) (xP : Nat) (xR : Nat) (xG : Nat) (xF : Nat) (tc : Int32) (xO : Nat) (xS : Nat) (xL : Nat) (xC : Nat) (xQ : Nat) (xU : Nat) (xW : Nat) (pd : Int32) (pl : Int32) (pw : Int32) (pu : Int32) (pv : Int32) (ps : Int64) (pc0 : Int32) (a1 : Int32) (a2 : Int32) (a3 : Int32) (h1 : 1 ≤ a1 ∧ a1 ≤ 4) (h2 : 1 ≤ a2 ∧ a2 ≤ 24) (h3 : 0 ≤ a3 ∧ a3 ≤ 20) (sz : Nat) : Met l yR_shape WR_shape ({ frames := 1, cells := 0, slots := 0, locals := 22 } : Room) (RW D vwCl [.ref x, .int a1, .int a2, .int a3] [(x, .inr (0, [.ref xT, .ref xP, .ref xR, .ref xG, .ref xF, .int tc, .ref xO, .ref xS, .ref xL, .ref xC, .ref xQ, .ref xU, .ref xW])), (xP, .inr (3, [.int pd, .int pl, .int pw, .int pu, .int pv, .long ps, .int pc0]))] (TY cT) sz) (va_Qv (fun _ : Nat → Nat => True) (BW D vwCl (va_A [(x, .inr (0, [.ref xT, .ref xP, .ref xR, .ref xG, .ref xF, .int tc, .ref xO, .ref xS, .ref xL, .ref xC, .ref xQ, .ref xU, .ref xW])), (xP, .inr (3, [.int pd, .int pl, .int pw, .int pu, .int pv, .long ps, .int pc0]))] sz) (fun u => [(x, .inr (0, [.ref xT, .ref xP, .ref xR, .ref xG, .ref xF, .int tc, .ref xO, .ref xS, .ref xL, .ref xC, .ref xQ, .ref xU, .ref xW])), (xP, .inr (3, [.int a1, .int a2, .int a3, .int pu, .int pv, .long ps, .int pc0]))])) (va_A [(x, .inr (0, [.ref xT, .ref xP, .ref xR, .ref xG, .ref xF, .int tc, .ref xO, .ref xS, .ref xL, .ref xC, .ref xQ, .ref xU, .ref xW])), (xP, .inr (3, [.int pd, .int pl, .int pw, .int pu, .int pv, .long ps, .int pc0]))] sz)) 0 0 (va_A [(x, .inr (0, [.ref xT, .ref xP, .ref xR, .ref xG, .ref xF, .int tc, .ref xO, .ref xS, .ref xL, .ref xC, .ref xQ, .ref xU, .ref xW])), (xP, .inr (3, [.int pd, .int pl, .int pw, .int pu, .int pv, .long ps, .int pc0]))] sz) := by
  refine Met.ofW (cc := cR_shape) (maxL := 4) (ret := none) (by decide) rfl ?_
  intro p e s m args below meth c s₁ B hml hv
  obtain ⟨rfl, hsz, hZ, hP, hK, hD0⟩ := hv
  have hx := B.exec
  have hb := B.bytes
  have hr := B.returns
  have hts := atoms_spec (ws := WR_shape) B.pre
  have hT : ∀ w ∈ TB, w.before _ s = true := fun w h => hts w (List.mem_cons_of_mem _ h)
  have hown : s.vm.findClass R_R = some m.cls := findClass_of_methodNamed B.named
  have hlocks := B.notSynchronized
  subst hsz
  have hD := hD0.self (sz := s.heap.size)
  generalize hAe : va_A [(x, .inr (0, [.ref xT, .ref xP, .ref xR, .ref xG, .ref xF, .int tc, .ref xO, .ref xS, .ref xL, .ref xC, .ref xQ, .ref xU, .ref xW])), (xP, .inr (3, [.int pd, .int pl, .int pw, .int pu, .int pv, .long ps, .int pc0]))] s.heap.size = A at hD hZ ⊢
  have hA : ∀ q : Nat, s.heap.size ≤ q → A q := fun q h => by rw [← hAe]; exact Or.inr h
  have hS : va_S A s.heap s.heap [] := va_S.rf
  have hl := lv_entry ([.ref x, .int a1, .int a2, .int a3]) (n := 4) (Nat.le_of_ble_eq_true rfl)
  rw [lg_entry_eq]
  generalize (lg_sl ([.ref x, .int a1, .int a2, .int a3]) ++ List.replicate (4 - (lg_sl ([.ref x, .int a1, .int a2, .int a3])).length) Slot.unset).toArray = ls at hl ⊢
  have hl : lv_has ls 4 [(0, .ref x), (1, .int a1), (2, .int a2), (3, .int a3)] := hl
  refine lv_iload_n hx hb dR_shape_0 rfl (lv_at hl 1 rfl) ?_
  refine lv_iconst (v := 1) hx hb dR_shape_1 (by decide) ?_
  refine lv_iconst (v := 4) hx hb dR_shape_2 (by decide) ?_
  refine ro_i (va_Run.run (va_runS (As := [.int a1, .int 1, .int 4]) (rest := []) ⟨hx, hb, hml, hown, hT⟩ (k_isWithin l D cT a1 1 4) ⟨callB_of 3 hT (tb_gd w499) rfl rfl rfl (hT _ w1) (hT _ w497) hR_isWithin ⟨Nat.le_of_ble_eq_true rfl, Nat.le_of_ble_eq_true rfl⟩, (hT _ w498)⟩ (RO.preS hZ hS ((show va_P D vwCl [] _ from fun _ _ h => nomatch h)) hK) rfl rfl hl.1 rfl (lv_room (Nat.le_of_ble_eq_true rfl)) dR_shape_3 ⟨Nat.le_of_ble_eq_true rfl, Nat.le_of_ble_eq_true rfl⟩)) ?_
  refine lv_if_eq (tgt := 33) hx hb dR_shape_6 rfl (fun hj1 => absurd hj1 (by rw [bi_t h1]; decide)) (fun _ => ?_)
  refine lv_iload_n hx hb dR_shape_9 rfl (lv_at hl 2 rfl) ?_
  refine lv_iconst (v := 1) hx hb dR_shape_10 (by decide) ?_
  refine lv_bipush (v := 24) hx hb dR_shape_11 (by decide) ?_
  refine ro_i (va_Run.run (va_runS (As := [.int a2, .int 1, .int 24]) (rest := []) ⟨hx, hb, hml, hown, hT⟩ (k_isWithin l D cT a2 1 24) ⟨callB_of 3 hT (tb_gd w499) rfl rfl rfl (hT _ w1) (hT _ w497) hR_isWithin ⟨Nat.le_of_ble_eq_true rfl, Nat.le_of_ble_eq_true rfl⟩, (hT _ w498)⟩ (RO.preS hZ hS ((show va_P D vwCl [] _ from fun _ _ h => nomatch h)) hK) rfl rfl hl.1 rfl (lv_room (Nat.le_of_ble_eq_true rfl)) dR_shape_13 ⟨Nat.le_of_ble_eq_true rfl, Nat.le_of_ble_eq_true rfl⟩)) ?_
  refine lv_if_eq (tgt := 33) hx hb dR_shape_16 rfl (fun hj2 => absurd hj2 (by rw [bi_t h2]; decide)) (fun _ => ?_)
  refine lv_iload_n hx hb dR_shape_19 rfl (lv_at hl 3 rfl) ?_
  refine lv_iconst (v := 0) hx hb dR_shape_20 (by decide) ?_
  refine lv_bipush (v := 20) hx hb dR_shape_21 (by decide) ?_
  refine ro_i (va_Run.run (va_runS (As := [.int a3, .int 0, .int 20]) (rest := []) ⟨hx, hb, hml, hown, hT⟩ (k_isWithin l D cT a3 0 20) ⟨callB_of 3 hT (tb_gd w499) rfl rfl rfl (hT _ w1) (hT _ w497) hR_isWithin ⟨Nat.le_of_ble_eq_true rfl, Nat.le_of_ble_eq_true rfl⟩, (hT _ w498)⟩ (RO.preS hZ hS ((show va_P D vwCl [] _ from fun _ _ h => nomatch h)) hK) rfl rfl hl.1 rfl (lv_room (Nat.le_of_ble_eq_true rfl)) dR_shape_23 ⟨Nat.le_of_ble_eq_true rfl, Nat.le_of_ble_eq_true rfl⟩)) ?_
  refine lv_if_eq (tgt := 33) hx hb dR_shape_26 rfl (fun hj3 => absurd hj3 (by rw [bi_t h3]; decide)) (fun _ => ?_)
  refine lv_iconst (v := 1) hx hb dR_shape_29 (by decide) ?_
  refine lv_goto (tgt := 34) hx hb dR_shape_30 rfl ?_
  refine ro_v (va_Run.run (va_runS (As := [.int 1]) (rest := []) ⟨hx, hb, hml, hown, hT⟩ (k_demand_ok l D cT 1 (by decide)) ⟨callB_of 1 hT (tb_gd w510) rfl rfl rfl (hT _ w1) (hT _ w508) hR_demand ⟨Nat.le_of_ble_eq_true rfl, Nat.le_of_ble_eq_true rfl⟩, (hT _ w509)⟩ (RO.preS hZ hS ((show va_P D vwCl [] _ from fun _ _ h => nomatch h)) hK) rfl rfl hl.1 rfl (lv_room (Nat.le_of_ble_eq_true rfl)) dR_shape_34 ⟨Nat.le_of_ble_eq_true rfl, Nat.le_of_ble_eq_true rfl⟩)) ?_
  refine lv_aload_n hx hb dR_shape_37 rfl (lv_at hl 0 rfl) ?_
  refine va_get (D := D) (ci := 0) (v := .ref xP) (C := R_R) (T := T_R) (N := 13) hx hb hT in_R hown hK hP 0 rfl rfl 1 (by decide) (hT _ w325) (fun _ h9 => h9) rfl dR_shape_38 ?_
  refine lv_iload_n hx hb dR_shape_41 rfl (lv_at hl 1 rfl) ?_
  refine va_put (D := D) (ci := 3) (v := .int a1) (ty := .int) (C := R_P) (T := T_P) (N := 7) hx hb hT in_P ty_P ty_P_ok m_P hown hK hP hD hS 1 rfl rfl 0 (by decide) (hT _ w101) (fun _ h9 => h9) rfl (by decide +kernel) rfl rfl (Nat.le_of_ble_eq_true rfl) dR_shape_42 (fun H locs hP hD hS => ?_)
  have hP : va_P D vwCl [(x, .inr (0, [.ref xT, .ref xP, .ref xR, .ref xG, .ref xF, .int tc, .ref xO, .ref xS, .ref xL, .ref xC, .ref xQ, .ref xU, .ref xW])), (xP, .inr (3, [.int a1, .int pl, .int pw, .int pu, .int pv, .long ps, .int pc0]))] H := hP
  have hD : va_D A [(x, .inr (0, [.ref xT, .ref xP, .ref xR, .ref xG, .ref xF, .int tc, .ref xO, .ref xS, .ref xL, .ref xC, .ref xQ, .ref xU, .ref xW])), (xP, .inr (3, [.int a1, .int pl, .int pw, .int pu, .int pv, .long ps, .int pc0]))] := hD
  refine lv_aload_n hx hb dR_shape_45 rfl (lv_at hl 0 rfl) ?_
  refine va_get (D := D) (ci := 0) (v := .ref xP) (C := R_R) (T := T_R) (N := 13) hx hb hT in_R hown hK hP 0 rfl rfl 1 (by decide) (hT _ w325) (fun _ h9 => h9) rfl dR_shape_46 ?_
  refine lv_iload_n hx hb dR_shape_49 rfl (lv_at hl 2 rfl) ?_
  refine va_put (D := D) (ci := 3) (v := .int a2) (ty := .int) (C := R_P) (T := T_P) (N := 7) hx hb hT in_P ty_P ty_P_ok m_P hown hK hP hD hS 1 rfl rfl 1 (by decide) (hT _ w104) (fun _ h9 => h9) rfl (by decide +kernel) rfl rfl (Nat.le_of_ble_eq_true rfl) dR_shape_50 (fun H locs hP hD hS => ?_)
  have hP : va_P D vwCl [(x, .inr (0, [.ref xT, .ref xP, .ref xR, .ref xG, .ref xF, .int tc, .ref xO, .ref xS, .ref xL, .ref xC, .ref xQ, .ref xU, .ref xW])), (xP, .inr (3, [.int a1, .int a2, .int pw, .int pu, .int pv, .long ps, .int pc0]))] H := hP
  have hD : va_D A [(x, .inr (0, [.ref xT, .ref xP, .ref xR, .ref xG, .ref xF, .int tc, .ref xO, .ref xS, .ref xL, .ref xC, .ref xQ, .ref xU, .ref xW])), (xP, .inr (3, [.int a1, .int a2, .int pw, .int pu, .int pv, .long ps, .int pc0]))] := hD
  refine lv_aload_n hx hb dR_shape_53 rfl (lv_at hl 0 rfl) ?_
  refine va_get (D := D) (ci := 0) (v := .ref xP) (C := R_R) (T := T_R) (N := 13) hx hb hT in_R hown hK hP 0 rfl rfl 1 (by decide) (hT _ w325) (fun _ h9 => h9) rfl dR_shape_54 ?_
  refine lv_iload_n hx hb dR_shape_57 rfl (lv_at hl 3 rfl) ?_
  refine va_put (D := D) (ci := 3) (v := .int a3) (ty := .int) (C := R_P) (T := T_P) (N := 7) hx hb hT in_P ty_P ty_P_ok m_P hown hK hP hD hS 1 rfl rfl 2 (by decide) (hT _ w108) (fun _ h9 => h9) rfl (by decide +kernel) rfl rfl (Nat.le_of_ble_eq_true rfl) dR_shape_58 (fun H locs hP hD hS => ?_)
  have hP : va_P D vwCl [(x, .inr (0, [.ref xT, .ref xP, .ref xR, .ref xG, .ref xF, .int tc, .ref xO, .ref xS, .ref xL, .ref xC, .ref xQ, .ref xU, .ref xW])), (xP, .inr (3, [.int a1, .int a2, .int a3, .int pu, .int pv, .long ps, .int pc0]))] H := hP
  have hD : va_D A [(x, .inr (0, [.ref xT, .ref xP, .ref xR, .ref xG, .ref xF, .int tc, .ref xO, .ref xS, .ref xL, .ref xC, .ref xQ, .ref xU, .ref xW])), (xP, .inr (3, [.int a1, .int a2, .int a3, .int pu, .int pv, .long ps, .int pc0]))] := hD
  have hP9 := hP.sub (ws' := [(x, .inr (0, [.ref xT, .ref xP, .ref xR, .ref xG, .ref xF, .int tc, .ref xO, .ref xS, .ref xL, .ref xC, .ref xQ, .ref xU, .ref xW])), (xP, .inr (3, [.int a1, .int a2, .int a3, .int pu, .int pv, .long ps, .int pc0]))]) [0, 1] rfl
  have hD9 := hD.sub (ws' := [(x, .inr (0, [.ref xT, .ref xP, .ref xR, .ref xG, .ref xF, .int tc, .ref xO, .ref xS, .ref xL, .ref xC, .ref xQ, .ref xU, .ref xW])), (xP, .inr (3, [.int a1, .int a2, .int a3, .int pu, .int pv, .long ps, .int pc0]))]) [0, 1] (by decide) rfl
  refine W.widen (k := 0) (n := 0) (Nat.le_of_ble_eq_true rfl) (Nat.le_of_ble_eq_true rfl) ?_
  exact W.vret hx hb hr (fun t ht hW => ⟨⟨(fun _ => 0), rfl, trivial, by rw [ht]; exact hP9, hD9⟩, hS.F ht⟩) hS.2.2 dR_shape_61
set_option maxHeartbeats 4000000 in
set_option maxRecDepth 100000 in
theorem k_rate_ok (l : Launch) (D : va_G) (cT : Nat → ClassId) (x : Nat) (xT : Nat) (xP : Nat) (xR : Nat) (xG : Nat) (xF : Nat) (tc : Int32) (xO : Nat) (xS : Nat) (xL : Nat) (xC : Nat) (xQ : Nat) (xU : Nat) (xW : Nat) (pd : Int32) (pl : Int32) (pw : Int32) (pu : Int32) (pv : Int32) (ps : Int64) (pc0 : Int32) (a1 : Int32) (a2 : Int32) (h1 : 1 ≤ a2 ∧ a2 ≤ 16) (h2 : 1 ≤ a1 ∧ a1 ≤ a2) (sz : Nat) : Met l yR_rate WR_rate ({ frames := 1, cells := 0, slots := 0, locals := 22 } : Room) (RW D vwCl [.ref x, .int a1, .int a2] [(x, .inr (0, [.ref xT, .ref xP, .ref xR, .ref xG, .ref xF, .int tc, .ref xO, .ref xS, .ref xL, .ref xC, .ref xQ, .ref xU, .ref xW])), (xP, .inr (3, [.int pd, .int pl, .int pw, .int pu, .int pv, .long ps, .int pc0]))] (TY cT) sz) (va_Qv (fun _ : Nat → Nat => True) (BW D vwCl (va_A [(x, .inr (0, [.ref xT, .ref xP, .ref xR, .ref xG, .ref xF, .int tc, .ref xO, .ref xS, .ref xL, .ref xC, .ref xQ, .ref xU, .ref xW])), (xP, .inr (3, [.int pd, .int pl, .int pw, .int pu, .int pv, .long ps, .int pc0]))] sz) (fun u => [(x, .inr (0, [.ref xT, .ref xP, .ref xR, .ref xG, .ref xF, .int tc, .ref xO, .ref xS, .ref xL, .ref xC, .ref xQ, .ref xU, .ref xW])), (xP, .inr (3, [.int pd, .int pl, .int pw, .int a1, .int a2, .long ps, .int pc0]))])) (va_A [(x, .inr (0, [.ref xT, .ref xP, .ref xR, .ref xG, .ref xF, .int tc, .ref xO, .ref xS, .ref xL, .ref xC, .ref xQ, .ref xU, .ref xW])), (xP, .inr (3, [.int pd, .int pl, .int pw, .int pu, .int pv, .long ps, .int pc0]))] sz)) 0 0 (va_A [(x, .inr (0, [.ref xT, .ref xP, .ref xR, .ref xG, .ref xF, .int tc, .ref xO, .ref xS, .ref xL, .ref xC, .ref xQ, .ref xU, .ref xW])), (xP, .inr (3, [.int pd, .int pl, .int pw, .int pu, .int pv, .long ps, .int pc0]))] sz) := by
  refine Met.ofW (cc := cR_rate) (maxL := 3) (ret := none) (by decide) rfl ?_
  intro p e s m args below meth c s₁ B hml hv
  obtain ⟨rfl, hsz, hZ, hP, hK, hD0⟩ := hv
  have hx := B.exec
  have hb := B.bytes
  have hr := B.returns
  have hts := atoms_spec (ws := WR_rate) B.pre
  have hT : ∀ w ∈ TB, w.before _ s = true := fun w h => hts w (List.mem_cons_of_mem _ h)
  have hown : s.vm.findClass R_R = some m.cls := findClass_of_methodNamed B.named
  have hlocks := B.notSynchronized
  subst hsz
  have hD := hD0.self (sz := s.heap.size)
  generalize hAe : va_A [(x, .inr (0, [.ref xT, .ref xP, .ref xR, .ref xG, .ref xF, .int tc, .ref xO, .ref xS, .ref xL, .ref xC, .ref xQ, .ref xU, .ref xW])), (xP, .inr (3, [.int pd, .int pl, .int pw, .int pu, .int pv, .long ps, .int pc0]))] s.heap.size = A at hD hZ ⊢
  have hA : ∀ q : Nat, s.heap.size ≤ q → A q := fun q h => by rw [← hAe]; exact Or.inr h
  have hS : va_S A s.heap s.heap [] := va_S.rf
  have hl := lv_entry ([.ref x, .int a1, .int a2]) (n := 3) (Nat.le_of_ble_eq_true rfl)
  rw [lg_entry_eq]
  generalize (lg_sl ([.ref x, .int a1, .int a2]) ++ List.replicate (3 - (lg_sl ([.ref x, .int a1, .int a2])).length) Slot.unset).toArray = ls at hl ⊢
  have hl : lv_has ls 3 [(0, .ref x), (1, .int a1), (2, .int a2)] := hl
  refine lv_iload_n hx hb dR_rate_0 rfl (lv_at hl 2 rfl) ?_
  refine lv_iconst (v := 1) hx hb dR_rate_1 (by decide) ?_
  refine lv_bipush (v := 16) hx hb dR_rate_2 (by decide) ?_
  refine ro_i (va_Run.run (va_runS (As := [.int a2, .int 1, .int 16]) (rest := []) ⟨hx, hb, hml, hown, hT⟩ (k_isWithin l D cT a2 1 16) ⟨callB_of 3 hT (tb_gd w499) rfl rfl rfl (hT _ w1) (hT _ w497) hR_isWithin ⟨Nat.le_of_ble_eq_true rfl, Nat.le_of_ble_eq_true rfl⟩, (hT _ w498)⟩ (RO.preS hZ hS ((show va_P D vwCl [] _ from fun _ _ h => nomatch h)) hK) rfl rfl hl.1 rfl (lv_room (Nat.le_of_ble_eq_true rfl)) dR_rate_4 ⟨Nat.le_of_ble_eq_true rfl, Nat.le_of_ble_eq_true rfl⟩)) ?_
  refine lv_if_eq (tgt := 23) hx hb dR_rate_7 rfl (fun hj1 => absurd hj1 (by rw [bi_t h1]; decide)) (fun _ => ?_)
  refine lv_iload_n hx hb dR_rate_10 rfl (lv_at hl 1 rfl) ?_
  refine lv_iconst (v := 1) hx hb dR_rate_11 (by decide) ?_
  refine lv_iload_n hx hb dR_rate_12 rfl (lv_at hl 2 rfl) ?_
  refine ro_i (va_Run.run (va_runS (As := [.int a1, .int 1, .int a2]) (rest := []) ⟨hx, hb, hml, hown, hT⟩ (k_isWithin l D cT a1 1 a2) ⟨callB_of 3 hT (tb_gd w499) rfl rfl rfl (hT _ w1) (hT _ w497) hR_isWithin ⟨Nat.le_of_ble_eq_true rfl, Nat.le_of_ble_eq_true rfl⟩, (hT _ w498)⟩ (RO.preS hZ hS ((show va_P D vwCl [] _ from fun _ _ h => nomatch h)) hK) rfl rfl hl.1 rfl (lv_room (Nat.le_of_ble_eq_true rfl)) dR_rate_13 ⟨Nat.le_of_ble_eq_true rfl, Nat.le_of_ble_eq_true rfl⟩)) ?_
  refine lv_if_eq (tgt := 23) hx hb dR_rate_16 rfl (fun hj2 => absurd hj2 (by rw [bi_t h2]; decide)) (fun _ => ?_)
  refine lv_iconst (v := 1) hx hb dR_rate_19 (by decide) ?_
  refine lv_goto (tgt := 24) hx hb dR_rate_20 rfl ?_
  refine ro_v (va_Run.run (va_runS (As := [.int 1]) (rest := []) ⟨hx, hb, hml, hown, hT⟩ (k_demand_ok l D cT 1 (by decide)) ⟨callB_of 1 hT (tb_gd w510) rfl rfl rfl (hT _ w1) (hT _ w508) hR_demand ⟨Nat.le_of_ble_eq_true rfl, Nat.le_of_ble_eq_true rfl⟩, (hT _ w509)⟩ (RO.preS hZ hS ((show va_P D vwCl [] _ from fun _ _ h => nomatch h)) hK) rfl rfl hl.1 rfl (lv_room (Nat.le_of_ble_eq_true rfl)) dR_rate_24 ⟨Nat.le_of_ble_eq_true rfl, Nat.le_of_ble_eq_true rfl⟩)) ?_
  refine lv_aload_n hx hb dR_rate_27 rfl (lv_at hl 0 rfl) ?_
  refine va_get (D := D) (ci := 0) (v := .ref xP) (C := R_R) (T := T_R) (N := 13) hx hb hT in_R hown hK hP 0 rfl rfl 1 (by decide) (hT _ w325) (fun _ h9 => h9) rfl dR_rate_28 ?_
  refine lv_iload_n hx hb dR_rate_31 rfl (lv_at hl 1 rfl) ?_
  refine va_put (D := D) (ci := 3) (v := .int a1) (ty := .int) (C := R_P) (T := T_P) (N := 7) hx hb hT in_P ty_P ty_P_ok m_P hown hK hP hD hS 1 rfl rfl 3 (by decide) (hT _ w111) (fun _ h9 => h9) rfl (by decide +kernel) rfl rfl (Nat.le_of_ble_eq_true rfl) dR_rate_32 (fun H locs hP hD hS => ?_)
  have hP : va_P D vwCl [(x, .inr (0, [.ref xT, .ref xP, .ref xR, .ref xG, .ref xF, .int tc, .ref xO, .ref xS, .ref xL, .ref xC, .ref xQ, .ref xU, .ref xW])), (xP, .inr (3, [.int pd, .int pl, .int pw, .int a1, .int pv, .long ps, .int pc0]))] H := hP
  have hD : va_D A [(x, .inr (0, [.ref xT, .ref xP, .ref xR, .ref xG, .ref xF, .int tc, .ref xO, .ref xS, .ref xL, .ref xC, .ref xQ, .ref xU, .ref xW])), (xP, .inr (3, [.int pd, .int pl, .int pw, .int a1, .int pv, .long ps, .int pc0]))] := hD
  refine lv_aload_n hx hb dR_rate_35 rfl (lv_at hl 0 rfl) ?_
  refine va_get (D := D) (ci := 0) (v := .ref xP) (C := R_R) (T := T_R) (N := 13) hx hb hT in_R hown hK hP 0 rfl rfl 1 (by decide) (hT _ w325) (fun _ h9 => h9) rfl dR_rate_36 ?_
  refine lv_iload_n hx hb dR_rate_39 rfl (lv_at hl 2 rfl) ?_
  refine va_put (D := D) (ci := 3) (v := .int a2) (ty := .int) (C := R_P) (T := T_P) (N := 7) hx hb hT in_P ty_P ty_P_ok m_P hown hK hP hD hS 1 rfl rfl 4 (by decide) (hT _ w114) (fun _ h9 => h9) rfl (by decide +kernel) rfl rfl (Nat.le_of_ble_eq_true rfl) dR_rate_40 (fun H locs hP hD hS => ?_)
  have hP : va_P D vwCl [(x, .inr (0, [.ref xT, .ref xP, .ref xR, .ref xG, .ref xF, .int tc, .ref xO, .ref xS, .ref xL, .ref xC, .ref xQ, .ref xU, .ref xW])), (xP, .inr (3, [.int pd, .int pl, .int pw, .int a1, .int a2, .long ps, .int pc0]))] H := hP
  have hD : va_D A [(x, .inr (0, [.ref xT, .ref xP, .ref xR, .ref xG, .ref xF, .int tc, .ref xO, .ref xS, .ref xL, .ref xC, .ref xQ, .ref xU, .ref xW])), (xP, .inr (3, [.int pd, .int pl, .int pw, .int a1, .int a2, .long ps, .int pc0]))] := hD
  have hP9 := hP.sub (ws' := [(x, .inr (0, [.ref xT, .ref xP, .ref xR, .ref xG, .ref xF, .int tc, .ref xO, .ref xS, .ref xL, .ref xC, .ref xQ, .ref xU, .ref xW])), (xP, .inr (3, [.int pd, .int pl, .int pw, .int a1, .int a2, .long ps, .int pc0]))]) [0, 1] rfl
  have hD9 := hD.sub (ws' := [(x, .inr (0, [.ref xT, .ref xP, .ref xR, .ref xG, .ref xF, .int tc, .ref xO, .ref xS, .ref xL, .ref xC, .ref xQ, .ref xU, .ref xW])), (xP, .inr (3, [.int pd, .int pl, .int pw, .int a1, .int a2, .long ps, .int pc0]))]) [0, 1] (by decide) rfl
  refine W.widen (k := 0) (n := 0) (Nat.le_of_ble_eq_true rfl) (Nat.le_of_ble_eq_true rfl) ?_
  exact W.vret hx hb hr (fun t ht hW => ⟨⟨(fun _ => 0), rfl, trivial, by rw [ht]; exact hP9, hD9⟩, hS.F ht⟩) hS.2.2 dR_rate_43
set_option maxHeartbeats 4000000 in
set_option maxRecDepth 100000 in
theorem k_sample (l : Launch) (D : va_G) (cT : Nat → ClassId) (x : Nat) (xT : Nat) (xP : Nat) (xR : Nat) (xG : Nat) (xF : Nat) (tc : Int32) (xO : Nat) (xS : Nat) (xL : Nat) (xC : Nat) (xQ : Nat) (xU : Nat) (xW : Nat) (ca : Nat) (ta : Nat) (w : Int32) (pd : Int32) (pl : Int32) (pw : Int32) (pu : Int32) (pv : Int32) (ps : Int64) (pc0 : Int32) (a1 : Int64) (a2 : Int32) (sz : Nat) : Met l yR_sample WR_sample ({ frames := 1, cells := 0, slots := 0, locals := 21 } : Room) (RW D vwCl [.ref x, .long a1, .int a2] [(x, .inr (0, [.ref xT, .ref xP, .ref xR, .ref xG, .ref xF, .int tc, .ref xO, .ref xS, .ref xL, .ref xC, .ref xQ, .ref xU, .ref xW])), (xT, .inr (2, [.ref ca, .ref ta, .int w, .int 0])), (xP, .inr (3, [.int pd, .int pl, .int pw, .int pu, .int pv, .long ps, .int pc0]))] (TY cT) sz) (va_Qi (fun (r : Int32) (_ : Nat → Nat) => r = 0) (BW D vwCl (va_A [(x, .inr (0, [.ref xT, .ref xP, .ref xR, .ref xG, .ref xF, .int tc, .ref xO, .ref xS, .ref xL, .ref xC, .ref xQ, .ref xU, .ref xW])), (xT, .inr (2, [.ref ca, .ref ta, .int w, .int 0])), (xP, .inr (3, [.int pd, .int pl, .int pw, .int pu, .int pv, .long ps, .int pc0]))] sz) (fun u => [(x, .inr (0, [.ref xT, .ref xP, .ref xR, .ref xG, .ref xF, .int tc, .ref xO, .ref xS, .ref xL, .ref xC, .ref xQ, .ref xU, .ref xW])), (xT, .inr (2, [.ref ca, .ref ta, .int w, .int 0])), (xP, .inr (3, [.int pd, .int pl, .int pw, .int pu, .int pv, .long a1, .int a2]))])) (va_A [(x, .inr (0, [.ref xT, .ref xP, .ref xR, .ref xG, .ref xF, .int tc, .ref xO, .ref xS, .ref xL, .ref xC, .ref xQ, .ref xU, .ref xW])), (xT, .inr (2, [.ref ca, .ref ta, .int w, .int 0])), (xP, .inr (3, [.int pd, .int pl, .int pw, .int pu, .int pv, .long ps, .int pc0]))] sz)) 0 0 (va_A [(x, .inr (0, [.ref xT, .ref xP, .ref xR, .ref xG, .ref xF, .int tc, .ref xO, .ref xS, .ref xL, .ref xC, .ref xQ, .ref xU, .ref xW])), (xT, .inr (2, [.ref ca, .ref ta, .int w, .int 0])), (xP, .inr (3, [.int pd, .int pl, .int pw, .int pu, .int pv, .long ps, .int pc0]))] sz) := by
  refine Met.ofW (cc := cR_sample) (maxL := 4) (ret := (some .int)) (by decide) rfl ?_
  intro p e s m args below meth c s₁ B hml hv
  obtain ⟨rfl, hsz, hZ, hP, hK, hD0⟩ := hv
  have hx := B.exec
  have hb := B.bytes
  have hr := B.returns
  have hts := atoms_spec (ws := WR_sample) B.pre
  have hT : ∀ w ∈ TB, w.before _ s = true := fun w h => hts w (List.mem_cons_of_mem _ h)
  have hown : s.vm.findClass R_R = some m.cls := findClass_of_methodNamed B.named
  have hlocks := B.notSynchronized
  subst hsz
  have hD := hD0.self (sz := s.heap.size)
  generalize hAe : va_A [(x, .inr (0, [.ref xT, .ref xP, .ref xR, .ref xG, .ref xF, .int tc, .ref xO, .ref xS, .ref xL, .ref xC, .ref xQ, .ref xU, .ref xW])), (xT, .inr (2, [.ref ca, .ref ta, .int w, .int 0])), (xP, .inr (3, [.int pd, .int pl, .int pw, .int pu, .int pv, .long ps, .int pc0]))] s.heap.size = A at hD hZ ⊢
  have hA : ∀ q : Nat, s.heap.size ≤ q → A q := fun q h => by rw [← hAe]; exact Or.inr h
  have hS : va_S A s.heap s.heap [] := va_S.rf
  have hl := lv_entry ([.ref x, .long a1, .int a2]) (n := 4) (Nat.le_of_ble_eq_true rfl)
  rw [lg_entry_eq]
  generalize (lg_sl ([.ref x, .long a1, .int a2]) ++ List.replicate (4 - (lg_sl ([.ref x, .long a1, .int a2])).length) Slot.unset).toArray = ls at hl ⊢
  have hl : lv_has ls 4 [(0, .ref x), (1, .long a1), (3, .int a2)] := hl
  refine lv_aload_n hx hb dR_sample_0 rfl (lv_at hl 0 rfl) ?_
  refine va_get (D := D) (ci := 0) (v := .ref xP) (C := R_R) (T := T_R) (N := 13) hx hb hT in_R hown hK hP 0 rfl rfl 1 (by decide) (hT _ w325) (fun _ h9 => h9) rfl dR_sample_1 ?_
  refine lv_lload_n hx hb dR_sample_4 rfl (lv_at hl 1 rfl) ?_
  refine va_put (D := D) (ci := 3) (v := .long a1) (ty := .long) (C := R_P) (T := T_P) (N := 7) hx hb hT in_P ty_P ty_P_ok m_P hown hK hP hD hS 2 rfl rfl 5 (by decide) (hT _ w116) (fun _ h9 => h9) rfl (by decide +kernel) rfl rfl (Nat.le_of_ble_eq_true rfl) dR_sample_5 (fun H locs hP hD hS => ?_)
  have hP : va_P D vwCl [(x, .inr (0, [.ref xT, .ref xP, .ref xR, .ref xG, .ref xF, .int tc, .ref xO, .ref xS, .ref xL, .ref xC, .ref xQ, .ref xU, .ref xW])), (xT, .inr (2, [.ref ca, .ref ta, .int w, .int 0])), (xP, .inr (3, [.int pd, .int pl, .int pw, .int pu, .int pv, .long a1, .int pc0]))] H := hP
  have hD : va_D A [(x, .inr (0, [.ref xT, .ref xP, .ref xR, .ref xG, .ref xF, .int tc, .ref xO, .ref xS, .ref xL, .ref xC, .ref xQ, .ref xU, .ref xW])), (xT, .inr (2, [.ref ca, .ref ta, .int w, .int 0])), (xP, .inr (3, [.int pd, .int pl, .int pw, .int pu, .int pv, .long a1, .int pc0]))] := hD
  refine lv_aload_n hx hb dR_sample_8 rfl (lv_at hl 0 rfl) ?_
  refine va_get (D := D) (ci := 0) (v := .ref xP) (C := R_R) (T := T_R) (N := 13) hx hb hT in_R hown hK hP 0 rfl rfl 1 (by decide) (hT _ w325) (fun _ h9 => h9) rfl dR_sample_9 ?_
  refine lv_iload_n hx hb dR_sample_12 rfl (lv_at hl 2 rfl) ?_
  refine va_put (D := D) (ci := 3) (v := .int a2) (ty := .int) (C := R_P) (T := T_P) (N := 7) hx hb hT in_P ty_P ty_P_ok m_P hown hK hP hD hS 2 rfl rfl 6 (by decide) (hT _ w119) (fun _ h9 => h9) rfl (by decide +kernel) rfl rfl (Nat.le_of_ble_eq_true rfl) dR_sample_13 (fun H locs hP hD hS => ?_)
  have hP : va_P D vwCl [(x, .inr (0, [.ref xT, .ref xP, .ref xR, .ref xG, .ref xF, .int tc, .ref xO, .ref xS, .ref xL, .ref xC, .ref xQ, .ref xU, .ref xW])), (xT, .inr (2, [.ref ca, .ref ta, .int w, .int 0])), (xP, .inr (3, [.int pd, .int pl, .int pw, .int pu, .int pv, .long a1, .int a2]))] H := hP
  have hD : va_D A [(x, .inr (0, [.ref xT, .ref xP, .ref xR, .ref xG, .ref xF, .int tc, .ref xO, .ref xS, .ref xL, .ref xC, .ref xQ, .ref xU, .ref xW])), (xT, .inr (2, [.ref ca, .ref ta, .int w, .int 0])), (xP, .inr (3, [.int pd, .int pl, .int pw, .int pu, .int pv, .long a1, .int a2]))] := hD
  refine lv_lload_n hx hb dR_sample_16 rfl (lv_at hl 1 rfl) ?_
  refine lv_aload_n hx hb dR_sample_17 rfl (lv_at hl 0 rfl) ?_
  refine va_get (D := D) (ci := 0) (v := .ref xT) (C := R_R) (T := T_R) (N := 13) hx hb hT in_R hown hK hP 0 rfl rfl 0 (by decide) (hT _ w324) (fun _ h9 => h9) rfl dR_sample_18 ?_
  refine ro_l (va_Run.run (va_runV (As := []) (rest := [.long a1]) ⟨hx, hb, hml, hown, hT⟩ (k_rowBits l D cT xT ca ta w 0) ⟨callB_of 0 hT (tb_gd w371) rfl rfl rfl (hT _ w2) (hT _ w368) hT_rowBits ⟨Nat.le_of_ble_eq_true rfl, Nat.le_of_ble_eq_true rfl⟩, (hT _ w369), (hT _ w370)⟩ (RO.preV (ci := 2) (q0 := 0) hZ hS (hP.sub (ws' := [(xT, .inr (2, [.ref ca, .ref ta, .int w, .int 0]))]) [1] rfl) hK rfl rfl) rfl rfl hl.1 rfl (lv_room (Nat.le_of_ble_eq_true rfl)) dR_sample_21 ⟨Nat.le_of_ble_eq_true rfl, Nat.le_of_ble_eq_true rfl⟩)) ?_
  refine lv_topl (fun y9 e9 => ?_)
  cases (show y9 = 0 from e9.trans (by decide))
  refine lv_land hx hb dR_sample_24 ?_
  refine lv_topl (fun y9 e9 => ?_)
  cases (show y9 = 0 from e9.trans (Int64.and_zero))
  refine ro_i (va_Run.run (va_runS (As := [.long 0]) (rest := []) ⟨hx, hb, hml, hown, hT⟩ (k_bitCount0 l D cT ) ⟨callB_of 1 hT (tb_gd w374) rfl rfl rfl (hT _ w19) (hT _ w372) hLg_bitCount ⟨Nat.le_of_ble_eq_true rfl, Nat.le_of_ble_eq_true rfl⟩, (hT _ w373)⟩ (RO.preS hZ hS ((show va_P D vwCl [] _ from fun _ _ h => nomatch h)) hK) rfl rfl hl.1 rfl (lv_room (Nat.le_of_ble_eq_true rfl)) dR_sample_25 ⟨Nat.le_of_ble_eq_true rfl, Nat.le_of_ble_eq_true rfl⟩)) ?_
  have hP9 := hP.sub (ws' := [(x, .inr (0, [.ref xT, .ref xP, .ref xR, .ref xG, .ref xF, .int tc, .ref xO, .ref xS, .ref xL, .ref xC, .ref xQ, .ref xU, .ref xW])), (xT, .inr (2, [.ref ca, .ref ta, .int w, .int 0])), (xP, .inr (3, [.int pd, .int pl, .int pw, .int pu, .int pv, .long a1, .int a2]))]) [0, 1, 2] rfl
  have hD9 := hD.sub (ws' := [(x, .inr (0, [.ref xT, .ref xP, .ref xR, .ref xG, .ref xF, .int tc, .ref xO, .ref xS, .ref xL, .ref xC, .ref xQ, .ref xU, .ref xW])), (xT, .inr (2, [.ref ca, .ref ta, .int w, .int 0])), (xP, .inr (3, [.int pd, .int pl, .int pw, .int pu, .int pv, .long a1, .int a2]))]) [0, 1, 2] (by decide) rfl
  refine W.widen (k := 0) (n := 0) (Nat.le_of_ble_eq_true rfl) (Nat.le_of_ble_eq_true rfl) ?_
  exact W.iret (v := 0) hx hb hr (fun t ht hW => ⟨⟨0, (fun _ => 0), rfl, rfl, by rw [ht]; exact hP9, hD9⟩, hS.F ht⟩) hS.2.2 dR_sample_28
set_option maxHeartbeats 4000000 in
set_option maxRecDepth 100000 in
theorem k_drop_ok (l : Launch) (D : va_G) (cT : Nat → ClassId) (x : Nat) (xT : Nat) (xP : Nat) (xR : Nat) (xG : Nat) (xF : Nat) (tc : Int32) (xO : Nat) (xS : Nat) (xL : Nat) (xC : Nat) (xQ : Nat) (xU : Nat) (xW : Nat) (a1 : Int32) (hq : 0 ≤ a1 ∧ a1 ≤ tc) (sz : Nat) : Met l yR_drop WR_drop ({ frames := 1, cells := 0, slots := 0, locals := 22 } : Room) (RW D vwCl [.ref x, .int a1] [(x, .inr (0, [.ref xT, .ref xP, .ref xR, .ref xG, .ref xF, .int tc, .ref xO, .ref xS, .ref xL, .ref xC, .ref xQ, .ref xU, .ref xW]))] (TY cT) sz) (va_Qi (fun (r : Int32) (_ : Nat → Nat) => r = tc - a1) (BW D vwCl (va_A [(x, .inr (0, [.ref xT, .ref xP, .ref xR, .ref xG, .ref xF, .int tc, .ref xO, .ref xS, .ref xL, .ref xC, .ref xQ, .ref xU, .ref xW]))] sz) (fun u => [(x, .inr (0, [.ref xT, .ref xP, .ref xR, .ref xG, .ref xF, .int a1, .ref xO, .ref xS, .ref xL, .ref xC, .ref xQ, .ref xU, .ref xW]))])) (va_A [(x, .inr (0, [.ref xT, .ref xP, .ref xR, .ref xG, .ref xF, .int tc, .ref xO, .ref xS, .ref xL, .ref xC, .ref xQ, .ref xU, .ref xW]))] sz)) 0 0 (va_A [(x, .inr (0, [.ref xT, .ref xP, .ref xR, .ref xG, .ref xF, .int tc, .ref xO, .ref xS, .ref xL, .ref xC, .ref xQ, .ref xU, .ref xW]))] sz) := by
  refine Met.ofW (cc := cR_drop) (maxL := 3) (ret := (some .int)) (by decide) rfl ?_
  intro p e s m args below meth c s₁ B hml hv
  obtain ⟨rfl, hsz, hZ, hP, hK, hD0⟩ := hv
  have hx := B.exec
  have hb := B.bytes
  have hr := B.returns
  have hts := atoms_spec (ws := WR_drop) B.pre
  have hT : ∀ w ∈ TB, w.before _ s = true := fun w h => hts w (List.mem_cons_of_mem _ h)
  have hown : s.vm.findClass R_R = some m.cls := findClass_of_methodNamed B.named
  have hlocks := B.notSynchronized
  subst hsz
  have hD := hD0.self (sz := s.heap.size)
  generalize hAe : va_A [(x, .inr (0, [.ref xT, .ref xP, .ref xR, .ref xG, .ref xF, .int tc, .ref xO, .ref xS, .ref xL, .ref xC, .ref xQ, .ref xU, .ref xW]))] s.heap.size = A at hD hZ ⊢
  have hA : ∀ q : Nat, s.heap.size ≤ q → A q := fun q h => by rw [← hAe]; exact Or.inr h
  have hS : va_S A s.heap s.heap [] := va_S.rf
  have hl := lv_entry ([.ref x, .int a1]) (n := 3) (Nat.le_of_ble_eq_true rfl)
  rw [lg_entry_eq]
  generalize (lg_sl ([.ref x, .int a1]) ++ List.replicate (3 - (lg_sl ([.ref x, .int a1])).length) Slot.unset).toArray = ls at hl ⊢
  have hl : lv_has ls 3 [(0, .ref x), (1, .int a1)] := hl
  refine lv_iload_n hx hb dR_drop_0 rfl (lv_at hl 1 rfl) ?_
  refine lv_iconst (v := 0) hx hb dR_drop_1 (by decide) ?_
  refine lv_aload_n hx hb dR_drop_2 rfl (lv_at hl 0 rfl) ?_
  refine va_get (D := D) (ci := 0) (v := .int tc) (C := R_R) (T := T_R) (N := 13) hx hb hT in_R hown hK hP 0 rfl rfl 5 (by decide) (hT _ w329) (fun _ h9 => h9) rfl dR_drop_3 ?_
  refine ro_i (va_Run.run (va_runS (As := [.int a1, .int 0, .int tc]) (rest := []) ⟨hx, hb, hml, hown, hT⟩ (k_isWithin l D cT a1 0 tc) ⟨callB_of 3 hT (tb_gd w499) rfl rfl rfl (hT _ w1) (hT _ w497) hR_isWithin ⟨Nat.le_of_ble_eq_true rfl, Nat.le_of_ble_eq_true rfl⟩, (hT _ w498)⟩ (RO.preS hZ hS ((show va_P D vwCl [] _ from fun _ _ h => nomatch h)) hK) rfl rfl hl.1 rfl (lv_room (Nat.le_of_ble_eq_true rfl)) dR_drop_6 ⟨Nat.le_of_ble_eq_true rfl, Nat.le_of_ble_eq_true rfl⟩)) ?_
  refine ro_v (va_Run.run (va_runS (As := [.int (bi (0 ≤ a1 ∧ a1 ≤ tc))]) (rest := []) ⟨hx, hb, hml, hown, hT⟩ (k_demand_ok l D cT (bi (0 ≤ a1 ∧ a1 ≤ tc)) (by rw [bi_t hq]; decide)) ⟨callB_of 1 hT (tb_gd w510) rfl rfl rfl (hT _ w1) (hT _ w508) hR_demand ⟨Nat.le_of_ble_eq_true rfl, Nat.le_of_ble_eq_true rfl⟩, (hT _ w509)⟩ (RO.preS hZ hS ((show va_P D vwCl [] _ from fun _ _ h => nomatch h)) hK) rfl rfl hl.1 rfl (lv_room (Nat.le_of_ble_eq_true rfl)) dR_drop_9 ⟨Nat.le_of_ble_eq_true rfl, Nat.le_of_ble_eq_true rfl⟩)) ?_
  refine lv_aload_n hx hb dR_drop_12 rfl (lv_at hl 0 rfl) ?_
  refine va_get (D := D) (ci := 0) (v := .int tc) (C := R_R) (T := T_R) (N := 13) hx hb hT in_R hown hK hP 0 rfl rfl 5 (by decide) (hT _ w329) (fun _ h9 => h9) rfl dR_drop_13 ?_
  refine lv_iload_n hx hb dR_drop_16 rfl (lv_at hl 1 rfl) ?_
  refine lv_isub hx hb dR_drop_17 ?_
  refine lv_istore_n hx hb dR_drop_18 rfl hl (by decide) rfl (fun ls hl => ?_)
  have hl : lv_has ls 3 [(2, .int (tc - a1)), (0, .ref x), (1, .int a1)] := hl
  refine lv_aload_n hx hb dR_drop_19 rfl (lv_at hl 1 rfl) ?_
  refine lv_iload_n hx hb dR_drop_20 rfl (lv_at hl 2 rfl) ?_
  refine va_put (D := D) (ci := 0) (v := .int a1) (ty := .int) (C := R_R) (T := T_R) (N := 13) hx hb hT in_R ty_R ty_R_ok m_R hown hK hP hD hS 0 rfl rfl 5 (by decide) (hT _ w329) (fun _ h9 => h9) rfl (by decide +kernel) rfl rfl (Nat.le_of_ble_eq_true rfl) dR_drop_21 (fun H locs hP hD hS => ?_)
  have hP : va_P D vwCl [(x, .inr (0, [.ref xT, .ref xP, .ref xR, .ref xG, .ref xF, .int a1, .ref xO, .ref xS, .ref xL, .ref xC, .ref xQ, .ref xU, .ref xW]))] H := hP
  have hD : va_D A [(x, .inr (0, [.ref xT, .ref xP, .ref xR, .ref xG, .ref xF, .int a1, .ref xO, .ref xS, .ref xL, .ref xC, .ref xQ, .ref xU, .ref xW]))] := hD
  refine lv_iload_n hx hb dR_drop_24 rfl (lv_at hl 0 rfl) ?_
  have hP9 := hP.sub (ws' := [(x, .inr (0, [.ref xT, .ref xP, .ref xR, .ref xG, .ref xF, .int a1, .ref xO, .ref xS, .ref xL, .ref xC, .ref xQ, .ref xU, .ref xW]))]) [0] rfl
  have hD9 := hD.sub (ws' := [(x, .inr (0, [.ref xT, .ref xP, .ref xR, .ref xG, .ref xF, .int a1, .ref xO, .ref xS, .ref xL, .ref xC, .ref xQ, .ref xU, .ref xW]))]) [0] (by decide) rfl
  refine W.widen (k := 0) (n := 0) (Nat.le_of_ble_eq_true rfl) (Nat.le_of_ble_eq_true rfl) ?_
  exact W.iret (v := tc - a1) hx hb hr (fun t ht hW => ⟨⟨tc - a1, (fun _ => 0), rfl, rfl, by rw [ht]; exact hP9, hD9⟩, hS.F ht⟩) hS.2.2 dR_drop_25
set_option maxHeartbeats 4000000 in
set_option maxRecDepth 100000 in
theorem k_count0 (l : Launch) (D : va_G) (cT : Nat → ClassId) (x : Nat) (xT : Nat) (xP : Nat) (xR : Nat) (xG : Nat) (xF : Nat) (tc : Int32) (xO : Nat) (xS : Nat) (xL : Nat) (xC : Nat) (xQ : Nat) (xU : Nat) (xW : Nat) (ca : Nat) (ta : Nat) (w : Int32) (r : Int32) : Met l yR_count WR_count ({ frames := 0, cells := 0, slots := 0, locals := 0 } : Room) (RO D vwCl [.ref x, .int 0] [(x, .inr (0, [.ref xT, .ref xP, .ref xR, .ref xG, .ref xF, .int tc, .ref xO, .ref xS, .ref xL, .ref xC, .ref xQ, .ref xU, .ref xW])), (xT, .inr (2, [.ref ca, .ref ta, .int w, .int r]))] (TY cT)) (QcRead w) 0 0 (fun _ => False) := by
  refine Met.ofW (cc := cR_count) (maxL := 2) (ret := (some .int)) (by decide) rfl ?_
  intro p e s m args below meth c s₁ B hml hv
  obtain ⟨rfl, hZ, hP, hK⟩ := hv
  have hx := B.exec
  have hb := B.bytes
  have hr := B.returns
  have hts := atoms_spec (ws := WR_count) B.pre
  have hT : ∀ w ∈ TB, w.before _ s = true := fun w h => hts w (List.mem_cons_of_mem _ h)
  have hown : s.vm.findClass R_R = some m.cls := findClass_of_methodNamed B.named
  have hlocks := B.notSynchronized
  have hS : va_S (fun _ => False) s.heap s.heap [] := va_S.rf
  have hl := lv_entry ([.ref x, .int 0]) (n := 2) (Nat.le_of_ble_eq_true rfl)
  rw [lg_entry_eq]
  generalize (lg_sl ([.ref x, .int 0]) ++ List.replicate (2 - (lg_sl ([.ref x, .int 0])).length) Slot.unset).toArray = ls at hl ⊢
  have hl : lv_has ls 2 [(0, .ref x), (1, .int 0)] := hl
  refine lv_iload_n hx hb dR_count_0 rfl (lv_at hl 1 rfl) ?_
  refine lv_tableIn (off := 35) (tgt := 36) hx hb dR_count_1 (by decide) (by decide) rfl rfl ?_
  refine lv_aload_n hx hb dR_count_36 rfl (lv_at hl 0 rfl) ?_
  refine va_get (D := D) (ci := 0) (v := .ref xT) (C := R_R) (T := T_R) (N := 13) hx hb hT in_R hown hK hP 0 rfl rfl 0 (by decide) (hT _ w324) (fun _ h9 => h9) rfl dR_count_37 ?_
  refine va_get (D := D) (ci := 2) (v := .int w) (C := R_T) (T := T_T) (N := 4) hx hb hT in_T hown hK hP 1 rfl rfl 2 (by decide) (hT _ w80) (fun _ h9 => h9) rfl dR_count_40 ?_
  exact W.iret (v := w) hx hb hr (fun t ht hW => ⟨rfl, ht⟩) (fun q h => nomatch h) dR_count_43
set_option maxHeartbeats 4000000 in
set_option maxRecDepth 100000 in
theorem k_count1 (l : Launch) (D : va_G) (cT : Nat → ClassId) (x : Nat) (xT : Nat) (xP : Nat) (xR : Nat) (xG : Nat) (xF : Nat) (tc : Int32) (xO : Nat) (xS : Nat) (xL : Nat) (xC : Nat) (xQ : Nat) (xU : Nat) (xW : Nat) (ca : Nat) (ta : Nat) (w : Int32) (r : Int32) : Met l yR_count WR_count ({ frames := 0, cells := 0, slots := 0, locals := 0 } : Room) (RO D vwCl [.ref x, .int 1] [(x, .inr (0, [.ref xT, .ref xP, .ref xR, .ref xG, .ref xF, .int tc, .ref xO, .ref xS, .ref xL, .ref xC, .ref xQ, .ref xU, .ref xW])), (xT, .inr (2, [.ref ca, .ref ta, .int w, .int r]))] (TY cT)) (QcRead r) 0 0 (fun _ => False) := by
  refine Met.ofW (cc := cR_count) (maxL := 2) (ret := (some .int)) (by decide) rfl ?_
  intro p e s m args below meth c s₁ B hml hv
  obtain ⟨rfl, hZ, hP, hK⟩ := hv
  have hx := B.exec
  have hb := B.bytes
  have hr := B.returns
  have hts := atoms_spec (ws := WR_count) B.pre
  have hT : ∀ w ∈ TB, w.before _ s = true := fun w h => hts w (List.mem_cons_of_mem _ h)
  have hown : s.vm.findClass R_R = some m.cls := findClass_of_methodNamed B.named
  have hlocks := B.notSynchronized
  have hS : va_S (fun _ => False) s.heap s.heap [] := va_S.rf
  have hl := lv_entry ([.ref x, .int 1]) (n := 2) (Nat.le_of_ble_eq_true rfl)
  rw [lg_entry_eq]
  generalize (lg_sl ([.ref x, .int 1]) ++ List.replicate (2 - (lg_sl ([.ref x, .int 1])).length) Slot.unset).toArray = ls at hl ⊢
  have hl : lv_has ls 2 [(0, .ref x), (1, .int 1)] := hl
  refine lv_iload_n hx hb dR_count_0 rfl (lv_at hl 1 rfl) ?_
  refine lv_tableIn (off := 43) (tgt := 44) hx hb dR_count_1 (by decide) (by decide) rfl rfl ?_
  refine lv_aload_n hx hb dR_count_44 rfl (lv_at hl 0 rfl) ?_
  refine va_get (D := D) (ci := 0) (v := .ref xT) (C := R_R) (T := T_R) (N := 13) hx hb hT in_R hown hK hP 0 rfl rfl 0 (by decide) (hT _ w324) (fun _ h9 => h9) rfl dR_count_45 ?_
  refine va_get (D := D) (ci := 2) (v := .int r) (C := R_T) (T := T_T) (N := 4) hx hb hT in_T hown hK hP 1 rfl rfl 3 (by decide) (hT _ w82) (fun _ h9 => h9) rfl dR_count_48 ?_
  exact W.iret (v := r) hx hb hr (fun t ht hW => ⟨rfl, ht⟩) (fun q h => nomatch h) dR_count_51
set_option maxHeartbeats 4000000 in
set_option maxRecDepth 100000 in
theorem k_count2 (l : Launch) (D : va_G) (cT : Nat → ClassId) (x : Nat) (xT : Nat) (xP : Nat) (xR : Nat) (xG : Nat) (xF : Nat) (tc : Int32) (xO : Nat) (xS : Nat) (xL : Nat) (xC : Nat) (xQ : Nat) (xU : Nat) (xW : Nat) : Met l yR_count WR_count ({ frames := 0, cells := 0, slots := 0, locals := 0 } : Room) (RO D vwCl [.ref x, .int 2] [(x, .inr (0, [.ref xT, .ref xP, .ref xR, .ref xG, .ref xF, .int tc, .ref xO, .ref xS, .ref xL, .ref xC, .ref xQ, .ref xU, .ref xW]))] (TY cT)) (QcRead tc) 0 0 (fun _ => False) := by
  refine Met.ofW (cc := cR_count) (maxL := 2) (ret := (some .int)) (by decide) rfl ?_
  intro p e s m args below meth c s₁ B hml hv
  obtain ⟨rfl, hZ, hP, hK⟩ := hv
  have hx := B.exec
  have hb := B.bytes
  have hr := B.returns
  have hts := atoms_spec (ws := WR_count) B.pre
  have hT : ∀ w ∈ TB, w.before _ s = true := fun w h => hts w (List.mem_cons_of_mem _ h)
  have hown : s.vm.findClass R_R = some m.cls := findClass_of_methodNamed B.named
  have hlocks := B.notSynchronized
  have hS : va_S (fun _ => False) s.heap s.heap [] := va_S.rf
  have hl := lv_entry ([.ref x, .int 2]) (n := 2) (Nat.le_of_ble_eq_true rfl)
  rw [lg_entry_eq]
  generalize (lg_sl ([.ref x, .int 2]) ++ List.replicate (2 - (lg_sl ([.ref x, .int 2])).length) Slot.unset).toArray = ls at hl ⊢
  have hl : lv_has ls 2 [(0, .ref x), (1, .int 2)] := hl
  refine lv_iload_n hx hb dR_count_0 rfl (lv_at hl 1 rfl) ?_
  refine lv_tableIn (off := 51) (tgt := 52) hx hb dR_count_1 (by decide) (by decide) rfl rfl ?_
  refine lv_aload_n hx hb dR_count_52 rfl (lv_at hl 0 rfl) ?_
  refine va_get (D := D) (ci := 0) (v := .int tc) (C := R_R) (T := T_R) (N := 13) hx hb hT in_R hown hK hP 0 rfl rfl 5 (by decide) (hT _ w329) (fun _ h9 => h9) rfl dR_count_53 ?_
  exact W.iret (v := tc) hx hb hr (fun t ht hW => ⟨rfl, ht⟩) (fun q h => nomatch h) dR_count_56
set_option maxHeartbeats 4000000 in
set_option maxRecDepth 100000 in
theorem k_count4 (l : Launch) (D : va_G) (cT : Nat → ClassId) (x : Nat) (xT : Nat) (xP : Nat) (xR : Nat) (xG : Nat) (xF : Nat) (tc : Int32) (xO : Nat) (xS : Nat) (xL : Nat) (xC : Nat) (xQ : Nat) (xU : Nat) (xW : Nat) (ob : Nat) (ol : Int32) (ou : Nat) (ow : Nat) : Met l yR_count WR_count ({ frames := 0, cells := 0, slots := 0, locals := 0 } : Room) (RO D vwCl [.ref x, .int 4] [(x, .inr (0, [.ref xT, .ref xP, .ref xR, .ref xG, .ref xF, .int tc, .ref xO, .ref xS, .ref xL, .ref xC, .ref xQ, .ref xU, .ref xW])), (xO, .inr (8, [.ref ob, .int ol, .ref ou, .ref ow]))] (TY cT)) (QcRead ol) 0 0 (fun _ => False) := by
  refine Met.ofW (cc := cR_count) (maxL := 2) (ret := (some .int)) (by decide) rfl ?_
  intro p e s m args below meth c s₁ B hml hv
  obtain ⟨rfl, hZ, hP, hK⟩ := hv
  have hx := B.exec
  have hb := B.bytes
  have hr := B.returns
  have hts := atoms_spec (ws := WR_count) B.pre
  have hT : ∀ w ∈ TB, w.before _ s = true := fun w h => hts w (List.mem_cons_of_mem _ h)
  have hown : s.vm.findClass R_R = some m.cls := findClass_of_methodNamed B.named
  have hlocks := B.notSynchronized
  have hS : va_S (fun _ => False) s.heap s.heap [] := va_S.rf
  have hl := lv_entry ([.ref x, .int 4]) (n := 2) (Nat.le_of_ble_eq_true rfl)
  rw [lg_entry_eq]
  generalize (lg_sl ([.ref x, .int 4]) ++ List.replicate (2 - (lg_sl ([.ref x, .int 4])).length) Slot.unset).toArray = ls at hl ⊢
  have hl : lv_has ls 2 [(0, .ref x), (1, .int 4)] := hl
  refine lv_iload_n hx hb dR_count_0 rfl (lv_at hl 1 rfl) ?_
  refine lv_tableIn (off := 61) (tgt := 62) hx hb dR_count_1 (by decide) (by decide) rfl rfl ?_
  refine lv_aload_n hx hb dR_count_62 rfl (lv_at hl 0 rfl) ?_
  refine va_get (D := D) (ci := 0) (v := .ref xO) (C := R_R) (T := T_R) (N := 13) hx hb hT in_R hown hK hP 0 rfl rfl 6 (by decide) (hT _ w330) (fun _ h9 => h9) rfl dR_count_63 ?_
  refine va_get (D := D) (ci := 8) (v := .int ol) (C := R_O) (T := T_O) (N := 4) hx hb hT in_O hown hK hP 1 rfl rfl 1 (by decide) (hT _ w291) (fun _ h9 => h9) rfl dR_count_66 ?_
  exact W.iret (v := ol) hx hb hr (fun t ht hW => ⟨rfl, ht⟩) (fun q h => nomatch h) dR_count_69
set_option maxHeartbeats 4000000 in
set_option maxRecDepth 100000 in
theorem k_uses_ok (l : Launch) (D : va_G) (cT : Nat → ClassId) (x : Nat) (xT : Nat) (xP : Nat) (xR : Nat) (xG : Nat) (xF : Nat) (xO : Nat) (xS : Nat) (xL : Nat) (xC : Nat) (xQ : Nat) (xU : Nat) (xW : Nat) (ca : Nat) (ta : Nat) : Met l yR_uses WR_uses ({ frames := 2, cells := 0, slots := 0, locals := 43 } : Room) (RO D vwCl [.ref x, .int 0] [(x, .inr (0, [.ref xT, .ref xP, .ref xR, .ref xG, .ref xF, .int 0, .ref xO, .ref xS, .ref xL, .ref xC, .ref xQ, .ref xU, .ref xW])), (xT, .inr (2, [.ref ca, .ref ta, .int 1, .int 0]))] (TY cT)) (QcRead 0) 0 0 (fun _ => False) := by
  refine Met.ofW (cc := cR_uses) (maxL := 4) (ret := (some .int)) (by decide) rfl ?_
  intro p e s m args below meth c s₁ B hml hv
  obtain ⟨rfl, hZ, hP, hK⟩ := hv
  have hx := B.exec
  have hb := B.bytes
  have hr := B.returns
  have hts := atoms_spec (ws := WR_uses) B.pre
  have hT : ∀ w ∈ TB, w.before _ s = true := fun w h => hts w (List.mem_cons_of_mem _ h)
  have hown : s.vm.findClass R_R = some m.cls := findClass_of_methodNamed B.named
  have hlocks := B.notSynchronized
  have hS : va_S (fun _ => False) s.heap s.heap [] := va_S.rf
  have hl := lv_entry ([.ref x, .int 0]) (n := 4) (Nat.le_of_ble_eq_true rfl)
  rw [lg_entry_eq]
  generalize (lg_sl ([.ref x, .int 0]) ++ List.replicate (4 - (lg_sl ([.ref x, .int 0])).length) Slot.unset).toArray = ls at hl ⊢
  have hl : lv_has ls 4 [(0, .ref x), (1, .int 0)] := hl
  refine lv_aload_n hx hb dR_uses_0 rfl (lv_at hl 0 rfl) ?_
  refine va_get (D := D) (ci := 0) (v := .ref xT) (C := R_R) (T := T_R) (N := 13) hx hb hT in_R hown hK hP 0 rfl rfl 0 (by decide) (hT _ w324) (fun _ h9 => h9) rfl dR_uses_1 ?_
  refine lv_iload_n hx hb dR_uses_4 rfl (lv_at hl 1 rfl) ?_
  refine ro_i (va_Run.run (va_runV (As := [.int 0]) (rest := []) ⟨hx, hb, hml, hown, hT⟩ (k_hasColumn l D cT xT ca ta 1 0 0) ⟨callB_of 1 hT (tb_gd w621) rfl rfl rfl (hT _ w2) (hT _ w618) hT_hasColumn ⟨Nat.le_of_ble_eq_true rfl, Nat.le_of_ble_eq_true rfl⟩, (hT _ w619), (hT _ w620)⟩ (RO.preV (ci := 2) (q0 := 0) hZ hS (hP.sub (ws' := [(xT, .inr (2, [.ref ca, .ref ta, .int 1, .int 0]))]) [1] rfl) hK rfl rfl) rfl rfl hl.1 rfl (lv_room (Nat.le_of_ble_eq_true rfl)) dR_uses_5 ⟨Nat.le_of_ble_eq_true rfl, Nat.le_of_ble_eq_true rfl⟩)) ?_
  refine ro_v (va_Run.run (va_runS (As := [.int (bi (0 ≤ 0 ∧ 0 ≤ 1 - 1))]) (rest := []) ⟨hx, hb, hml, hown, hT⟩ (k_demand_ok l D cT (bi (0 ≤ 0 ∧ 0 ≤ 1 - 1)) (by rw [bi_t (by decide)]; decide)) ⟨callB_of 1 hT (tb_gd w510) rfl rfl rfl (hT _ w1) (hT _ w508) hR_demand ⟨Nat.le_of_ble_eq_true rfl, Nat.le_of_ble_eq_true rfl⟩, (hT _ w509)⟩ (RO.preS hZ hS ((show va_P D vwCl [] _ from fun _ _ h => nomatch h)) hK) rfl rfl hl.1 rfl (lv_room (Nat.le_of_ble_eq_true rfl)) dR_uses_8 ⟨Nat.le_of_ble_eq_true rfl, Nat.le_of_ble_eq_true rfl⟩)) ?_
  refine lv_iconst (v := 0) hx hb dR_uses_11 (by decide) ?_
  refine lv_istore_n hx hb dR_uses_12 rfl hl (by decide) rfl (fun ls hl => ?_)
  have hl : lv_has ls 4 [(2, .int 0), (0, .ref x), (1, .int 0)] := hl
  refine lv_iconst (v := 0) hx hb dR_uses_13 (by decide) ?_
  refine lv_istore_n hx hb dR_uses_14 rfl hl (by decide) rfl (fun ls hl => ?_)
  have hl : lv_has ls 4 [(3, .int 0), (2, .int 0), (0, .ref x), (1, .int 0)] := hl
  refine lv_iload_n hx hb dR_uses_15 rfl (lv_at hl 0 rfl) ?_
  refine lv_aload_n hx hb dR_uses_16 rfl (lv_at hl 2 rfl) ?_
  refine va_get (D := D) (ci := 0) (v := .int 0) (C := R_R) (T := T_R) (N := 13) hx hb hT in_R hown hK hP 0 rfl rfl 5 (by decide) (hT _ w329) (fun _ h9 => h9) rfl dR_uses_17 ?_
  refine lv_icmp_ge (tgt := 47) hx hb dR_uses_20 rfl (fun _ => ?_) (fun hj1 => absurd (by decide) hj1)
  refine lv_iload_n hx hb dR_uses_47 rfl (lv_at hl 1 rfl) ?_
  exact W.iret (v := 0) hx hb hr (fun t ht hW => ⟨rfl, ht⟩) (fun q h => nomatch h) dR_uses_48
set_option maxHeartbeats 4000000 in
set_option maxRecDepth 100000 in
theorem k_ask_ok1 (l : Launch) (D : va_G) (cT : Nat → ClassId) (x : Nat) (xT : Nat) (xP : Nat) (xR : Nat) (xG : Nat) (xF : Nat) (tc : Int32) (xO : Nat) (xS : Nat) (xL : Nat) (xC : Nat) (xQ : Nat) (xU : Nat) (xW : Nat) (ca : Nat) (ta : Nat) (cf : Nat → Option Nat) (c0 : Nat) (v0 : Nat) (ed0 : Nat) (n0 : Int32) (f0 : Nat → Int32) (a2 : Int32) (h1 : ¬ a2 = (-2147483648)) (hq : (-1000000) ≤ a2 ∧ a2 ≤ 1000000) (hf0 : cf 0 = some c0) (sz : Nat) : Met l yR_ask WR_ask ({ frames := 2, cells := 0, slots := 0, locals := 43 } : Room) (RW D vwCl [.ref x, .int 0, .int a2] [(x, .inr (0, [.ref xT, .ref xP, .ref xR, .ref xG, .ref xF, .int tc, .ref xO, .ref xS, .ref xL, .ref xC, .ref xQ, .ref xU, .ref xW])), (xT, .inr (2, [.ref ca, .ref ta, .int 1, .int 0])), (ca, .inl (cT 5, 6, .inr (.inr (.inr (.inr cf))))), (c0, .inr (1, [.ref v0, .ref ed0, .int n0, .int 0])), (v0, .inl (cT 0, 49, .inl f0))] (TY cT) sz) (va_Qi (fun (r : Int32) (_ : Nat → Nat) => r = f0 48) (BW D vwCl (va_A [(x, .inr (0, [.ref xT, .ref xP, .ref xR, .ref xG, .ref xF, .int tc, .ref xO, .ref xS, .ref xL, .ref xC, .ref xQ, .ref xU, .ref xW])), (xT, .inr (2, [.ref ca, .ref ta, .int 1, .int 0])), (ca, .inl (cT 5, 6, .inr (.inr (.inr (.inr cf))))), (c0, .inr (1, [.ref v0, .ref ed0, .int n0, .int 0])), (v0, .inl (cT 0, 49, .inl f0))] sz) (fun u => [(x, .inr (0, [.ref xT, .ref xP, .ref xR, .ref xG, .ref xF, .int tc, .ref xO, .ref xS, .ref xL, .ref xC, .ref xQ, .ref xU, .ref xW])), (xT, .inr (2, [.ref ca, .ref ta, .int 1, .int 0])), (ca, .inl (cT 5, 6, .inr (.inr (.inr (.inr cf))))), (c0, .inr (1, [.ref v0, .ref ed0, .int n0, .int 0])), (v0, .inl (cT 0, 49, .inl (upd f0 48 a2)))])) (va_A [(x, .inr (0, [.ref xT, .ref xP, .ref xR, .ref xG, .ref xF, .int tc, .ref xO, .ref xS, .ref xL, .ref xC, .ref xQ, .ref xU, .ref xW])), (xT, .inr (2, [.ref ca, .ref ta, .int 1, .int 0])), (ca, .inl (cT 5, 6, .inr (.inr (.inr (.inr cf))))), (c0, .inr (1, [.ref v0, .ref ed0, .int n0, .int 0])), (v0, .inl (cT 0, 49, .inl f0))] sz)) 0 0 (va_A [(x, .inr (0, [.ref xT, .ref xP, .ref xR, .ref xG, .ref xF, .int tc, .ref xO, .ref xS, .ref xL, .ref xC, .ref xQ, .ref xU, .ref xW])), (xT, .inr (2, [.ref ca, .ref ta, .int 1, .int 0])), (ca, .inl (cT 5, 6, .inr (.inr (.inr (.inr cf))))), (c0, .inr (1, [.ref v0, .ref ed0, .int n0, .int 0])), (v0, .inl (cT 0, 49, .inl f0))] sz) := by
  refine Met.ofW (cc := cR_ask) (maxL := 3) (ret := (some .int)) (by decide) rfl ?_
  intro p e s m args below meth c s₁ B hml hv
  obtain ⟨rfl, hsz, hZ, hP, hK, hD0⟩ := hv
  have hx := B.exec
  have hb := B.bytes
  have hr := B.returns
  have hts := atoms_spec (ws := WR_ask) B.pre
  have hT : ∀ w ∈ TB, w.before _ s = true := fun w h => hts w (List.mem_cons_of_mem _ h)
  have hown : s.vm.findClass R_R = some m.cls := findClass_of_methodNamed B.named
  have hlocks := B.notSynchronized
  subst hsz
  have hD := hD0.self (sz := s.heap.size)
  generalize hAe : va_A [(x, .inr (0, [.ref xT, .ref xP, .ref xR, .ref xG, .ref xF, .int tc, .ref xO, .ref xS, .ref xL, .ref xC, .ref xQ, .ref xU, .ref xW])), (xT, .inr (2, [.ref ca, .ref ta, .int 1, .int 0])), (ca, .inl (cT 5, 6, .inr (.inr (.inr (.inr cf))))), (c0, .inr (1, [.ref v0, .ref ed0, .int n0, .int 0])), (v0, .inl (cT 0, 49, .inl f0))] s.heap.size = A at hD hZ ⊢
  have hA : ∀ q : Nat, s.heap.size ≤ q → A q := fun q h => by rw [← hAe]; exact Or.inr h
  have hS : va_S A s.heap s.heap [] := va_S.rf
  have hl := lv_entry ([.ref x, .int 0, .int a2]) (n := 3) (Nat.le_of_ble_eq_true rfl)
  rw [lg_entry_eq]
  generalize (lg_sl ([.ref x, .int 0, .int a2]) ++ List.replicate (3 - (lg_sl ([.ref x, .int 0, .int a2])).length) Slot.unset).toArray = ls at hl ⊢
  have hl : lv_has ls 3 [(0, .ref x), (1, .int 0), (2, .int a2)] := hl
  refine lv_aload_n hx hb dR_ask_0 rfl (lv_at hl 0 rfl) ?_
  refine va_get (D := D) (ci := 0) (v := .ref xT) (C := R_R) (T := T_R) (N := 13) hx hb hT in_R hown hK hP 0 rfl rfl 0 (by decide) (hT _ w324) (fun _ h9 => h9) rfl dR_ask_1 ?_
  refine lv_iload_n hx hb dR_ask_4 rfl (lv_at hl 1 rfl) ?_
  refine ro_i (va_Run.run (va_runV (As := [.int 0]) (rest := []) ⟨hx, hb, hml, hown, hT⟩ (k_hasColumn l D cT xT ca ta 1 0 0) ⟨callB_of 1 hT (tb_gd w621) rfl rfl rfl (hT _ w2) (hT _ w618) hT_hasColumn ⟨Nat.le_of_ble_eq_true rfl, Nat.le_of_ble_eq_true rfl⟩, (hT _ w619), (hT _ w620)⟩ (RO.preV (ci := 2) (q0 := 0) hZ hS (hP.sub (ws' := [(xT, .inr (2, [.ref ca, .ref ta, .int 1, .int 0]))]) [1] rfl) hK rfl rfl) rfl rfl hl.1 rfl (lv_room (Nat.le_of_ble_eq_true rfl)) dR_ask_5 ⟨Nat.le_of_ble_eq_true rfl, Nat.le_of_ble_eq_true rfl⟩)) ?_
  refine lv_if_eq (tgt := 28) hx hb dR_ask_8 rfl (fun hj1 => absurd hj1 (by rw [bi_t (by decide)]; decide)) (fun _ => ?_)
  refine lv_iload_n hx hb dR_ask_11 rfl (lv_at hl 2 rfl) ?_
  refine lv_ldc (v := (-2147483648)) hx hb hown (hT _ w685) dR_ask_12 ?_
  refine lv_icmp_eq (tgt := 24) hx hb dR_ask_14 rfl (fun hj2 => absurd hj2 h1) (fun _ => ?_)
  refine lv_iload_n hx hb dR_ask_17 rfl (lv_at hl 2 rfl) ?_
  refine ro_i (va_Run.run (va_runS (As := [.int a2]) (rest := []) ⟨hx, hb, hml, hown, hT⟩ (k_isNumber l D cT a2) ⟨callB_of 1 hT (tb_gd w630) rfl rfl rfl (hT _ w1) (hT _ w1072) hR_isNumber ⟨Nat.le_of_ble_eq_true rfl, Nat.le_of_ble_eq_true rfl⟩, (hT _ w629)⟩ (RO.preS hZ hS ((show va_P D vwCl [] _ from fun _ _ h => nomatch h)) hK) rfl rfl hl.1 rfl (lv_room (Nat.le_of_ble_eq_true rfl)) dR_ask_18 ⟨Nat.le_of_ble_eq_true rfl, Nat.le_of_ble_eq_true rfl⟩)) ?_
  refine lv_if_eq (tgt := 28) hx hb dR_ask_21 rfl (fun hj3 => absurd hj3 (by rw [bi_t hq]; decide)) (fun _ => ?_)
  refine lv_iconst (v := 1) hx hb dR_ask_24 (by decide) ?_
  refine lv_goto (tgt := 29) hx hb dR_ask_25 rfl ?_
  refine ro_v (va_Run.run (va_runS (As := [.int 1]) (rest := []) ⟨hx, hb, hml, hown, hT⟩ (k_demand_ok l D cT 1 (by decide)) ⟨callB_of 1 hT (tb_gd w510) rfl rfl rfl (hT _ w1) (hT _ w508) hR_demand ⟨Nat.le_of_ble_eq_true rfl, Nat.le_of_ble_eq_true rfl⟩, (hT _ w509)⟩ (RO.preS hZ hS ((show va_P D vwCl [] _ from fun _ _ h => nomatch h)) hK) rfl rfl hl.1 rfl (lv_room (Nat.le_of_ble_eq_true rfl)) dR_ask_29 ⟨Nat.le_of_ble_eq_true rfl, Nat.le_of_ble_eq_true rfl⟩)) ?_
  refine lv_aload_n hx hb dR_ask_32 rfl (lv_at hl 0 rfl) ?_
  refine va_get (D := D) (ci := 0) (v := .ref xT) (C := R_R) (T := T_R) (N := 13) hx hb hT in_R hown hK hP 0 rfl rfl 0 (by decide) (hT _ w324) (fun _ h9 => h9) rfl dR_ask_33 ?_
  refine va_get (D := D) (ci := 2) (v := .ref ca) (C := R_T) (T := T_T) (N := 4) hx hb hT in_T hown hK hP 1 rfl rfl 0 (by decide) (hT _ w74) (fun _ h9 => h9) rfl dR_ask_36 ?_
  refine lv_iload_n hx hb dR_ask_39 rfl (lv_at hl 1 rfl) ?_
  refine al_q (q := c0) hx hb hK hP 2 5 rfl rfl (by unfold vp_in; decide) hf0 dR_ask_40 ?_
  refine lv_bipush (v := 48) hx hb dR_ask_41 (by decide) ?_
  refine lv_iload_n hx hb dR_ask_43 rfl (lv_at hl 2 rfl) ?_
  refine rw_i (wc := [(c0, .inr (1, [.ref v0, .ref ed0, .int n0, .int 0])), (v0, .inl (cT 0, 49, .inl f0))]) (wr := [(x, .inr (0, [.ref xT, .ref xP, .ref xR, .ref xG, .ref xF, .int tc, .ref xO, .ref xS, .ref xL, .ref xC, .ref xQ, .ref xU, .ref xW])), (xT, .inr (2, [.ref ca, .ref ta, .int 1, .int 0])), (ca, .inl (cT 5, 6, .inr (.inr (.inr (.inr cf)))))]) hP hD hS hA [3, 4] [0, 1, 2] rfl rfl (by decide) (by decide) (va_runV (As := [.int 48, .int a2]) (rest := []) ⟨hx, hb, hml, hown, hT⟩ (k_exchangeQ l D cT c0 v0 ed0 n0 0 f0 a2 _) ⟨callB_of 2 hT (tb_gd w636) rfl rfl rfl (hT _ w3) (hT _ w633) hC_exchange ⟨Nat.le_of_ble_eq_true rfl, Nat.le_of_ble_eq_true rfl⟩, (hT _ w634), (hT _ w635)⟩ (RW.preV (ci := 1) (q0 := 0) hZ hS (va_free (wc := [(c0, .inr (1, [.ref v0, .ref ed0, .int n0, .int 0])), (v0, .inl (cT 0, 49, .inl f0))]) hD hS hA [3, 4] rfl) (hP.sub (ws' := [(c0, .inr (1, [.ref v0, .ref ed0, .int n0, .int 0])), (v0, .inl (cT 0, 49, .inl f0))]) [3, 4] rfl) hK (hD.sub (ws' := [(c0, .inr (1, [.ref v0, .ref ed0, .int n0, .int 0])), (v0, .inl (cT 0, 49, .inl f0))]) [3, 4] (by decide) rfl) rfl rfl) rfl rfl hl.1 rfl (lv_room (Nat.le_of_ble_eq_true rfl)) dR_ask_44 ⟨Nat.le_of_ble_eq_true rfl, Nat.le_of_ble_eq_true rfl⟩) (fun ru4 u4 H locs hpu4 hP hD hS => ?_)
  have hP : va_P D vwCl [(x, .inr (0, [.ref xT, .ref xP, .ref xR, .ref xG, .ref xF, .int tc, .ref xO, .ref xS, .ref xL, .ref xC, .ref xQ, .ref xU, .ref xW])), (xT, .inr (2, [.ref ca, .ref ta, .int 1, .int 0])), (ca, .inl (cT 5, 6, .inr (.inr (.inr (.inr cf))))), (c0, .inr (1, [.ref v0, .ref ed0, .int n0, .int 0])), (v0, .inl (cT 0, 49, .inl (upd f0 48 a2)))] H := hP
  have hD : va_D A [(x, .inr (0, [.ref xT, .ref xP, .ref xR, .ref xG, .ref xF, .int tc, .ref xO, .ref xS, .ref xL, .ref xC, .ref xQ, .ref xU, .ref xW])), (xT, .inr (2, [.ref ca, .ref ta, .int 1, .int 0])), (ca, .inl (cT 5, 6, .inr (.inr (.inr (.inr cf))))), (c0, .inr (1, [.ref v0, .ref ed0, .int n0, .int 0])), (v0, .inl (cT 0, 49, .inl (upd f0 48 a2)))] := hD
  rw [hpu4]
  have hP9 := hP.sub (ws' := [(x, .inr (0, [.ref xT, .ref xP, .ref xR, .ref xG, .ref xF, .int tc, .ref xO, .ref xS, .ref xL, .ref xC, .ref xQ, .ref xU, .ref xW])), (xT, .inr (2, [.ref ca, .ref ta, .int 1, .int 0])), (ca, .inl (cT 5, 6, .inr (.inr (.inr (.inr cf))))), (c0, .inr (1, [.ref v0, .ref ed0, .int n0, .int 0])), (v0, .inl (cT 0, 49, .inl (upd f0 48 a2)))]) [0, 1, 2, 3, 4] rfl
  have hD9 := hD.sub (ws' := [(x, .inr (0, [.ref xT, .ref xP, .ref xR, .ref xG, .ref xF, .int tc, .ref xO, .ref xS, .ref xL, .ref xC, .ref xQ, .ref xU, .ref xW])), (xT, .inr (2, [.ref ca, .ref ta, .int 1, .int 0])), (ca, .inl (cT 5, 6, .inr (.inr (.inr (.inr cf))))), (c0, .inr (1, [.ref v0, .ref ed0, .int n0, .int 0])), (v0, .inl (cT 0, 49, .inl (upd f0 48 a2)))]) [0, 1, 2, 3, 4] (by decide) rfl
  refine W.widen (k := 0) (n := 0) (Nat.le_of_ble_eq_true rfl) (Nat.le_of_ble_eq_true rfl) ?_
  exact W.iret (v := f0 48) hx hb hr (fun t ht hW => ⟨⟨f0 48, (fun _ => 0), rfl, rfl, by rw [ht]; exact hP9, hD9⟩, hS.F ht⟩) hS.2.2 dR_ask_47
set_option maxHeartbeats 4000000 in
set_option maxRecDepth 100000 in
theorem k_ask_ok0 (l : Launch) (D : va_G) (cT : Nat → ClassId) (x : Nat) (xT : Nat) (xP : Nat) (xR : Nat) (xG : Nat) (xF : Nat) (tc : Int32) (xO : Nat) (xS : Nat) (xL : Nat) (xC : Nat) (xQ : Nat) (xU : Nat) (xW : Nat) (ca : Nat) (ta : Nat) (cf : Nat → Option Nat) (c0 : Nat) (v0 : Nat) (ed0 : Nat) (n0 : Int32) (f0 : Nat → Int32) (hf0 : cf 0 = some c0) (sz : Nat) : Met l yR_ask WR_ask ({ frames := 2, cells := 0, slots := 0, locals := 43 } : Room) (RW D vwCl [.ref x, .int 0, .int (-2147483648)] [(x, .inr (0, [.ref xT, .ref xP, .ref xR, .ref xG, .ref xF, .int tc, .ref xO, .ref xS, .ref xL, .ref xC, .ref xQ, .ref xU, .ref xW])), (xT, .inr (2, [.ref ca, .ref ta, .int 1, .int 0])), (ca, .inl (cT 5, 6, .inr (.inr (.inr (.inr cf))))), (c0, .inr (1, [.ref v0, .ref ed0, .int n0, .int 0])), (v0, .inl (cT 0, 49, .inl f0))] (TY cT) sz) (va_Qi (fun (r : Int32) (_ : Nat → Nat) => r = f0 48) (BW D vwCl (va_A [(x, .inr (0, [.ref xT, .ref xP, .ref xR, .ref xG, .ref xF, .int tc, .ref xO, .ref xS, .ref xL, .ref xC, .ref xQ, .ref xU, .ref xW])), (xT, .inr (2, [.ref ca, .ref ta, .int 1, .int 0])), (ca, .inl (cT 5, 6, .inr (.inr (.inr (.inr cf))))), (c0, .inr (1, [.ref v0, .ref ed0, .int n0, .int 0])), (v0, .inl (cT 0, 49, .inl f0))] sz) (fun u => [(x, .inr (0, [.ref xT, .ref xP, .ref xR, .ref xG, .ref xF, .int tc, .ref xO, .ref xS, .ref xL, .ref xC, .ref xQ, .ref xU, .ref xW])), (xT, .inr (2, [.ref ca, .ref ta, .int 1, .int 0])), (ca, .inl (cT 5, 6, .inr (.inr (.inr (.inr cf))))), (c0, .inr (1, [.ref v0, .ref ed0, .int n0, .int 0])), (v0, .inl (cT 0, 49, .inl (upd f0 48 (-2147483648))))])) (va_A [(x, .inr (0, [.ref xT, .ref xP, .ref xR, .ref xG, .ref xF, .int tc, .ref xO, .ref xS, .ref xL, .ref xC, .ref xQ, .ref xU, .ref xW])), (xT, .inr (2, [.ref ca, .ref ta, .int 1, .int 0])), (ca, .inl (cT 5, 6, .inr (.inr (.inr (.inr cf))))), (c0, .inr (1, [.ref v0, .ref ed0, .int n0, .int 0])), (v0, .inl (cT 0, 49, .inl f0))] sz)) 0 0 (va_A [(x, .inr (0, [.ref xT, .ref xP, .ref xR, .ref xG, .ref xF, .int tc, .ref xO, .ref xS, .ref xL, .ref xC, .ref xQ, .ref xU, .ref xW])), (xT, .inr (2, [.ref ca, .ref ta, .int 1, .int 0])), (ca, .inl (cT 5, 6, .inr (.inr (.inr (.inr cf))))), (c0, .inr (1, [.ref v0, .ref ed0, .int n0, .int 0])), (v0, .inl (cT 0, 49, .inl f0))] sz) := by
  refine Met.ofW (cc := cR_ask) (maxL := 3) (ret := (some .int)) (by decide) rfl ?_
  intro p e s m args below meth c s₁ B hml hv
  obtain ⟨rfl, hsz, hZ, hP, hK, hD0⟩ := hv
  have hx := B.exec
  have hb := B.bytes
  have hr := B.returns
  have hts := atoms_spec (ws := WR_ask) B.pre
  have hT : ∀ w ∈ TB, w.before _ s = true := fun w h => hts w (List.mem_cons_of_mem _ h)
  have hown : s.vm.findClass R_R = some m.cls := findClass_of_methodNamed B.named
  have hlocks := B.notSynchronized
  subst hsz
  have hD := hD0.self (sz := s.heap.size)
  generalize hAe : va_A [(x, .inr (0, [.ref xT, .ref xP, .ref xR, .ref xG, .ref xF, .int tc, .ref xO, .ref xS, .ref xL, .ref xC, .ref xQ, .ref xU, .ref xW])), (xT, .inr (2, [.ref ca, .ref ta, .int 1, .int 0])), (ca, .inl (cT 5, 6, .inr (.inr (.inr (.inr cf))))), (c0, .inr (1, [.ref v0, .ref ed0, .int n0, .int 0])), (v0, .inl (cT 0, 49, .inl f0))] s.heap.size = A at hD hZ ⊢
  have hA : ∀ q : Nat, s.heap.size ≤ q → A q := fun q h => by rw [← hAe]; exact Or.inr h
  have hS : va_S A s.heap s.heap [] := va_S.rf
  have hl := lv_entry ([.ref x, .int 0, .int (-2147483648)]) (n := 3) (Nat.le_of_ble_eq_true rfl)
  rw [lg_entry_eq]
  generalize (lg_sl ([.ref x, .int 0, .int (-2147483648)]) ++ List.replicate (3 - (lg_sl ([.ref x, .int 0, .int (-2147483648)])).length) Slot.unset).toArray = ls at hl ⊢
  have hl : lv_has ls 3 [(0, .ref x), (1, .int 0), (2, .int (-2147483648))] := hl
  refine lv_aload_n hx hb dR_ask_0 rfl (lv_at hl 0 rfl) ?_
  refine va_get (D := D) (ci := 0) (v := .ref xT) (C := R_R) (T := T_R) (N := 13) hx hb hT in_R hown hK hP 0 rfl rfl 0 (by decide) (hT _ w324) (fun _ h9 => h9) rfl dR_ask_1 ?_
  refine lv_iload_n hx hb dR_ask_4 rfl (lv_at hl 1 rfl) ?_
  refine ro_i (va_Run.run (va_runV (As := [.int 0]) (rest := []) ⟨hx, hb, hml, hown, hT⟩ (k_hasColumn l D cT xT ca ta 1 0 0) ⟨callB_of 1 hT (tb_gd w621) rfl rfl rfl (hT _ w2) (hT _ w618) hT_hasColumn ⟨Nat.le_of_ble_eq_true rfl, Nat.le_of_ble_eq_true rfl⟩, (hT _ w619), (hT _ w620)⟩ (RO.preV (ci := 2) (q0 := 0) hZ hS (hP.sub (ws' := [(xT, .inr (2, [.ref ca, .ref ta, .int 1, .int 0]))]) [1] rfl) hK rfl rfl) rfl rfl hl.1 rfl (lv_room (Nat.le_of_ble_eq_true rfl)) dR_ask_5 ⟨Nat.le_of_ble_eq_true rfl, Nat.le_of_ble_eq_true rfl⟩)) ?_
  refine lv_if_eq (tgt := 28) hx hb dR_ask_8 rfl (fun hj1 => absurd hj1 (by rw [bi_t (by decide)]; decide)) (fun _ => ?_)
  refine lv_iload_n hx hb dR_ask_11 rfl (lv_at hl 2 rfl) ?_
  refine lv_ldc (v := (-2147483648)) hx hb hown (hT _ w685) dR_ask_12 ?_
  refine lv_icmp_eq (tgt := 24) hx hb dR_ask_14 rfl (fun _ => ?_) (fun hj2 => absurd (by decide) hj2)
  refine lv_iconst (v := 1) hx hb dR_ask_24 (by decide) ?_
  refine lv_goto (tgt := 29) hx hb dR_ask_25 rfl ?_
  refine ro_v (va_Run.run (va_runS (As := [.int 1]) (rest := []) ⟨hx, hb, hml, hown, hT⟩ (k_demand_ok l D cT 1 (by decide)) ⟨callB_of 1 hT (tb_gd w510) rfl rfl rfl (hT _ w1) (hT _ w508) hR_demand ⟨Nat.le_of_ble_eq_true rfl, Nat.le_of_ble_eq_true rfl⟩, (hT _ w509)⟩ (RO.preS hZ hS ((show va_P D vwCl [] _ from fun _ _ h => nomatch h)) hK) rfl rfl hl.1 rfl (lv_room (Nat.le_of_ble_eq_true rfl)) dR_ask_29 ⟨Nat.le_of_ble_eq_true rfl, Nat.le_of_ble_eq_true rfl⟩)) ?_
  refine lv_aload_n hx hb dR_ask_32 rfl (lv_at hl 0 rfl) ?_
  refine va_get (D := D) (ci := 0) (v := .ref xT) (C := R_R) (T := T_R) (N := 13) hx hb hT in_R hown hK hP 0 rfl rfl 0 (by decide) (hT _ w324) (fun _ h9 => h9) rfl dR_ask_33 ?_
  refine va_get (D := D) (ci := 2) (v := .ref ca) (C := R_T) (T := T_T) (N := 4) hx hb hT in_T hown hK hP 1 rfl rfl 0 (by decide) (hT _ w74) (fun _ h9 => h9) rfl dR_ask_36 ?_
  refine lv_iload_n hx hb dR_ask_39 rfl (lv_at hl 1 rfl) ?_
  refine al_q (q := c0) hx hb hK hP 2 5 rfl rfl (by unfold vp_in; decide) hf0 dR_ask_40 ?_
  refine lv_bipush (v := 48) hx hb dR_ask_41 (by decide) ?_
  refine lv_iload_n hx hb dR_ask_43 rfl (lv_at hl 2 rfl) ?_
  refine rw_i (wc := [(c0, .inr (1, [.ref v0, .ref ed0, .int n0, .int 0])), (v0, .inl (cT 0, 49, .inl f0))]) (wr := [(x, .inr (0, [.ref xT, .ref xP, .ref xR, .ref xG, .ref xF, .int tc, .ref xO, .ref xS, .ref xL, .ref xC, .ref xQ, .ref xU, .ref xW])), (xT, .inr (2, [.ref ca, .ref ta, .int 1, .int 0])), (ca, .inl (cT 5, 6, .inr (.inr (.inr (.inr cf)))))]) hP hD hS hA [3, 4] [0, 1, 2] rfl rfl (by decide) (by decide) (va_runV (As := [.int 48, .int (-2147483648)]) (rest := []) ⟨hx, hb, hml, hown, hT⟩ (k_exchangeQ l D cT c0 v0 ed0 n0 0 f0 (-2147483648) _) ⟨callB_of 2 hT (tb_gd w636) rfl rfl rfl (hT _ w3) (hT _ w633) hC_exchange ⟨Nat.le_of_ble_eq_true rfl, Nat.le_of_ble_eq_true rfl⟩, (hT _ w634), (hT _ w635)⟩ (RW.preV (ci := 1) (q0 := 0) hZ hS (va_free (wc := [(c0, .inr (1, [.ref v0, .ref ed0, .int n0, .int 0])), (v0, .inl (cT 0, 49, .inl f0))]) hD hS hA [3, 4] rfl) (hP.sub (ws' := [(c0, .inr (1, [.ref v0, .ref ed0, .int n0, .int 0])), (v0, .inl (cT 0, 49, .inl f0))]) [3, 4] rfl) hK (hD.sub (ws' := [(c0, .inr (1, [.ref v0, .ref ed0, .int n0, .int 0])), (v0, .inl (cT 0, 49, .inl f0))]) [3, 4] (by decide) rfl) rfl rfl) rfl rfl hl.1 rfl (lv_room (Nat.le_of_ble_eq_true rfl)) dR_ask_44 ⟨Nat.le_of_ble_eq_true rfl, Nat.le_of_ble_eq_true rfl⟩) (fun ru3 u3 H locs hpu3 hP hD hS => ?_)
  have hP : va_P D vwCl [(x, .inr (0, [.ref xT, .ref xP, .ref xR, .ref xG, .ref xF, .int tc, .ref xO, .ref xS, .ref xL, .ref xC, .ref xQ, .ref xU, .ref xW])), (xT, .inr (2, [.ref ca, .ref ta, .int 1, .int 0])), (ca, .inl (cT 5, 6, .inr (.inr (.inr (.inr cf))))), (c0, .inr (1, [.ref v0, .ref ed0, .int n0, .int 0])), (v0, .inl (cT 0, 49, .inl (upd f0 48 (-2147483648))))] H := hP
  have hD : va_D A [(x, .inr (0, [.ref xT, .ref xP, .ref xR, .ref xG, .ref xF, .int tc, .ref xO, .ref xS, .ref xL, .ref xC, .ref xQ, .ref xU, .ref xW])), (xT, .inr (2, [.ref ca, .ref ta, .int 1, .int 0])), (ca, .inl (cT 5, 6, .inr (.inr (.inr (.inr cf))))), (c0, .inr (1, [.ref v0, .ref ed0, .int n0, .int 0])), (v0, .inl (cT 0, 49, .inl (upd f0 48 (-2147483648))))] := hD
  rw [hpu3]
  have hP9 := hP.sub (ws' := [(x, .inr (0, [.ref xT, .ref xP, .ref xR, .ref xG, .ref xF, .int tc, .ref xO, .ref xS, .ref xL, .ref xC, .ref xQ, .ref xU, .ref xW])), (xT, .inr (2, [.ref ca, .ref ta, .int 1, .int 0])), (ca, .inl (cT 5, 6, .inr (.inr (.inr (.inr cf))))), (c0, .inr (1, [.ref v0, .ref ed0, .int n0, .int 0])), (v0, .inl (cT 0, 49, .inl (upd f0 48 (-2147483648))))]) [0, 1, 2, 3, 4] rfl
  have hD9 := hD.sub (ws' := [(x, .inr (0, [.ref xT, .ref xP, .ref xR, .ref xG, .ref xF, .int tc, .ref xO, .ref xS, .ref xL, .ref xC, .ref xQ, .ref xU, .ref xW])), (xT, .inr (2, [.ref ca, .ref ta, .int 1, .int 0])), (ca, .inl (cT 5, 6, .inr (.inr (.inr (.inr cf))))), (c0, .inr (1, [.ref v0, .ref ed0, .int n0, .int 0])), (v0, .inl (cT 0, 49, .inl (upd f0 48 (-2147483648))))]) [0, 1, 2, 3, 4] (by decide) rfl
  refine W.widen (k := 0) (n := 0) (Nat.le_of_ble_eq_true rfl) (Nat.le_of_ble_eq_true rfl) ?_
  exact W.iret (v := f0 48) hx hb hr (fun t ht hW => ⟨⟨f0 48, (fun _ => 0), rfl, rfl, by rw [ht]; exact hP9, hD9⟩, hS.F ht⟩) hS.2.2 dR_ask_47
set_option maxHeartbeats 4000000 in
set_option maxRecDepth 100000 in
theorem k_byteAt (l : Launch) (D : va_G) (cT : Nat → ClassId) (x : Nat) (xT : Nat) (xP : Nat) (xR : Nat) (xG : Nat) (xF : Nat) (tc : Int32) (xO : Nat) (xS : Nat) (xL : Nat) (xC : Nat) (xQ : Nat) (xU : Nat) (xW : Nat) (ob : Nat) (ou : Nat) (ow : Nat) (a1 : Int32) : Met l yR_byteAt WR_byteAt ({ frames := 1, cells := 0, slots := 0, locals := 22 } : Room) (RO D vwCl [.ref x, .int a1] [(x, .inr (0, [.ref xT, .ref xP, .ref xR, .ref xG, .ref xF, .int tc, .ref xO, .ref xS, .ref xL, .ref xC, .ref xQ, .ref xU, .ref xW])), (xO, .inr (8, [.ref ob, .int 0, .ref ou, .ref ow]))] (TY cT)) (QcRead (-1)) 0 0 (fun _ => False) := by
  refine Met.ofW (cc := cR_byteAt) (maxL := 2) (ret := (some .int)) (by decide) rfl ?_
  intro p e s m args below meth c s₁ B hml hv
  obtain ⟨rfl, hZ, hP, hK⟩ := hv
  have hx := B.exec
  have hb := B.bytes
  have hr := B.returns
  have hts := atoms_spec (ws := WR_byteAt) B.pre
  have hT : ∀ w ∈ TB, w.before _ s = true := fun w h => hts w (List.mem_cons_of_mem _ h)
  have hown : s.vm.findClass R_R = some m.cls := findClass_of_methodNamed B.named
  have hlocks := B.notSynchronized
  have hS : va_S (fun _ => False) s.heap s.heap [] := va_S.rf
  have hl := lv_entry ([.ref x, .int a1]) (n := 2) (Nat.le_of_ble_eq_true rfl)
  rw [lg_entry_eq]
  generalize (lg_sl ([.ref x, .int a1]) ++ List.replicate (2 - (lg_sl ([.ref x, .int a1])).length) Slot.unset).toArray = ls at hl ⊢
  have hl : lv_has ls 2 [(0, .ref x), (1, .int a1)] := hl
  refine lv_iload_n hx hb dR_byteAt_0 rfl (lv_at hl 1 rfl) ?_
  refine lv_iconst (v := 0) hx hb dR_byteAt_1 (by decide) ?_
  refine lv_aload_n hx hb dR_byteAt_2 rfl (lv_at hl 0 rfl) ?_
  refine va_get (D := D) (ci := 0) (v := .ref xO) (C := R_R) (T := T_R) (N := 13) hx hb hT in_R hown hK hP 0 rfl rfl 6 (by decide) (hT _ w330) (fun _ h9 => h9) rfl dR_byteAt_3 ?_
  refine va_get (D := D) (ci := 8) (v := .int 0) (C := R_O) (T := T_O) (N := 4) hx hb hT in_O hown hK hP 1 rfl rfl 1 (by decide) (hT _ w291) (fun _ h9 => h9) rfl dR_byteAt_6 ?_
  refine lv_iconst (v := 1) hx hb dR_byteAt_9 (by decide) ?_
  refine lv_isub hx hb dR_byteAt_10 ?_
  refine lv_topi (fun y9 e9 => ?_)
  cases (show y9 = (-1) from e9.trans (by decide))
  refine ro_i (va_Run.run (va_runS (As := [.int a1, .int 0, .int (-1)]) (rest := []) ⟨hx, hb, hml, hown, hT⟩ (k_isWithin l D cT a1 0 (-1)) ⟨callB_of 3 hT (tb_gd w499) rfl rfl rfl (hT _ w1) (hT _ w497) hR_isWithin ⟨Nat.le_of_ble_eq_true rfl, Nat.le_of_ble_eq_true rfl⟩, (hT _ w498)⟩ (RO.preS hZ hS ((show va_P D vwCl [] _ from fun _ _ h => nomatch h)) hK) rfl rfl hl.1 rfl (lv_room (Nat.le_of_ble_eq_true rfl)) dR_byteAt_11 ⟨Nat.le_of_ble_eq_true rfl, Nat.le_of_ble_eq_true rfl⟩)) ?_
  refine lv_if_eq (tgt := 29) hx hb dR_byteAt_14 rfl (fun _ => ?_) (fun hj1 => absurd (bi_f (fun q => absurd (Int32.le_trans q.1 q.2) (by decide))) hj1)
  refine lv_iconst (v := (-1)) hx hb dR_byteAt_29 (by decide) ?_
  exact W.iret (v := (-1)) hx hb hr (fun t ht hW => ⟨rfl, ht⟩) (fun q h => nomatch h) dR_byteAt_30
