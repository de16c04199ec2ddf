set_option maxHeartbeats 4000000 in
set_option maxRecDepth 100000 in
theorem k_wholes (l : Launch) (D : va_G) (cT : Nat → ClassId) (sz : Nat) : Met l yR_wholes WR_wholes ({ frames := 2, cells := 97, slots := 1344, locals := 33 } : Room) (RW D vwCl [.int 48] [] (TY cT) sz) (va_Qr (fun _ : Nat → Nat => True) (fun u q t => va_P D vwCl ([]) t.heap ∧ va_D (va_A [] sz) ([])) (va_A [] sz)) 97 1344 (va_A [] sz) := by
  refine Met.ofW (cc := cR_wholes) (maxL := 3) (ret := (some (.array (.object "ResidualTrees$Whole")))) (by decide) rfl ?_
  intro p e s m args below meth c s₁ B hml hv
  obtain ⟨rfl, hsz, hZ, hP, hK, hD0⟩ := hv
  have hx := B.exec
  have hb := B.bytes
  have hr := B.returns
  have hts := atoms_spec (ws := WR_wholes) B.pre
  have hT : ∀ w ∈ TB, w.before _ s = true := fun w h => hts w (List.mem_cons_of_mem _ h)
  have hown : s.vm.findClass R_R = some m.cls := findClass_of_methodNamed B.named
  have hlocks := B.notSynchronized
  subst hsz
  have hD := hD0.self (sz := s.heap.size)
  generalize hAe : va_A [] s.heap.size = A at hD hZ ⊢
  have hA : ∀ q : Nat, s.heap.size ≤ q → A q := fun q h => by rw [← hAe]; exact Or.inr h
  have hS : va_S A s.heap s.heap [] := va_S.rf
  have hl := lv_entry ([.int 48]) (n := 3) (Nat.le_of_ble_eq_true rfl)
  rw [lg_entry_eq]
  generalize (lg_sl ([.int 48]) ++ List.replicate (3 - (lg_sl ([.int 48])).length) Slot.unset).toArray = ls at hl ⊢
  have hl : lv_has ls 3 [(0, .int 48)] := hl
  refine lv_iload_n hx hb dR_wholes_0 rfl (lv_at hl 0 rfl) ?_
  refine nw_q (C := "ResidualTrees$Whole") (N' := 48) hx hb hown (hT _ w138) (hZ.1.2.2.2.1 "ResidualTrees$Whole" (List.mem_of_getElem? (i := 1) rfl)) hK hP hD hS hA 4 rfl (by decide +kernel) (by decide +kernel) (by decide +kernel) (Nat.le_of_ble_eq_true rfl) (Nat.le_of_ble_eq_true rfl) dR_wholes_1 (fun q1 H hP hD hS => ?_)
  have hP : va_P D vwCl [(q1, .inl (cT 4, 48, .inr (.inr (.inr (.inr (fun _ => none))))))] H := hP
  have hD : va_D A [(q1, .inl (cT 4, 48, .inr (.inr (.inr (.inr (fun _ => none))))))] := hD
  refine lv_astore_n hx hb dR_wholes_4 rfl hl (by decide) rfl (fun ls hl => ?_)
  have hl : lv_has ls 3 [(1, .ref q1), (0, .int 48)] := hl
  refine lv_iconst (v := 0) hx hb dR_wholes_5 (by decide) ?_
  refine lv_istore_n hx hb dR_wholes_6 rfl hl (by decide) rfl (fun ls hl => ?_)
  have hl : lv_has ls 3 [(2, .int 0), (1, .ref q1), (0, .int 48)] := hl
  refine lv_iload_n hx hb dR_wholes_7 rfl (lv_at hl 0 rfl) ?_
  refine lv_iload_n hx hb dR_wholes_8 rfl (lv_at hl 2 rfl) ?_
  refine lv_icmp_ge (tgt := 30) hx hb dR_wholes_9 rfl (fun h1 => absurd h1 (by decide)) (fun _ => ?_)
  refine lv_aload_n hx hb dR_wholes_12 rfl (lv_at hl 1 rfl) ?_
  refine lv_iload_n hx hb dR_wholes_13 rfl (lv_at hl 0 rfl) ?_
  refine va_new (ci := 4) (fs := [.null, .int 0, .int 0]) (C := R_W) (T := T_W) (N := 3) hx hb hT in_W ty_W ty_W_ok hown (hT _ w138) (hT _ w140) (hT _ w5) hK hP hD hS hA rfl (fun j hj => match j, hj with | 0, _ => rfl | 1, _ => rfl | 2, _ => rfl | _ + 3, hj => absurd hj (by omega)) (Nat.le_of_ble_eq_true rfl) (Nat.le_of_ble_eq_true rfl) dR_wholes_14 (fun q14 H hP hD hS => ?_)
  have hP : va_P D vwCl [(q1, .inl (cT 4, 48, .inr (.inr (.inr (.inr (fun _ => none)))))), (q14, .inr (4, [.null, .int 0, .int 0]))] H := hP
  have hD : va_D A [(q1, .inl (cT 4, 48, .inr (.inr (.inr (.inr (fun _ => none)))))), (q14, .inr (4, [.null, .int 0, .int 0]))] := hD
  refine lv_dup hx hb dR_wholes_17 rfl ?_
  refine lv_bipush (v := 24) hx hb dR_wholes_18 (by decide) ?_
  refine rw_v (wc := [(q14, .inr (4, [.null, .int 0, .int 0]))]) (wr := [(q1, .inl (cT 4, 48, .inr (.inr (.inr (.inr (fun _ => none))))))]) hP hD hS hA [1] [0] rfl rfl (by decide) (by decide) (va_runI (As := [.int 24]) (rest := [.ref q14, .int 0, .ref q1]) ⟨hx, hb, hml, hown, hT⟩ (k_Whole24 l D cT q14 _) ⟨callB_of 1 hT (tb_gd w143) rfl rfl rfl (hT _ w5) (hT _ w141) hW_init ⟨Nat.le_of_ble_eq_true rfl, Nat.le_of_ble_eq_true rfl⟩, rfl, (hT _ w142)⟩ (RW.preS hZ hS (va_free (wc := [(q14, .inr (4, [.null, .int 0, .int 0]))]) hD hS hA [1] rfl) (hP.sub (ws' := [(q14, .inr (4, [.null, .int 0, .int 0]))]) [1] rfl) hK (hD.sub (ws' := [(q14, .inr (4, [.null, .int 0, .int 0]))]) [1] (by decide) rfl)) rfl rfl hl.1 rfl (lv_room (Nat.le_of_ble_eq_true rfl)) dR_wholes_20 ⟨Nat.le_of_ble_eq_true rfl, Nat.le_of_ble_eq_true rfl⟩) (fun u2 H locs hpu2 hP hD hS => ?_)
  generalize u2 0 = u2x0 at hP hD
  have hP : va_P D vwCl [(q1, .inl (cT 4, 48, .inr (.inr (.inr (.inr (fun _ => none)))))), (q14, .inr (4, [.ref u2x0, .int 0, .int 0])), (u2x0, .inl (cT 0, 24, .inl (fun _ => 0)))] H := hP
  have hD : va_D A [(q1, .inl (cT 4, 48, .inr (.inr (.inr (.inr (fun _ => none)))))), (q14, .inr (4, [.ref u2x0, .int 0, .int 0])), (u2x0, .inl (cT 0, 24, .inl (fun _ => 0)))] := hD
  refine va_astq hx hb hK hP hD hS 0 4 1 4 rfl rfl rfl rfl (by unfold vp_in; decide) dR_wholes_23 (fun H locs hP hD hS => ?_)
  have hP : va_P D vwCl [(q1, .inl (cT 4, 48, .inr (.inr (.inr (.inr (va_up (fun _ => none) 0 (some q14))))))), (q14, .inr (4, [.ref u2x0, .int 0, .int 0])), (u2x0, .inl (cT 0, 24, .inl (fun _ => 0)))] H := hP
  have hD : va_D A [(q1, .inl (cT 4, 48, .inr (.inr (.inr (.inr (va_up (fun _ => none) 0 (some q14))))))), (q14, .inr (4, [.ref u2x0, .int 0, .int 0])), (u2x0, .inl (cT 0, 24, .inl (fun _ => 0)))] := hD
  have hP := hP.sub (ws' := [(q1, .inl (cT 4, 48, .inr (.inr (.inr (.inr (va_up (fun _ => none) 0 (some q14)))))))]) [0] rfl
  have hD := hD.sub (ws' := [(q1, .inl (cT 4, 48, .inr (.inr (.inr (.inr (va_up (fun _ => none) 0 (some q14)))))))]) [0] (by decide) rfl
  generalize va_up (fun _ => none) 0 (some q14) = fg3 at hP hD
  refine lv_iinc (k := 0) (v := 1) hx hb dR_wholes_24 hl rfl (by decide) (by decide) rfl (fun ls hl => ?_)
  have hl : lv_has ls 3 [(2, .int 1), (1, .ref q1), (0, .int 48)] := hl
  refine lv_goto (tgt := 7) hx hb dR_wholes_27 rfl ?_
  refine lv_iload_n hx hb dR_wholes_7 rfl (lv_at hl 0 rfl) ?_
  refine lv_iload_n hx hb dR_wholes_8 rfl (lv_at hl 2 rfl) ?_
  refine lv_icmp_ge (tgt := 30) hx hb dR_wholes_9 rfl (fun h4 => absurd h4 (by decide)) (fun _ => ?_)
  refine lv_aload_n hx hb dR_wholes_12 rfl (lv_at hl 1 rfl) ?_
  refine lv_iload_n hx hb dR_wholes_13 rfl (lv_at hl 0 rfl) ?_
  refine va_new (ci := 4) (fs := [.null, .int 0, .int 0]) (C := R_W) (T := T_W) (N := 3) hx hb hT in_W ty_W ty_W_ok hown (hT _ w138) (hT _ w140) (hT _ w5) hK hP hD hS hA rfl (fun j hj => match j, hj with | 0, _ => rfl | 1, _ => rfl | 2, _ => rfl | _ + 3, hj => absurd hj (by omega)) (Nat.le_of_ble_eq_true rfl) (Nat.le_of_ble_eq_true rfl) dR_wholes_14 (fun q14_1 H hP hD hS => ?_)
  have hP : va_P D vwCl [(q1, .inl (cT 4, 48, .inr (.inr (.inr (.inr fg3))))), (q14_1, .inr (4, [.null, .int 0, .int 0]))] H := hP
  have hD : va_D A [(q1, .inl (cT 4, 48, .inr (.inr (.inr (.inr fg3))))), (q14_1, .inr (4, [.null, .int 0, .int 0]))] := hD
  refine lv_dup hx hb dR_wholes_17 rfl ?_
  refine lv_bipush (v := 24) hx hb dR_wholes_18 (by decide) ?_
  refine rw_v (wc := [(q14_1, .inr (4, [.null, .int 0, .int 0]))]) (wr := [(q1, .inl (cT 4, 48, .inr (.inr (.inr (.inr fg3)))))]) hP hD hS hA [1] [0] rfl rfl (by decide) (by decide) (va_runI (As := [.int 24]) (rest := [.ref q14_1, .int 1, .ref q1]) ⟨hx, hb, hml, hown, hT⟩ (k_Whole24 l D cT q14_1 _) ⟨callB_of 1 hT (tb_gd w143) rfl rfl rfl (hT _ w5) (hT _ w141) hW_init ⟨Nat.le_of_ble_eq_true rfl, Nat.le_of_ble_eq_true rfl⟩, rfl, (hT _ w142)⟩ (RW.preS hZ hS (va_free (wc := [(q14_1, .inr (4, [.null, .int 0, .int 0]))]) hD hS hA [1] rfl) (hP.sub (ws' := [(q14_1, .inr (4, [.null, .int 0, .int 0]))]) [1] rfl) hK (hD.sub (ws' := [(q14_1, .inr (4, [.null, .int 0, .int 0]))]) [1] (by decide) rfl)) rfl rfl hl.1 rfl (lv_room (Nat.le_of_ble_eq_true rfl)) dR_wholes_20 ⟨Nat.le_of_ble_eq_true rfl, Nat.le_of_ble_eq_true rfl⟩) (fun u5 H locs hpu5 hP hD hS => ?_)
  generalize u5 0 = u5x0 at hP hD
  have hP : va_P D vwCl [(q1, .inl (cT 4, 48, .inr (.inr (.inr (.inr fg3))))), (q14_1, .inr (4, [.ref u5x0, .int 0, .int 0])), (u5x0, .inl (cT 0, 24, .inl (fun _ => 0)))] H := hP
  have hD : va_D A [(q1, .inl (cT 4, 48, .inr (.inr (.inr (.inr fg3))))), (q14_1, .inr (4, [.ref u5x0, .int 0, .int 0])), (u5x0, .inl (cT 0, 24, .inl (fun _ => 0)))] := hD
  refine va_astq hx hb hK hP hD hS 0 4 1 4 rfl rfl rfl rfl (by unfold vp_in; decide) dR_wholes_23 (fun H locs hP hD hS => ?_)
  have hP : va_P D vwCl [(q1, .inl (cT 4, 48, .inr (.inr (.inr (.inr (va_up fg3 1 (some q14_1))))))), (q14_1, .inr (4, [.ref u5x0, .int 0, .int 0])), (u5x0, .inl (cT 0, 24, .inl (fun _ => 0)))] H := hP
  have hD : va_D A [(q1, .inl (cT 4, 48, .inr (.inr (.inr (.inr (va_up fg3 1 (some q14_1))))))), (q14_1, .inr (4, [.ref u5x0, .int 0, .int 0])), (u5x0, .inl (cT 0, 24, .inl (fun _ => 0)))] := hD
  have hP := hP.sub (ws' := [(q1, .inl (cT 4, 48, .inr (.inr (.inr (.inr (va_up fg3 1 (some q14_1)))))))]) [0] rfl
  have hD := hD.sub (ws' := [(q1, .inl (cT 4, 48, .inr (.inr (.inr (.inr (va_up fg3 1 (some q14_1)))))))]) [0] (by decide) rfl
  generalize va_up fg3 1 (some q14_1) = fg6 at hP hD
  refine lv_iinc (k := 0) (v := 2) hx hb dR_wholes_24 hl rfl (by decide) (by decide) rfl (fun ls hl => ?_)
  have hl : lv_has ls 3 [(2, .int 2), (1, .ref q1), (0, .int 48)] := hl
  refine lv_goto (tgt := 7) hx hb dR_wholes_27 rfl ?_
  refine lv_iload_n hx hb dR_wholes_7 rfl (lv_at hl 0 rfl) ?_
  refine lv_iload_n hx hb dR_wholes_8 rfl (lv_at hl 2 rfl) ?_
  refine lv_icmp_ge (tgt := 30) hx hb dR_wholes_9 rfl (fun h7 => absurd h7 (by decide)) (fun _ => ?_)
  refine lv_aload_n hx hb dR_wholes_12 rfl (lv_at hl 1 rfl) ?_
  refine lv_iload_n hx hb dR_wholes_13 rfl (lv_at hl 0 rfl) ?_
  refine va_new (ci := 4) (fs := [.null, .int 0, .int 0]) (C := R_W) (T := T_W) (N := 3) hx hb hT in_W ty_W ty_W_ok hown (hT _ w138) (hT _ w140) (hT _ w5) hK hP hD hS hA rfl (fun j hj => match j, hj with | 0, _ => rfl | 1, _ => rfl | 2, _ => rfl | _ + 3, hj => absurd hj (by omega)) (Nat.le_of_ble_eq_true rfl) (Nat.le_of_ble_eq_true rfl) dR_wholes_14 (fun q14_2 H hP hD hS => ?_)
  have hP : va_P D vwCl [(q1, .inl (cT 4, 48, .inr (.inr (.inr (.inr fg6))))), (q14_2, .inr (4, [.null, .int 0, .int 0]))] H := hP
  have hD : va_D A [(q1, .inl (cT 4, 48, .inr (.inr (.inr (.inr fg6))))), (q14_2, .inr (4, [.null, .int 0, .int 0]))] := hD
  refine lv_dup hx hb dR_wholes_17 rfl ?_
  refine lv_bipush (v := 24) hx hb dR_wholes_18 (by decide) ?_
  refine rw_v (wc := [(q14_2, .inr (4, [.null, .int 0, .int 0]))]) (wr := [(q1, .inl (cT 4, 48, .inr (.inr (.inr (.inr fg6)))))]) hP hD hS hA [1] [0] rfl rfl (by decide) (by decide) (va_runI (As := [.int 24]) (rest := [.ref q14_2, .int 2, .ref q1]) ⟨hx, hb, hml, hown, hT⟩ (k_Whole24 l D cT q14_2 _) ⟨callB_of 1 hT (tb_gd w143) rfl rfl rfl (hT _ w5) (hT _ w141) hW_init ⟨Nat.le_of_ble_eq_true rfl, Nat.le_of_ble_eq_true rfl⟩, rfl, (hT _ w142)⟩ (RW.preS hZ hS (va_free (wc := [(q14_2, .inr (4, [.null, .int 0, .int 0]))]) hD hS hA [1] rfl) (hP.sub (ws' := [(q14_2, .inr (4, [.null, .int 0, .int 0]))]) [1] rfl) hK (hD.sub (ws' := [(q14_2, .inr (4, [.null, .int 0, .int 0]))]) [1] (by decide) rfl)) rfl rfl hl.1 rfl (lv_room (Nat.le_of_ble_eq_true rfl)) dR_wholes_20 ⟨Nat.le_of_ble_eq_true rfl, Nat.le_of_ble_eq_true rfl⟩) (fun u8 H locs hpu8 hP hD hS => ?_)
  generalize u8 0 = u8x0 at hP hD
  have hP : va_P D vwCl [(q1, .inl (cT 4, 48, .inr (.inr (.inr (.inr fg6))))), (q14_2, .inr (4, [.ref u8x0, .int 0, .int 0])), (u8x0, .inl (cT 0, 24, .inl (fun _ => 0)))] H := hP
  have hD : va_D A [(q1, .inl (cT 4, 48, .inr (.inr (.inr (.inr fg6))))), (q14_2, .inr (4, [.ref u8x0, .int 0, .int 0])), (u8x0, .inl (cT 0, 24, .inl (fun _ => 0)))] := hD
  refine va_astq hx hb hK hP hD hS 0 4 1 4 rfl rfl rfl rfl (by unfold vp_in; decide) dR_wholes_23 (fun H locs hP hD hS => ?_)
  have hP : va_P D vwCl [(q1, .inl (cT 4, 48, .inr (.inr (.inr (.inr (va_up fg6 2 (some q14_2))))))), (q14_2, .inr (4, [.ref u8x0, .int 0, .int 0])), (u8x0, .inl (cT 0, 24, .inl (fun _ => 0)))] H := hP
  have hD : va_D A [(q1, .inl (cT 4, 48, .inr (.inr (.inr (.inr (va_up fg6 2 (some q14_2))))))), (q14_2, .inr (4, [.ref u8x0, .int 0, .int 0])), (u8x0, .inl (cT 0, 24, .inl (fun _ => 0)))] := hD
  have hP := hP.sub (ws' := [(q1, .inl (cT 4, 48, .inr (.inr (.inr (.inr (va_up fg6 2 (some q14_2)))))))]) [0] rfl
  have hD := hD.sub (ws' := [(q1, .inl (cT 4, 48, .inr (.inr (.inr (.inr (va_up fg6 2 (some q14_2)))))))]) [0] (by decide) rfl
  generalize va_up fg6 2 (some q14_2) = fg9 at hP hD
  refine lv_iinc (k := 0) (v := 3) hx hb dR_wholes_24 hl rfl (by decide) (by decide) rfl (fun ls hl => ?_)
  have hl : lv_has ls 3 [(2, .int 3), (1, .ref q1), (0, .int 48)] := hl
  refine lv_goto (tgt := 7) hx hb dR_wholes_27 rfl ?_
  refine lv_iload_n hx hb dR_wholes_7 rfl (lv_at hl 0 rfl) ?_
  refine lv_iload_n hx hb dR_wholes_8 rfl (lv_at hl 2 rfl) ?_
  refine lv_icmp_ge (tgt := 30) hx hb dR_wholes_9 rfl (fun h10 => absurd h10 (by decide)) (fun _ => ?_)
  refine lv_aload_n hx hb dR_wholes_12 rfl (lv_at hl 1 rfl) ?_
  refine lv_iload_n hx hb dR_wholes_13 rfl (lv_at hl 0 rfl) ?_
  refine va_new (ci := 4) (fs := [.null, .int 0, .int 0]) (C := R_W) (T := T_W) (N := 3) hx hb hT in_W ty_W ty_W_ok hown (hT _ w138) (hT _ w140) (hT _ w5) hK hP hD hS hA rfl (fun j hj => match j, hj with | 0, _ => rfl | 1, _ => rfl | 2, _ => rfl | _ + 3, hj => absurd hj (by omega)) (Nat.le_of_ble_eq_true rfl) (Nat.le_of_ble_eq_true rfl) dR_wholes_14 (fun q14_3 H hP hD hS => ?_)
  have hP : va_P D vwCl [(q1, .inl (cT 4, 48, .inr (.inr (.inr (.inr fg9))))), (q14_3, .inr (4, [.null, .int 0, .int 0]))] H := hP
  have hD : va_D A [(q1, .inl (cT 4, 48, .inr (.inr (.inr (.inr fg9))))), (q14_3, .inr (4, [.null, .int 0, .int 0]))] := hD
  refine lv_dup hx hb dR_wholes_17 rfl ?_
  refine lv_bipush (v := 24) hx hb dR_wholes_18 (by decide) ?_
  refine rw_v (wc := [(q14_3, .inr (4, [.null, .int 0, .int 0]))]) (wr := [(q1, .inl (cT 4, 48, .inr (.inr (.inr (.inr fg9)))))]) hP hD hS hA [1] [0] rfl rfl (by decide) (by decide) (va_runI (As := [.int 24]) (rest := [.ref q14_3, .int 3, .ref q1]) ⟨hx, hb, hml, hown, hT⟩ (k_Whole24 l D cT q14_3 _) ⟨callB_of 1 hT (tb_gd w143) rfl rfl rfl (hT _ w5) (hT _ w141) hW_init ⟨Nat.le_of_ble_eq_true rfl, Nat.le_of_ble_eq_true rfl⟩, rfl, (hT _ w142)⟩ (RW.preS hZ hS (va_free (wc := [(q14_3, .inr (4, [.null, .int 0, .int 0]))]) hD hS hA [1] rfl) (hP.sub (ws' := [(q14_3, .inr (4, [.null, .int 0, .int 0]))]) [1] rfl) hK (hD.sub (ws' := [(q14_3, .inr (4, [.null, .int 0, .int 0]))]) [1] (by decide) rfl)) rfl rfl hl.1 rfl (lv_room (Nat.le_of_ble_eq_true rfl)) dR_wholes_20 ⟨Nat.le_of_ble_eq_true rfl, Nat.le_of_ble_eq_true rfl⟩) (fun u11 H locs hpu11 hP hD hS => ?_)
  generalize u11 0 = u11x0 at hP hD
  have hP : va_P D vwCl [(q1, .inl (cT 4, 48, .inr (.inr (.inr (.inr fg9))))), (q14_3, .inr (4, [.ref u11x0, .int 0, .int 0])), (u11x0, .inl (cT 0, 24, .inl (fun _ => 0)))] H := hP
  have hD : va_D A [(q1, .inl (cT 4, 48, .inr (.inr (.inr (.inr fg9))))), (q14_3, .inr (4, [.ref u11x0, .int 0, .int 0])), (u11x0, .inl (cT 0, 24, .inl (fun _ => 0)))] := hD
  refine va_astq hx hb hK hP hD hS 0 4 1 4 rfl rfl rfl rfl (by unfold vp_in; decide) dR_wholes_23 (fun H locs hP hD hS => ?_)
  have hP : va_P D vwCl [(q1, .inl (cT 4, 48, .inr (.inr (.inr (.inr (va_up fg9 3 (some q14_3))))))), (q14_3, .inr (4, [.ref u11x0, .int 0, .int 0])), (u11x0, .inl (cT 0, 24, .inl (fun _ => 0)))] H := hP
  have hD : va_D A [(q1, .inl (cT 4, 48, .inr (.inr (.inr (.inr (va_up fg9 3 (some q14_3))))))), (q14_3, .inr (4, [.ref u11x0, .int 0, .int 0])), (u11x0, .inl (cT 0, 24, .inl (fun _ => 0)))] := hD
  have hP := hP.sub (ws' := [(q1, .inl (cT 4, 48, .inr (.inr (.inr (.inr (va_up fg9 3 (some q14_3)))))))]) [0] rfl
  have hD := hD.sub (ws' := [(q1, .inl (cT 4, 48, .inr (.inr (.inr (.inr (va_up fg9 3 (some q14_3)))))))]) [0] (by decide) rfl
  generalize va_up fg9 3 (some q14_3) = fg12 at hP hD
  refine lv_iinc (k := 0) (v := 4) hx hb dR_wholes_24 hl rfl (by decide) (by decide) rfl (fun ls hl => ?_)
  have hl : lv_has ls 3 [(2, .int 4), (1, .ref q1), (0, .int 48)] := hl
  refine lv_goto (tgt := 7) hx hb dR_wholes_27 rfl ?_
  refine lv_iload_n hx hb dR_wholes_7 rfl (lv_at hl 0 rfl) ?_
  refine lv_iload_n hx hb dR_wholes_8 rfl (lv_at hl 2 rfl) ?_
  refine lv_icmp_ge (tgt := 30) hx hb dR_wholes_9 rfl (fun h13 => absurd h13 (by decide)) (fun _ => ?_)
  refine lv_aload_n hx hb dR_wholes_12 rfl (lv_at hl 1 rfl) ?_
  refine lv_iload_n hx hb dR_wholes_13 rfl (lv_at hl 0 rfl) ?_
  refine va_new (ci := 4) (fs := [.null, .int 0, .int 0]) (C := R_W) (T := T_W) (N := 3) hx hb hT in_W ty_W ty_W_ok hown (hT _ w138) (hT _ w140) (hT _ w5) hK hP hD hS hA rfl (fun j hj => match j, hj with | 0, _ => rfl | 1, _ => rfl | 2, _ => rfl | _ + 3, hj => absurd hj (by omega)) (Nat.le_of_ble_eq_true rfl) (Nat.le_of_ble_eq_true rfl) dR_wholes_14 (fun q14_4 H hP hD hS => ?_)
  have hP : va_P D vwCl [(q1, .inl (cT 4, 48, .inr (.inr (.inr (.inr fg12))))), (q14_4, .inr (4, [.null, .int 0, .int 0]))] H := hP
  have hD : va_D A [(q1, .inl (cT 4, 48, .inr (.inr (.inr (.inr fg12))))), (q14_4, .inr (4, [.null, .int 0, .int 0]))] := hD
  refine lv_dup hx hb dR_wholes_17 rfl ?_
  refine lv_bipush (v := 24) hx hb dR_wholes_18 (by decide) ?_
  refine rw_v (wc := [(q14_4, .inr (4, [.null, .int 0, .int 0]))]) (wr := [(q1, .inl (cT 4, 48, .inr (.inr (.inr (.inr fg12)))))]) hP hD hS hA [1] [0] rfl rfl (by decide) (by decide) (va_runI (As := [.int 24]) (rest := [.ref q14_4, .int 4, .ref q1]) ⟨hx, hb, hml, hown, hT⟩ (k_Whole24 l D cT q14_4 _) ⟨callB_of 1 hT (tb_gd w143) rfl rfl rfl (hT _ w5) (hT _ w141) hW_init ⟨Nat.le_of_ble_eq_true rfl, Nat.le_of_ble_eq_true rfl⟩, rfl, (hT _ w142)⟩ (RW.preS hZ hS (va_free (wc := [(q14_4, .inr (4, [.null, .int 0, .int 0]))]) hD hS hA [1] rfl) (hP.sub (ws' := [(q14_4, .inr (4, [.null, .int 0, .int 0]))]) [1] rfl) hK (hD.sub (ws' := [(q14_4, .inr (4, [.null, .int 0, .int 0]))]) [1] (by decide) rfl)) rfl rfl hl.1 rfl (lv_room (Nat.le_of_ble_eq_true rfl)) dR_wholes_20 ⟨Nat.le_of_ble_eq_true rfl, Nat.le_of_ble_eq_true rfl⟩) (fun u14 H locs hpu14 hP hD hS => ?_)
  generalize u14 0 = u14x0 at hP hD
  have hP : va_P D vwCl [(q1, .inl (cT 4, 48, .inr (.inr (.inr (.inr fg12))))), (q14_4, .inr (4, [.ref u14x0, .int 0, .int 0])), (u14x0, .inl (cT 0, 24, .inl (fun _ => 0)))] H := hP
  have hD : va_D A [(q1, .inl (cT 4, 48, .inr (.inr (.inr (.inr fg12))))), (q14_4, .inr (4, [.ref u14x0, .int 0, .int 0])), (u14x0, .inl (cT 0, 24, .inl (fun _ => 0)))] := hD
  refine va_astq hx hb hK hP hD hS 0 4 1 4 rfl rfl rfl rfl (by unfold vp_in; decide) dR_wholes_23 (fun H locs hP hD hS => ?_)
  have hP : va_P D vwCl [(q1, .inl (cT 4, 48, .inr (.inr (.inr (.inr (va_up fg12 4 (some q14_4))))))), (q14_4, .inr (4, [.ref u14x0, .int 0, .int 0])), (u14x0, .inl (cT 0, 24, .inl (fun _ => 0)))] H := hP
  have hD : va_D A [(q1, .inl (cT 4, 48, .inr (.inr (.inr (.inr (va_up fg12 4 (some q14_4))))))), (q14_4, .inr (4, [.ref u14x0, .int 0, .int 0])), (u14x0, .inl (cT 0, 24, .inl (fun _ => 0)))] := hD
  have hP := hP.sub (ws' := [(q1, .inl (cT 4, 48, .inr (.inr (.inr (.inr (va_up fg12 4 (some q14_4)))))))]) [0] rfl
  have hD := hD.sub (ws' := [(q1, .inl (cT 4, 48, .inr (.inr (.inr (.inr (va_up fg12 4 (some q14_4)))))))]) [0] (by decide) rfl
  generalize va_up fg12 4 (some q14_4) = fg15 at hP hD
  refine lv_iinc (k := 0) (v := 5) hx hb dR_wholes_24 hl rfl (by decide) (by decide) rfl (fun ls hl => ?_)
  have hl : lv_has ls 3 [(2, .int 5), (1, .ref q1), (0, .int 48)] := hl
  refine lv_goto (tgt := 7) hx hb dR_wholes_27 rfl ?_
  refine lv_iload_n hx hb dR_wholes_7 rfl (lv_at hl 0 rfl) ?_
  refine lv_iload_n hx hb dR_wholes_8 rfl (lv_at hl 2 rfl) ?_
  refine lv_icmp_ge (tgt := 30) hx hb dR_wholes_9 rfl (fun h16 => absurd h16 (by decide)) (fun _ => ?_)
  refine lv_aload_n hx hb dR_wholes_12 rfl (lv_at hl 1 rfl) ?_
  refine lv_iload_n hx hb dR_wholes_13 rfl (lv_at hl 0 rfl) ?_
  refine va_new (ci := 4) (fs := [.null, .int 0, .int 0]) (C := R_W) (T := T_W) (N := 3) hx hb hT in_W ty_W ty_W_ok hown (hT _ w138) (hT _ w140) (hT _ w5) hK hP hD hS hA rfl (fun j hj => match j, hj with | 0, _ => rfl | 1, _ => rfl | 2, _ => rfl | _ + 3, hj => absurd hj (by omega)) (Nat.le_of_ble_eq_true rfl) (Nat.le_of_ble_eq_true rfl) dR_wholes_14 (fun q14_5 H hP hD hS => ?_)
  have hP : va_P D vwCl [(q1, .inl (cT 4, 48, .inr (.inr (.inr (.inr fg15))))), (q14_5, .inr (4, [.null, .int 0, .int 0]))] H := hP
  have hD : va_D A [(q1, .inl (cT 4, 48, .inr (.inr (.inr (.inr fg15))))), (q14_5, .inr (4, [.null, .int 0, .int 0]))] := hD
  refine lv_dup hx hb dR_wholes_17 rfl ?_
  refine lv_bipush (v := 24) hx hb dR_wholes_18 (by decide) ?_
  refine rw_v (wc := [(q14_5, .inr (4, [.null, .int 0, .int 0]))]) (wr := [(q1, .inl (cT 4, 48, .inr (.inr (.inr (.inr fg15)))))]) hP hD hS hA [1] [0] rfl rfl (by decide) (by decide) (va_runI (As := [.int 24]) (rest := [.ref q14_5, .int 5, .ref q1]) ⟨hx, hb, hml, hown, hT⟩ (k_Whole24 l D cT q14_5 _) ⟨callB_of 1 hT (tb_gd w143) rfl rfl rfl (hT _ w5) (hT _ w141) hW_init ⟨Nat.le_of_ble_eq_true rfl, Nat.le_of_ble_eq_true rfl⟩, rfl, (hT _ w142)⟩ (RW.preS hZ hS (va_free (wc := [(q14_5, .inr (4, [.null, .int 0, .int 0]))]) hD hS hA [1] rfl) (hP.sub (ws' := [(q14_5, .inr (4, [.null, .int 0, .int 0]))]) [1] rfl) hK (hD.sub (ws' := [(q14_5, .inr (4, [.null, .int 0, .int 0]))]) [1] (by decide) rfl)) rfl rfl hl.1 rfl (lv_room (Nat.le_of_ble_eq_true rfl)) dR_wholes_20 ⟨Nat.le_of_ble_eq_true rfl, Nat.le_of_ble_eq_true rfl⟩) (fun u17 H locs hpu17 hP hD hS => ?_)
  generalize u17 0 = u17x0 at hP hD
  have hP : va_P D vwCl [(q1, .inl (cT 4, 48, .inr (.inr (.inr (.inr fg15))))), (q14_5, .inr (4, [.ref u17x0, .int 0, .int 0])), (u17x0, .inl (cT 0, 24, .inl (fun _ => 0)))] H := hP
  have hD : va_D A [(q1, .inl (cT 4, 48, .inr (.inr (.inr (.inr fg15))))), (q14_5, .inr (4, [.ref u17x0, .int 0, .int 0])), (u17x0, .inl (cT 0, 24, .inl (fun _ => 0)))] := hD
  refine va_astq hx hb hK hP hD hS 0 4 1 4 rfl rfl rfl rfl (by unfold vp_in; decide) dR_wholes_23 (fun H locs hP hD hS => ?_)
  have hP : va_P D vwCl [(q1, .inl (cT 4, 48, .inr (.inr (.inr (.inr (va_up fg15 5 (some q14_5))))))), (q14_5, .inr (4, [.ref u17x0, .int 0, .int 0])), (u17x0, .inl (cT 0, 24, .inl (fun _ => 0)))] H := hP
  have hD : va_D A [(q1, .inl (cT 4, 48, .inr (.inr (.inr (.inr (va_up fg15 5 (some q14_5))))))), (q14_5, .inr (4, [.ref u17x0, .int 0, .int 0])), (u17x0, .inl (cT 0, 24, .inl (fun _ => 0)))] := hD
  have hP := hP.sub (ws' := [(q1, .inl (cT 4, 48, .inr (.inr (.inr (.inr (va_up fg15 5 (some q14_5)))))))]) [0] rfl
  have hD := hD.sub (ws' := [(q1, .inl (cT 4, 48, .inr (.inr (.inr (.inr (va_up fg15 5 (some q14_5)))))))]) [0] (by decide) rfl
  generalize va_up fg15 5 (some q14_5) = fg18 at hP hD
  refine lv_iinc (k := 0) (v := 6) hx hb dR_wholes_24 hl rfl (by decide) (by decide) rfl (fun ls hl => ?_)
  have hl : lv_has ls 3 [(2, .int 6), (1, .ref q1), (0, .int 48)] := hl
  refine lv_goto (tgt := 7) hx hb dR_wholes_27 rfl ?_
  refine lv_iload_n hx hb dR_wholes_7 rfl (lv_at hl 0 rfl) ?_
  refine lv_iload_n hx hb dR_wholes_8 rfl (lv_at hl 2 rfl) ?_
  refine lv_icmp_ge (tgt := 30) hx hb dR_wholes_9 rfl (fun h19 => absurd h19 (by decide)) (fun _ => ?_)
  refine lv_aload_n hx hb dR_wholes_12 rfl (lv_at hl 1 rfl) ?_
  refine lv_iload_n hx hb dR_wholes_13 rfl (lv_at hl 0 rfl) ?_
  refine va_new (ci := 4) (fs := [.null, .int 0, .int 0]) (C := R_W) (T := T_W) (N := 3) hx hb hT in_W ty_W ty_W_ok hown (hT _ w138) (hT _ w140) (hT _ w5) hK hP hD hS hA rfl (fun j hj => match j, hj with | 0, _ => rfl | 1, _ => rfl | 2, _ => rfl | _ + 3, hj => absurd hj (by omega)) (Nat.le_of_ble_eq_true rfl) (Nat.le_of_ble_eq_true rfl) dR_wholes_14 (fun q14_6 H hP hD hS => ?_)
  have hP : va_P D vwCl [(q1, .inl (cT 4, 48, .inr (.inr (.inr (.inr fg18))))), (q14_6, .inr (4, [.null, .int 0, .int 0]))] H := hP
  have hD : va_D A [(q1, .inl (cT 4, 48, .inr (.inr (.inr (.inr fg18))))), (q14_6, .inr (4, [.null, .int 0, .int 0]))] := hD
  refine lv_dup hx hb dR_wholes_17 rfl ?_
  refine lv_bipush (v := 24) hx hb dR_wholes_18 (by decide) ?_
  refine rw_v (wc := [(q14_6, .inr (4, [.null, .int 0, .int 0]))]) (wr := [(q1, .inl (cT 4, 48, .inr (.inr (.inr (.inr fg18)))))]) hP hD hS hA [1] [0] rfl rfl (by decide) (by decide) (va_runI (As := [.int 24]) (rest := [.ref q14_6, .int 6, .ref q1]) ⟨hx, hb, hml, hown, hT⟩ (k_Whole24 l D cT q14_6 _) ⟨callB_of 1 hT (tb_gd w143) rfl rfl rfl (hT _ w5) (hT _ w141) hW_init ⟨Nat.le_of_ble_eq_true rfl, Nat.le_of_ble_eq_true rfl⟩, rfl, (hT _ w142)⟩ (RW.preS hZ hS (va_free (wc := [(q14_6, .inr (4, [.null, .int 0, .int 0]))]) hD hS hA [1] rfl) (hP.sub (ws' := [(q14_6, .inr (4, [.null, .int 0, .int 0]))]) [1] rfl) hK (hD.sub (ws' := [(q14_6, .inr (4, [.null, .int 0, .int 0]))]) [1] (by decide) rfl)) rfl rfl hl.1 rfl (lv_room (Nat.le_of_ble_eq_true rfl)) dR_wholes_20 ⟨Nat.le_of_ble_eq_true rfl, Nat.le_of_ble_eq_true rfl⟩) (fun u20 H locs hpu20 hP hD hS => ?_)
  generalize u20 0 = u20x0 at hP hD
  have hP : va_P D vwCl [(q1, .inl (cT 4, 48, .inr (.inr (.inr (.inr fg18))))), (q14_6, .inr (4, [.ref u20x0, .int 0, .int 0])), (u20x0, .inl (cT 0, 24, .inl (fun _ => 0)))] H := hP
  have hD : va_D A [(q1, .inl (cT 4, 48, .inr (.inr (.inr (.inr fg18))))), (q14_6, .inr (4, [.ref u20x0, .int 0, .int 0])), (u20x0, .inl (cT 0, 24, .inl (fun _ => 0)))] := hD
  refine va_astq hx hb hK hP hD hS 0 4 1 4 rfl rfl rfl rfl (by unfold vp_in; decide) dR_wholes_23 (fun H locs hP hD hS => ?_)
  have hP : va_P D vwCl [(q1, .inl (cT 4, 48, .inr (.inr (.inr (.inr (va_up fg18 6 (some q14_6))))))), (q14_6, .inr (4, [.ref u20x0, .int 0, .int 0])), (u20x0, .inl (cT 0, 24, .inl (fun _ => 0)))] H := hP
  have hD : va_D A [(q1, .inl (cT 4, 48, .inr (.inr (.inr (.inr (va_up fg18 6 (some q14_6))))))), (q14_6, .inr (4, [.ref u20x0, .int 0, .int 0])), (u20x0, .inl (cT 0, 24, .inl (fun _ => 0)))] := hD
  have hP := hP.sub (ws' := [(q1, .inl (cT 4, 48, .inr (.inr (.inr (.inr (va_up fg18 6 (some q14_6)))))))]) [0] rfl
  have hD := hD.sub (ws' := [(q1, .inl (cT 4, 48, .inr (.inr (.inr (.inr (va_up fg18 6 (some q14_6)))))))]) [0] (by decide) rfl
  generalize va_up fg18 6 (some q14_6) = fg21 at hP hD
  refine lv_iinc (k := 0) (v := 7) hx hb dR_wholes_24 hl rfl (by decide) (by decide) rfl (fun ls hl => ?_)
  have hl : lv_has ls 3 [(2, .int 7), (1, .ref q1), (0, .int 48)] := hl
  refine lv_goto (tgt := 7) hx hb dR_wholes_27 rfl ?_
  refine lv_iload_n hx hb dR_wholes_7 rfl (lv_at hl 0 rfl) ?_
  refine lv_iload_n hx hb dR_wholes_8 rfl (lv_at hl 2 rfl) ?_
  refine lv_icmp_ge (tgt := 30) hx hb dR_wholes_9 rfl (fun h22 => absurd h22 (by decide)) (fun _ => ?_)
  refine lv_aload_n hx hb dR_wholes_12 rfl (lv_at hl 1 rfl) ?_
  refine lv_iload_n hx hb dR_wholes_13 rfl (lv_at hl 0 rfl) ?_
  refine va_new (ci := 4) (fs := [.null, .int 0, .int 0]) (C := R_W) (T := T_W) (N := 3) hx hb hT in_W ty_W ty_W_ok hown (hT _ w138) (hT _ w140) (hT _ w5) hK hP hD hS hA rfl (fun j hj => match j, hj with | 0, _ => rfl | 1, _ => rfl | 2, _ => rfl | _ + 3, hj => absurd hj (by omega)) (Nat.le_of_ble_eq_true rfl) (Nat.le_of_ble_eq_true rfl) dR_wholes_14 (fun q14_7 H hP hD hS => ?_)
  have hP : va_P D vwCl [(q1, .inl (cT 4, 48, .inr (.inr (.inr (.inr fg21))))), (q14_7, .inr (4, [.null, .int 0, .int 0]))] H := hP
  have hD : va_D A [(q1, .inl (cT 4, 48, .inr (.inr (.inr (.inr fg21))))), (q14_7, .inr (4, [.null, .int 0, .int 0]))] := hD
  refine lv_dup hx hb dR_wholes_17 rfl ?_
  refine lv_bipush (v := 24) hx hb dR_wholes_18 (by decide) ?_
  refine rw_v (wc := [(q14_7, .inr (4, [.null, .int 0, .int 0]))]) (wr := [(q1, .inl (cT 4, 48, .inr (.inr (.inr (.inr fg21)))))]) hP hD hS hA [1] [0] rfl rfl (by decide) (by decide) (va_runI (As := [.int 24]) (rest := [.ref q14_7, .int 7, .ref q1]) ⟨hx, hb, hml, hown, hT⟩ (k_Whole24 l D cT q14_7 _) ⟨callB_of 1 hT (tb_gd w143) rfl rfl rfl (hT _ w5) (hT _ w141) hW_init ⟨Nat.le_of_ble_eq_true rfl, Nat.le_of_ble_eq_true rfl⟩, rfl, (hT _ w142)⟩ (RW.preS hZ hS (va_free (wc := [(q14_7, .inr (4, [.null, .int 0, .int 0]))]) hD hS hA [1] rfl) (hP.sub (ws' := [(q14_7, .inr (4, [.null, .int 0, .int 0]))]) [1] rfl) hK (hD.sub (ws' := [(q14_7, .inr (4, [.null, .int 0, .int 0]))]) [1] (by decide) rfl)) rfl rfl hl.1 rfl (lv_room (Nat.le_of_ble_eq_true rfl)) dR_wholes_20 ⟨Nat.le_of_ble_eq_true rfl, Nat.le_of_ble_eq_true rfl⟩) (fun u23 H locs hpu23 hP hD hS => ?_)
  generalize u23 0 = u23x0 at hP hD
  have hP : va_P D vwCl [(q1, .inl (cT 4, 48, .inr (.inr (.inr (.inr fg21))))), (q14_7, .inr (4, [.ref u23x0, .int 0, .int 0])), (u23x0, .inl (cT 0, 24, .inl (fun _ => 0)))] H := hP
  have hD : va_D A [(q1, .inl (cT 4, 48, .inr (.inr (.inr (.inr fg21))))), (q14_7, .inr (4, [.ref u23x0, .int 0, .int 0])), (u23x0, .inl (cT 0, 24, .inl (fun _ => 0)))] := hD
  refine va_astq hx hb hK hP hD hS 0 4 1 4 rfl rfl rfl rfl (by unfold vp_in; decide) dR_wholes_23 (fun H locs hP hD hS => ?_)
  have hP : va_P D vwCl [(q1, .inl (cT 4, 48, .inr (.inr (.inr (.inr (va_up fg21 7 (some q14_7))))))), (q14_7, .inr (4, [.ref u23x0, .int 0, .int 0])), (u23x0, .inl (cT 0, 24, .inl (fun _ => 0)))] H := hP
  have hD : va_D A [(q1, .inl (cT 4, 48, .inr (.inr (.inr (.inr (va_up fg21 7 (some q14_7))))))), (q14_7, .inr (4, [.ref u23x0, .int 0, .int 0])), (u23x0, .inl (cT 0, 24, .inl (fun _ => 0)))] := hD
  have hP := hP.sub (ws' := [(q1, .inl (cT 4, 48, .inr (.inr (.inr (.inr (va_up fg21 7 (some q14_7)))))))]) [0] rfl
  have hD := hD.sub (ws' := [(q1, .inl (cT 4, 48, .inr (.inr (.inr (.inr (va_up fg21 7 (some q14_7)))))))]) [0] (by decide) rfl
  generalize va_up fg21 7 (some q14_7) = fg24 at hP hD
  refine lv_iinc (k := 0) (v := 8) hx hb dR_wholes_24 hl rfl (by decide) (by decide) rfl (fun ls hl => ?_)
  have hl : lv_has ls 3 [(2, .int 8), (1, .ref q1), (0, .int 48)] := hl
  refine lv_goto (tgt := 7) hx hb dR_wholes_27 rfl ?_
  refine lv_iload_n hx hb dR_wholes_7 rfl (lv_at hl 0 rfl) ?_
  refine lv_iload_n hx hb dR_wholes_8 rfl (lv_at hl 2 rfl) ?_
  refine lv_icmp_ge (tgt := 30) hx hb dR_wholes_9 rfl (fun h25 => absurd h25 (by decide)) (fun _ => ?_)
  refine lv_aload_n hx hb dR_wholes_12 rfl (lv_at hl 1 rfl) ?_
  refine lv_iload_n hx hb dR_wholes_13 rfl (lv_at hl 0 rfl) ?_
  refine va_new (ci := 4) (fs := [.null, .int 0, .int 0]) (C := R_W) (T := T_W) (N := 3) hx hb hT in_W ty_W ty_W_ok hown (hT _ w138) (hT _ w140) (hT _ w5) hK hP hD hS hA rfl (fun j hj => match j, hj with | 0, _ => rfl | 1, _ => rfl | 2, _ => rfl | _ + 3, hj => absurd hj (by omega)) (Nat.le_of_ble_eq_true rfl) (Nat.le_of_ble_eq_true rfl) dR_wholes_14 (fun q14_8 H hP hD hS => ?_)
  have hP : va_P D vwCl [(q1, .inl (cT 4, 48, .inr (.inr (.inr (.inr fg24))))), (q14_8, .inr (4, [.null, .int 0, .int 0]))] H := hP
  have hD : va_D A [(q1, .inl (cT 4, 48, .inr (.inr (.inr (.inr fg24))))), (q14_8, .inr (4, [.null, .int 0, .int 0]))] := hD
  refine lv_dup hx hb dR_wholes_17 rfl ?_
  refine lv_bipush (v := 24) hx hb dR_wholes_18 (by decide) ?_
  refine rw_v (wc := [(q14_8, .inr (4, [.null, .int 0, .int 0]))]) (wr := [(q1, .inl (cT 4, 48, .inr (.inr (.inr (.inr fg24)))))]) hP hD hS hA [1] [0] rfl rfl (by decide) (by decide) (va_runI (As := [.int 24]) (rest := [.ref q14_8, .int 8, .ref q1]) ⟨hx, hb, hml, hown, hT⟩ (k_Whole24 l D cT q14_8 _) ⟨callB_of 1 hT (tb_gd w143) rfl rfl rfl (hT _ w5) (hT _ w141) hW_init ⟨Nat.le_of_ble_eq_true rfl, Nat.le_of_ble_eq_true rfl⟩, rfl, (hT _ w142)⟩ (RW.preS hZ hS (va_free (wc := [(q14_8, .inr (4, [.null, .int 0, .int 0]))]) hD hS hA [1] rfl) (hP.sub (ws' := [(q14_8, .inr (4, [.null, .int 0, .int 0]))]) [1] rfl) hK (hD.sub (ws' := [(q14_8, .inr (4, [.null, .int 0, .int 0]))]) [1] (by decide) rfl)) rfl rfl hl.1 rfl (lv_room (Nat.le_of_ble_eq_true rfl)) dR_wholes_20 ⟨Nat.le_of_ble_eq_true rfl, Nat.le_of_ble_eq_true rfl⟩) (fun u26 H locs hpu26 hP hD hS => ?_)
  generalize u26 0 = u26x0 at hP hD
  have hP : va_P D vwCl [(q1, .inl (cT 4, 48, .inr (.inr (.inr (.inr fg24))))), (q14_8, .inr (4, [.ref u26x0, .int 0, .int 0])), (u26x0, .inl (cT 0, 24, .inl (fun _ => 0)))] H := hP
  have hD : va_D A [(q1, .inl (cT 4, 48, .inr (.inr (.inr (.inr fg24))))), (q14_8, .inr (4, [.ref u26x0, .int 0, .int 0])), (u26x0, .inl (cT 0, 24, .inl (fun _ => 0)))] := hD
  refine va_astq hx hb hK hP hD hS 0 4 1 4 rfl rfl rfl rfl (by unfold vp_in; decide) dR_wholes_23 (fun H locs hP hD hS => ?_)
  have hP : va_P D vwCl [(q1, .inl (cT 4, 48, .inr (.inr (.inr (.inr (va_up fg24 8 (some q14_8))))))), (q14_8, .inr (4, [.ref u26x0, .int 0, .int 0])), (u26x0, .inl (cT 0, 24, .inl (fun _ => 0)))] H := hP
  have hD : va_D A [(q1, .inl (cT 4, 48, .inr (.inr (.inr (.inr (va_up fg24 8 (some q14_8))))))), (q14_8, .inr (4, [.ref u26x0, .int 0, .int 0])), (u26x0, .inl (cT 0, 24, .inl (fun _ => 0)))] := hD
  have hP := hP.sub (ws' := [(q1, .inl (cT 4, 48, .inr (.inr (.inr (.inr (va_up fg24 8 (some q14_8)))))))]) [0] rfl
  have hD := hD.sub (ws' := [(q1, .inl (cT 4, 48, .inr (.inr (.inr (.inr (va_up fg24 8 (some q14_8)))))))]) [0] (by decide) rfl
  generalize va_up fg24 8 (some q14_8) = fg27 at hP hD
  refine lv_iinc (k := 0) (v := 9) hx hb dR_wholes_24 hl rfl (by decide) (by decide) rfl (fun ls hl => ?_)
  have hl : lv_has ls 3 [(2, .int 9), (1, .ref q1), (0, .int 48)] := hl
  refine lv_goto (tgt := 7) hx hb dR_wholes_27 rfl ?_
  refine lv_iload_n hx hb dR_wholes_7 rfl (lv_at hl 0 rfl) ?_
  refine lv_iload_n hx hb dR_wholes_8 rfl (lv_at hl 2 rfl) ?_
  refine lv_icmp_ge (tgt := 30) hx hb dR_wholes_9 rfl (fun h28 => absurd h28 (by decide)) (fun _ => ?_)
  refine lv_aload_n hx hb dR_wholes_12 rfl (lv_at hl 1 rfl) ?_
  refine lv_iload_n hx hb dR_wholes_13 rfl (lv_at hl 0 rfl) ?_
  refine va_new (ci := 4) (fs := [.null, .int 0, .int 0]) (C := R_W) (T := T_W) (N := 3) hx hb hT in_W ty_W ty_W_ok hown (hT _ w138) (hT _ w140) (hT _ w5) hK hP hD hS hA rfl (fun j hj => match j, hj with | 0, _ => rfl | 1, _ => rfl | 2, _ => rfl | _ + 3, hj => absurd hj (by omega)) (Nat.le_of_ble_eq_true rfl) (Nat.le_of_ble_eq_true rfl) dR_wholes_14 (fun q14_9 H hP hD hS => ?_)
  have hP : va_P D vwCl [(q1, .inl (cT 4, 48, .inr (.inr (.inr (.inr fg27))))), (q14_9, .inr (4, [.null, .int 0, .int 0]))] H := hP
  have hD : va_D A [(q1, .inl (cT 4, 48, .inr (.inr (.inr (.inr fg27))))), (q14_9, .inr (4, [.null, .int 0, .int 0]))] := hD
  refine lv_dup hx hb dR_wholes_17 rfl ?_
  refine lv_bipush (v := 24) hx hb dR_wholes_18 (by decide) ?_
  refine rw_v (wc := [(q14_9, .inr (4, [.null, .int 0, .int 0]))]) (wr := [(q1, .inl (cT 4, 48, .inr (.inr (.inr (.inr fg27)))))]) hP hD hS hA [1] [0] rfl rfl (by decide) (by decide) (va_runI (As := [.int 24]) (rest := [.ref q14_9, .int 9, .ref q1]) ⟨hx, hb, hml, hown, hT⟩ (k_Whole24 l D cT q14_9 _) ⟨callB_of 1 hT (tb_gd w143) rfl rfl rfl (hT _ w5) (hT _ w141) hW_init ⟨Nat.le_of_ble_eq_true rfl, Nat.le_of_ble_eq_true rfl⟩, rfl, (hT _ w142)⟩ (RW.preS hZ hS (va_free (wc := [(q14_9, .inr (4, [.null, .int 0, .int 0]))]) hD hS hA [1] rfl) (hP.sub (ws' := [(q14_9, .inr (4, [.null, .int 0, .int 0]))]) [1] rfl) hK (hD.sub (ws' := [(q14_9, .inr (4, [.null, .int 0, .int 0]))]) [1] (by decide) rfl)) rfl rfl hl.1 rfl (lv_room (Nat.le_of_ble_eq_true rfl)) dR_wholes_20 ⟨Nat.le_of_ble_eq_true rfl, Nat.le_of_ble_eq_true rfl⟩) (fun u29 H locs hpu29 hP hD hS => ?_)
  generalize u29 0 = u29x0 at hP hD
  have hP : va_P D vwCl [(q1, .inl (cT 4, 48, .inr (.inr (.inr (.inr fg27))))), (q14_9, .inr (4, [.ref u29x0, .int 0, .int 0])), (u29x0, .inl (cT 0, 24, .inl (fun _ => 0)))] H := hP
  have hD : va_D A [(q1, .inl (cT 4, 48, .inr (.inr (.inr (.inr fg27))))), (q14_9, .inr (4, [.ref u29x0, .int 0, .int 0])), (u29x0, .inl (cT 0, 24, .inl (fun _ => 0)))] := hD
  refine va_astq hx hb hK hP hD hS 0 4 1 4 rfl rfl rfl rfl (by unfold vp_in; decide) dR_wholes_23 (fun H locs hP hD hS => ?_)
  have hP : va_P D vwCl [(q1, .inl (cT 4, 48, .inr (.inr (.inr (.inr (va_up fg27 9 (some q14_9))))))), (q14_9, .inr (4, [.ref u29x0, .int 0, .int 0])), (u29x0, .inl (cT 0, 24, .inl (fun _ => 0)))] H := hP
  have hD : va_D A [(q1, .inl (cT 4, 48, .inr (.inr (.inr (.inr (va_up fg27 9 (some q14_9))))))), (q14_9, .inr (4, [.ref u29x0, .int 0, .int 0])), (u29x0, .inl (cT 0, 24, .inl (fun _ => 0)))] := hD
  have hP := hP.sub (ws' := [(q1, .inl (cT 4, 48, .inr (.inr (.inr (.inr (va_up fg27 9 (some q14_9)))))))]) [0] rfl
  have hD := hD.sub (ws' := [(q1, .inl (cT 4, 48, .inr (.inr (.inr (.inr (va_up fg27 9 (some q14_9)))))))]) [0] (by decide) rfl
  generalize va_up fg27 9 (some q14_9) = fg30 at hP hD
  refine lv_iinc (k := 0) (v := 10) hx hb dR_wholes_24 hl rfl (by decide) (by decide) rfl (fun ls hl => ?_)
  have hl : lv_has ls 3 [(2, .int 10), (1, .ref q1), (0, .int 48)] := hl
  refine lv_goto (tgt := 7) hx hb dR_wholes_27 rfl ?_
  refine lv_iload_n hx hb dR_wholes_7 rfl (lv_at hl 0 rfl) ?_
  refine lv_iload_n hx hb dR_wholes_8 rfl (lv_at hl 2 rfl) ?_
  refine lv_icmp_ge (tgt := 30) hx hb dR_wholes_9 rfl (fun h31 => absurd h31 (by decide)) (fun _ => ?_)
  refine lv_aload_n hx hb dR_wholes_12 rfl (lv_at hl 1 rfl) ?_
  refine lv_iload_n hx hb dR_wholes_13 rfl (lv_at hl 0 rfl) ?_
  refine va_new (ci := 4) (fs := [.null, .int 0, .int 0]) (C := R_W) (T := T_W) (N := 3) hx hb hT in_W ty_W ty_W_ok hown (hT _ w138) (hT _ w140) (hT _ w5) hK hP hD hS hA rfl (fun j hj => match j, hj with | 0, _ => rfl | 1, _ => rfl | 2, _ => rfl | _ + 3, hj => absurd hj (by omega)) (Nat.le_of_ble_eq_true rfl) (Nat.le_of_ble_eq_true rfl) dR_wholes_14 (fun q14_10 H hP hD hS => ?_)
  have hP : va_P D vwCl [(q1, .inl (cT 4, 48, .inr (.inr (.inr (.inr fg30))))), (q14_10, .inr (4, [.null, .int 0, .int 0]))] H := hP
  have hD : va_D A [(q1, .inl (cT 4, 48, .inr (.inr (.inr (.inr fg30))))), (q14_10, .inr (4, [.null, .int 0, .int 0]))] := hD
  refine lv_dup hx hb dR_wholes_17 rfl ?_
  refine lv_bipush (v := 24) hx hb dR_wholes_18 (by decide) ?_
  refine rw_v (wc := [(q14_10, .inr (4, [.null, .int 0, .int 0]))]) (wr := [(q1, .inl (cT 4, 48, .inr (.inr (.inr (.inr fg30)))))]) hP hD hS hA [1] [0] rfl rfl (by decide) (by decide) (va_runI (As := [.int 24]) (rest := [.ref q14_10, .int 10, .ref q1]) ⟨hx, hb, hml, hown, hT⟩ (k_Whole24 l D cT q14_10 _) ⟨callB_of 1 hT (tb_gd w143) rfl rfl rfl (hT _ w5) (hT _ w141) hW_init ⟨Nat.le_of_ble_eq_true rfl, Nat.le_of_ble_eq_true rfl⟩, rfl, (hT _ w142)⟩ (RW.preS hZ hS (va_free (wc := [(q14_10, .inr (4, [.null, .int 0, .int 0]))]) hD hS hA [1] rfl) (hP.sub (ws' := [(q14_10, .inr (4, [.null, .int 0, .int 0]))]) [1] rfl) hK (hD.sub (ws' := [(q14_10, .inr (4, [.null, .int 0, .int 0]))]) [1] (by decide) rfl)) rfl rfl hl.1 rfl (lv_room (Nat.le_of_ble_eq_true rfl)) dR_wholes_20 ⟨Nat.le_of_ble_eq_true rfl, Nat.le_of_ble_eq_true rfl⟩) (fun u32 H locs hpu32 hP hD hS => ?_)
  generalize u32 0 = u32x0 at hP hD
  have hP : va_P D vwCl [(q1, .inl (cT 4, 48, .inr (.inr (.inr (.inr fg30))))), (q14_10, .inr (4, [.ref u32x0, .int 0, .int 0])), (u32x0, .inl (cT 0, 24, .inl (fun _ => 0)))] H := hP
  have hD : va_D A [(q1, .inl (cT 4, 48, .inr (.inr (.inr (.inr fg30))))), (q14_10, .inr (4, [.ref u32x0, .int 0, .int 0])), (u32x0, .inl (cT 0, 24, .inl (fun _ => 0)))] := hD
  refine va_astq hx hb hK hP hD hS 0 4 1 4 rfl rfl rfl rfl (by unfold vp_in; decide) dR_wholes_23 (fun H locs hP hD hS => ?_)
  have hP : va_P D vwCl [(q1, .inl (cT 4, 48, .inr (.inr (.inr (.inr (va_up fg30 10 (some q14_10))))))), (q14_10, .inr (4, [.ref u32x0, .int 0, .int 0])), (u32x0, .inl (cT 0, 24, .inl (fun _ => 0)))] H := hP
  have hD : va_D A [(q1, .inl (cT 4, 48, .inr (.inr (.inr (.inr (va_up fg30 10 (some q14_10))))))), (q14_10, .inr (4, [.ref u32x0, .int 0, .int 0])), (u32x0, .inl (cT 0, 24, .inl (fun _ => 0)))] := hD
  have hP := hP.sub (ws' := [(q1, .inl (cT 4, 48, .inr (.inr (.inr (.inr (va_up fg30 10 (some q14_10)))))))]) [0] rfl
  have hD := hD.sub (ws' := [(q1, .inl (cT 4, 48, .inr (.inr (.inr (.inr (va_up fg30 10 (some q14_10)))))))]) [0] (by decide) rfl
  generalize va_up fg30 10 (some q14_10) = fg33 at hP hD
  refine lv_iinc (k := 0) (v := 11) hx hb dR_wholes_24 hl rfl (by decide) (by decide) rfl (fun ls hl => ?_)
  have hl : lv_has ls 3 [(2, .int 11), (1, .ref q1), (0, .int 48)] := hl
  refine lv_goto (tgt := 7) hx hb dR_wholes_27 rfl ?_
  refine lv_iload_n hx hb dR_wholes_7 rfl (lv_at hl 0 rfl) ?_
  refine lv_iload_n hx hb dR_wholes_8 rfl (lv_at hl 2 rfl) ?_
  refine lv_icmp_ge (tgt := 30) hx hb dR_wholes_9 rfl (fun h34 => absurd h34 (by decide)) (fun _ => ?_)
  refine lv_aload_n hx hb dR_wholes_12 rfl (lv_at hl 1 rfl) ?_
  refine lv_iload_n hx hb dR_wholes_13 rfl (lv_at hl 0 rfl) ?_
  refine va_new (ci := 4) (fs := [.null, .int 0, .int 0]) (C := R_W) (T := T_W) (N := 3) hx hb hT in_W ty_W ty_W_ok hown (hT _ w138) (hT _ w140) (hT _ w5) hK hP hD hS hA rfl (fun j hj => match j, hj with | 0, _ => rfl | 1, _ => rfl | 2, _ => rfl | _ + 3, hj => absurd hj (by omega)) (Nat.le_of_ble_eq_true rfl) (Nat.le_of_ble_eq_true rfl) dR_wholes_14 (fun q14_11 H hP hD hS => ?_)
  have hP : va_P D vwCl [(q1, .inl (cT 4, 48, .inr (.inr (.inr (.inr fg33))))), (q14_11, .inr (4, [.null, .int 0, .int 0]))] H := hP
  have hD : va_D A [(q1, .inl (cT 4, 48, .inr (.inr (.inr (.inr fg33))))), (q14_11, .inr (4, [.null, .int 0, .int 0]))] := hD
  refine lv_dup hx hb dR_wholes_17 rfl ?_
  refine lv_bipush (v := 24) hx hb dR_wholes_18 (by decide) ?_
  refine rw_v (wc := [(q14_11, .inr (4, [.null, .int 0, .int 0]))]) (wr := [(q1, .inl (cT 4, 48, .inr (.inr (.inr (.inr fg33)))))]) hP hD hS hA [1] [0] rfl rfl (by decide) (by decide) (va_runI (As := [.int 24]) (rest := [.ref q14_11, .int 11, .ref q1]) ⟨hx, hb, hml, hown, hT⟩ (k_Whole24 l D cT q14_11 _) ⟨callB_of 1 hT (tb_gd w143) rfl rfl rfl (hT _ w5) (hT _ w141) hW_init ⟨Nat.le_of_ble_eq_true rfl, Nat.le_of_ble_eq_true rfl⟩, rfl, (hT _ w142)⟩ (RW.preS hZ hS (va_free (wc := [(q14_11, .inr (4, [.null, .int 0, .int 0]))]) hD hS hA [1] rfl) (hP.sub (ws' := [(q14_11, .inr (4, [.null, .int 0, .int 0]))]) [1] rfl) hK (hD.sub (ws' := [(q14_11, .inr (4, [.null, .int 0, .int 0]))]) [1] (by decide) rfl)) rfl rfl hl.1 rfl (lv_room (Nat.le_of_ble_eq_true rfl)) dR_wholes_20 ⟨Nat.le_of_ble_eq_true rfl, Nat.le_of_ble_eq_true rfl⟩) (fun u35 H locs hpu35 hP hD hS => ?_)
  generalize u35 0 = u35x0 at hP hD
  have hP : va_P D vwCl [(q1, .inl (cT 4, 48, .inr (.inr (.inr (.inr fg33))))), (q14_11, .inr (4, [.ref u35x0, .int 0, .int 0])), (u35x0, .inl (cT 0, 24, .inl (fun _ => 0)))] H := hP
  have hD : va_D A [(q1, .inl (cT 4, 48, .inr (.inr (.inr (.inr fg33))))), (q14_11, .inr (4, [.ref u35x0, .int 0, .int 0])), (u35x0, .inl (cT 0, 24, .inl (fun _ => 0)))] := hD
  refine va_astq hx hb hK hP hD hS 0 4 1 4 rfl rfl rfl rfl (by unfold vp_in; decide) dR_wholes_23 (fun H locs hP hD hS => ?_)
  have hP : va_P D vwCl [(q1, .inl (cT 4, 48, .inr (.inr (.inr (.inr (va_up fg33 11 (some q14_11))))))), (q14_11, .inr (4, [.ref u35x0, .int 0, .int 0])), (u35x0, .inl (cT 0, 24, .inl (fun _ => 0)))] H := hP
  have hD : va_D A [(q1, .inl (cT 4, 48, .inr (.inr (.inr (.inr (va_up fg33 11 (some q14_11))))))), (q14_11, .inr (4, [.ref u35x0, .int 0, .int 0])), (u35x0, .inl (cT 0, 24, .inl (fun _ => 0)))] := hD
  have hP := hP.sub (ws' := [(q1, .inl (cT 4, 48, .inr (.inr (.inr (.inr (va_up fg33 11 (some q14_11)))))))]) [0] rfl
  have hD := hD.sub (ws' := [(q1, .inl (cT 4, 48, .inr (.inr (.inr (.inr (va_up fg33 11 (some q14_11)))))))]) [0] (by decide) rfl
  generalize va_up fg33 11 (some q14_11) = fg36 at hP hD
  refine lv_iinc (k := 0) (v := 12) hx hb dR_wholes_24 hl rfl (by decide) (by decide) rfl (fun ls hl => ?_)
  have hl : lv_has ls 3 [(2, .int 12), (1, .ref q1), (0, .int 48)] := hl
  refine lv_goto (tgt := 7) hx hb dR_wholes_27 rfl ?_
  refine lv_iload_n hx hb dR_wholes_7 rfl (lv_at hl 0 rfl) ?_
  refine lv_iload_n hx hb dR_wholes_8 rfl (lv_at hl 2 rfl) ?_
  refine lv_icmp_ge (tgt := 30) hx hb dR_wholes_9 rfl (fun h37 => absurd h37 (by decide)) (fun _ => ?_)
  refine lv_aload_n hx hb dR_wholes_12 rfl (lv_at hl 1 rfl) ?_
  refine lv_iload_n hx hb dR_wholes_13 rfl (lv_at hl 0 rfl) ?_
  refine va_new (ci := 4) (fs := [.null, .int 0, .int 0]) (C := R_W) (T := T_W) (N := 3) hx hb hT in_W ty_W ty_W_ok hown (hT _ w138) (hT _ w140) (hT _ w5) hK hP hD hS hA rfl (fun j hj => match j, hj with | 0, _ => rfl | 1, _ => rfl | 2, _ => rfl | _ + 3, hj => absurd hj (by omega)) (Nat.le_of_ble_eq_true rfl) (Nat.le_of_ble_eq_true rfl) dR_wholes_14 (fun q14_12 H hP hD hS => ?_)
  have hP : va_P D vwCl [(q1, .inl (cT 4, 48, .inr (.inr (.inr (.inr fg36))))), (q14_12, .inr (4, [.null, .int 0, .int 0]))] H := hP
  have hD : va_D A [(q1, .inl (cT 4, 48, .inr (.inr (.inr (.inr fg36))))), (q14_12, .inr (4, [.null, .int 0, .int 0]))] := hD
  refine lv_dup hx hb dR_wholes_17 rfl ?_
  refine lv_bipush (v := 24) hx hb dR_wholes_18 (by decide) ?_
  refine rw_v (wc := [(q14_12, .inr (4, [.null, .int 0, .int 0]))]) (wr := [(q1, .inl (cT 4, 48, .inr (.inr (.inr (.inr fg36)))))]) hP hD hS hA [1] [0] rfl rfl (by decide) (by decide) (va_runI (As := [.int 24]) (rest := [.ref q14_12, .int 12, .ref q1]) ⟨hx, hb, hml, hown, hT⟩ (k_Whole24 l D cT q14_12 _) ⟨callB_of 1 hT (tb_gd w143) rfl rfl rfl (hT _ w5) (hT _ w141) hW_init ⟨Nat.le_of_ble_eq_true rfl, Nat.le_of_ble_eq_true rfl⟩, rfl, (hT _ w142)⟩ (RW.preS hZ hS (va_free (wc := [(q14_12, .inr (4, [.null, .int 0, .int 0]))]) hD hS hA [1] rfl) (hP.sub (ws' := [(q14_12, .inr (4, [.null, .int 0, .int 0]))]) [1] rfl) hK (hD.sub (ws' := [(q14_12, .inr (4, [.null, .int 0, .int 0]))]) [1] (by decide) rfl)) rfl rfl hl.1 rfl (lv_room (Nat.le_of_ble_eq_true rfl)) dR_wholes_20 ⟨Nat.le_of_ble_eq_true rfl, Nat.le_of_ble_eq_true rfl⟩) (fun u38 H locs hpu38 hP hD hS => ?_)
  generalize u38 0 = u38x0 at hP hD
  have hP : va_P D vwCl [(q1, .inl (cT 4, 48, .inr (.inr (.inr (.inr fg36))))), (q14_12, .inr (4, [.ref u38x0, .int 0, .int 0])), (u38x0, .inl (cT 0, 24, .inl (fun _ => 0)))] H := hP
  have hD : va_D A [(q1, .inl (cT 4, 48, .inr (.inr (.inr (.inr fg36))))), (q14_12, .inr (4, [.ref u38x0, .int 0, .int 0])), (u38x0, .inl (cT 0, 24, .inl (fun _ => 0)))] := hD
  refine va_astq hx hb hK hP hD hS 0 4 1 4 rfl rfl rfl rfl (by unfold vp_in; decide) dR_wholes_23 (fun H locs hP hD hS => ?_)
  have hP : va_P D vwCl [(q1, .inl (cT 4, 48, .inr (.inr (.inr (.inr (va_up fg36 12 (some q14_12))))))), (q14_12, .inr (4, [.ref u38x0, .int 0, .int 0])), (u38x0, .inl (cT 0, 24, .inl (fun _ => 0)))] H := hP
  have hD : va_D A [(q1, .inl (cT 4, 48, .inr (.inr (.inr (.inr (va_up fg36 12 (some q14_12))))))), (q14_12, .inr (4, [.ref u38x0, .int 0, .int 0])), (u38x0, .inl (cT 0, 24, .inl (fun _ => 0)))] := hD
  have hP := hP.sub (ws' := [(q1, .inl (cT 4, 48, .inr (.inr (.inr (.inr (va_up fg36 12 (some q14_12)))))))]) [0] rfl
  have hD := hD.sub (ws' := [(q1, .inl (cT 4, 48, .inr (.inr (.inr (.inr (va_up fg36 12 (some q14_12)))))))]) [0] (by decide) rfl
  generalize va_up fg36 12 (some q14_12) = fg39 at hP hD
  refine lv_iinc (k := 0) (v := 13) hx hb dR_wholes_24 hl rfl (by decide) (by decide) rfl (fun ls hl => ?_)
  have hl : lv_has ls 3 [(2, .int 13), (1, .ref q1), (0, .int 48)] := hl
  refine lv_goto (tgt := 7) hx hb dR_wholes_27 rfl ?_
  refine lv_iload_n hx hb dR_wholes_7 rfl (lv_at hl 0 rfl) ?_
  refine lv_iload_n hx hb dR_wholes_8 rfl (lv_at hl 2 rfl) ?_
  refine lv_icmp_ge (tgt := 30) hx hb dR_wholes_9 rfl (fun h40 => absurd h40 (by decide)) (fun _ => ?_)
  refine lv_aload_n hx hb dR_wholes_12 rfl (lv_at hl 1 rfl) ?_
  refine lv_iload_n hx hb dR_wholes_13 rfl (lv_at hl 0 rfl) ?_
  refine va_new (ci := 4) (fs := [.null, .int 0, .int 0]) (C := R_W) (T := T_W) (N := 3) hx hb hT in_W ty_W ty_W_ok hown (hT _ w138) (hT _ w140) (hT _ w5) hK hP hD hS hA rfl (fun j hj => match j, hj with | 0, _ => rfl | 1, _ => rfl | 2, _ => rfl | _ + 3, hj => absurd hj (by omega)) (Nat.le_of_ble_eq_true rfl) (Nat.le_of_ble_eq_true rfl) dR_wholes_14 (fun q14_13 H hP hD hS => ?_)
  have hP : va_P D vwCl [(q1, .inl (cT 4, 48, .inr (.inr (.inr (.inr fg39))))), (q14_13, .inr (4, [.null, .int 0, .int 0]))] H := hP
  have hD : va_D A [(q1, .inl (cT 4, 48, .inr (.inr (.inr (.inr fg39))))), (q14_13, .inr (4, [.null, .int 0, .int 0]))] := hD
  refine lv_dup hx hb dR_wholes_17 rfl ?_
  refine lv_bipush (v := 24) hx hb dR_wholes_18 (by decide) ?_
  refine rw_v (wc := [(q14_13, .inr (4, [.null, .int 0, .int 0]))]) (wr := [(q1, .inl (cT 4, 48, .inr (.inr (.inr (.inr fg39)))))]) hP hD hS hA [1] [0] rfl rfl (by decide) (by decide) (va_runI (As := [.int 24]) (rest := [.ref q14_13, .int 13, .ref q1]) ⟨hx, hb, hml, hown, hT⟩ (k_Whole24 l D cT q14_13 _) ⟨callB_of 1 hT (tb_gd w143) rfl rfl rfl (hT _ w5) (hT _ w141) hW_init ⟨Nat.le_of_ble_eq_true rfl, Nat.le_of_ble_eq_true rfl⟩, rfl, (hT _ w142)⟩ (RW.preS hZ hS (va_free (wc := [(q14_13, .inr (4, [.null, .int 0, .int 0]))]) hD hS hA [1] rfl) (hP.sub (ws' := [(q14_13, .inr (4, [.null, .int 0, .int 0]))]) [1] rfl) hK (hD.sub (ws' := [(q14_13, .inr (4, [.null, .int 0, .int 0]))]) [1] (by decide) rfl)) rfl rfl hl.1 rfl (lv_room (Nat.le_of_ble_eq_true rfl)) dR_wholes_20 ⟨Nat.le_of_ble_eq_true rfl, Nat.le_of_ble_eq_true rfl⟩) (fun u41 H locs hpu41 hP hD hS => ?_)
  generalize u41 0 = u41x0 at hP hD
  have hP : va_P D vwCl [(q1, .inl (cT 4, 48, .inr (.inr (.inr (.inr fg39))))), (q14_13, .inr (4, [.ref u41x0, .int 0, .int 0])), (u41x0, .inl (cT 0, 24, .inl (fun _ => 0)))] H := hP
  have hD : va_D A [(q1, .inl (cT 4, 48, .inr (.inr (.inr (.inr fg39))))), (q14_13, .inr (4, [.ref u41x0, .int 0, .int 0])), (u41x0, .inl (cT 0, 24, .inl (fun _ => 0)))] := hD
  refine va_astq hx hb hK hP hD hS 0 4 1 4 rfl rfl rfl rfl (by unfold vp_in; decide) dR_wholes_23 (fun H locs hP hD hS => ?_)
  have hP : va_P D vwCl [(q1, .inl (cT 4, 48, .inr (.inr (.inr (.inr (va_up fg39 13 (some q14_13))))))), (q14_13, .inr (4, [.ref u41x0, .int 0, .int 0])), (u41x0, .inl (cT 0, 24, .inl (fun _ => 0)))] H := hP
  have hD : va_D A [(q1, .inl (cT 4, 48, .inr (.inr (.inr (.inr (va_up fg39 13 (some q14_13))))))), (q14_13, .inr (4, [.ref u41x0, .int 0, .int 0])), (u41x0, .inl (cT 0, 24, .inl (fun _ => 0)))] := hD
  have hP := hP.sub (ws' := [(q1, .inl (cT 4, 48, .inr (.inr (.inr (.inr (va_up fg39 13 (some q14_13)))))))]) [0] rfl
  have hD := hD.sub (ws' := [(q1, .inl (cT 4, 48, .inr (.inr (.inr (.inr (va_up fg39 13 (some q14_13)))))))]) [0] (by decide) rfl
  generalize va_up fg39 13 (some q14_13) = fg42 at hP hD
  refine lv_iinc (k := 0) (v := 14) hx hb dR_wholes_24 hl rfl (by decide) (by decide) rfl (fun ls hl => ?_)
  have hl : lv_has ls 3 [(2, .int 14), (1, .ref q1), (0, .int 48)] := hl
  refine lv_goto (tgt := 7) hx hb dR_wholes_27 rfl ?_
  refine lv_iload_n hx hb dR_wholes_7 rfl (lv_at hl 0 rfl) ?_
  refine lv_iload_n hx hb dR_wholes_8 rfl (lv_at hl 2 rfl) ?_
  refine lv_icmp_ge (tgt := 30) hx hb dR_wholes_9 rfl (fun h43 => absurd h43 (by decide)) (fun _ => ?_)
  refine lv_aload_n hx hb dR_wholes_12 rfl (lv_at hl 1 rfl) ?_
  refine lv_iload_n hx hb dR_wholes_13 rfl (lv_at hl 0 rfl) ?_
  refine va_new (ci := 4) (fs := [.null, .int 0, .int 0]) (C := R_W) (T := T_W) (N := 3) hx hb hT in_W ty_W ty_W_ok hown (hT _ w138) (hT _ w140) (hT _ w5) hK hP hD hS hA rfl (fun j hj => match j, hj with | 0, _ => rfl | 1, _ => rfl | 2, _ => rfl | _ + 3, hj => absurd hj (by omega)) (Nat.le_of_ble_eq_true rfl) (Nat.le_of_ble_eq_true rfl) dR_wholes_14 (fun q14_14 H hP hD hS => ?_)
  have hP : va_P D vwCl [(q1, .inl (cT 4, 48, .inr (.inr (.inr (.inr fg42))))), (q14_14, .inr (4, [.null, .int 0, .int 0]))] H := hP
  have hD : va_D A [(q1, .inl (cT 4, 48, .inr (.inr (.inr (.inr fg42))))), (q14_14, .inr (4, [.null, .int 0, .int 0]))] := hD
  refine lv_dup hx hb dR_wholes_17 rfl ?_
  refine lv_bipush (v := 24) hx hb dR_wholes_18 (by decide) ?_
  refine rw_v (wc := [(q14_14, .inr (4, [.null, .int 0, .int 0]))]) (wr := [(q1, .inl (cT 4, 48, .inr (.inr (.inr (.inr fg42)))))]) hP hD hS hA [1] [0] rfl rfl (by decide) (by decide) (va_runI (As := [.int 24]) (rest := [.ref q14_14, .int 14, .ref q1]) ⟨hx, hb, hml, hown, hT⟩ (k_Whole24 l D cT q14_14 _) ⟨callB_of 1 hT (tb_gd w143) rfl rfl rfl (hT _ w5) (hT _ w141) hW_init ⟨Nat.le_of_ble_eq_true rfl, Nat.le_of_ble_eq_true rfl⟩, rfl, (hT _ w142)⟩ (RW.preS hZ hS (va_free (wc := [(q14_14, .inr (4, [.null, .int 0, .int 0]))]) hD hS hA [1] rfl) (hP.sub (ws' := [(q14_14, .inr (4, [.null, .int 0, .int 0]))]) [1] rfl) hK (hD.sub (ws' := [(q14_14, .inr (4, [.null, .int 0, .int 0]))]) [1] (by decide) rfl)) rfl rfl hl.1 rfl (lv_room (Nat.le_of_ble_eq_true rfl)) dR_wholes_20 ⟨Nat.le_of_ble_eq_true rfl, Nat.le_of_ble_eq_true rfl⟩) (fun u44 H locs hpu44 hP hD hS => ?_)
  generalize u44 0 = u44x0 at hP hD
  have hP : va_P D vwCl [(q1, .inl (cT 4, 48, .inr (.inr (.inr (.inr fg42))))), (q14_14, .inr (4, [.ref u44x0, .int 0, .int 0])), (u44x0, .inl (cT 0, 24, .inl (fun _ => 0)))] H := hP
  have hD : va_D A [(q1, .inl (cT 4, 48, .inr (.inr (.inr (.inr fg42))))), (q14_14, .inr (4, [.ref u44x0, .int 0, .int 0])), (u44x0, .inl (cT 0, 24, .inl (fun _ => 0)))] := hD
  refine va_astq hx hb hK hP hD hS 0 4 1 4 rfl rfl rfl rfl (by unfold vp_in; decide) dR_wholes_23 (fun H locs hP hD hS => ?_)
  have hP : va_P D vwCl [(q1, .inl (cT 4, 48, .inr (.inr (.inr (.inr (va_up fg42 14 (some q14_14))))))), (q14_14, .inr (4, [.ref u44x0, .int 0, .int 0])), (u44x0, .inl (cT 0, 24, .inl (fun _ => 0)))] H := hP
  have hD : va_D A [(q1, .inl (cT 4, 48, .inr (.inr (.inr (.inr (va_up fg42 14 (some q14_14))))))), (q14_14, .inr (4, [.ref u44x0, .int 0, .int 0])), (u44x0, .inl (cT 0, 24, .inl (fun _ => 0)))] := hD
  have hP := hP.sub (ws' := [(q1, .inl (cT 4, 48, .inr (.inr (.inr (.inr (va_up fg42 14 (some q14_14)))))))]) [0] rfl
  have hD := hD.sub (ws' := [(q1, .inl (cT 4, 48, .inr (.inr (.inr (.inr (va_up fg42 14 (some q14_14)))))))]) [0] (by decide) rfl
  generalize va_up fg42 14 (some q14_14) = fg45 at hP hD
  refine lv_iinc (k := 0) (v := 15) hx hb dR_wholes_24 hl rfl (by decide) (by decide) rfl (fun ls hl => ?_)
  have hl : lv_has ls 3 [(2, .int 15), (1, .ref q1), (0, .int 48)] := hl
  refine lv_goto (tgt := 7) hx hb dR_wholes_27 rfl ?_
  refine lv_iload_n hx hb dR_wholes_7 rfl (lv_at hl 0 rfl) ?_
  refine lv_iload_n hx hb dR_wholes_8 rfl (lv_at hl 2 rfl) ?_
  refine lv_icmp_ge (tgt := 30) hx hb dR_wholes_9 rfl (fun h46 => absurd h46 (by decide)) (fun _ => ?_)
  refine lv_aload_n hx hb dR_wholes_12 rfl (lv_at hl 1 rfl) ?_
  refine lv_iload_n hx hb dR_wholes_13 rfl (lv_at hl 0 rfl) ?_
  refine va_new (ci := 4) (fs := [.null, .int 0, .int 0]) (C := R_W) (T := T_W) (N := 3) hx hb hT in_W ty_W ty_W_ok hown (hT _ w138) (hT _ w140) (hT _ w5) hK hP hD hS hA rfl (fun j hj => match j, hj with | 0, _ => rfl | 1, _ => rfl | 2, _ => rfl | _ + 3, hj => absurd hj (by omega)) (Nat.le_of_ble_eq_true rfl) (Nat.le_of_ble_eq_true rfl) dR_wholes_14 (fun q14_15 H hP hD hS => ?_)
  have hP : va_P D vwCl [(q1, .inl (cT 4, 48, .inr (.inr (.inr (.inr fg45))))), (q14_15, .inr (4, [.null, .int 0, .int 0]))] H := hP
  have hD : va_D A [(q1, .inl (cT 4, 48, .inr (.inr (.inr (.inr fg45))))), (q14_15, .inr (4, [.null, .int 0, .int 0]))] := hD
  refine lv_dup hx hb dR_wholes_17 rfl ?_
  refine lv_bipush (v := 24) hx hb dR_wholes_18 (by decide) ?_
  refine rw_v (wc := [(q14_15, .inr (4, [.null, .int 0, .int 0]))]) (wr := [(q1, .inl (cT 4, 48, .inr (.inr (.inr (.inr fg45)))))]) hP hD hS hA [1] [0] rfl rfl (by decide) (by decide) (va_runI (As := [.int 24]) (rest := [.ref q14_15, .int 15, .ref q1]) ⟨hx, hb, hml, hown, hT⟩ (k_Whole24 l D cT q14_15 _) ⟨callB_of 1 hT (tb_gd w143) rfl rfl rfl (hT _ w5) (hT _ w141) hW_init ⟨Nat.le_of_ble_eq_true rfl, Nat.le_of_ble_eq_true rfl⟩, rfl, (hT _ w142)⟩ (RW.preS hZ hS (va_free (wc := [(q14_15, .inr (4, [.null, .int 0, .int 0]))]) hD hS hA [1] rfl) (hP.sub (ws' := [(q14_15, .inr (4, [.null, .int 0, .int 0]))]) [1] rfl) hK (hD.sub (ws' := [(q14_15, .inr (4, [.null, .int 0, .int 0]))]) [1] (by decide) rfl)) rfl rfl hl.1 rfl (lv_room (Nat.le_of_ble_eq_true rfl)) dR_wholes_20 ⟨Nat.le_of_ble_eq_true rfl, Nat.le_of_ble_eq_true rfl⟩) (fun u47 H locs hpu47 hP hD hS => ?_)
  generalize u47 0 = u47x0 at hP hD
  have hP : va_P D vwCl [(q1, .inl (cT 4, 48, .inr (.inr (.inr (.inr fg45))))), (q14_15, .inr (4, [.ref u47x0, .int 0, .int 0])), (u47x0, .inl (cT 0, 24, .inl (fun _ => 0)))] H := hP
  have hD : va_D A [(q1, .inl (cT 4, 48, .inr (.inr (.inr (.inr fg45))))), (q14_15, .inr (4, [.ref u47x0, .int 0, .int 0])), (u47x0, .inl (cT 0, 24, .inl (fun _ => 0)))] := hD
  refine va_astq hx hb hK hP hD hS 0 4 1 4 rfl rfl rfl rfl (by unfold vp_in; decide) dR_wholes_23 (fun H locs hP hD hS => ?_)
  have hP : va_P D vwCl [(q1, .inl (cT 4, 48, .inr (.inr (.inr (.inr (va_up fg45 15 (some q14_15))))))), (q14_15, .inr (4, [.ref u47x0, .int 0, .int 0])), (u47x0, .inl (cT 0, 24, .inl (fun _ => 0)))] H := hP
  have hD : va_D A [(q1, .inl (cT 4, 48, .inr (.inr (.inr (.inr (va_up fg45 15 (some q14_15))))))), (q14_15, .inr (4, [.ref u47x0, .int 0, .int 0])), (u47x0, .inl (cT 0, 24, .inl (fun _ => 0)))] := hD
  have hP := hP.sub (ws' := [(q1, .inl (cT 4, 48, .inr (.inr (.inr (.inr (va_up fg45 15 (some q14_15)))))))]) [0] rfl
  have hD := hD.sub (ws' := [(q1, .inl (cT 4, 48, .inr (.inr (.inr (.inr (va_up fg45 15 (some q14_15)))))))]) [0] (by decide) rfl
  generalize va_up fg45 15 (some q14_15) = fg48 at hP hD
  refine lv_iinc (k := 0) (v := 16) hx hb dR_wholes_24 hl rfl (by decide) (by decide) rfl (fun ls hl => ?_)
  have hl : lv_has ls 3 [(2, .int 16), (1, .ref q1), (0, .int 48)] := hl
  refine lv_goto (tgt := 7) hx hb dR_wholes_27 rfl ?_
  refine lv_iload_n hx hb dR_wholes_7 rfl (lv_at hl 0 rfl) ?_
  refine lv_iload_n hx hb dR_wholes_8 rfl (lv_at hl 2 rfl) ?_
  refine lv_icmp_ge (tgt := 30) hx hb dR_wholes_9 rfl (fun h49 => absurd h49 (by decide)) (fun _ => ?_)
  refine lv_aload_n hx hb dR_wholes_12 rfl (lv_at hl 1 rfl) ?_
  refine lv_iload_n hx hb dR_wholes_13 rfl (lv_at hl 0 rfl) ?_
  refine va_new (ci := 4) (fs := [.null, .int 0, .int 0]) (C := R_W) (T := T_W) (N := 3) hx hb hT in_W ty_W ty_W_ok hown (hT _ w138) (hT _ w140) (hT _ w5) hK hP hD hS hA rfl (fun j hj => match j, hj with | 0, _ => rfl | 1, _ => rfl | 2, _ => rfl | _ + 3, hj => absurd hj (by omega)) (Nat.le_of_ble_eq_true rfl) (Nat.le_of_ble_eq_true rfl) dR_wholes_14 (fun q14_16 H hP hD hS => ?_)
  have hP : va_P D vwCl [(q1, .inl (cT 4, 48, .inr (.inr (.inr (.inr fg48))))), (q14_16, .inr (4, [.null, .int 0, .int 0]))] H := hP
  have hD : va_D A [(q1, .inl (cT 4, 48, .inr (.inr (.inr (.inr fg48))))), (q14_16, .inr (4, [.null, .int 0, .int 0]))] := hD
  refine lv_dup hx hb dR_wholes_17 rfl ?_
  refine lv_bipush (v := 24) hx hb dR_wholes_18 (by decide) ?_
  refine rw_v (wc := [(q14_16, .inr (4, [.null, .int 0, .int 0]))]) (wr := [(q1, .inl (cT 4, 48, .inr (.inr (.inr (.inr fg48)))))]) hP hD hS hA [1] [0] rfl rfl (by decide) (by decide) (va_runI (As := [.int 24]) (rest := [.ref q14_16, .int 16, .ref q1]) ⟨hx, hb, hml, hown, hT⟩ (k_Whole24 l D cT q14_16 _) ⟨callB_of 1 hT (tb_gd w143) rfl rfl rfl (hT _ w5) (hT _ w141) hW_init ⟨Nat.le_of_ble_eq_true rfl, Nat.le_of_ble_eq_true rfl⟩, rfl, (hT _ w142)⟩ (RW.preS hZ hS (va_free (wc := [(q14_16, .inr (4, [.null, .int 0, .int 0]))]) hD hS hA [1] rfl) (hP.sub (ws' := [(q14_16, .inr (4, [.null, .int 0, .int 0]))]) [1] rfl) hK (hD.sub (ws' := [(q14_16, .inr (4, [.null, .int 0, .int 0]))]) [1] (by decide) rfl)) rfl rfl hl.1 rfl (lv_room (Nat.le_of_ble_eq_true rfl)) dR_wholes_20 ⟨Nat.le_of_ble_eq_true rfl, Nat.le_of_ble_eq_true rfl⟩) (fun u50 H locs hpu50 hP hD hS => ?_)
  generalize u50 0 = u50x0 at hP hD
  have hP : va_P D vwCl [(q1, .inl (cT 4, 48, .inr (.inr (.inr (.inr fg48))))), (q14_16, .inr (4, [.ref u50x0, .int 0, .int 0])), (u50x0, .inl (cT 0, 24, .inl (fun _ => 0)))] H := hP
  have hD : va_D A [(q1, .inl (cT 4, 48, .inr (.inr (.inr (.inr fg48))))), (q14_16, .inr (4, [.ref u50x0, .int 0, .int 0])), (u50x0, .inl (cT 0, 24, .inl (fun _ => 0)))] := hD
  refine va_astq hx hb hK hP hD hS 0 4 1 4 rfl rfl rfl rfl (by unfold vp_in; decide) dR_wholes_23 (fun H locs hP hD hS => ?_)
  have hP : va_P D vwCl [(q1, .inl (cT 4, 48, .inr (.inr (.inr (.inr (va_up fg48 16 (some q14_16))))))), (q14_16, .inr (4, [.ref u50x0, .int 0, .int 0])), (u50x0, .inl (cT 0, 24, .inl (fun _ => 0)))] H := hP
  have hD : va_D A [(q1, .inl (cT 4, 48, .inr (.inr (.inr (.inr (va_up fg48 16 (some q14_16))))))), (q14_16, .inr (4, [.ref u50x0, .int 0, .int 0])), (u50x0, .inl (cT 0, 24, .inl (fun _ => 0)))] := hD
  have hP := hP.sub (ws' := [(q1, .inl (cT 4, 48, .inr (.inr (.inr (.inr (va_up fg48 16 (some q14_16)))))))]) [0] rfl
  have hD := hD.sub (ws' := [(q1, .inl (cT 4, 48, .inr (.inr (.inr (.inr (va_up fg48 16 (some q14_16)))))))]) [0] (by decide) rfl
  generalize va_up fg48 16 (some q14_16) = fg51 at hP hD
  refine lv_iinc (k := 0) (v := 17) hx hb dR_wholes_24 hl rfl (by decide) (by decide) rfl (fun ls hl => ?_)
  have hl : lv_has ls 3 [(2, .int 17), (1, .ref q1), (0, .int 48)] := hl
  refine lv_goto (tgt := 7) hx hb dR_wholes_27 rfl ?_
  refine lv_iload_n hx hb dR_wholes_7 rfl (lv_at hl 0 rfl) ?_
  refine lv_iload_n hx hb dR_wholes_8 rfl (lv_at hl 2 rfl) ?_
  refine lv_icmp_ge (tgt := 30) hx hb dR_wholes_9 rfl (fun h52 => absurd h52 (by decide)) (fun _ => ?_)
  refine lv_aload_n hx hb dR_wholes_12 rfl (lv_at hl 1 rfl) ?_
  refine lv_iload_n hx hb dR_wholes_13 rfl (lv_at hl 0 rfl) ?_
  refine va_new (ci := 4) (fs := [.null, .int 0, .int 0]) (C := R_W) (T := T_W) (N := 3) hx hb hT in_W ty_W ty_W_ok hown (hT _ w138) (hT _ w140) (hT _ w5) hK hP hD hS hA rfl (fun j hj => match j, hj with | 0, _ => rfl | 1, _ => rfl | 2, _ => rfl | _ + 3, hj => absurd hj (by omega)) (Nat.le_of_ble_eq_true rfl) (Nat.le_of_ble_eq_true rfl) dR_wholes_14 (fun q14_17 H hP hD hS => ?_)
  have hP : va_P D vwCl [(q1, .inl (cT 4, 48, .inr (.inr (.inr (.inr fg51))))), (q14_17, .inr (4, [.null, .int 0, .int 0]))] H := hP
  have hD : va_D A [(q1, .inl (cT 4, 48, .inr (.inr (.inr (.inr fg51))))), (q14_17, .inr (4, [.null, .int 0, .int 0]))] := hD
  refine lv_dup hx hb dR_wholes_17 rfl ?_
  refine lv_bipush (v := 24) hx hb dR_wholes_18 (by decide) ?_
  refine rw_v (wc := [(q14_17, .inr (4, [.null, .int 0, .int 0]))]) (wr := [(q1, .inl (cT 4, 48, .inr (.inr (.inr (.inr fg51)))))]) hP hD hS hA [1] [0] rfl rfl (by decide) (by decide) (va_runI (As := [.int 24]) (rest := [.ref q14_17, .int 17, .ref q1]) ⟨hx, hb, hml, hown, hT⟩ (k_Whole24 l D cT q14_17 _) ⟨callB_of 1 hT (tb_gd w143) rfl rfl rfl (hT _ w5) (hT _ w141) hW_init ⟨Nat.le_of_ble_eq_true rfl, Nat.le_of_ble_eq_true rfl⟩, rfl, (hT _ w142)⟩ (RW.preS hZ hS (va_free (wc := [(q14_17, .inr (4, [.null, .int 0, .int 0]))]) hD hS hA [1] rfl) (hP.sub (ws' := [(q14_17, .inr (4, [.null, .int 0, .int 0]))]) [1] rfl) hK (hD.sub (ws' := [(q14_17, .inr (4, [.null, .int 0, .int 0]))]) [1] (by decide) rfl)) rfl rfl hl.1 rfl (lv_room (Nat.le_of_ble_eq_true rfl)) dR_wholes_20 ⟨Nat.le_of_ble_eq_true rfl, Nat.le_of_ble_eq_true rfl⟩) (fun u53 H locs hpu53 hP hD hS => ?_)
  generalize u53 0 = u53x0 at hP hD
  have hP : va_P D vwCl [(q1, .inl (cT 4, 48, .inr (.inr (.inr (.inr fg51))))), (q14_17, .inr (4, [.ref u53x0, .int 0, .int 0])), (u53x0, .inl (cT 0, 24, .inl (fun _ => 0)))] H := hP
  have hD : va_D A [(q1, .inl (cT 4, 48, .inr (.inr (.inr (.inr fg51))))), (q14_17, .inr (4, [.ref u53x0, .int 0, .int 0])), (u53x0, .inl (cT 0, 24, .inl (fun _ => 0)))] := hD
  refine va_astq hx hb hK hP hD hS 0 4 1 4 rfl rfl rfl rfl (by unfold vp_in; decide) dR_wholes_23 (fun H locs hP hD hS => ?_)
  have hP : va_P D vwCl [(q1, .inl (cT 4, 48, .inr (.inr (.inr (.inr (va_up fg51 17 (some q14_17))))))), (q14_17, .inr (4, [.ref u53x0, .int 0, .int 0])), (u53x0, .inl (cT 0, 24, .inl (fun _ => 0)))] H := hP
  have hD : va_D A [(q1, .inl (cT 4, 48, .inr (.inr (.inr (.inr (va_up fg51 17 (some q14_17))))))), (q14_17, .inr (4, [.ref u53x0, .int 0, .int 0])), (u53x0, .inl (cT 0, 24, .inl (fun _ => 0)))] := hD
  have hP := hP.sub (ws' := [(q1, .inl (cT 4, 48, .inr (.inr (.inr (.inr (va_up fg51 17 (some q14_17)))))))]) [0] rfl
  have hD := hD.sub (ws' := [(q1, .inl (cT 4, 48, .inr (.inr (.inr (.inr (va_up fg51 17 (some q14_17)))))))]) [0] (by decide) rfl
  generalize va_up fg51 17 (some q14_17) = fg54 at hP hD
  refine lv_iinc (k := 0) (v := 18) hx hb dR_wholes_24 hl rfl (by decide) (by decide) rfl (fun ls hl => ?_)
  have hl : lv_has ls 3 [(2, .int 18), (1, .ref q1), (0, .int 48)] := hl
  refine lv_goto (tgt := 7) hx hb dR_wholes_27 rfl ?_
  refine lv_iload_n hx hb dR_wholes_7 rfl (lv_at hl 0 rfl) ?_
  refine lv_iload_n hx hb dR_wholes_8 rfl (lv_at hl 2 rfl) ?_
  refine lv_icmp_ge (tgt := 30) hx hb dR_wholes_9 rfl (fun h55 => absurd h55 (by decide)) (fun _ => ?_)
  refine lv_aload_n hx hb dR_wholes_12 rfl (lv_at hl 1 rfl) ?_
  refine lv_iload_n hx hb dR_wholes_13 rfl (lv_at hl 0 rfl) ?_
  refine va_new (ci := 4) (fs := [.null, .int 0, .int 0]) (C := R_W) (T := T_W) (N := 3) hx hb hT in_W ty_W ty_W_ok hown (hT _ w138) (hT _ w140) (hT _ w5) hK hP hD hS hA rfl (fun j hj => match j, hj with | 0, _ => rfl | 1, _ => rfl | 2, _ => rfl | _ + 3, hj => absurd hj (by omega)) (Nat.le_of_ble_eq_true rfl) (Nat.le_of_ble_eq_true rfl) dR_wholes_14 (fun q14_18 H hP hD hS => ?_)
  have hP : va_P D vwCl [(q1, .inl (cT 4, 48, .inr (.inr (.inr (.inr fg54))))), (q14_18, .inr (4, [.null, .int 0, .int 0]))] H := hP
  have hD : va_D A [(q1, .inl (cT 4, 48, .inr (.inr (.inr (.inr fg54))))), (q14_18, .inr (4, [.null, .int 0, .int 0]))] := hD
  refine lv_dup hx hb dR_wholes_17 rfl ?_
  refine lv_bipush (v := 24) hx hb dR_wholes_18 (by decide) ?_
  refine rw_v (wc := [(q14_18, .inr (4, [.null, .int 0, .int 0]))]) (wr := [(q1, .inl (cT 4, 48, .inr (.inr (.inr (.inr fg54)))))]) hP hD hS hA [1] [0] rfl rfl (by decide) (by decide) (va_runI (As := [.int 24]) (rest := [.ref q14_18, .int 18, .ref q1]) ⟨hx, hb, hml, hown, hT⟩ (k_Whole24 l D cT q14_18 _) ⟨callB_of 1 hT (tb_gd w143) rfl rfl rfl (hT _ w5) (hT _ w141) hW_init ⟨Nat.le_of_ble_eq_true rfl, Nat.le_of_ble_eq_true rfl⟩, rfl, (hT _ w142)⟩ (RW.preS hZ hS (va_free (wc := [(q14_18, .inr (4, [.null, .int 0, .int 0]))]) hD hS hA [1] rfl) (hP.sub (ws' := [(q14_18, .inr (4, [.null, .int 0, .int 0]))]) [1] rfl) hK (hD.sub (ws' := [(q14_18, .inr (4, [.null, .int 0, .int 0]))]) [1] (by decide) rfl)) rfl rfl hl.1 rfl (lv_room (Nat.le_of_ble_eq_true rfl)) dR_wholes_20 ⟨Nat.le_of_ble_eq_true rfl, Nat.le_of_ble_eq_true rfl⟩) (fun u56 H locs hpu56 hP hD hS => ?_)
  generalize u56 0 = u56x0 at hP hD
  have hP : va_P D vwCl [(q1, .inl (cT 4, 48, .inr (.inr (.inr (.inr fg54))))), (q14_18, .inr (4, [.ref u56x0, .int 0, .int 0])), (u56x0, .inl (cT 0, 24, .inl (fun _ => 0)))] H := hP
  have hD : va_D A [(q1, .inl (cT 4, 48, .inr (.inr (.inr (.inr fg54))))), (q14_18, .inr (4, [.ref u56x0, .int 0, .int 0])), (u56x0, .inl (cT 0, 24, .inl (fun _ => 0)))] := hD
  refine va_astq hx hb hK hP hD hS 0 4 1 4 rfl rfl rfl rfl (by unfold vp_in; decide) dR_wholes_23 (fun H locs hP hD hS => ?_)
  have hP : va_P D vwCl [(q1, .inl (cT 4, 48, .inr (.inr (.inr (.inr (va_up fg54 18 (some q14_18))))))), (q14_18, .inr (4, [.ref u56x0, .int 0, .int 0])), (u56x0, .inl (cT 0, 24, .inl (fun _ => 0)))] H := hP
  have hD : va_D A [(q1, .inl (cT 4, 48, .inr (.inr (.inr (.inr (va_up fg54 18 (some q14_18))))))), (q14_18, .inr (4, [.ref u56x0, .int 0, .int 0])), (u56x0, .inl (cT 0, 24, .inl (fun _ => 0)))] := hD
  have hP := hP.sub (ws' := [(q1, .inl (cT 4, 48, .inr (.inr (.inr (.inr (va_up fg54 18 (some q14_18)))))))]) [0] rfl
  have hD := hD.sub (ws' := [(q1, .inl (cT 4, 48, .inr (.inr (.inr (.inr (va_up fg54 18 (some q14_18)))))))]) [0] (by decide) rfl
  generalize va_up fg54 18 (some q14_18) = fg57 at hP hD
  refine lv_iinc (k := 0) (v := 19) hx hb dR_wholes_24 hl rfl (by decide) (by decide) rfl (fun ls hl => ?_)
  have hl : lv_has ls 3 [(2, .int 19), (1, .ref q1), (0, .int 48)] := hl
  refine lv_goto (tgt := 7) hx hb dR_wholes_27 rfl ?_
  refine lv_iload_n hx hb dR_wholes_7 rfl (lv_at hl 0 rfl) ?_
  refine lv_iload_n hx hb dR_wholes_8 rfl (lv_at hl 2 rfl) ?_
  refine lv_icmp_ge (tgt := 30) hx hb dR_wholes_9 rfl (fun h58 => absurd h58 (by decide)) (fun _ => ?_)
  refine lv_aload_n hx hb dR_wholes_12 rfl (lv_at hl 1 rfl) ?_
  refine lv_iload_n hx hb dR_wholes_13 rfl (lv_at hl 0 rfl) ?_
  refine va_new (ci := 4) (fs := [.null, .int 0, .int 0]) (C := R_W) (T := T_W) (N := 3) hx hb hT in_W ty_W ty_W_ok hown (hT _ w138) (hT _ w140) (hT _ w5) hK hP hD hS hA rfl (fun j hj => match j, hj with | 0, _ => rfl | 1, _ => rfl | 2, _ => rfl | _ + 3, hj => absurd hj (by omega)) (Nat.le_of_ble_eq_true rfl) (Nat.le_of_ble_eq_true rfl) dR_wholes_14 (fun q14_19 H hP hD hS => ?_)
  have hP : va_P D vwCl [(q1, .inl (cT 4, 48, .inr (.inr (.inr (.inr fg57))))), (q14_19, .inr (4, [.null, .int 0, .int 0]))] H := hP
  have hD : va_D A [(q1, .inl (cT 4, 48, .inr (.inr (.inr (.inr fg57))))), (q14_19, .inr (4, [.null, .int 0, .int 0]))] := hD
  refine lv_dup hx hb dR_wholes_17 rfl ?_
  refine lv_bipush (v := 24) hx hb dR_wholes_18 (by decide) ?_
  refine rw_v (wc := [(q14_19, .inr (4, [.null, .int 0, .int 0]))]) (wr := [(q1, .inl (cT 4, 48, .inr (.inr (.inr (.inr fg57)))))]) hP hD hS hA [1] [0] rfl rfl (by decide) (by decide) (va_runI (As := [.int 24]) (rest := [.ref q14_19, .int 19, .ref q1]) ⟨hx, hb, hml, hown, hT⟩ (k_Whole24 l D cT q14_19 _) ⟨callB_of 1 hT (tb_gd w143) rfl rfl rfl (hT _ w5) (hT _ w141) hW_init ⟨Nat.le_of_ble_eq_true rfl, Nat.le_of_ble_eq_true rfl⟩, rfl, (hT _ w142)⟩ (RW.preS hZ hS (va_free (wc := [(q14_19, .inr (4, [.null, .int 0, .int 0]))]) hD hS hA [1] rfl) (hP.sub (ws' := [(q14_19, .inr (4, [.null, .int 0, .int 0]))]) [1] rfl) hK (hD.sub (ws' := [(q14_19, .inr (4, [.null, .int 0, .int 0]))]) [1] (by decide) rfl)) rfl rfl hl.1 rfl (lv_room (Nat.le_of_ble_eq_true rfl)) dR_wholes_20 ⟨Nat.le_of_ble_eq_true rfl, Nat.le_of_ble_eq_true rfl⟩) (fun u59 H locs hpu59 hP hD hS => ?_)
  generalize u59 0 = u59x0 at hP hD
  have hP : va_P D vwCl [(q1, .inl (cT 4, 48, .inr (.inr (.inr (.inr fg57))))), (q14_19, .inr (4, [.ref u59x0, .int 0, .int 0])), (u59x0, .inl (cT 0, 24, .inl (fun _ => 0)))] H := hP
  have hD : va_D A [(q1, .inl (cT 4, 48, .inr (.inr (.inr (.inr fg57))))), (q14_19, .inr (4, [.ref u59x0, .int 0, .int 0])), (u59x0, .inl (cT 0, 24, .inl (fun _ => 0)))] := hD
  refine va_astq hx hb hK hP hD hS 0 4 1 4 rfl rfl rfl rfl (by unfold vp_in; decide) dR_wholes_23 (fun H locs hP hD hS => ?_)
  have hP : va_P D vwCl [(q1, .inl (cT 4, 48, .inr (.inr (.inr (.inr (va_up fg57 19 (some q14_19))))))), (q14_19, .inr (4, [.ref u59x0, .int 0, .int 0])), (u59x0, .inl (cT 0, 24, .inl (fun _ => 0)))] H := hP
  have hD : va_D A [(q1, .inl (cT 4, 48, .inr (.inr (.inr (.inr (va_up fg57 19 (some q14_19))))))), (q14_19, .inr (4, [.ref u59x0, .int 0, .int 0])), (u59x0, .inl (cT 0, 24, .inl (fun _ => 0)))] := hD
  have hP := hP.sub (ws' := [(q1, .inl (cT 4, 48, .inr (.inr (.inr (.inr (va_up fg57 19 (some q14_19)))))))]) [0] rfl
  have hD := hD.sub (ws' := [(q1, .inl (cT 4, 48, .inr (.inr (.inr (.inr (va_up fg57 19 (some q14_19)))))))]) [0] (by decide) rfl
  generalize va_up fg57 19 (some q14_19) = fg60 at hP hD
  refine lv_iinc (k := 0) (v := 20) hx hb dR_wholes_24 hl rfl (by decide) (by decide) rfl (fun ls hl => ?_)
  have hl : lv_has ls 3 [(2, .int 20), (1, .ref q1), (0, .int 48)] := hl
  refine lv_goto (tgt := 7) hx hb dR_wholes_27 rfl ?_
  refine lv_iload_n hx hb dR_wholes_7 rfl (lv_at hl 0 rfl) ?_
  refine lv_iload_n hx hb dR_wholes_8 rfl (lv_at hl 2 rfl) ?_
  refine lv_icmp_ge (tgt := 30) hx hb dR_wholes_9 rfl (fun h61 => absurd h61 (by decide)) (fun _ => ?_)
  refine lv_aload_n hx hb dR_wholes_12 rfl (lv_at hl 1 rfl) ?_
  refine lv_iload_n hx hb dR_wholes_13 rfl (lv_at hl 0 rfl) ?_
  refine va_new (ci := 4) (fs := [.null, .int 0, .int 0]) (C := R_W) (T := T_W) (N := 3) hx hb hT in_W ty_W ty_W_ok hown (hT _ w138) (hT _ w140) (hT _ w5) hK hP hD hS hA rfl (fun j hj => match j, hj with | 0, _ => rfl | 1, _ => rfl | 2, _ => rfl | _ + 3, hj => absurd hj (by omega)) (Nat.le_of_ble_eq_true rfl) (Nat.le_of_ble_eq_true rfl) dR_wholes_14 (fun q14_20 H hP hD hS => ?_)
  have hP : va_P D vwCl [(q1, .inl (cT 4, 48, .inr (.inr (.inr (.inr fg60))))), (q14_20, .inr (4, [.null, .int 0, .int 0]))] H := hP
  have hD : va_D A [(q1, .inl (cT 4, 48, .inr (.inr (.inr (.inr fg60))))), (q14_20, .inr (4, [.null, .int 0, .int 0]))] := hD
  refine lv_dup hx hb dR_wholes_17 rfl ?_
  refine lv_bipush (v := 24) hx hb dR_wholes_18 (by decide) ?_
  refine rw_v (wc := [(q14_20, .inr (4, [.null, .int 0, .int 0]))]) (wr := [(q1, .inl (cT 4, 48, .inr (.inr (.inr (.inr fg60)))))]) hP hD hS hA [1] [0] rfl rfl (by decide) (by decide) (va_runI (As := [.int 24]) (rest := [.ref q14_20, .int 20, .ref q1]) ⟨hx, hb, hml, hown, hT⟩ (k_Whole24 l D cT q14_20 _) ⟨callB_of 1 hT (tb_gd w143) rfl rfl rfl (hT _ w5) (hT _ w141) hW_init ⟨Nat.le_of_ble_eq_true rfl, Nat.le_of_ble_eq_true rfl⟩, rfl, (hT _ w142)⟩ (RW.preS hZ hS (va_free (wc := [(q14_20, .inr (4, [.null, .int 0, .int 0]))]) hD hS hA [1] rfl) (hP.sub (ws' := [(q14_20, .inr (4, [.null, .int 0, .int 0]))]) [1] rfl) hK (hD.sub (ws' := [(q14_20, .inr (4, [.null, .int 0, .int 0]))]) [1] (by decide) rfl)) rfl rfl hl.1 rfl (lv_room (Nat.le_of_ble_eq_true rfl)) dR_wholes_20 ⟨Nat.le_of_ble_eq_true rfl, Nat.le_of_ble_eq_true rfl⟩) (fun u62 H locs hpu62 hP hD hS => ?_)
  generalize u62 0 = u62x0 at hP hD
  have hP : va_P D vwCl [(q1, .inl (cT 4, 48, .inr (.inr (.inr (.inr fg60))))), (q14_20, .inr (4, [.ref u62x0, .int 0, .int 0])), (u62x0, .inl (cT 0, 24, .inl (fun _ => 0)))] H := hP
  have hD : va_D A [(q1, .inl (cT 4, 48, .inr (.inr (.inr (.inr fg60))))), (q14_20, .inr (4, [.ref u62x0, .int 0, .int 0])), (u62x0, .inl (cT 0, 24, .inl (fun _ => 0)))] := hD
  refine va_astq hx hb hK hP hD hS 0 4 1 4 rfl rfl rfl rfl (by unfold vp_in; decide) dR_wholes_23 (fun H locs hP hD hS => ?_)
  have hP : va_P D vwCl [(q1, .inl (cT 4, 48, .inr (.inr (.inr (.inr (va_up fg60 20 (some q14_20))))))), (q14_20, .inr (4, [.ref u62x0, .int 0, .int 0])), (u62x0, .inl (cT 0, 24, .inl (fun _ => 0)))] H := hP
  have hD : va_D A [(q1, .inl (cT 4, 48, .inr (.inr (.inr (.inr (va_up fg60 20 (some q14_20))))))), (q14_20, .inr (4, [.ref u62x0, .int 0, .int 0])), (u62x0, .inl (cT 0, 24, .inl (fun _ => 0)))] := hD
  have hP := hP.sub (ws' := [(q1, .inl (cT 4, 48, .inr (.inr (.inr (.inr (va_up fg60 20 (some q14_20)))))))]) [0] rfl
  have hD := hD.sub (ws' := [(q1, .inl (cT 4, 48, .inr (.inr (.inr (.inr (va_up fg60 20 (some q14_20)))))))]) [0] (by decide) rfl
  generalize va_up fg60 20 (some q14_20) = fg63 at hP hD
  refine lv_iinc (k := 0) (v := 21) hx hb dR_wholes_24 hl rfl (by decide) (by decide) rfl (fun ls hl => ?_)
  have hl : lv_has ls 3 [(2, .int 21), (1, .ref q1), (0, .int 48)] := hl
  refine lv_goto (tgt := 7) hx hb dR_wholes_27 rfl ?_
  refine lv_iload_n hx hb dR_wholes_7 rfl (lv_at hl 0 rfl) ?_
  refine lv_iload_n hx hb dR_wholes_8 rfl (lv_at hl 2 rfl) ?_
  refine lv_icmp_ge (tgt := 30) hx hb dR_wholes_9 rfl (fun h64 => absurd h64 (by decide)) (fun _ => ?_)
  refine lv_aload_n hx hb dR_wholes_12 rfl (lv_at hl 1 rfl) ?_
  refine lv_iload_n hx hb dR_wholes_13 rfl (lv_at hl 0 rfl) ?_
  refine va_new (ci := 4) (fs := [.null, .int 0, .int 0]) (C := R_W) (T := T_W) (N := 3) hx hb hT in_W ty_W ty_W_ok hown (hT _ w138) (hT _ w140) (hT _ w5) hK hP hD hS hA rfl (fun j hj => match j, hj with | 0, _ => rfl | 1, _ => rfl | 2, _ => rfl | _ + 3, hj => absurd hj (by omega)) (Nat.le_of_ble_eq_true rfl) (Nat.le_of_ble_eq_true rfl) dR_wholes_14 (fun q14_21 H hP hD hS => ?_)
  have hP : va_P D vwCl [(q1, .inl (cT 4, 48, .inr (.inr (.inr (.inr fg63))))), (q14_21, .inr (4, [.null, .int 0, .int 0]))] H := hP
  have hD : va_D A [(q1, .inl (cT 4, 48, .inr (.inr (.inr (.inr fg63))))), (q14_21, .inr (4, [.null, .int 0, .int 0]))] := hD
  refine lv_dup hx hb dR_wholes_17 rfl ?_
  refine lv_bipush (v := 24) hx hb dR_wholes_18 (by decide) ?_
  refine rw_v (wc := [(q14_21, .inr (4, [.null, .int 0, .int 0]))]) (wr := [(q1, .inl (cT 4, 48, .inr (.inr (.inr (.inr fg63)))))]) hP hD hS hA [1] [0] rfl rfl (by decide) (by decide) (va_runI (As := [.int 24]) (rest := [.ref q14_21, .int 21, .ref q1]) ⟨hx, hb, hml, hown, hT⟩ (k_Whole24 l D cT q14_21 _) ⟨callB_of 1 hT (tb_gd w143) rfl rfl rfl (hT _ w5) (hT _ w141) hW_init ⟨Nat.le_of_ble_eq_true rfl, Nat.le_of_ble_eq_true rfl⟩, rfl, (hT _ w142)⟩ (RW.preS hZ hS (va_free (wc := [(q14_21, .inr (4, [.null, .int 0, .int 0]))]) hD hS hA [1] rfl) (hP.sub (ws' := [(q14_21, .inr (4, [.null, .int 0, .int 0]))]) [1] rfl) hK (hD.sub (ws' := [(q14_21, .inr (4, [.null, .int 0, .int 0]))]) [1] (by decide) rfl)) rfl rfl hl.1 rfl (lv_room (Nat.le_of_ble_eq_true rfl)) dR_wholes_20 ⟨Nat.le_of_ble_eq_true rfl, Nat.le_of_ble_eq_true rfl⟩) (fun u65 H locs hpu65 hP hD hS => ?_)
  generalize u65 0 = u65x0 at hP hD
  have hP : va_P D vwCl [(q1, .inl (cT 4, 48, .inr (.inr (.inr (.inr fg63))))), (q14_21, .inr (4, [.ref u65x0, .int 0, .int 0])), (u65x0, .inl (cT 0, 24, .inl (fun _ => 0)))] H := hP
  have hD : va_D A [(q1, .inl (cT 4, 48, .inr (.inr (.inr (.inr fg63))))), (q14_21, .inr (4, [.ref u65x0, .int 0, .int 0])), (u65x0, .inl (cT 0, 24, .inl (fun _ => 0)))] := hD
  refine va_astq hx hb hK hP hD hS 0 4 1 4 rfl rfl rfl rfl (by unfold vp_in; decide) dR_wholes_23 (fun H locs hP hD hS => ?_)
  have hP : va_P D vwCl [(q1, .inl (cT 4, 48, .inr (.inr (.inr (.inr (va_up fg63 21 (some q14_21))))))), (q14_21, .inr (4, [.ref u65x0, .int 0, .int 0])), (u65x0, .inl (cT 0, 24, .inl (fun _ => 0)))] H := hP
  have hD : va_D A [(q1, .inl (cT 4, 48, .inr (.inr (.inr (.inr (va_up fg63 21 (some q14_21))))))), (q14_21, .inr (4, [.ref u65x0, .int 0, .int 0])), (u65x0, .inl (cT 0, 24, .inl (fun _ => 0)))] := hD
  have hP := hP.sub (ws' := [(q1, .inl (cT 4, 48, .inr (.inr (.inr (.inr (va_up fg63 21 (some q14_21)))))))]) [0] rfl
  have hD := hD.sub (ws' := [(q1, .inl (cT 4, 48, .inr (.inr (.inr (.inr (va_up fg63 21 (some q14_21)))))))]) [0] (by decide) rfl
  generalize va_up fg63 21 (some q14_21) = fg66 at hP hD
  refine lv_iinc (k := 0) (v := 22) hx hb dR_wholes_24 hl rfl (by decide) (by decide) rfl (fun ls hl => ?_)
  have hl : lv_has ls 3 [(2, .int 22), (1, .ref q1), (0, .int 48)] := hl
  refine lv_goto (tgt := 7) hx hb dR_wholes_27 rfl ?_
  refine lv_iload_n hx hb dR_wholes_7 rfl (lv_at hl 0 rfl) ?_
  refine lv_iload_n hx hb dR_wholes_8 rfl (lv_at hl 2 rfl) ?_
  refine lv_icmp_ge (tgt := 30) hx hb dR_wholes_9 rfl (fun h67 => absurd h67 (by decide)) (fun _ => ?_)
  refine lv_aload_n hx hb dR_wholes_12 rfl (lv_at hl 1 rfl) ?_
  refine lv_iload_n hx hb dR_wholes_13 rfl (lv_at hl 0 rfl) ?_
  refine va_new (ci := 4) (fs := [.null, .int 0, .int 0]) (C := R_W) (T := T_W) (N := 3) hx hb hT in_W ty_W ty_W_ok hown (hT _ w138) (hT _ w140) (hT _ w5) hK hP hD hS hA rfl (fun j hj => match j, hj with | 0, _ => rfl | 1, _ => rfl | 2, _ => rfl | _ + 3, hj => absurd hj (by omega)) (Nat.le_of_ble_eq_true rfl) (Nat.le_of_ble_eq_true rfl) dR_wholes_14 (fun q14_22 H hP hD hS => ?_)
  have hP : va_P D vwCl [(q1, .inl (cT 4, 48, .inr (.inr (.inr (.inr fg66))))), (q14_22, .inr (4, [.null, .int 0, .int 0]))] H := hP
  have hD : va_D A [(q1, .inl (cT 4, 48, .inr (.inr (.inr (.inr fg66))))), (q14_22, .inr (4, [.null, .int 0, .int 0]))] := hD
  refine lv_dup hx hb dR_wholes_17 rfl ?_
  refine lv_bipush (v := 24) hx hb dR_wholes_18 (by decide) ?_
  refine rw_v (wc := [(q14_22, .inr (4, [.null, .int 0, .int 0]))]) (wr := [(q1, .inl (cT 4, 48, .inr (.inr (.inr (.inr fg66)))))]) hP hD hS hA [1] [0] rfl rfl (by decide) (by decide) (va_runI (As := [.int 24]) (rest := [.ref q14_22, .int 22, .ref q1]) ⟨hx, hb, hml, hown, hT⟩ (k_Whole24 l D cT q14_22 _) ⟨callB_of 1 hT (tb_gd w143) rfl rfl rfl (hT _ w5) (hT _ w141) hW_init ⟨Nat.le_of_ble_eq_true rfl, Nat.le_of_ble_eq_true rfl⟩, rfl, (hT _ w142)⟩ (RW.preS hZ hS (va_free (wc := [(q14_22, .inr (4, [.null, .int 0, .int 0]))]) hD hS hA [1] rfl) (hP.sub (ws' := [(q14_22, .inr (4, [.null, .int 0, .int 0]))]) [1] rfl) hK (hD.sub (ws' := [(q14_22, .inr (4, [.null, .int 0, .int 0]))]) [1] (by decide) rfl)) rfl rfl hl.1 rfl (lv_room (Nat.le_of_ble_eq_true rfl)) dR_wholes_20 ⟨Nat.le_of_ble_eq_true rfl, Nat.le_of_ble_eq_true rfl⟩) (fun u68 H locs hpu68 hP hD hS => ?_)
  generalize u68 0 = u68x0 at hP hD
  have hP : va_P D vwCl [(q1, .inl (cT 4, 48, .inr (.inr (.inr (.inr fg66))))), (q14_22, .inr (4, [.ref u68x0, .int 0, .int 0])), (u68x0, .inl (cT 0, 24, .inl (fun _ => 0)))] H := hP
  have hD : va_D A [(q1, .inl (cT 4, 48, .inr (.inr (.inr (.inr fg66))))), (q14_22, .inr (4, [.ref u68x0, .int 0, .int 0])), (u68x0, .inl (cT 0, 24, .inl (fun _ => 0)))] := hD
  refine va_astq hx hb hK hP hD hS 0 4 1 4 rfl rfl rfl rfl (by unfold vp_in; decide) dR_wholes_23 (fun H locs hP hD hS => ?_)
  have hP : va_P D vwCl [(q1, .inl (cT 4, 48, .inr (.inr (.inr (.inr (va_up fg66 22 (some q14_22))))))), (q14_22, .inr (4, [.ref u68x0, .int 0, .int 0])), (u68x0, .inl (cT 0, 24, .inl (fun _ => 0)))] H := hP
  have hD : va_D A [(q1, .inl (cT 4, 48, .inr (.inr (.inr (.inr (va_up fg66 22 (some q14_22))))))), (q14_22, .inr (4, [.ref u68x0, .int 0, .int 0])), (u68x0, .inl (cT 0, 24, .inl (fun _ => 0)))] := hD
  have hP := hP.sub (ws' := [(q1, .inl (cT 4, 48, .inr (.inr (.inr (.inr (va_up fg66 22 (some q14_22)))))))]) [0] rfl
  have hD := hD.sub (ws' := [(q1, .inl (cT 4, 48, .inr (.inr (.inr (.inr (va_up fg66 22 (some q14_22)))))))]) [0] (by decide) rfl
  generalize va_up fg66 22 (some q14_22) = fg69 at hP hD
  refine lv_iinc (k := 0) (v := 23) hx hb dR_wholes_24 hl rfl (by decide) (by decide) rfl (fun ls hl => ?_)
  have hl : lv_has ls 3 [(2, .int 23), (1, .ref q1), (0, .int 48)] := hl
  refine lv_goto (tgt := 7) hx hb dR_wholes_27 rfl ?_
  refine lv_iload_n hx hb dR_wholes_7 rfl (lv_at hl 0 rfl) ?_
  refine lv_iload_n hx hb dR_wholes_8 rfl (lv_at hl 2 rfl) ?_
  refine lv_icmp_ge (tgt := 30) hx hb dR_wholes_9 rfl (fun h70 => absurd h70 (by decide)) (fun _ => ?_)
  refine lv_aload_n hx hb dR_wholes_12 rfl (lv_at hl 1 rfl) ?_
  refine lv_iload_n hx hb dR_wholes_13 rfl (lv_at hl 0 rfl) ?_
  refine va_new (ci := 4) (fs := [.null, .int 0, .int 0]) (C := R_W) (T := T_W) (N := 3) hx hb hT in_W ty_W ty_W_ok hown (hT _ w138) (hT _ w140) (hT _ w5) hK hP hD hS hA rfl (fun j hj => match j, hj with | 0, _ => rfl | 1, _ => rfl | 2, _ => rfl | _ + 3, hj => absurd hj (by omega)) (Nat.le_of_ble_eq_true rfl) (Nat.le_of_ble_eq_true rfl) dR_wholes_14 (fun q14_23 H hP hD hS => ?_)
  have hP : va_P D vwCl [(q1, .inl (cT 4, 48, .inr (.inr (.inr (.inr fg69))))), (q14_23, .inr (4, [.null, .int 0, .int 0]))] H := hP
  have hD : va_D A [(q1, .inl (cT 4, 48, .inr (.inr (.inr (.inr fg69))))), (q14_23, .inr (4, [.null, .int 0, .int 0]))] := hD
  refine lv_dup hx hb dR_wholes_17 rfl ?_
  refine lv_bipush (v := 24) hx hb dR_wholes_18 (by decide) ?_
  refine rw_v (wc := [(q14_23, .inr (4, [.null, .int 0, .int 0]))]) (wr := [(q1, .inl (cT 4, 48, .inr (.inr (.inr (.inr fg69)))))]) hP hD hS hA [1] [0] rfl rfl (by decide) (by decide) (va_runI (As := [.int 24]) (rest := [.ref q14_23, .int 23, .ref q1]) ⟨hx, hb, hml, hown, hT⟩ (k_Whole24 l D cT q14_23 _) ⟨callB_of 1 hT (tb_gd w143) rfl rfl rfl (hT _ w5) (hT _ w141) hW_init ⟨Nat.le_of_ble_eq_true rfl, Nat.le_of_ble_eq_true rfl⟩, rfl, (hT _ w142)⟩ (RW.preS hZ hS (va_free (wc := [(q14_23, .inr (4, [.null, .int 0, .int 0]))]) hD hS hA [1] rfl) (hP.sub (ws' := [(q14_23, .inr (4, [.null, .int 0, .int 0]))]) [1] rfl) hK (hD.sub (ws' := [(q14_23, .inr (4, [.null, .int 0, .int 0]))]) [1] (by decide) rfl)) rfl rfl hl.1 rfl (lv_room (Nat.le_of_ble_eq_true rfl)) dR_wholes_20 ⟨Nat.le_of_ble_eq_true rfl, Nat.le_of_ble_eq_true rfl⟩) (fun u71 H locs hpu71 hP hD hS => ?_)
  generalize u71 0 = u71x0 at hP hD
  have hP : va_P D vwCl [(q1, .inl (cT 4, 48, .inr (.inr (.inr (.inr fg69))))), (q14_23, .inr (4, [.ref u71x0, .int 0, .int 0])), (u71x0, .inl (cT 0, 24, .inl (fun _ => 0)))] H := hP
  have hD : va_D A [(q1, .inl (cT 4, 48, .inr (.inr (.inr (.inr fg69))))), (q14_23, .inr (4, [.ref u71x0, .int 0, .int 0])), (u71x0, .inl (cT 0, 24, .inl (fun _ => 0)))] := hD
  refine va_astq hx hb hK hP hD hS 0 4 1 4 rfl rfl rfl rfl (by unfold vp_in; decide) dR_wholes_23 (fun H locs hP hD hS => ?_)
  have hP : va_P D vwCl [(q1, .inl (cT 4, 48, .inr (.inr (.inr (.inr (va_up fg69 23 (some q14_23))))))), (q14_23, .inr (4, [.ref u71x0, .int 0, .int 0])), (u71x0, .inl (cT 0, 24, .inl (fun _ => 0)))] H := hP
  have hD : va_D A [(q1, .inl (cT 4, 48, .inr (.inr (.inr (.inr (va_up fg69 23 (some q14_23))))))), (q14_23, .inr (4, [.ref u71x0, .int 0, .int 0])), (u71x0, .inl (cT 0, 24, .inl (fun _ => 0)))] := hD
  have hP := hP.sub (ws' := [(q1, .inl (cT 4, 48, .inr (.inr (.inr (.inr (va_up fg69 23 (some q14_23)))))))]) [0] rfl
  have hD := hD.sub (ws' := [(q1, .inl (cT 4, 48, .inr (.inr (.inr (.inr (va_up fg69 23 (some q14_23)))))))]) [0] (by decide) rfl
  generalize va_up fg69 23 (some q14_23) = fg72 at hP hD
  refine lv_iinc (k := 0) (v := 24) hx hb dR_wholes_24 hl rfl (by decide) (by decide) rfl (fun ls hl => ?_)
  have hl : lv_has ls 3 [(2, .int 24), (1, .ref q1), (0, .int 48)] := hl
  refine lv_goto (tgt := 7) hx hb dR_wholes_27 rfl ?_
  refine lv_iload_n hx hb dR_wholes_7 rfl (lv_at hl 0 rfl) ?_
  refine lv_iload_n hx hb dR_wholes_8 rfl (lv_at hl 2 rfl) ?_
  refine lv_icmp_ge (tgt := 30) hx hb dR_wholes_9 rfl (fun h73 => absurd h73 (by decide)) (fun _ => ?_)
  refine lv_aload_n hx hb dR_wholes_12 rfl (lv_at hl 1 rfl) ?_
  refine lv_iload_n hx hb dR_wholes_13 rfl (lv_at hl 0 rfl) ?_
  refine va_new (ci := 4) (fs := [.null, .int 0, .int 0]) (C := R_W) (T := T_W) (N := 3) hx hb hT in_W ty_W ty_W_ok hown (hT _ w138) (hT _ w140) (hT _ w5) hK hP hD hS hA rfl (fun j hj => match j, hj with | 0, _ => rfl | 1, _ => rfl | 2, _ => rfl | _ + 3, hj => absurd hj (by omega)) (Nat.le_of_ble_eq_true rfl) (Nat.le_of_ble_eq_true rfl) dR_wholes_14 (fun q14_24 H hP hD hS => ?_)
  have hP : va_P D vwCl [(q1, .inl (cT 4, 48, .inr (.inr (.inr (.inr fg72))))), (q14_24, .inr (4, [.null, .int 0, .int 0]))] H := hP
  have hD : va_D A [(q1, .inl (cT 4, 48, .inr (.inr (.inr (.inr fg72))))), (q14_24, .inr (4, [.null, .int 0, .int 0]))] := hD
  refine lv_dup hx hb dR_wholes_17 rfl ?_
  refine lv_bipush (v := 24) hx hb dR_wholes_18 (by decide) ?_
  refine rw_v (wc := [(q14_24, .inr (4, [.null, .int 0, .int 0]))]) (wr := [(q1, .inl (cT 4, 48, .inr (.inr (.inr (.inr fg72)))))]) hP hD hS hA [1] [0] rfl rfl (by decide) (by decide) (va_runI (As := [.int 24]) (rest := [.ref q14_24, .int 24, .ref q1]) ⟨hx, hb, hml, hown, hT⟩ (k_Whole24 l D cT q14_24 _) ⟨callB_of 1 hT (tb_gd w143) rfl rfl rfl (hT _ w5) (hT _ w141) hW_init ⟨Nat.le_of_ble_eq_true rfl, Nat.le_of_ble_eq_true rfl⟩, rfl, (hT _ w142)⟩ (RW.preS hZ hS (va_free (wc := [(q14_24, .inr (4, [.null, .int 0, .int 0]))]) hD hS hA [1] rfl) (hP.sub (ws' := [(q14_24, .inr (4, [.null, .int 0, .int 0]))]) [1] rfl) hK (hD.sub (ws' := [(q14_24, .inr (4, [.null, .int 0, .int 0]))]) [1] (by decide) rfl)) rfl rfl hl.1 rfl (lv_room (Nat.le_of_ble_eq_true rfl)) dR_wholes_20 ⟨Nat.le_of_ble_eq_true rfl, Nat.le_of_ble_eq_true rfl⟩) (fun u74 H locs hpu74 hP hD hS => ?_)
  generalize u74 0 = u74x0 at hP hD
  have hP : va_P D vwCl [(q1, .inl (cT 4, 48, .inr (.inr (.inr (.inr fg72))))), (q14_24, .inr (4, [.ref u74x0, .int 0, .int 0])), (u74x0, .inl (cT 0, 24, .inl (fun _ => 0)))] H := hP
  have hD : va_D A [(q1, .inl (cT 4, 48, .inr (.inr (.inr (.inr fg72))))), (q14_24, .inr (4, [.ref u74x0, .int 0, .int 0])), (u74x0, .inl (cT 0, 24, .inl (fun _ => 0)))] := hD
  refine va_astq hx hb hK hP hD hS 0 4 1 4 rfl rfl rfl rfl (by unfold vp_in; decide) dR_wholes_23 (fun H locs hP hD hS => ?_)
  have hP : va_P D vwCl [(q1, .inl (cT 4, 48, .inr (.inr (.inr (.inr (va_up fg72 24 (some q14_24))))))), (q14_24, .inr (4, [.ref u74x0, .int 0, .int 0])), (u74x0, .inl (cT 0, 24, .inl (fun _ => 0)))] H := hP
  have hD : va_D A [(q1, .inl (cT 4, 48, .inr (.inr (.inr (.inr (va_up fg72 24 (some q14_24))))))), (q14_24, .inr (4, [.ref u74x0, .int 0, .int 0])), (u74x0, .inl (cT 0, 24, .inl (fun _ => 0)))] := hD
  have hP := hP.sub (ws' := [(q1, .inl (cT 4, 48, .inr (.inr (.inr (.inr (va_up fg72 24 (some q14_24)))))))]) [0] rfl
  have hD := hD.sub (ws' := [(q1, .inl (cT 4, 48, .inr (.inr (.inr (.inr (va_up fg72 24 (some q14_24)))))))]) [0] (by decide) rfl
  generalize va_up fg72 24 (some q14_24) = fg75 at hP hD
  refine lv_iinc (k := 0) (v := 25) hx hb dR_wholes_24 hl rfl (by decide) (by decide) rfl (fun ls hl => ?_)
  have hl : lv_has ls 3 [(2, .int 25), (1, .ref q1), (0, .int 48)] := hl
  refine lv_goto (tgt := 7) hx hb dR_wholes_27 rfl ?_
  refine lv_iload_n hx hb dR_wholes_7 rfl (lv_at hl 0 rfl) ?_
  refine lv_iload_n hx hb dR_wholes_8 rfl (lv_at hl 2 rfl) ?_
  refine lv_icmp_ge (tgt := 30) hx hb dR_wholes_9 rfl (fun h76 => absurd h76 (by decide)) (fun _ => ?_)
  refine lv_aload_n hx hb dR_wholes_12 rfl (lv_at hl 1 rfl) ?_
  refine lv_iload_n hx hb dR_wholes_13 rfl (lv_at hl 0 rfl) ?_
  refine va_new (ci := 4) (fs := [.null, .int 0, .int 0]) (C := R_W) (T := T_W) (N := 3) hx hb hT in_W ty_W ty_W_ok hown (hT _ w138) (hT _ w140) (hT _ w5) hK hP hD hS hA rfl (fun j hj => match j, hj with | 0, _ => rfl | 1, _ => rfl | 2, _ => rfl | _ + 3, hj => absurd hj (by omega)) (Nat.le_of_ble_eq_true rfl) (Nat.le_of_ble_eq_true rfl) dR_wholes_14 (fun q14_25 H hP hD hS => ?_)
  have hP : va_P D vwCl [(q1, .inl (cT 4, 48, .inr (.inr (.inr (.inr fg75))))), (q14_25, .inr (4, [.null, .int 0, .int 0]))] H := hP
  have hD : va_D A [(q1, .inl (cT 4, 48, .inr (.inr (.inr (.inr fg75))))), (q14_25, .inr (4, [.null, .int 0, .int 0]))] := hD
  refine lv_dup hx hb dR_wholes_17 rfl ?_
  refine lv_bipush (v := 24) hx hb dR_wholes_18 (by decide) ?_
  refine rw_v (wc := [(q14_25, .inr (4, [.null, .int 0, .int 0]))]) (wr := [(q1, .inl (cT 4, 48, .inr (.inr (.inr (.inr fg75)))))]) hP hD hS hA [1] [0] rfl rfl (by decide) (by decide) (va_runI (As := [.int 24]) (rest := [.ref q14_25, .int 25, .ref q1]) ⟨hx, hb, hml, hown, hT⟩ (k_Whole24 l D cT q14_25 _) ⟨callB_of 1 hT (tb_gd w143) rfl rfl rfl (hT _ w5) (hT _ w141) hW_init ⟨Nat.le_of_ble_eq_true rfl, Nat.le_of_ble_eq_true rfl⟩, rfl, (hT _ w142)⟩ (RW.preS hZ hS (va_free (wc := [(q14_25, .inr (4, [.null, .int 0, .int 0]))]) hD hS hA [1] rfl) (hP.sub (ws' := [(q14_25, .inr (4, [.null, .int 0, .int 0]))]) [1] rfl) hK (hD.sub (ws' := [(q14_25, .inr (4, [.null, .int 0, .int 0]))]) [1] (by decide) rfl)) rfl rfl hl.1 rfl (lv_room (Nat.le_of_ble_eq_true rfl)) dR_wholes_20 ⟨Nat.le_of_ble_eq_true rfl, Nat.le_of_ble_eq_true rfl⟩) (fun u77 H locs hpu77 hP hD hS => ?_)
  generalize u77 0 = u77x0 at hP hD
  have hP : va_P D vwCl [(q1, .inl (cT 4, 48, .inr (.inr (.inr (.inr fg75))))), (q14_25, .inr (4, [.ref u77x0, .int 0, .int 0])), (u77x0, .inl (cT 0, 24, .inl (fun _ => 0)))] H := hP
  have hD : va_D A [(q1, .inl (cT 4, 48, .inr (.inr (.inr (.inr fg75))))), (q14_25, .inr (4, [.ref u77x0, .int 0, .int 0])), (u77x0, .inl (cT 0, 24, .inl (fun _ => 0)))] := hD
  refine va_astq hx hb hK hP hD hS 0 4 1 4 rfl rfl rfl rfl (by unfold vp_in; decide) dR_wholes_23 (fun H locs hP hD hS => ?_)
  have hP : va_P D vwCl [(q1, .inl (cT 4, 48, .inr (.inr (.inr (.inr (va_up fg75 25 (some q14_25))))))), (q14_25, .inr (4, [.ref u77x0, .int 0, .int 0])), (u77x0, .inl (cT 0, 24, .inl (fun _ => 0)))] H := hP
  have hD : va_D A [(q1, .inl (cT 4, 48, .inr (.inr (.inr (.inr (va_up fg75 25 (some q14_25))))))), (q14_25, .inr (4, [.ref u77x0, .int 0, .int 0])), (u77x0, .inl (cT 0, 24, .inl (fun _ => 0)))] := hD
  have hP := hP.sub (ws' := [(q1, .inl (cT 4, 48, .inr (.inr (.inr (.inr (va_up fg75 25 (some q14_25)))))))]) [0] rfl
  have hD := hD.sub (ws' := [(q1, .inl (cT 4, 48, .inr (.inr (.inr (.inr (va_up fg75 25 (some q14_25)))))))]) [0] (by decide) rfl
  generalize va_up fg75 25 (some q14_25) = fg78 at hP hD
  refine lv_iinc (k := 0) (v := 26) hx hb dR_wholes_24 hl rfl (by decide) (by decide) rfl (fun ls hl => ?_)
  have hl : lv_has ls 3 [(2, .int 26), (1, .ref q1), (0, .int 48)] := hl
  refine lv_goto (tgt := 7) hx hb dR_wholes_27 rfl ?_
  refine lv_iload_n hx hb dR_wholes_7 rfl (lv_at hl 0 rfl) ?_
  refine lv_iload_n hx hb dR_wholes_8 rfl (lv_at hl 2 rfl) ?_
  refine lv_icmp_ge (tgt := 30) hx hb dR_wholes_9 rfl (fun h79 => absurd h79 (by decide)) (fun _ => ?_)
  refine lv_aload_n hx hb dR_wholes_12 rfl (lv_at hl 1 rfl) ?_
  refine lv_iload_n hx hb dR_wholes_13 rfl (lv_at hl 0 rfl) ?_
  refine va_new (ci := 4) (fs := [.null, .int 0, .int 0]) (C := R_W) (T := T_W) (N := 3) hx hb hT in_W ty_W ty_W_ok hown (hT _ w138) (hT _ w140) (hT _ w5) hK hP hD hS hA rfl (fun j hj => match j, hj with | 0, _ => rfl | 1, _ => rfl | 2, _ => rfl | _ + 3, hj => absurd hj (by omega)) (Nat.le_of_ble_eq_true rfl) (Nat.le_of_ble_eq_true rfl) dR_wholes_14 (fun q14_26 H hP hD hS => ?_)
  have hP : va_P D vwCl [(q1, .inl (cT 4, 48, .inr (.inr (.inr (.inr fg78))))), (q14_26, .inr (4, [.null, .int 0, .int 0]))] H := hP
  have hD : va_D A [(q1, .inl (cT 4, 48, .inr (.inr (.inr (.inr fg78))))), (q14_26, .inr (4, [.null, .int 0, .int 0]))] := hD
  refine lv_dup hx hb dR_wholes_17 rfl ?_
  refine lv_bipush (v := 24) hx hb dR_wholes_18 (by decide) ?_
  refine rw_v (wc := [(q14_26, .inr (4, [.null, .int 0, .int 0]))]) (wr := [(q1, .inl (cT 4, 48, .inr (.inr (.inr (.inr fg78)))))]) hP hD hS hA [1] [0] rfl rfl (by decide) (by decide) (va_runI (As := [.int 24]) (rest := [.ref q14_26, .int 26, .ref q1]) ⟨hx, hb, hml, hown, hT⟩ (k_Whole24 l D cT q14_26 _) ⟨callB_of 1 hT (tb_gd w143) rfl rfl rfl (hT _ w5) (hT _ w141) hW_init ⟨Nat.le_of_ble_eq_true rfl, Nat.le_of_ble_eq_true rfl⟩, rfl, (hT _ w142)⟩ (RW.preS hZ hS (va_free (wc := [(q14_26, .inr (4, [.null, .int 0, .int 0]))]) hD hS hA [1] rfl) (hP.sub (ws' := [(q14_26, .inr (4, [.null, .int 0, .int 0]))]) [1] rfl) hK (hD.sub (ws' := [(q14_26, .inr (4, [.null, .int 0, .int 0]))]) [1] (by decide) rfl)) rfl rfl hl.1 rfl (lv_room (Nat.le_of_ble_eq_true rfl)) dR_wholes_20 ⟨Nat.le_of_ble_eq_true rfl, Nat.le_of_ble_eq_true rfl⟩) (fun u80 H locs hpu80 hP hD hS => ?_)
  generalize u80 0 = u80x0 at hP hD
  have hP : va_P D vwCl [(q1, .inl (cT 4, 48, .inr (.inr (.inr (.inr fg78))))), (q14_26, .inr (4, [.ref u80x0, .int 0, .int 0])), (u80x0, .inl (cT 0, 24, .inl (fun _ => 0)))] H := hP
  have hD : va_D A [(q1, .inl (cT 4, 48, .inr (.inr (.inr (.inr fg78))))), (q14_26, .inr (4, [.ref u80x0, .int 0, .int 0])), (u80x0, .inl (cT 0, 24, .inl (fun _ => 0)))] := hD
  refine va_astq hx hb hK hP hD hS 0 4 1 4 rfl rfl rfl rfl (by unfold vp_in; decide) dR_wholes_23 (fun H locs hP hD hS => ?_)
  have hP : va_P D vwCl [(q1, .inl (cT 4, 48, .inr (.inr (.inr (.inr (va_up fg78 26 (some q14_26))))))), (q14_26, .inr (4, [.ref u80x0, .int 0, .int 0])), (u80x0, .inl (cT 0, 24, .inl (fun _ => 0)))] H := hP
  have hD : va_D A [(q1, .inl (cT 4, 48, .inr (.inr (.inr (.inr (va_up fg78 26 (some q14_26))))))), (q14_26, .inr (4, [.ref u80x0, .int 0, .int 0])), (u80x0, .inl (cT 0, 24, .inl (fun _ => 0)))] := hD
  have hP := hP.sub (ws' := [(q1, .inl (cT 4, 48, .inr (.inr (.inr (.inr (va_up fg78 26 (some q14_26)))))))]) [0] rfl
  have hD := hD.sub (ws' := [(q1, .inl (cT 4, 48, .inr (.inr (.inr (.inr (va_up fg78 26 (some q14_26)))))))]) [0] (by decide) rfl
  generalize va_up fg78 26 (some q14_26) = fg81 at hP hD
  refine lv_iinc (k := 0) (v := 27) hx hb dR_wholes_24 hl rfl (by decide) (by decide) rfl (fun ls hl => ?_)
  have hl : lv_has ls 3 [(2, .int 27), (1, .ref q1), (0, .int 48)] := hl
  refine lv_goto (tgt := 7) hx hb dR_wholes_27 rfl ?_
  refine lv_iload_n hx hb dR_wholes_7 rfl (lv_at hl 0 rfl) ?_
  refine lv_iload_n hx hb dR_wholes_8 rfl (lv_at hl 2 rfl) ?_
  refine lv_icmp_ge (tgt := 30) hx hb dR_wholes_9 rfl (fun h82 => absurd h82 (by decide)) (fun _ => ?_)
  refine lv_aload_n hx hb dR_wholes_12 rfl (lv_at hl 1 rfl) ?_
  refine lv_iload_n hx hb dR_wholes_13 rfl (lv_at hl 0 rfl) ?_
  refine va_new (ci := 4) (fs := [.null, .int 0, .int 0]) (C := R_W) (T := T_W) (N := 3) hx hb hT in_W ty_W ty_W_ok hown (hT _ w138) (hT _ w140) (hT _ w5) hK hP hD hS hA rfl (fun j hj => match j, hj with | 0, _ => rfl | 1, _ => rfl | 2, _ => rfl | _ + 3, hj => absurd hj (by omega)) (Nat.le_of_ble_eq_true rfl) (Nat.le_of_ble_eq_true rfl) dR_wholes_14 (fun q14_27 H hP hD hS => ?_)
  have hP : va_P D vwCl [(q1, .inl (cT 4, 48, .inr (.inr (.inr (.inr fg81))))), (q14_27, .inr (4, [.null, .int 0, .int 0]))] H := hP
  have hD : va_D A [(q1, .inl (cT 4, 48, .inr (.inr (.inr (.inr fg81))))), (q14_27, .inr (4, [.null, .int 0, .int 0]))] := hD
  refine lv_dup hx hb dR_wholes_17 rfl ?_
  refine lv_bipush (v := 24) hx hb dR_wholes_18 (by decide) ?_
  refine rw_v (wc := [(q14_27, .inr (4, [.null, .int 0, .int 0]))]) (wr := [(q1, .inl (cT 4, 48, .inr (.inr (.inr (.inr fg81)))))]) hP hD hS hA [1] [0] rfl rfl (by decide) (by decide) (va_runI (As := [.int 24]) (rest := [.ref q14_27, .int 27, .ref q1]) ⟨hx, hb, hml, hown, hT⟩ (k_Whole24 l D cT q14_27 _) ⟨callB_of 1 hT (tb_gd w143) rfl rfl rfl (hT _ w5) (hT _ w141) hW_init ⟨Nat.le_of_ble_eq_true rfl, Nat.le_of_ble_eq_true rfl⟩, rfl, (hT _ w142)⟩ (RW.preS hZ hS (va_free (wc := [(q14_27, .inr (4, [.null, .int 0, .int 0]))]) hD hS hA [1] rfl) (hP.sub (ws' := [(q14_27, .inr (4, [.null, .int 0, .int 0]))]) [1] rfl) hK (hD.sub (ws' := [(q14_27, .inr (4, [.null, .int 0, .int 0]))]) [1] (by decide) rfl)) rfl rfl hl.1 rfl (lv_room (Nat.le_of_ble_eq_true rfl)) dR_wholes_20 ⟨Nat.le_of_ble_eq_true rfl, Nat.le_of_ble_eq_true rfl⟩) (fun u83 H locs hpu83 hP hD hS => ?_)
  generalize u83 0 = u83x0 at hP hD
  have hP : va_P D vwCl [(q1, .inl (cT 4, 48, .inr (.inr (.inr (.inr fg81))))), (q14_27, .inr (4, [.ref u83x0, .int 0, .int 0])), (u83x0, .inl (cT 0, 24, .inl (fun _ => 0)))] H := hP
  have hD : va_D A [(q1, .inl (cT 4, 48, .inr (.inr (.inr (.inr fg81))))), (q14_27, .inr (4, [.ref u83x0, .int 0, .int 0])), (u83x0, .inl (cT 0, 24, .inl (fun _ => 0)))] := hD
  refine va_astq hx hb hK hP hD hS 0 4 1 4 rfl rfl rfl rfl (by unfold vp_in; decide) dR_wholes_23 (fun H locs hP hD hS => ?_)
  have hP : va_P D vwCl [(q1, .inl (cT 4, 48, .inr (.inr (.inr (.inr (va_up fg81 27 (some q14_27))))))), (q14_27, .inr (4, [.ref u83x0, .int 0, .int 0])), (u83x0, .inl (cT 0, 24, .inl (fun _ => 0)))] H := hP
  have hD : va_D A [(q1, .inl (cT 4, 48, .inr (.inr (.inr (.inr (va_up fg81 27 (some q14_27))))))), (q14_27, .inr (4, [.ref u83x0, .int 0, .int 0])), (u83x0, .inl (cT 0, 24, .inl (fun _ => 0)))] := hD
  have hP := hP.sub (ws' := [(q1, .inl (cT 4, 48, .inr (.inr (.inr (.inr (va_up fg81 27 (some q14_27)))))))]) [0] rfl
  have hD := hD.sub (ws' := [(q1, .inl (cT 4, 48, .inr (.inr (.inr (.inr (va_up fg81 27 (some q14_27)))))))]) [0] (by decide) rfl
  generalize va_up fg81 27 (some q14_27) = fg84 at hP hD
  refine lv_iinc (k := 0) (v := 28) hx hb dR_wholes_24 hl rfl (by decide) (by decide) rfl (fun ls hl => ?_)
  have hl : lv_has ls 3 [(2, .int 28), (1, .ref q1), (0, .int 48)] := hl
  refine lv_goto (tgt := 7) hx hb dR_wholes_27 rfl ?_
  refine lv_iload_n hx hb dR_wholes_7 rfl (lv_at hl 0 rfl) ?_
  refine lv_iload_n hx hb dR_wholes_8 rfl (lv_at hl 2 rfl) ?_
  refine lv_icmp_ge (tgt := 30) hx hb dR_wholes_9 rfl (fun h85 => absurd h85 (by decide)) (fun _ => ?_)
  refine lv_aload_n hx hb dR_wholes_12 rfl (lv_at hl 1 rfl) ?_
  refine lv_iload_n hx hb dR_wholes_13 rfl (lv_at hl 0 rfl) ?_
  refine va_new (ci := 4) (fs := [.null, .int 0, .int 0]) (C := R_W) (T := T_W) (N := 3) hx hb hT in_W ty_W ty_W_ok hown (hT _ w138) (hT _ w140) (hT _ w5) hK hP hD hS hA rfl (fun j hj => match j, hj with | 0, _ => rfl | 1, _ => rfl | 2, _ => rfl | _ + 3, hj => absurd hj (by omega)) (Nat.le_of_ble_eq_true rfl) (Nat.le_of_ble_eq_true rfl) dR_wholes_14 (fun q14_28 H hP hD hS => ?_)
  have hP : va_P D vwCl [(q1, .inl (cT 4, 48, .inr (.inr (.inr (.inr fg84))))), (q14_28, .inr (4, [.null, .int 0, .int 0]))] H := hP
  have hD : va_D A [(q1, .inl (cT 4, 48, .inr (.inr (.inr (.inr fg84))))), (q14_28, .inr (4, [.null, .int 0, .int 0]))] := hD
  refine lv_dup hx hb dR_wholes_17 rfl ?_
  refine lv_bipush (v := 24) hx hb dR_wholes_18 (by decide) ?_
  refine rw_v (wc := [(q14_28, .inr (4, [.null, .int 0, .int 0]))]) (wr := [(q1, .inl (cT 4, 48, .inr (.inr (.inr (.inr fg84)))))]) hP hD hS hA [1] [0] rfl rfl (by decide) (by decide) (va_runI (As := [.int 24]) (rest := [.ref q14_28, .int 28, .ref q1]) ⟨hx, hb, hml, hown, hT⟩ (k_Whole24 l D cT q14_28 _) ⟨callB_of 1 hT (tb_gd w143) rfl rfl rfl (hT _ w5) (hT _ w141) hW_init ⟨Nat.le_of_ble_eq_true rfl, Nat.le_of_ble_eq_true rfl⟩, rfl, (hT _ w142)⟩ (RW.preS hZ hS (va_free (wc := [(q14_28, .inr (4, [.null, .int 0, .int 0]))]) hD hS hA [1] rfl) (hP.sub (ws' := [(q14_28, .inr (4, [.null, .int 0, .int 0]))]) [1] rfl) hK (hD.sub (ws' := [(q14_28, .inr (4, [.null, .int 0, .int 0]))]) [1] (by decide) rfl)) rfl rfl hl.1 rfl (lv_room (Nat.le_of_ble_eq_true rfl)) dR_wholes_20 ⟨Nat.le_of_ble_eq_true rfl, Nat.le_of_ble_eq_true rfl⟩) (fun u86 H locs hpu86 hP hD hS => ?_)
  generalize u86 0 = u86x0 at hP hD
  have hP : va_P D vwCl [(q1, .inl (cT 4, 48, .inr (.inr (.inr (.inr fg84))))), (q14_28, .inr (4, [.ref u86x0, .int 0, .int 0])), (u86x0, .inl (cT 0, 24, .inl (fun _ => 0)))] H := hP
  have hD : va_D A [(q1, .inl (cT 4, 48, .inr (.inr (.inr (.inr fg84))))), (q14_28, .inr (4, [.ref u86x0, .int 0, .int 0])), (u86x0, .inl (cT 0, 24, .inl (fun _ => 0)))] := hD
  refine va_astq hx hb hK hP hD hS 0 4 1 4 rfl rfl rfl rfl (by unfold vp_in; decide) dR_wholes_23 (fun H locs hP hD hS => ?_)
  have hP : va_P D vwCl [(q1, .inl (cT 4, 48, .inr (.inr (.inr (.inr (va_up fg84 28 (some q14_28))))))), (q14_28, .inr (4, [.ref u86x0, .int 0, .int 0])), (u86x0, .inl (cT 0, 24, .inl (fun _ => 0)))] H := hP
  have hD : va_D A [(q1, .inl (cT 4, 48, .inr (.inr (.inr (.inr (va_up fg84 28 (some q14_28))))))), (q14_28, .inr (4, [.ref u86x0, .int 0, .int 0])), (u86x0, .inl (cT 0, 24, .inl (fun _ => 0)))] := hD
  have hP := hP.sub (ws' := [(q1, .inl (cT 4, 48, .inr (.inr (.inr (.inr (va_up fg84 28 (some q14_28)))))))]) [0] rfl
  have hD := hD.sub (ws' := [(q1, .inl (cT 4, 48, .inr (.inr (.inr (.inr (va_up fg84 28 (some q14_28)))))))]) [0] (by decide) rfl
  generalize va_up fg84 28 (some q14_28) = fg87 at hP hD
  refine lv_iinc (k := 0) (v := 29) hx hb dR_wholes_24 hl rfl (by decide) (by decide) rfl (fun ls hl => ?_)
  have hl : lv_has ls 3 [(2, .int 29), (1, .ref q1), (0, .int 48)] := hl
  refine lv_goto (tgt := 7) hx hb dR_wholes_27 rfl ?_
  refine lv_iload_n hx hb dR_wholes_7 rfl (lv_at hl 0 rfl) ?_
  refine lv_iload_n hx hb dR_wholes_8 rfl (lv_at hl 2 rfl) ?_
  refine lv_icmp_ge (tgt := 30) hx hb dR_wholes_9 rfl (fun h88 => absurd h88 (by decide)) (fun _ => ?_)
  refine lv_aload_n hx hb dR_wholes_12 rfl (lv_at hl 1 rfl) ?_
  refine lv_iload_n hx hb dR_wholes_13 rfl (lv_at hl 0 rfl) ?_
  refine va_new (ci := 4) (fs := [.null, .int 0, .int 0]) (C := R_W) (T := T_W) (N := 3) hx hb hT in_W ty_W ty_W_ok hown (hT _ w138) (hT _ w140) (hT _ w5) hK hP hD hS hA rfl (fun j hj => match j, hj with | 0, _ => rfl | 1, _ => rfl | 2, _ => rfl | _ + 3, hj => absurd hj (by omega)) (Nat.le_of_ble_eq_true rfl) (Nat.le_of_ble_eq_true rfl) dR_wholes_14 (fun q14_29 H hP hD hS => ?_)
  have hP : va_P D vwCl [(q1, .inl (cT 4, 48, .inr (.inr (.inr (.inr fg87))))), (q14_29, .inr (4, [.null, .int 0, .int 0]))] H := hP
  have hD : va_D A [(q1, .inl (cT 4, 48, .inr (.inr (.inr (.inr fg87))))), (q14_29, .inr (4, [.null, .int 0, .int 0]))] := hD
  refine lv_dup hx hb dR_wholes_17 rfl ?_
  refine lv_bipush (v := 24) hx hb dR_wholes_18 (by decide) ?_
  refine rw_v (wc := [(q14_29, .inr (4, [.null, .int 0, .int 0]))]) (wr := [(q1, .inl (cT 4, 48, .inr (.inr (.inr (.inr fg87)))))]) hP hD hS hA [1] [0] rfl rfl (by decide) (by decide) (va_runI (As := [.int 24]) (rest := [.ref q14_29, .int 29, .ref q1]) ⟨hx, hb, hml, hown, hT⟩ (k_Whole24 l D cT q14_29 _) ⟨callB_of 1 hT (tb_gd w143) rfl rfl rfl (hT _ w5) (hT _ w141) hW_init ⟨Nat.le_of_ble_eq_true rfl, Nat.le_of_ble_eq_true rfl⟩, rfl, (hT _ w142)⟩ (RW.preS hZ hS (va_free (wc := [(q14_29, .inr (4, [.null, .int 0, .int 0]))]) hD hS hA [1] rfl) (hP.sub (ws' := [(q14_29, .inr (4, [.null, .int 0, .int 0]))]) [1] rfl) hK (hD.sub (ws' := [(q14_29, .inr (4, [.null, .int 0, .int 0]))]) [1] (by decide) rfl)) rfl rfl hl.1 rfl (lv_room (Nat.le_of_ble_eq_true rfl)) dR_wholes_20 ⟨Nat.le_of_ble_eq_true rfl, Nat.le_of_ble_eq_true rfl⟩) (fun u89 H locs hpu89 hP hD hS => ?_)
  generalize u89 0 = u89x0 at hP hD
  have hP : va_P D vwCl [(q1, .inl (cT 4, 48, .inr (.inr (.inr (.inr fg87))))), (q14_29, .inr (4, [.ref u89x0, .int 0, .int 0])), (u89x0, .inl (cT 0, 24, .inl (fun _ => 0)))] H := hP
  have hD : va_D A [(q1, .inl (cT 4, 48, .inr (.inr (.inr (.inr fg87))))), (q14_29, .inr (4, [.ref u89x0, .int 0, .int 0])), (u89x0, .inl (cT 0, 24, .inl (fun _ => 0)))] := hD
  refine va_astq hx hb hK hP hD hS 0 4 1 4 rfl rfl rfl rfl (by unfold vp_in; decide) dR_wholes_23 (fun H locs hP hD hS => ?_)
  have hP : va_P D vwCl [(q1, .inl (cT 4, 48, .inr (.inr (.inr (.inr (va_up fg87 29 (some q14_29))))))), (q14_29, .inr (4, [.ref u89x0, .int 0, .int 0])), (u89x0, .inl (cT 0, 24, .inl (fun _ => 0)))] H := hP
  have hD : va_D A [(q1, .inl (cT 4, 48, .inr (.inr (.inr (.inr (va_up fg87 29 (some q14_29))))))), (q14_29, .inr (4, [.ref u89x0, .int 0, .int 0])), (u89x0, .inl (cT 0, 24, .inl (fun _ => 0)))] := hD
  have hP := hP.sub (ws' := [(q1, .inl (cT 4, 48, .inr (.inr (.inr (.inr (va_up fg87 29 (some q14_29)))))))]) [0] rfl
  have hD := hD.sub (ws' := [(q1, .inl (cT 4, 48, .inr (.inr (.inr (.inr (va_up fg87 29 (some q14_29)))))))]) [0] (by decide) rfl
  generalize va_up fg87 29 (some q14_29) = fg90 at hP hD
  refine lv_iinc (k := 0) (v := 30) hx hb dR_wholes_24 hl rfl (by decide) (by decide) rfl (fun ls hl => ?_)
  have hl : lv_has ls 3 [(2, .int 30), (1, .ref q1), (0, .int 48)] := hl
  refine lv_goto (tgt := 7) hx hb dR_wholes_27 rfl ?_
  refine lv_iload_n hx hb dR_wholes_7 rfl (lv_at hl 0 rfl) ?_
  refine lv_iload_n hx hb dR_wholes_8 rfl (lv_at hl 2 rfl) ?_
  refine lv_icmp_ge (tgt := 30) hx hb dR_wholes_9 rfl (fun h91 => absurd h91 (by decide)) (fun _ => ?_)
  refine lv_aload_n hx hb dR_wholes_12 rfl (lv_at hl 1 rfl) ?_
  refine lv_iload_n hx hb dR_wholes_13 rfl (lv_at hl 0 rfl) ?_
  refine va_new (ci := 4) (fs := [.null, .int 0, .int 0]) (C := R_W) (T := T_W) (N := 3) hx hb hT in_W ty_W ty_W_ok hown (hT _ w138) (hT _ w140) (hT _ w5) hK hP hD hS hA rfl (fun j hj => match j, hj with | 0, _ => rfl | 1, _ => rfl | 2, _ => rfl | _ + 3, hj => absurd hj (by omega)) (Nat.le_of_ble_eq_true rfl) (Nat.le_of_ble_eq_true rfl) dR_wholes_14 (fun q14_30 H hP hD hS => ?_)
  have hP : va_P D vwCl [(q1, .inl (cT 4, 48, .inr (.inr (.inr (.inr fg90))))), (q14_30, .inr (4, [.null, .int 0, .int 0]))] H := hP
  have hD : va_D A [(q1, .inl (cT 4, 48, .inr (.inr (.inr (.inr fg90))))), (q14_30, .inr (4, [.null, .int 0, .int 0]))] := hD
  refine lv_dup hx hb dR_wholes_17 rfl ?_
  refine lv_bipush (v := 24) hx hb dR_wholes_18 (by decide) ?_
  refine rw_v (wc := [(q14_30, .inr (4, [.null, .int 0, .int 0]))]) (wr := [(q1, .inl (cT 4, 48, .inr (.inr (.inr (.inr fg90)))))]) hP hD hS hA [1] [0] rfl rfl (by decide) (by decide) (va_runI (As := [.int 24]) (rest := [.ref q14_30, .int 30, .ref q1]) ⟨hx, hb, hml, hown, hT⟩ (k_Whole24 l D cT q14_30 _) ⟨callB_of 1 hT (tb_gd w143) rfl rfl rfl (hT _ w5) (hT _ w141) hW_init ⟨Nat.le_of_ble_eq_true rfl, Nat.le_of_ble_eq_true rfl⟩, rfl, (hT _ w142)⟩ (RW.preS hZ hS (va_free (wc := [(q14_30, .inr (4, [.null, .int 0, .int 0]))]) hD hS hA [1] rfl) (hP.sub (ws' := [(q14_30, .inr (4, [.null, .int 0, .int 0]))]) [1] rfl) hK (hD.sub (ws' := [(q14_30, .inr (4, [.null, .int 0, .int 0]))]) [1] (by decide) rfl)) rfl rfl hl.1 rfl (lv_room (Nat.le_of_ble_eq_true rfl)) dR_wholes_20 ⟨Nat.le_of_ble_eq_true rfl, Nat.le_of_ble_eq_true rfl⟩) (fun u92 H locs hpu92 hP hD hS => ?_)
  generalize u92 0 = u92x0 at hP hD
  have hP : va_P D vwCl [(q1, .inl (cT 4, 48, .inr (.inr (.inr (.inr fg90))))), (q14_30, .inr (4, [.ref u92x0, .int 0, .int 0])), (u92x0, .inl (cT 0, 24, .inl (fun _ => 0)))] H := hP
  have hD : va_D A [(q1, .inl (cT 4, 48, .inr (.inr (.inr (.inr fg90))))), (q14_30, .inr (4, [.ref u92x0, .int 0, .int 0])), (u92x0, .inl (cT 0, 24, .inl (fun _ => 0)))] := hD
  refine va_astq hx hb hK hP hD hS 0 4 1 4 rfl rfl rfl rfl (by unfold vp_in; decide) dR_wholes_23 (fun H locs hP hD hS => ?_)
  have hP : va_P D vwCl [(q1, .inl (cT 4, 48, .inr (.inr (.inr (.inr (va_up fg90 30 (some q14_30))))))), (q14_30, .inr (4, [.ref u92x0, .int 0, .int 0])), (u92x0, .inl (cT 0, 24, .inl (fun _ => 0)))] H := hP
  have hD : va_D A [(q1, .inl (cT 4, 48, .inr (.inr (.inr (.inr (va_up fg90 30 (some q14_30))))))), (q14_30, .inr (4, [.ref u92x0, .int 0, .int 0])), (u92x0, .inl (cT 0, 24, .inl (fun _ => 0)))] := hD
  have hP := hP.sub (ws' := [(q1, .inl (cT 4, 48, .inr (.inr (.inr (.inr (va_up fg90 30 (some q14_30)))))))]) [0] rfl
  have hD := hD.sub (ws' := [(q1, .inl (cT 4, 48, .inr (.inr (.inr (.inr (va_up fg90 30 (some q14_30)))))))]) [0] (by decide) rfl
  generalize va_up fg90 30 (some q14_30) = fg93 at hP hD
  refine lv_iinc (k := 0) (v := 31) hx hb dR_wholes_24 hl rfl (by decide) (by decide) rfl (fun ls hl => ?_)
  have hl : lv_has ls 3 [(2, .int 31), (1, .ref q1), (0, .int 48)] := hl
  refine lv_goto (tgt := 7) hx hb dR_wholes_27 rfl ?_
  refine lv_iload_n hx hb dR_wholes_7 rfl (lv_at hl 0 rfl) ?_
  refine lv_iload_n hx hb dR_wholes_8 rfl (lv_at hl 2 rfl) ?_
  refine lv_icmp_ge (tgt := 30) hx hb dR_wholes_9 rfl (fun h94 => absurd h94 (by decide)) (fun _ => ?_)
  refine lv_aload_n hx hb dR_wholes_12 rfl (lv_at hl 1 rfl) ?_
  refine lv_iload_n hx hb dR_wholes_13 rfl (lv_at hl 0 rfl) ?_
  refine va_new (ci := 4) (fs := [.null, .int 0, .int 0]) (C := R_W) (T := T_W) (N := 3) hx hb hT in_W ty_W ty_W_ok hown (hT _ w138) (hT _ w140) (hT _ w5) hK hP hD hS hA rfl (fun j hj => match j, hj with | 0, _ => rfl | 1, _ => rfl | 2, _ => rfl | _ + 3, hj => absurd hj (by omega)) (Nat.le_of_ble_eq_true rfl) (Nat.le_of_ble_eq_true rfl) dR_wholes_14 (fun q14_31 H hP hD hS => ?_)
  have hP : va_P D vwCl [(q1, .inl (cT 4, 48, .inr (.inr (.inr (.inr fg93))))), (q14_31, .inr (4, [.null, .int 0, .int 0]))] H := hP
  have hD : va_D A [(q1, .inl (cT 4, 48, .inr (.inr (.inr (.inr fg93))))), (q14_31, .inr (4, [.null, .int 0, .int 0]))] := hD
  refine lv_dup hx hb dR_wholes_17 rfl ?_
  refine lv_bipush (v := 24) hx hb dR_wholes_18 (by decide) ?_
  refine rw_v (wc := [(q14_31, .inr (4, [.null, .int 0, .int 0]))]) (wr := [(q1, .inl (cT 4, 48, .inr (.inr (.inr (.inr fg93)))))]) hP hD hS hA [1] [0] rfl rfl (by decide) (by decide) (va_runI (As := [.int 24]) (rest := [.ref q14_31, .int 31, .ref q1]) ⟨hx, hb, hml, hown, hT⟩ (k_Whole24 l D cT q14_31 _) ⟨callB_of 1 hT (tb_gd w143) rfl rfl rfl (hT _ w5) (hT _ w141) hW_init ⟨Nat.le_of_ble_eq_true rfl, Nat.le_of_ble_eq_true rfl⟩, rfl, (hT _ w142)⟩ (RW.preS hZ hS (va_free (wc := [(q14_31, .inr (4, [.null, .int 0, .int 0]))]) hD hS hA [1] rfl) (hP.sub (ws' := [(q14_31, .inr (4, [.null, .int 0, .int 0]))]) [1] rfl) hK (hD.sub (ws' := [(q14_31, .inr (4, [.null, .int 0, .int 0]))]) [1] (by decide) rfl)) rfl rfl hl.1 rfl (lv_room (Nat.le_of_ble_eq_true rfl)) dR_wholes_20 ⟨Nat.le_of_ble_eq_true rfl, Nat.le_of_ble_eq_true rfl⟩) (fun u95 H locs hpu95 hP hD hS => ?_)
  generalize u95 0 = u95x0 at hP hD
  have hP : va_P D vwCl [(q1, .inl (cT 4, 48, .inr (.inr (.inr (.inr fg93))))), (q14_31, .inr (4, [.ref u95x0, .int 0, .int 0])), (u95x0, .inl (cT 0, 24, .inl (fun _ => 0)))] H := hP
  have hD : va_D A [(q1, .inl (cT 4, 48, .inr (.inr (.inr (.inr fg93))))), (q14_31, .inr (4, [.ref u95x0, .int 0, .int 0])), (u95x0, .inl (cT 0, 24, .inl (fun _ => 0)))] := hD
  refine va_astq hx hb hK hP hD hS 0 4 1 4 rfl rfl rfl rfl (by unfold vp_in; decide) dR_wholes_23 (fun H locs hP hD hS => ?_)
  have hP : va_P D vwCl [(q1, .inl (cT 4, 48, .inr (.inr (.inr (.inr (va_up fg93 31 (some q14_31))))))), (q14_31, .inr (4, [.ref u95x0, .int 0, .int 0])), (u95x0, .inl (cT 0, 24, .inl (fun _ => 0)))] H := hP
  have hD : va_D A [(q1, .inl (cT 4, 48, .inr (.inr (.inr (.inr (va_up fg93 31 (some q14_31))))))), (q14_31, .inr (4, [.ref u95x0, .int 0, .int 0])), (u95x0, .inl (cT 0, 24, .inl (fun _ => 0)))] := hD
  have hP := hP.sub (ws' := [(q1, .inl (cT 4, 48, .inr (.inr (.inr (.inr (va_up fg93 31 (some q14_31)))))))]) [0] rfl
  have hD := hD.sub (ws' := [(q1, .inl (cT 4, 48, .inr (.inr (.inr (.inr (va_up fg93 31 (some q14_31)))))))]) [0] (by decide) rfl
  generalize va_up fg93 31 (some q14_31) = fg96 at hP hD
  refine lv_iinc (k := 0) (v := 32) hx hb dR_wholes_24 hl rfl (by decide) (by decide) rfl (fun ls hl => ?_)
  have hl : lv_has ls 3 [(2, .int 32), (1, .ref q1), (0, .int 48)] := hl
  refine lv_goto (tgt := 7) hx hb dR_wholes_27 rfl ?_
  refine lv_iload_n hx hb dR_wholes_7 rfl (lv_at hl 0 rfl) ?_
  refine lv_iload_n hx hb dR_wholes_8 rfl (lv_at hl 2 rfl) ?_
  refine lv_icmp_ge (tgt := 30) hx hb dR_wholes_9 rfl (fun h97 => absurd h97 (by decide)) (fun _ => ?_)
  refine lv_aload_n hx hb dR_wholes_12 rfl (lv_at hl 1 rfl) ?_
  refine lv_iload_n hx hb dR_wholes_13 rfl (lv_at hl 0 rfl) ?_
  refine va_new (ci := 4) (fs := [.null, .int 0, .int 0]) (C := R_W) (T := T_W) (N := 3) hx hb hT in_W ty_W ty_W_ok hown (hT _ w138) (hT _ w140) (hT _ w5) hK hP hD hS hA rfl (fun j hj => match j, hj with | 0, _ => rfl | 1, _ => rfl | 2, _ => rfl | _ + 3, hj => absurd hj (by omega)) (Nat.le_of_ble_eq_true rfl) (Nat.le_of_ble_eq_true rfl) dR_wholes_14 (fun q14_32 H hP hD hS => ?_)
  have hP : va_P D vwCl [(q1, .inl (cT 4, 48, .inr (.inr (.inr (.inr fg96))))), (q14_32, .inr (4, [.null, .int 0, .int 0]))] H := hP
  have hD : va_D A [(q1, .inl (cT 4, 48, .inr (.inr (.inr (.inr fg96))))), (q14_32, .inr (4, [.null, .int 0, .int 0]))] := hD
  refine lv_dup hx hb dR_wholes_17 rfl ?_
  refine lv_bipush (v := 24) hx hb dR_wholes_18 (by decide) ?_
  refine rw_v (wc := [(q14_32, .inr (4, [.null, .int 0, .int 0]))]) (wr := [(q1, .inl (cT 4, 48, .inr (.inr (.inr (.inr fg96)))))]) hP hD hS hA [1] [0] rfl rfl (by decide) (by decide) (va_runI (As := [.int 24]) (rest := [.ref q14_32, .int 32, .ref q1]) ⟨hx, hb, hml, hown, hT⟩ (k_Whole24 l D cT q14_32 _) ⟨callB_of 1 hT (tb_gd w143) rfl rfl rfl (hT _ w5) (hT _ w141) hW_init ⟨Nat.le_of_ble_eq_true rfl, Nat.le_of_ble_eq_true rfl⟩, rfl, (hT _ w142)⟩ (RW.preS hZ hS (va_free (wc := [(q14_32, .inr (4, [.null, .int 0, .int 0]))]) hD hS hA [1] rfl) (hP.sub (ws' := [(q14_32, .inr (4, [.null, .int 0, .int 0]))]) [1] rfl) hK (hD.sub (ws' := [(q14_32, .inr (4, [.null, .int 0, .int 0]))]) [1] (by decide) rfl)) rfl rfl hl.1 rfl (lv_room (Nat.le_of_ble_eq_true rfl)) dR_wholes_20 ⟨Nat.le_of_ble_eq_true rfl, Nat.le_of_ble_eq_true rfl⟩) (fun u98 H locs hpu98 hP hD hS => ?_)
  generalize u98 0 = u98x0 at hP hD
  have hP : va_P D vwCl [(q1, .inl (cT 4, 48, .inr (.inr (.inr (.inr fg96))))), (q14_32, .inr (4, [.ref u98x0, .int 0, .int 0])), (u98x0, .inl (cT 0, 24, .inl (fun _ => 0)))] H := hP
  have hD : va_D A [(q1, .inl (cT 4, 48, .inr (.inr (.inr (.inr fg96))))), (q14_32, .inr (4, [.ref u98x0, .int 0, .int 0])), (u98x0, .inl (cT 0, 24, .inl (fun _ => 0)))] := hD
  refine va_astq hx hb hK hP hD hS 0 4 1 4 rfl rfl rfl rfl (by unfold vp_in; decide) dR_wholes_23 (fun H locs hP hD hS => ?_)
  have hP : va_P D vwCl [(q1, .inl (cT 4, 48, .inr (.inr (.inr (.inr (va_up fg96 32 (some q14_32))))))), (q14_32, .inr (4, [.ref u98x0, .int 0, .int 0])), (u98x0, .inl (cT 0, 24, .inl (fun _ => 0)))] H := hP
  have hD : va_D A [(q1, .inl (cT 4, 48, .inr (.inr (.inr (.inr (va_up fg96 32 (some q14_32))))))), (q14_32, .inr (4, [.ref u98x0, .int 0, .int 0])), (u98x0, .inl (cT 0, 24, .inl (fun _ => 0)))] := hD
  have hP := hP.sub (ws' := [(q1, .inl (cT 4, 48, .inr (.inr (.inr (.inr (va_up fg96 32 (some q14_32)))))))]) [0] rfl
  have hD := hD.sub (ws' := [(q1, .inl (cT 4, 48, .inr (.inr (.inr (.inr (va_up fg96 32 (some q14_32)))))))]) [0] (by decide) rfl
  generalize va_up fg96 32 (some q14_32) = fg99 at hP hD
  refine lv_iinc (k := 0) (v := 33) hx hb dR_wholes_24 hl rfl (by decide) (by decide) rfl (fun ls hl => ?_)
  have hl : lv_has ls 3 [(2, .int 33), (1, .ref q1), (0, .int 48)] := hl
  refine lv_goto (tgt := 7) hx hb dR_wholes_27 rfl ?_
  refine lv_iload_n hx hb dR_wholes_7 rfl (lv_at hl 0 rfl) ?_
  refine lv_iload_n hx hb dR_wholes_8 rfl (lv_at hl 2 rfl) ?_
  refine lv_icmp_ge (tgt := 30) hx hb dR_wholes_9 rfl (fun h100 => absurd h100 (by decide)) (fun _ => ?_)
  refine lv_aload_n hx hb dR_wholes_12 rfl (lv_at hl 1 rfl) ?_
  refine lv_iload_n hx hb dR_wholes_13 rfl (lv_at hl 0 rfl) ?_
  refine va_new (ci := 4) (fs := [.null, .int 0, .int 0]) (C := R_W) (T := T_W) (N := 3) hx hb hT in_W ty_W ty_W_ok hown (hT _ w138) (hT _ w140) (hT _ w5) hK hP hD hS hA rfl (fun j hj => match j, hj with | 0, _ => rfl | 1, _ => rfl | 2, _ => rfl | _ + 3, hj => absurd hj (by omega)) (Nat.le_of_ble_eq_true rfl) (Nat.le_of_ble_eq_true rfl) dR_wholes_14 (fun q14_33 H hP hD hS => ?_)
  have hP : va_P D vwCl [(q1, .inl (cT 4, 48, .inr (.inr (.inr (.inr fg99))))), (q14_33, .inr (4, [.null, .int 0, .int 0]))] H := hP
  have hD : va_D A [(q1, .inl (cT 4, 48, .inr (.inr (.inr (.inr fg99))))), (q14_33, .inr (4, [.null, .int 0, .int 0]))] := hD
  refine lv_dup hx hb dR_wholes_17 rfl ?_
  refine lv_bipush (v := 24) hx hb dR_wholes_18 (by decide) ?_
  refine rw_v (wc := [(q14_33, .inr (4, [.null, .int 0, .int 0]))]) (wr := [(q1, .inl (cT 4, 48, .inr (.inr (.inr (.inr fg99)))))]) hP hD hS hA [1] [0] rfl rfl (by decide) (by decide) (va_runI (As := [.int 24]) (rest := [.ref q14_33, .int 33, .ref q1]) ⟨hx, hb, hml, hown, hT⟩ (k_Whole24 l D cT q14_33 _) ⟨callB_of 1 hT (tb_gd w143) rfl rfl rfl (hT _ w5) (hT _ w141) hW_init ⟨Nat.le_of_ble_eq_true rfl, Nat.le_of_ble_eq_true rfl⟩, rfl, (hT _ w142)⟩ (RW.preS hZ hS (va_free (wc := [(q14_33, .inr (4, [.null, .int 0, .int 0]))]) hD hS hA [1] rfl) (hP.sub (ws' := [(q14_33, .inr (4, [.null, .int 0, .int 0]))]) [1] rfl) hK (hD.sub (ws' := [(q14_33, .inr (4, [.null, .int 0, .int 0]))]) [1] (by decide) rfl)) rfl rfl hl.1 rfl (lv_room (Nat.le_of_ble_eq_true rfl)) dR_wholes_20 ⟨Nat.le_of_ble_eq_true rfl, Nat.le_of_ble_eq_true rfl⟩) (fun u101 H locs hpu101 hP hD hS => ?_)
  generalize u101 0 = u101x0 at hP hD
  have hP : va_P D vwCl [(q1, .inl (cT 4, 48, .inr (.inr (.inr (.inr fg99))))), (q14_33, .inr (4, [.ref u101x0, .int 0, .int 0])), (u101x0, .inl (cT 0, 24, .inl (fun _ => 0)))] H := hP
  have hD : va_D A [(q1, .inl (cT 4, 48, .inr (.inr (.inr (.inr fg99))))), (q14_33, .inr (4, [.ref u101x0, .int 0, .int 0])), (u101x0, .inl (cT 0, 24, .inl (fun _ => 0)))] := hD
  refine va_astq hx hb hK hP hD hS 0 4 1 4 rfl rfl rfl rfl (by unfold vp_in; decide) dR_wholes_23 (fun H locs hP hD hS => ?_)
  have hP : va_P D vwCl [(q1, .inl (cT 4, 48, .inr (.inr (.inr (.inr (va_up fg99 33 (some q14_33))))))), (q14_33, .inr (4, [.ref u101x0, .int 0, .int 0])), (u101x0, .inl (cT 0, 24, .inl (fun _ => 0)))] H := hP
  have hD : va_D A [(q1, .inl (cT 4, 48, .inr (.inr (.inr (.inr (va_up fg99 33 (some q14_33))))))), (q14_33, .inr (4, [.ref u101x0, .int 0, .int 0])), (u101x0, .inl (cT 0, 24, .inl (fun _ => 0)))] := hD
  have hP := hP.sub (ws' := [(q1, .inl (cT 4, 48, .inr (.inr (.inr (.inr (va_up fg99 33 (some q14_33)))))))]) [0] rfl
  have hD := hD.sub (ws' := [(q1, .inl (cT 4, 48, .inr (.inr (.inr (.inr (va_up fg99 33 (some q14_33)))))))]) [0] (by decide) rfl
  generalize va_up fg99 33 (some q14_33) = fg102 at hP hD
  refine lv_iinc (k := 0) (v := 34) hx hb dR_wholes_24 hl rfl (by decide) (by decide) rfl (fun ls hl => ?_)
  have hl : lv_has ls 3 [(2, .int 34), (1, .ref q1), (0, .int 48)] := hl
  refine lv_goto (tgt := 7) hx hb dR_wholes_27 rfl ?_
  refine lv_iload_n hx hb dR_wholes_7 rfl (lv_at hl 0 rfl) ?_
  refine lv_iload_n hx hb dR_wholes_8 rfl (lv_at hl 2 rfl) ?_
  refine lv_icmp_ge (tgt := 30) hx hb dR_wholes_9 rfl (fun h103 => absurd h103 (by decide)) (fun _ => ?_)
  refine lv_aload_n hx hb dR_wholes_12 rfl (lv_at hl 1 rfl) ?_
  refine lv_iload_n hx hb dR_wholes_13 rfl (lv_at hl 0 rfl) ?_
  refine va_new (ci := 4) (fs := [.null, .int 0, .int 0]) (C := R_W) (T := T_W) (N := 3) hx hb hT in_W ty_W ty_W_ok hown (hT _ w138) (hT _ w140) (hT _ w5) hK hP hD hS hA rfl (fun j hj => match j, hj with | 0, _ => rfl | 1, _ => rfl | 2, _ => rfl | _ + 3, hj => absurd hj (by omega)) (Nat.le_of_ble_eq_true rfl) (Nat.le_of_ble_eq_true rfl) dR_wholes_14 (fun q14_34 H hP hD hS => ?_)
  have hP : va_P D vwCl [(q1, .inl (cT 4, 48, .inr (.inr (.inr (.inr fg102))))), (q14_34, .inr (4, [.null, .int 0, .int 0]))] H := hP
  have hD : va_D A [(q1, .inl (cT 4, 48, .inr (.inr (.inr (.inr fg102))))), (q14_34, .inr (4, [.null, .int 0, .int 0]))] := hD
  refine lv_dup hx hb dR_wholes_17 rfl ?_
  refine lv_bipush (v := 24) hx hb dR_wholes_18 (by decide) ?_
  refine rw_v (wc := [(q14_34, .inr (4, [.null, .int 0, .int 0]))]) (wr := [(q1, .inl (cT 4, 48, .inr (.inr (.inr (.inr fg102)))))]) hP hD hS hA [1] [0] rfl rfl (by decide) (by decide) (va_runI (As := [.int 24]) (rest := [.ref q14_34, .int 34, .ref q1]) ⟨hx, hb, hml, hown, hT⟩ (k_Whole24 l D cT q14_34 _) ⟨callB_of 1 hT (tb_gd w143) rfl rfl rfl (hT _ w5) (hT _ w141) hW_init ⟨Nat.le_of_ble_eq_true rfl, Nat.le_of_ble_eq_true rfl⟩, rfl, (hT _ w142)⟩ (RW.preS hZ hS (va_free (wc := [(q14_34, .inr (4, [.null, .int 0, .int 0]))]) hD hS hA [1] rfl) (hP.sub (ws' := [(q14_34, .inr (4, [.null, .int 0, .int 0]))]) [1] rfl) hK (hD.sub (ws' := [(q14_34, .inr (4, [.null, .int 0, .int 0]))]) [1] (by decide) rfl)) rfl rfl hl.1 rfl (lv_room (Nat.le_of_ble_eq_true rfl)) dR_wholes_20 ⟨Nat.le_of_ble_eq_true rfl, Nat.le_of_ble_eq_true rfl⟩) (fun u104 H locs hpu104 hP hD hS => ?_)
  generalize u104 0 = u104x0 at hP hD
  have hP : va_P D vwCl [(q1, .inl (cT 4, 48, .inr (.inr (.inr (.inr fg102))))), (q14_34, .inr (4, [.ref u104x0, .int 0, .int 0])), (u104x0, .inl (cT 0, 24, .inl (fun _ => 0)))] H := hP
  have hD : va_D A [(q1, .inl (cT 4, 48, .inr (.inr (.inr (.inr fg102))))), (q14_34, .inr (4, [.ref u104x0, .int 0, .int 0])), (u104x0, .inl (cT 0, 24, .inl (fun _ => 0)))] := hD
  refine va_astq hx hb hK hP hD hS 0 4 1 4 rfl rfl rfl rfl (by unfold vp_in; decide) dR_wholes_23 (fun H locs hP hD hS => ?_)
  have hP : va_P D vwCl [(q1, .inl (cT 4, 48, .inr (.inr (.inr (.inr (va_up fg102 34 (some q14_34))))))), (q14_34, .inr (4, [.ref u104x0, .int 0, .int 0])), (u104x0, .inl (cT 0, 24, .inl (fun _ => 0)))] H := hP
  have hD : va_D A [(q1, .inl (cT 4, 48, .inr (.inr (.inr (.inr (va_up fg102 34 (some q14_34))))))), (q14_34, .inr (4, [.ref u104x0, .int 0, .int 0])), (u104x0, .inl (cT 0, 24, .inl (fun _ => 0)))] := hD
  have hP := hP.sub (ws' := [(q1, .inl (cT 4, 48, .inr (.inr (.inr (.inr (va_up fg102 34 (some q14_34)))))))]) [0] rfl
  have hD := hD.sub (ws' := [(q1, .inl (cT 4, 48, .inr (.inr (.inr (.inr (va_up fg102 34 (some q14_34)))))))]) [0] (by decide) rfl
  generalize va_up fg102 34 (some q14_34) = fg105 at hP hD
  refine lv_iinc (k := 0) (v := 35) hx hb dR_wholes_24 hl rfl (by decide) (by decide) rfl (fun ls hl => ?_)
  have hl : lv_has ls 3 [(2, .int 35), (1, .ref q1), (0, .int 48)] := hl
  refine lv_goto (tgt := 7) hx hb dR_wholes_27 rfl ?_
  refine lv_iload_n hx hb dR_wholes_7 rfl (lv_at hl 0 rfl) ?_
  refine lv_iload_n hx hb dR_wholes_8 rfl (lv_at hl 2 rfl) ?_
  refine lv_icmp_ge (tgt := 30) hx hb dR_wholes_9 rfl (fun h106 => absurd h106 (by decide)) (fun _ => ?_)
  refine lv_aload_n hx hb dR_wholes_12 rfl (lv_at hl 1 rfl) ?_
  refine lv_iload_n hx hb dR_wholes_13 rfl (lv_at hl 0 rfl) ?_
  refine va_new (ci := 4) (fs := [.null, .int 0, .int 0]) (C := R_W) (T := T_W) (N := 3) hx hb hT in_W ty_W ty_W_ok hown (hT _ w138) (hT _ w140) (hT _ w5) hK hP hD hS hA rfl (fun j hj => match j, hj with | 0, _ => rfl | 1, _ => rfl | 2, _ => rfl | _ + 3, hj => absurd hj (by omega)) (Nat.le_of_ble_eq_true rfl) (Nat.le_of_ble_eq_true rfl) dR_wholes_14 (fun q14_35 H hP hD hS => ?_)
  have hP : va_P D vwCl [(q1, .inl (cT 4, 48, .inr (.inr (.inr (.inr fg105))))), (q14_35, .inr (4, [.null, .int 0, .int 0]))] H := hP
  have hD : va_D A [(q1, .inl (cT 4, 48, .inr (.inr (.inr (.inr fg105))))), (q14_35, .inr (4, [.null, .int 0, .int 0]))] := hD
  refine lv_dup hx hb dR_wholes_17 rfl ?_
  refine lv_bipush (v := 24) hx hb dR_wholes_18 (by decide) ?_
  refine rw_v (wc := [(q14_35, .inr (4, [.null, .int 0, .int 0]))]) (wr := [(q1, .inl (cT 4, 48, .inr (.inr (.inr (.inr fg105)))))]) hP hD hS hA [1] [0] rfl rfl (by decide) (by decide) (va_runI (As := [.int 24]) (rest := [.ref q14_35, .int 35, .ref q1]) ⟨hx, hb, hml, hown, hT⟩ (k_Whole24 l D cT q14_35 _) ⟨callB_of 1 hT (tb_gd w143) rfl rfl rfl (hT _ w5) (hT _ w141) hW_init ⟨Nat.le_of_ble_eq_true rfl, Nat.le_of_ble_eq_true rfl⟩, rfl, (hT _ w142)⟩ (RW.preS hZ hS (va_free (wc := [(q14_35, .inr (4, [.null, .int 0, .int 0]))]) hD hS hA [1] rfl) (hP.sub (ws' := [(q14_35, .inr (4, [.null, .int 0, .int 0]))]) [1] rfl) hK (hD.sub (ws' := [(q14_35, .inr (4, [.null, .int 0, .int 0]))]) [1] (by decide) rfl)) rfl rfl hl.1 rfl (lv_room (Nat.le_of_ble_eq_true rfl)) dR_wholes_20 ⟨Nat.le_of_ble_eq_true rfl, Nat.le_of_ble_eq_true rfl⟩) (fun u107 H locs hpu107 hP hD hS => ?_)
  generalize u107 0 = u107x0 at hP hD
  have hP : va_P D vwCl [(q1, .inl (cT 4, 48, .inr (.inr (.inr (.inr fg105))))), (q14_35, .inr (4, [.ref u107x0, .int 0, .int 0])), (u107x0, .inl (cT 0, 24, .inl (fun _ => 0)))] H := hP
  have hD : va_D A [(q1, .inl (cT 4, 48, .inr (.inr (.inr (.inr fg105))))), (q14_35, .inr (4, [.ref u107x0, .int 0, .int 0])), (u107x0, .inl (cT 0, 24, .inl (fun _ => 0)))] := hD
  refine va_astq hx hb hK hP hD hS 0 4 1 4 rfl rfl rfl rfl (by unfold vp_in; decide) dR_wholes_23 (fun H locs hP hD hS => ?_)
  have hP : va_P D vwCl [(q1, .inl (cT 4, 48, .inr (.inr (.inr (.inr (va_up fg105 35 (some q14_35))))))), (q14_35, .inr (4, [.ref u107x0, .int 0, .int 0])), (u107x0, .inl (cT 0, 24, .inl (fun _ => 0)))] H := hP
  have hD : va_D A [(q1, .inl (cT 4, 48, .inr (.inr (.inr (.inr (va_up fg105 35 (some q14_35))))))), (q14_35, .inr (4, [.ref u107x0, .int 0, .int 0])), (u107x0, .inl (cT 0, 24, .inl (fun _ => 0)))] := hD
  have hP := hP.sub (ws' := [(q1, .inl (cT 4, 48, .inr (.inr (.inr (.inr (va_up fg105 35 (some q14_35)))))))]) [0] rfl
  have hD := hD.sub (ws' := [(q1, .inl (cT 4, 48, .inr (.inr (.inr (.inr (va_up fg105 35 (some q14_35)))))))]) [0] (by decide) rfl
  generalize va_up fg105 35 (some q14_35) = fg108 at hP hD
  refine lv_iinc (k := 0) (v := 36) hx hb dR_wholes_24 hl rfl (by decide) (by decide) rfl (fun ls hl => ?_)
  have hl : lv_has ls 3 [(2, .int 36), (1, .ref q1), (0, .int 48)] := hl
  refine lv_goto (tgt := 7) hx hb dR_wholes_27 rfl ?_
  refine lv_iload_n hx hb dR_wholes_7 rfl (lv_at hl 0 rfl) ?_
  refine lv_iload_n hx hb dR_wholes_8 rfl (lv_at hl 2 rfl) ?_
  refine lv_icmp_ge (tgt := 30) hx hb dR_wholes_9 rfl (fun h109 => absurd h109 (by decide)) (fun _ => ?_)
  refine lv_aload_n hx hb dR_wholes_12 rfl (lv_at hl 1 rfl) ?_
  refine lv_iload_n hx hb dR_wholes_13 rfl (lv_at hl 0 rfl) ?_
  refine va_new (ci := 4) (fs := [.null, .int 0, .int 0]) (C := R_W) (T := T_W) (N := 3) hx hb hT in_W ty_W ty_W_ok hown (hT _ w138) (hT _ w140) (hT _ w5) hK hP hD hS hA rfl (fun j hj => match j, hj with | 0, _ => rfl | 1, _ => rfl | 2, _ => rfl | _ + 3, hj => absurd hj (by omega)) (Nat.le_of_ble_eq_true rfl) (Nat.le_of_ble_eq_true rfl) dR_wholes_14 (fun q14_36 H hP hD hS => ?_)
  have hP : va_P D vwCl [(q1, .inl (cT 4, 48, .inr (.inr (.inr (.inr fg108))))), (q14_36, .inr (4, [.null, .int 0, .int 0]))] H := hP
  have hD : va_D A [(q1, .inl (cT 4, 48, .inr (.inr (.inr (.inr fg108))))), (q14_36, .inr (4, [.null, .int 0, .int 0]))] := hD
  refine lv_dup hx hb dR_wholes_17 rfl ?_
  refine lv_bipush (v := 24) hx hb dR_wholes_18 (by decide) ?_
  refine rw_v (wc := [(q14_36, .inr (4, [.null, .int 0, .int 0]))]) (wr := [(q1, .inl (cT 4, 48, .inr (.inr (.inr (.inr fg108)))))]) hP hD hS hA [1] [0] rfl rfl (by decide) (by decide) (va_runI (As := [.int 24]) (rest := [.ref q14_36, .int 36, .ref q1]) ⟨hx, hb, hml, hown, hT⟩ (k_Whole24 l D cT q14_36 _) ⟨callB_of 1 hT (tb_gd w143) rfl rfl rfl (hT _ w5) (hT _ w141) hW_init ⟨Nat.le_of_ble_eq_true rfl, Nat.le_of_ble_eq_true rfl⟩, rfl, (hT _ w142)⟩ (RW.preS hZ hS (va_free (wc := [(q14_36, .inr (4, [.null, .int 0, .int 0]))]) hD hS hA [1] rfl) (hP.sub (ws' := [(q14_36, .inr (4, [.null, .int 0, .int 0]))]) [1] rfl) hK (hD.sub (ws' := [(q14_36, .inr (4, [.null, .int 0, .int 0]))]) [1] (by decide) rfl)) rfl rfl hl.1 rfl (lv_room (Nat.le_of_ble_eq_true rfl)) dR_wholes_20 ⟨Nat.le_of_ble_eq_true rfl, Nat.le_of_ble_eq_true rfl⟩) (fun u110 H locs hpu110 hP hD hS => ?_)
  generalize u110 0 = u110x0 at hP hD
  have hP : va_P D vwCl [(q1, .inl (cT 4, 48, .inr (.inr (.inr (.inr fg108))))), (q14_36, .inr (4, [.ref u110x0, .int 0, .int 0])), (u110x0, .inl (cT 0, 24, .inl (fun _ => 0)))] H := hP
  have hD : va_D A [(q1, .inl (cT 4, 48, .inr (.inr (.inr (.inr fg108))))), (q14_36, .inr (4, [.ref u110x0, .int 0, .int 0])), (u110x0, .inl (cT 0, 24, .inl (fun _ => 0)))] := hD
  refine va_astq hx hb hK hP hD hS 0 4 1 4 rfl rfl rfl rfl (by unfold vp_in; decide) dR_wholes_23 (fun H locs hP hD hS => ?_)
  have hP : va_P D vwCl [(q1, .inl (cT 4, 48, .inr (.inr (.inr (.inr (va_up fg108 36 (some q14_36))))))), (q14_36, .inr (4, [.ref u110x0, .int 0, .int 0])), (u110x0, .inl (cT 0, 24, .inl (fun _ => 0)))] H := hP
  have hD : va_D A [(q1, .inl (cT 4, 48, .inr (.inr (.inr (.inr (va_up fg108 36 (some q14_36))))))), (q14_36, .inr (4, [.ref u110x0, .int 0, .int 0])), (u110x0, .inl (cT 0, 24, .inl (fun _ => 0)))] := hD
  have hP := hP.sub (ws' := [(q1, .inl (cT 4, 48, .inr (.inr (.inr (.inr (va_up fg108 36 (some q14_36)))))))]) [0] rfl
  have hD := hD.sub (ws' := [(q1, .inl (cT 4, 48, .inr (.inr (.inr (.inr (va_up fg108 36 (some q14_36)))))))]) [0] (by decide) rfl
  generalize va_up fg108 36 (some q14_36) = fg111 at hP hD
  refine lv_iinc (k := 0) (v := 37) hx hb dR_wholes_24 hl rfl (by decide) (by decide) rfl (fun ls hl => ?_)
  have hl : lv_has ls 3 [(2, .int 37), (1, .ref q1), (0, .int 48)] := hl
  refine lv_goto (tgt := 7) hx hb dR_wholes_27 rfl ?_
  refine lv_iload_n hx hb dR_wholes_7 rfl (lv_at hl 0 rfl) ?_
  refine lv_iload_n hx hb dR_wholes_8 rfl (lv_at hl 2 rfl) ?_
  refine lv_icmp_ge (tgt := 30) hx hb dR_wholes_9 rfl (fun h112 => absurd h112 (by decide)) (fun _ => ?_)
  refine lv_aload_n hx hb dR_wholes_12 rfl (lv_at hl 1 rfl) ?_
  refine lv_iload_n hx hb dR_wholes_13 rfl (lv_at hl 0 rfl) ?_
  refine va_new (ci := 4) (fs := [.null, .int 0, .int 0]) (C := R_W) (T := T_W) (N := 3) hx hb hT in_W ty_W ty_W_ok hown (hT _ w138) (hT _ w140) (hT _ w5) hK hP hD hS hA rfl (fun j hj => match j, hj with | 0, _ => rfl | 1, _ => rfl | 2, _ => rfl | _ + 3, hj => absurd hj (by omega)) (Nat.le_of_ble_eq_true rfl) (Nat.le_of_ble_eq_true rfl) dR_wholes_14 (fun q14_37 H hP hD hS => ?_)
  have hP : va_P D vwCl [(q1, .inl (cT 4, 48, .inr (.inr (.inr (.inr fg111))))), (q14_37, .inr (4, [.null, .int 0, .int 0]))] H := hP
  have hD : va_D A [(q1, .inl (cT 4, 48, .inr (.inr (.inr (.inr fg111))))), (q14_37, .inr (4, [.null, .int 0, .int 0]))] := hD
  refine lv_dup hx hb dR_wholes_17 rfl ?_
  refine lv_bipush (v := 24) hx hb dR_wholes_18 (by decide) ?_
  refine rw_v (wc := [(q14_37, .inr (4, [.null, .int 0, .int 0]))]) (wr := [(q1, .inl (cT 4, 48, .inr (.inr (.inr (.inr fg111)))))]) hP hD hS hA [1] [0] rfl rfl (by decide) (by decide) (va_runI (As := [.int 24]) (rest := [.ref q14_37, .int 37, .ref q1]) ⟨hx, hb, hml, hown, hT⟩ (k_Whole24 l D cT q14_37 _) ⟨callB_of 1 hT (tb_gd w143) rfl rfl rfl (hT _ w5) (hT _ w141) hW_init ⟨Nat.le_of_ble_eq_true rfl, Nat.le_of_ble_eq_true rfl⟩, rfl, (hT _ w142)⟩ (RW.preS hZ hS (va_free (wc := [(q14_37, .inr (4, [.null, .int 0, .int 0]))]) hD hS hA [1] rfl) (hP.sub (ws' := [(q14_37, .inr (4, [.null, .int 0, .int 0]))]) [1] rfl) hK (hD.sub (ws' := [(q14_37, .inr (4, [.null, .int 0, .int 0]))]) [1] (by decide) rfl)) rfl rfl hl.1 rfl (lv_room (Nat.le_of_ble_eq_true rfl)) dR_wholes_20 ⟨Nat.le_of_ble_eq_true rfl, Nat.le_of_ble_eq_true rfl⟩) (fun u113 H locs hpu113 hP hD hS => ?_)
  generalize u113 0 = u113x0 at hP hD
  have hP : va_P D vwCl [(q1, .inl (cT 4, 48, .inr (.inr (.inr (.inr fg111))))), (q14_37, .inr (4, [.ref u113x0, .int 0, .int 0])), (u113x0, .inl (cT 0, 24, .inl (fun _ => 0)))] H := hP
  have hD : va_D A [(q1, .inl (cT 4, 48, .inr (.inr (.inr (.inr fg111))))), (q14_37, .inr (4, [.ref u113x0, .int 0, .int 0])), (u113x0, .inl (cT 0, 24, .inl (fun _ => 0)))] := hD
  refine va_astq hx hb hK hP hD hS 0 4 1 4 rfl rfl rfl rfl (by unfold vp_in; decide) dR_wholes_23 (fun H locs hP hD hS => ?_)
  have hP : va_P D vwCl [(q1, .inl (cT 4, 48, .inr (.inr (.inr (.inr (va_up fg111 37 (some q14_37))))))), (q14_37, .inr (4, [.ref u113x0, .int 0, .int 0])), (u113x0, .inl (cT 0, 24, .inl (fun _ => 0)))] H := hP
  have hD : va_D A [(q1, .inl (cT 4, 48, .inr (.inr (.inr (.inr (va_up fg111 37 (some q14_37))))))), (q14_37, .inr (4, [.ref u113x0, .int 0, .int 0])), (u113x0, .inl (cT 0, 24, .inl (fun _ => 0)))] := hD
  have hP := hP.sub (ws' := [(q1, .inl (cT 4, 48, .inr (.inr (.inr (.inr (va_up fg111 37 (some q14_37)))))))]) [0] rfl
  have hD := hD.sub (ws' := [(q1, .inl (cT 4, 48, .inr (.inr (.inr (.inr (va_up fg111 37 (some q14_37)))))))]) [0] (by decide) rfl
  generalize va_up fg111 37 (some q14_37) = fg114 at hP hD
  refine lv_iinc (k := 0) (v := 38) hx hb dR_wholes_24 hl rfl (by decide) (by decide) rfl (fun ls hl => ?_)
  have hl : lv_has ls 3 [(2, .int 38), (1, .ref q1), (0, .int 48)] := hl
  refine lv_goto (tgt := 7) hx hb dR_wholes_27 rfl ?_
  refine lv_iload_n hx hb dR_wholes_7 rfl (lv_at hl 0 rfl) ?_
  refine lv_iload_n hx hb dR_wholes_8 rfl (lv_at hl 2 rfl) ?_
  refine lv_icmp_ge (tgt := 30) hx hb dR_wholes_9 rfl (fun h115 => absurd h115 (by decide)) (fun _ => ?_)
  refine lv_aload_n hx hb dR_wholes_12 rfl (lv_at hl 1 rfl) ?_
  refine lv_iload_n hx hb dR_wholes_13 rfl (lv_at hl 0 rfl) ?_
  refine va_new (ci := 4) (fs := [.null, .int 0, .int 0]) (C := R_W) (T := T_W) (N := 3) hx hb hT in_W ty_W ty_W_ok hown (hT _ w138) (hT _ w140) (hT _ w5) hK hP hD hS hA rfl (fun j hj => match j, hj with | 0, _ => rfl | 1, _ => rfl | 2, _ => rfl | _ + 3, hj => absurd hj (by omega)) (Nat.le_of_ble_eq_true rfl) (Nat.le_of_ble_eq_true rfl) dR_wholes_14 (fun q14_38 H hP hD hS => ?_)
  have hP : va_P D vwCl [(q1, .inl (cT 4, 48, .inr (.inr (.inr (.inr fg114))))), (q14_38, .inr (4, [.null, .int 0, .int 0]))] H := hP
  have hD : va_D A [(q1, .inl (cT 4, 48, .inr (.inr (.inr (.inr fg114))))), (q14_38, .inr (4, [.null, .int 0, .int 0]))] := hD
  refine lv_dup hx hb dR_wholes_17 rfl ?_
  refine lv_bipush (v := 24) hx hb dR_wholes_18 (by decide) ?_
  refine rw_v (wc := [(q14_38, .inr (4, [.null, .int 0, .int 0]))]) (wr := [(q1, .inl (cT 4, 48, .inr (.inr (.inr (.inr fg114)))))]) hP hD hS hA [1] [0] rfl rfl (by decide) (by decide) (va_runI (As := [.int 24]) (rest := [.ref q14_38, .int 38, .ref q1]) ⟨hx, hb, hml, hown, hT⟩ (k_Whole24 l D cT q14_38 _) ⟨callB_of 1 hT (tb_gd w143) rfl rfl rfl (hT _ w5) (hT _ w141) hW_init ⟨Nat.le_of_ble_eq_true rfl, Nat.le_of_ble_eq_true rfl⟩, rfl, (hT _ w142)⟩ (RW.preS hZ hS (va_free (wc := [(q14_38, .inr (4, [.null, .int 0, .int 0]))]) hD hS hA [1] rfl) (hP.sub (ws' := [(q14_38, .inr (4, [.null, .int 0, .int 0]))]) [1] rfl) hK (hD.sub (ws' := [(q14_38, .inr (4, [.null, .int 0, .int 0]))]) [1] (by decide) rfl)) rfl rfl hl.1 rfl (lv_room (Nat.le_of_ble_eq_true rfl)) dR_wholes_20 ⟨Nat.le_of_ble_eq_true rfl, Nat.le_of_ble_eq_true rfl⟩) (fun u116 H locs hpu116 hP hD hS => ?_)
  generalize u116 0 = u116x0 at hP hD
  have hP : va_P D vwCl [(q1, .inl (cT 4, 48, .inr (.inr (.inr (.inr fg114))))), (q14_38, .inr (4, [.ref u116x0, .int 0, .int 0])), (u116x0, .inl (cT 0, 24, .inl (fun _ => 0)))] H := hP
  have hD : va_D A [(q1, .inl (cT 4, 48, .inr (.inr (.inr (.inr fg114))))), (q14_38, .inr (4, [.ref u116x0, .int 0, .int 0])), (u116x0, .inl (cT 0, 24, .inl (fun _ => 0)))] := hD
  refine va_astq hx hb hK hP hD hS 0 4 1 4 rfl rfl rfl rfl (by unfold vp_in; decide) dR_wholes_23 (fun H locs hP hD hS => ?_)
  have hP : va_P D vwCl [(q1, .inl (cT 4, 48, .inr (.inr (.inr (.inr (va_up fg114 38 (some q14_38))))))), (q14_38, .inr (4, [.ref u116x0, .int 0, .int 0])), (u116x0, .inl (cT 0, 24, .inl (fun _ => 0)))] H := hP
  have hD : va_D A [(q1, .inl (cT 4, 48, .inr (.inr (.inr (.inr (va_up fg114 38 (some q14_38))))))), (q14_38, .inr (4, [.ref u116x0, .int 0, .int 0])), (u116x0, .inl (cT 0, 24, .inl (fun _ => 0)))] := hD
  have hP := hP.sub (ws' := [(q1, .inl (cT 4, 48, .inr (.inr (.inr (.inr (va_up fg114 38 (some q14_38)))))))]) [0] rfl
  have hD := hD.sub (ws' := [(q1, .inl (cT 4, 48, .inr (.inr (.inr (.inr (va_up fg114 38 (some q14_38)))))))]) [0] (by decide) rfl
  generalize va_up fg114 38 (some q14_38) = fg117 at hP hD
  refine lv_iinc (k := 0) (v := 39) hx hb dR_wholes_24 hl rfl (by decide) (by decide) rfl (fun ls hl => ?_)
  have hl : lv_has ls 3 [(2, .int 39), (1, .ref q1), (0, .int 48)] := hl
  refine lv_goto (tgt := 7) hx hb dR_wholes_27 rfl ?_
  refine lv_iload_n hx hb dR_wholes_7 rfl (lv_at hl 0 rfl) ?_
  refine lv_iload_n hx hb dR_wholes_8 rfl (lv_at hl 2 rfl) ?_
  refine lv_icmp_ge (tgt := 30) hx hb dR_wholes_9 rfl (fun h118 => absurd h118 (by decide)) (fun _ => ?_)
  refine lv_aload_n hx hb dR_wholes_12 rfl (lv_at hl 1 rfl) ?_
  refine lv_iload_n hx hb dR_wholes_13 rfl (lv_at hl 0 rfl) ?_
  refine va_new (ci := 4) (fs := [.null, .int 0, .int 0]) (C := R_W) (T := T_W) (N := 3) hx hb hT in_W ty_W ty_W_ok hown (hT _ w138) (hT _ w140) (hT _ w5) hK hP hD hS hA rfl (fun j hj => match j, hj with | 0, _ => rfl | 1, _ => rfl | 2, _ => rfl | _ + 3, hj => absurd hj (by omega)) (Nat.le_of_ble_eq_true rfl) (Nat.le_of_ble_eq_true rfl) dR_wholes_14 (fun q14_39 H hP hD hS => ?_)
  have hP : va_P D vwCl [(q1, .inl (cT 4, 48, .inr (.inr (.inr (.inr fg117))))), (q14_39, .inr (4, [.null, .int 0, .int 0]))] H := hP
  have hD : va_D A [(q1, .inl (cT 4, 48, .inr (.inr (.inr (.inr fg117))))), (q14_39, .inr (4, [.null, .int 0, .int 0]))] := hD
  refine lv_dup hx hb dR_wholes_17 rfl ?_
  refine lv_bipush (v := 24) hx hb dR_wholes_18 (by decide) ?_
  refine rw_v (wc := [(q14_39, .inr (4, [.null, .int 0, .int 0]))]) (wr := [(q1, .inl (cT 4, 48, .inr (.inr (.inr (.inr fg117)))))]) hP hD hS hA [1] [0] rfl rfl (by decide) (by decide) (va_runI (As := [.int 24]) (rest := [.ref q14_39, .int 39, .ref q1]) ⟨hx, hb, hml, hown, hT⟩ (k_Whole24 l D cT q14_39 _) ⟨callB_of 1 hT (tb_gd w143) rfl rfl rfl (hT _ w5) (hT _ w141) hW_init ⟨Nat.le_of_ble_eq_true rfl, Nat.le_of_ble_eq_true rfl⟩, rfl, (hT _ w142)⟩ (RW.preS hZ hS (va_free (wc := [(q14_39, .inr (4, [.null, .int 0, .int 0]))]) hD hS hA [1] rfl) (hP.sub (ws' := [(q14_39, .inr (4, [.null, .int 0, .int 0]))]) [1] rfl) hK (hD.sub (ws' := [(q14_39, .inr (4, [.null, .int 0, .int 0]))]) [1] (by decide) rfl)) rfl rfl hl.1 rfl (lv_room (Nat.le_of_ble_eq_true rfl)) dR_wholes_20 ⟨Nat.le_of_ble_eq_true rfl, Nat.le_of_ble_eq_true rfl⟩) (fun u119 H locs hpu119 hP hD hS => ?_)
  generalize u119 0 = u119x0 at hP hD
  have hP : va_P D vwCl [(q1, .inl (cT 4, 48, .inr (.inr (.inr (.inr fg117))))), (q14_39, .inr (4, [.ref u119x0, .int 0, .int 0])), (u119x0, .inl (cT 0, 24, .inl (fun _ => 0)))] H := hP
  have hD : va_D A [(q1, .inl (cT 4, 48, .inr (.inr (.inr (.inr fg117))))), (q14_39, .inr (4, [.ref u119x0, .int 0, .int 0])), (u119x0, .inl (cT 0, 24, .inl (fun _ => 0)))] := hD
  refine va_astq hx hb hK hP hD hS 0 4 1 4 rfl rfl rfl rfl (by unfold vp_in; decide) dR_wholes_23 (fun H locs hP hD hS => ?_)
  have hP : va_P D vwCl [(q1, .inl (cT 4, 48, .inr (.inr (.inr (.inr (va_up fg117 39 (some q14_39))))))), (q14_39, .inr (4, [.ref u119x0, .int 0, .int 0])), (u119x0, .inl (cT 0, 24, .inl (fun _ => 0)))] H := hP
  have hD : va_D A [(q1, .inl (cT 4, 48, .inr (.inr (.inr (.inr (va_up fg117 39 (some q14_39))))))), (q14_39, .inr (4, [.ref u119x0, .int 0, .int 0])), (u119x0, .inl (cT 0, 24, .inl (fun _ => 0)))] := hD
  have hP := hP.sub (ws' := [(q1, .inl (cT 4, 48, .inr (.inr (.inr (.inr (va_up fg117 39 (some q14_39)))))))]) [0] rfl
  have hD := hD.sub (ws' := [(q1, .inl (cT 4, 48, .inr (.inr (.inr (.inr (va_up fg117 39 (some q14_39)))))))]) [0] (by decide) rfl
  generalize va_up fg117 39 (some q14_39) = fg120 at hP hD
  refine lv_iinc (k := 0) (v := 40) hx hb dR_wholes_24 hl rfl (by decide) (by decide) rfl (fun ls hl => ?_)
  have hl : lv_has ls 3 [(2, .int 40), (1, .ref q1), (0, .int 48)] := hl
  refine lv_goto (tgt := 7) hx hb dR_wholes_27 rfl ?_
  refine lv_iload_n hx hb dR_wholes_7 rfl (lv_at hl 0 rfl) ?_
  refine lv_iload_n hx hb dR_wholes_8 rfl (lv_at hl 2 rfl) ?_
  refine lv_icmp_ge (tgt := 30) hx hb dR_wholes_9 rfl (fun h121 => absurd h121 (by decide)) (fun _ => ?_)
  refine lv_aload_n hx hb dR_wholes_12 rfl (lv_at hl 1 rfl) ?_
  refine lv_iload_n hx hb dR_wholes_13 rfl (lv_at hl 0 rfl) ?_
  refine va_new (ci := 4) (fs := [.null, .int 0, .int 0]) (C := R_W) (T := T_W) (N := 3) hx hb hT in_W ty_W ty_W_ok hown (hT _ w138) (hT _ w140) (hT _ w5) hK hP hD hS hA rfl (fun j hj => match j, hj with | 0, _ => rfl | 1, _ => rfl | 2, _ => rfl | _ + 3, hj => absurd hj (by omega)) (Nat.le_of_ble_eq_true rfl) (Nat.le_of_ble_eq_true rfl) dR_wholes_14 (fun q14_40 H hP hD hS => ?_)
  have hP : va_P D vwCl [(q1, .inl (cT 4, 48, .inr (.inr (.inr (.inr fg120))))), (q14_40, .inr (4, [.null, .int 0, .int 0]))] H := hP
  have hD : va_D A [(q1, .inl (cT 4, 48, .inr (.inr (.inr (.inr fg120))))), (q14_40, .inr (4, [.null, .int 0, .int 0]))] := hD
  refine lv_dup hx hb dR_wholes_17 rfl ?_
  refine lv_bipush (v := 24) hx hb dR_wholes_18 (by decide) ?_
  refine rw_v (wc := [(q14_40, .inr (4, [.null, .int 0, .int 0]))]) (wr := [(q1, .inl (cT 4, 48, .inr (.inr (.inr (.inr fg120)))))]) hP hD hS hA [1] [0] rfl rfl (by decide) (by decide) (va_runI (As := [.int 24]) (rest := [.ref q14_40, .int 40, .ref q1]) ⟨hx, hb, hml, hown, hT⟩ (k_Whole24 l D cT q14_40 _) ⟨callB_of 1 hT (tb_gd w143) rfl rfl rfl (hT _ w5) (hT _ w141) hW_init ⟨Nat.le_of_ble_eq_true rfl, Nat.le_of_ble_eq_true rfl⟩, rfl, (hT _ w142)⟩ (RW.preS hZ hS (va_free (wc := [(q14_40, .inr (4, [.null, .int 0, .int 0]))]) hD hS hA [1] rfl) (hP.sub (ws' := [(q14_40, .inr (4, [.null, .int 0, .int 0]))]) [1] rfl) hK (hD.sub (ws' := [(q14_40, .inr (4, [.null, .int 0, .int 0]))]) [1] (by decide) rfl)) rfl rfl hl.1 rfl (lv_room (Nat.le_of_ble_eq_true rfl)) dR_wholes_20 ⟨Nat.le_of_ble_eq_true rfl, Nat.le_of_ble_eq_true rfl⟩) (fun u122 H locs hpu122 hP hD hS => ?_)
  generalize u122 0 = u122x0 at hP hD
  have hP : va_P D vwCl [(q1, .inl (cT 4, 48, .inr (.inr (.inr (.inr fg120))))), (q14_40, .inr (4, [.ref u122x0, .int 0, .int 0])), (u122x0, .inl (cT 0, 24, .inl (fun _ => 0)))] H := hP
  have hD : va_D A [(q1, .inl (cT 4, 48, .inr (.inr (.inr (.inr fg120))))), (q14_40, .inr (4, [.ref u122x0, .int 0, .int 0])), (u122x0, .inl (cT 0, 24, .inl (fun _ => 0)))] := hD
  refine va_astq hx hb hK hP hD hS 0 4 1 4 rfl rfl rfl rfl (by unfold vp_in; decide) dR_wholes_23 (fun H locs hP hD hS => ?_)
  have hP : va_P D vwCl [(q1, .inl (cT 4, 48, .inr (.inr (.inr (.inr (va_up fg120 40 (some q14_40))))))), (q14_40, .inr (4, [.ref u122x0, .int 0, .int 0])), (u122x0, .inl (cT 0, 24, .inl (fun _ => 0)))] H := hP
  have hD : va_D A [(q1, .inl (cT 4, 48, .inr (.inr (.inr (.inr (va_up fg120 40 (some q14_40))))))), (q14_40, .inr (4, [.ref u122x0, .int 0, .int 0])), (u122x0, .inl (cT 0, 24, .inl (fun _ => 0)))] := hD
  have hP := hP.sub (ws' := [(q1, .inl (cT 4, 48, .inr (.inr (.inr (.inr (va_up fg120 40 (some q14_40)))))))]) [0] rfl
  have hD := hD.sub (ws' := [(q1, .inl (cT 4, 48, .inr (.inr (.inr (.inr (va_up fg120 40 (some q14_40)))))))]) [0] (by decide) rfl
  generalize va_up fg120 40 (some q14_40) = fg123 at hP hD
  refine lv_iinc (k := 0) (v := 41) hx hb dR_wholes_24 hl rfl (by decide) (by decide) rfl (fun ls hl => ?_)
  have hl : lv_has ls 3 [(2, .int 41), (1, .ref q1), (0, .int 48)] := hl
  refine lv_goto (tgt := 7) hx hb dR_wholes_27 rfl ?_
  refine lv_iload_n hx hb dR_wholes_7 rfl (lv_at hl 0 rfl) ?_
  refine lv_iload_n hx hb dR_wholes_8 rfl (lv_at hl 2 rfl) ?_
  refine lv_icmp_ge (tgt := 30) hx hb dR_wholes_9 rfl (fun h124 => absurd h124 (by decide)) (fun _ => ?_)
  refine lv_aload_n hx hb dR_wholes_12 rfl (lv_at hl 1 rfl) ?_
  refine lv_iload_n hx hb dR_wholes_13 rfl (lv_at hl 0 rfl) ?_
  refine va_new (ci := 4) (fs := [.null, .int 0, .int 0]) (C := R_W) (T := T_W) (N := 3) hx hb hT in_W ty_W ty_W_ok hown (hT _ w138) (hT _ w140) (hT _ w5) hK hP hD hS hA rfl (fun j hj => match j, hj with | 0, _ => rfl | 1, _ => rfl | 2, _ => rfl | _ + 3, hj => absurd hj (by omega)) (Nat.le_of_ble_eq_true rfl) (Nat.le_of_ble_eq_true rfl) dR_wholes_14 (fun q14_41 H hP hD hS => ?_)
  have hP : va_P D vwCl [(q1, .inl (cT 4, 48, .inr (.inr (.inr (.inr fg123))))), (q14_41, .inr (4, [.null, .int 0, .int 0]))] H := hP
  have hD : va_D A [(q1, .inl (cT 4, 48, .inr (.inr (.inr (.inr fg123))))), (q14_41, .inr (4, [.null, .int 0, .int 0]))] := hD
  refine lv_dup hx hb dR_wholes_17 rfl ?_
  refine lv_bipush (v := 24) hx hb dR_wholes_18 (by decide) ?_
  refine rw_v (wc := [(q14_41, .inr (4, [.null, .int 0, .int 0]))]) (wr := [(q1, .inl (cT 4, 48, .inr (.inr (.inr (.inr fg123)))))]) hP hD hS hA [1] [0] rfl rfl (by decide) (by decide) (va_runI (As := [.int 24]) (rest := [.ref q14_41, .int 41, .ref q1]) ⟨hx, hb, hml, hown, hT⟩ (k_Whole24 l D cT q14_41 _) ⟨callB_of 1 hT (tb_gd w143) rfl rfl rfl (hT _ w5) (hT _ w141) hW_init ⟨Nat.le_of_ble_eq_true rfl, Nat.le_of_ble_eq_true rfl⟩, rfl, (hT _ w142)⟩ (RW.preS hZ hS (va_free (wc := [(q14_41, .inr (4, [.null, .int 0, .int 0]))]) hD hS hA [1] rfl) (hP.sub (ws' := [(q14_41, .inr (4, [.null, .int 0, .int 0]))]) [1] rfl) hK (hD.sub (ws' := [(q14_41, .inr (4, [.null, .int 0, .int 0]))]) [1] (by decide) rfl)) rfl rfl hl.1 rfl (lv_room (Nat.le_of_ble_eq_true rfl)) dR_wholes_20 ⟨Nat.le_of_ble_eq_true rfl, Nat.le_of_ble_eq_true rfl⟩) (fun u125 H locs hpu125 hP hD hS => ?_)
  generalize u125 0 = u125x0 at hP hD
  have hP : va_P D vwCl [(q1, .inl (cT 4, 48, .inr (.inr (.inr (.inr fg123))))), (q14_41, .inr (4, [.ref u125x0, .int 0, .int 0])), (u125x0, .inl (cT 0, 24, .inl (fun _ => 0)))] H := hP
  have hD : va_D A [(q1, .inl (cT 4, 48, .inr (.inr (.inr (.inr fg123))))), (q14_41, .inr (4, [.ref u125x0, .int 0, .int 0])), (u125x0, .inl (cT 0, 24, .inl (fun _ => 0)))] := hD
  refine va_astq hx hb hK hP hD hS 0 4 1 4 rfl rfl rfl rfl (by unfold vp_in; decide) dR_wholes_23 (fun H locs hP hD hS => ?_)
  have hP : va_P D vwCl [(q1, .inl (cT 4, 48, .inr (.inr (.inr (.inr (va_up fg123 41 (some q14_41))))))), (q14_41, .inr (4, [.ref u125x0, .int 0, .int 0])), (u125x0, .inl (cT 0, 24, .inl (fun _ => 0)))] H := hP
  have hD : va_D A [(q1, .inl (cT 4, 48, .inr (.inr (.inr (.inr (va_up fg123 41 (some q14_41))))))), (q14_41, .inr (4, [.ref u125x0, .int 0, .int 0])), (u125x0, .inl (cT 0, 24, .inl (fun _ => 0)))] := hD
  have hP := hP.sub (ws' := [(q1, .inl (cT 4, 48, .inr (.inr (.inr (.inr (va_up fg123 41 (some q14_41)))))))]) [0] rfl
  have hD := hD.sub (ws' := [(q1, .inl (cT 4, 48, .inr (.inr (.inr (.inr (va_up fg123 41 (some q14_41)))))))]) [0] (by decide) rfl
  generalize va_up fg123 41 (some q14_41) = fg126 at hP hD
  refine lv_iinc (k := 0) (v := 42) hx hb dR_wholes_24 hl rfl (by decide) (by decide) rfl (fun ls hl => ?_)
  have hl : lv_has ls 3 [(2, .int 42), (1, .ref q1), (0, .int 48)] := hl
  refine lv_goto (tgt := 7) hx hb dR_wholes_27 rfl ?_
  refine lv_iload_n hx hb dR_wholes_7 rfl (lv_at hl 0 rfl) ?_
  refine lv_iload_n hx hb dR_wholes_8 rfl (lv_at hl 2 rfl) ?_
  refine lv_icmp_ge (tgt := 30) hx hb dR_wholes_9 rfl (fun h127 => absurd h127 (by decide)) (fun _ => ?_)
  refine lv_aload_n hx hb dR_wholes_12 rfl (lv_at hl 1 rfl) ?_
  refine lv_iload_n hx hb dR_wholes_13 rfl (lv_at hl 0 rfl) ?_
  refine va_new (ci := 4) (fs := [.null, .int 0, .int 0]) (C := R_W) (T := T_W) (N := 3) hx hb hT in_W ty_W ty_W_ok hown (hT _ w138) (hT _ w140) (hT _ w5) hK hP hD hS hA rfl (fun j hj => match j, hj with | 0, _ => rfl | 1, _ => rfl | 2, _ => rfl | _ + 3, hj => absurd hj (by omega)) (Nat.le_of_ble_eq_true rfl) (Nat.le_of_ble_eq_true rfl) dR_wholes_14 (fun q14_42 H hP hD hS => ?_)
  have hP : va_P D vwCl [(q1, .inl (cT 4, 48, .inr (.inr (.inr (.inr fg126))))), (q14_42, .inr (4, [.null, .int 0, .int 0]))] H := hP
  have hD : va_D A [(q1, .inl (cT 4, 48, .inr (.inr (.inr (.inr fg126))))), (q14_42, .inr (4, [.null, .int 0, .int 0]))] := hD
  refine lv_dup hx hb dR_wholes_17 rfl ?_
  refine lv_bipush (v := 24) hx hb dR_wholes_18 (by decide) ?_
  refine rw_v (wc := [(q14_42, .inr (4, [.null, .int 0, .int 0]))]) (wr := [(q1, .inl (cT 4, 48, .inr (.inr (.inr (.inr fg126)))))]) hP hD hS hA [1] [0] rfl rfl (by decide) (by decide) (va_runI (As := [.int 24]) (rest := [.ref q14_42, .int 42, .ref q1]) ⟨hx, hb, hml, hown, hT⟩ (k_Whole24 l D cT q14_42 _) ⟨callB_of 1 hT (tb_gd w143) rfl rfl rfl (hT _ w5) (hT _ w141) hW_init ⟨Nat.le_of_ble_eq_true rfl, Nat.le_of_ble_eq_true rfl⟩, rfl, (hT _ w142)⟩ (RW.preS hZ hS (va_free (wc := [(q14_42, .inr (4, [.null, .int 0, .int 0]))]) hD hS hA [1] rfl) (hP.sub (ws' := [(q14_42, .inr (4, [.null, .int 0, .int 0]))]) [1] rfl) hK (hD.sub (ws' := [(q14_42, .inr (4, [.null, .int 0, .int 0]))]) [1] (by decide) rfl)) rfl rfl hl.1 rfl (lv_room (Nat.le_of_ble_eq_true rfl)) dR_wholes_20 ⟨Nat.le_of_ble_eq_true rfl, Nat.le_of_ble_eq_true rfl⟩) (fun u128 H locs hpu128 hP hD hS => ?_)
  generalize u128 0 = u128x0 at hP hD
  have hP : va_P D vwCl [(q1, .inl (cT 4, 48, .inr (.inr (.inr (.inr fg126))))), (q14_42, .inr (4, [.ref u128x0, .int 0, .int 0])), (u128x0, .inl (cT 0, 24, .inl (fun _ => 0)))] H := hP
  have hD : va_D A [(q1, .inl (cT 4, 48, .inr (.inr (.inr (.inr fg126))))), (q14_42, .inr (4, [.ref u128x0, .int 0, .int 0])), (u128x0, .inl (cT 0, 24, .inl (fun _ => 0)))] := hD
  refine va_astq hx hb hK hP hD hS 0 4 1 4 rfl rfl rfl rfl (by unfold vp_in; decide) dR_wholes_23 (fun H locs hP hD hS => ?_)
  have hP : va_P D vwCl [(q1, .inl (cT 4, 48, .inr (.inr (.inr (.inr (va_up fg126 42 (some q14_42))))))), (q14_42, .inr (4, [.ref u128x0, .int 0, .int 0])), (u128x0, .inl (cT 0, 24, .inl (fun _ => 0)))] H := hP
  have hD : va_D A [(q1, .inl (cT 4, 48, .inr (.inr (.inr (.inr (va_up fg126 42 (some q14_42))))))), (q14_42, .inr (4, [.ref u128x0, .int 0, .int 0])), (u128x0, .inl (cT 0, 24, .inl (fun _ => 0)))] := hD
  have hP := hP.sub (ws' := [(q1, .inl (cT 4, 48, .inr (.inr (.inr (.inr (va_up fg126 42 (some q14_42)))))))]) [0] rfl
  have hD := hD.sub (ws' := [(q1, .inl (cT 4, 48, .inr (.inr (.inr (.inr (va_up fg126 42 (some q14_42)))))))]) [0] (by decide) rfl
  generalize va_up fg126 42 (some q14_42) = fg129 at hP hD
  refine lv_iinc (k := 0) (v := 43) hx hb dR_wholes_24 hl rfl (by decide) (by decide) rfl (fun ls hl => ?_)
  have hl : lv_has ls 3 [(2, .int 43), (1, .ref q1), (0, .int 48)] := hl
  refine lv_goto (tgt := 7) hx hb dR_wholes_27 rfl ?_
  refine lv_iload_n hx hb dR_wholes_7 rfl (lv_at hl 0 rfl) ?_
  refine lv_iload_n hx hb dR_wholes_8 rfl (lv_at hl 2 rfl) ?_
  refine lv_icmp_ge (tgt := 30) hx hb dR_wholes_9 rfl (fun h130 => absurd h130 (by decide)) (fun _ => ?_)
  refine lv_aload_n hx hb dR_wholes_12 rfl (lv_at hl 1 rfl) ?_
  refine lv_iload_n hx hb dR_wholes_13 rfl (lv_at hl 0 rfl) ?_
  refine va_new (ci := 4) (fs := [.null, .int 0, .int 0]) (C := R_W) (T := T_W) (N := 3) hx hb hT in_W ty_W ty_W_ok hown (hT _ w138) (hT _ w140) (hT _ w5) hK hP hD hS hA rfl (fun j hj => match j, hj with | 0, _ => rfl | 1, _ => rfl | 2, _ => rfl | _ + 3, hj => absurd hj (by omega)) (Nat.le_of_ble_eq_true rfl) (Nat.le_of_ble_eq_true rfl) dR_wholes_14 (fun q14_43 H hP hD hS => ?_)
  have hP : va_P D vwCl [(q1, .inl (cT 4, 48, .inr (.inr (.inr (.inr fg129))))), (q14_43, .inr (4, [.null, .int 0, .int 0]))] H := hP
  have hD : va_D A [(q1, .inl (cT 4, 48, .inr (.inr (.inr (.inr fg129))))), (q14_43, .inr (4, [.null, .int 0, .int 0]))] := hD
  refine lv_dup hx hb dR_wholes_17 rfl ?_
  refine lv_bipush (v := 24) hx hb dR_wholes_18 (by decide) ?_
  refine rw_v (wc := [(q14_43, .inr (4, [.null, .int 0, .int 0]))]) (wr := [(q1, .inl (cT 4, 48, .inr (.inr (.inr (.inr fg129)))))]) hP hD hS hA [1] [0] rfl rfl (by decide) (by decide) (va_runI (As := [.int 24]) (rest := [.ref q14_43, .int 43, .ref q1]) ⟨hx, hb, hml, hown, hT⟩ (k_Whole24 l D cT q14_43 _) ⟨callB_of 1 hT (tb_gd w143) rfl rfl rfl (hT _ w5) (hT _ w141) hW_init ⟨Nat.le_of_ble_eq_true rfl, Nat.le_of_ble_eq_true rfl⟩, rfl, (hT _ w142)⟩ (RW.preS hZ hS (va_free (wc := [(q14_43, .inr (4, [.null, .int 0, .int 0]))]) hD hS hA [1] rfl) (hP.sub (ws' := [(q14_43, .inr (4, [.null, .int 0, .int 0]))]) [1] rfl) hK (hD.sub (ws' := [(q14_43, .inr (4, [.null, .int 0, .int 0]))]) [1] (by decide) rfl)) rfl rfl hl.1 rfl (lv_room (Nat.le_of_ble_eq_true rfl)) dR_wholes_20 ⟨Nat.le_of_ble_eq_true rfl, Nat.le_of_ble_eq_true rfl⟩) (fun u131 H locs hpu131 hP hD hS => ?_)
  generalize u131 0 = u131x0 at hP hD
  have hP : va_P D vwCl [(q1, .inl (cT 4, 48, .inr (.inr (.inr (.inr fg129))))), (q14_43, .inr (4, [.ref u131x0, .int 0, .int 0])), (u131x0, .inl (cT 0, 24, .inl (fun _ => 0)))] H := hP
  have hD : va_D A [(q1, .inl (cT 4, 48, .inr (.inr (.inr (.inr fg129))))), (q14_43, .inr (4, [.ref u131x0, .int 0, .int 0])), (u131x0, .inl (cT 0, 24, .inl (fun _ => 0)))] := hD
  refine va_astq hx hb hK hP hD hS 0 4 1 4 rfl rfl rfl rfl (by unfold vp_in; decide) dR_wholes_23 (fun H locs hP hD hS => ?_)
  have hP : va_P D vwCl [(q1, .inl (cT 4, 48, .inr (.inr (.inr (.inr (va_up fg129 43 (some q14_43))))))), (q14_43, .inr (4, [.ref u131x0, .int 0, .int 0])), (u131x0, .inl (cT 0, 24, .inl (fun _ => 0)))] H := hP
  have hD : va_D A [(q1, .inl (cT 4, 48, .inr (.inr (.inr (.inr (va_up fg129 43 (some q14_43))))))), (q14_43, .inr (4, [.ref u131x0, .int 0, .int 0])), (u131x0, .inl (cT 0, 24, .inl (fun _ => 0)))] := hD
  have hP := hP.sub (ws' := [(q1, .inl (cT 4, 48, .inr (.inr (.inr (.inr (va_up fg129 43 (some q14_43)))))))]) [0] rfl
  have hD := hD.sub (ws' := [(q1, .inl (cT 4, 48, .inr (.inr (.inr (.inr (va_up fg129 43 (some q14_43)))))))]) [0] (by decide) rfl
  generalize va_up fg129 43 (some q14_43) = fg132 at hP hD
  refine lv_iinc (k := 0) (v := 44) hx hb dR_wholes_24 hl rfl (by decide) (by decide) rfl (fun ls hl => ?_)
  have hl : lv_has ls 3 [(2, .int 44), (1, .ref q1), (0, .int 48)] := hl
  refine lv_goto (tgt := 7) hx hb dR_wholes_27 rfl ?_
  refine lv_iload_n hx hb dR_wholes_7 rfl (lv_at hl 0 rfl) ?_
  refine lv_iload_n hx hb dR_wholes_8 rfl (lv_at hl 2 rfl) ?_
  refine lv_icmp_ge (tgt := 30) hx hb dR_wholes_9 rfl (fun h133 => absurd h133 (by decide)) (fun _ => ?_)
  refine lv_aload_n hx hb dR_wholes_12 rfl (lv_at hl 1 rfl) ?_
  refine lv_iload_n hx hb dR_wholes_13 rfl (lv_at hl 0 rfl) ?_
  refine va_new (ci := 4) (fs := [.null, .int 0, .int 0]) (C := R_W) (T := T_W) (N := 3) hx hb hT in_W ty_W ty_W_ok hown (hT _ w138) (hT _ w140) (hT _ w5) hK hP hD hS hA rfl (fun j hj => match j, hj with | 0, _ => rfl | 1, _ => rfl | 2, _ => rfl | _ + 3, hj => absurd hj (by omega)) (Nat.le_of_ble_eq_true rfl) (Nat.le_of_ble_eq_true rfl) dR_wholes_14 (fun q14_44 H hP hD hS => ?_)
  have hP : va_P D vwCl [(q1, .inl (cT 4, 48, .inr (.inr (.inr (.inr fg132))))), (q14_44, .inr (4, [.null, .int 0, .int 0]))] H := hP
  have hD : va_D A [(q1, .inl (cT 4, 48, .inr (.inr (.inr (.inr fg132))))), (q14_44, .inr (4, [.null, .int 0, .int 0]))] := hD
  refine lv_dup hx hb dR_wholes_17 rfl ?_
  refine lv_bipush (v := 24) hx hb dR_wholes_18 (by decide) ?_
  refine rw_v (wc := [(q14_44, .inr (4, [.null, .int 0, .int 0]))]) (wr := [(q1, .inl (cT 4, 48, .inr (.inr (.inr (.inr fg132)))))]) hP hD hS hA [1] [0] rfl rfl (by decide) (by decide) (va_runI (As := [.int 24]) (rest := [.ref q14_44, .int 44, .ref q1]) ⟨hx, hb, hml, hown, hT⟩ (k_Whole24 l D cT q14_44 _) ⟨callB_of 1 hT (tb_gd w143) rfl rfl rfl (hT _ w5) (hT _ w141) hW_init ⟨Nat.le_of_ble_eq_true rfl, Nat.le_of_ble_eq_true rfl⟩, rfl, (hT _ w142)⟩ (RW.preS hZ hS (va_free (wc := [(q14_44, .inr (4, [.null, .int 0, .int 0]))]) hD hS hA [1] rfl) (hP.sub (ws' := [(q14_44, .inr (4, [.null, .int 0, .int 0]))]) [1] rfl) hK (hD.sub (ws' := [(q14_44, .inr (4, [.null, .int 0, .int 0]))]) [1] (by decide) rfl)) rfl rfl hl.1 rfl (lv_room (Nat.le_of_ble_eq_true rfl)) dR_wholes_20 ⟨Nat.le_of_ble_eq_true rfl, Nat.le_of_ble_eq_true rfl⟩) (fun u134 H locs hpu134 hP hD hS => ?_)
  generalize u134 0 = u134x0 at hP hD
  have hP : va_P D vwCl [(q1, .inl (cT 4, 48, .inr (.inr (.inr (.inr fg132))))), (q14_44, .inr (4, [.ref u134x0, .int 0, .int 0])), (u134x0, .inl (cT 0, 24, .inl (fun _ => 0)))] H := hP
  have hD : va_D A [(q1, .inl (cT 4, 48, .inr (.inr (.inr (.inr fg132))))), (q14_44, .inr (4, [.ref u134x0, .int 0, .int 0])), (u134x0, .inl (cT 0, 24, .inl (fun _ => 0)))] := hD
  refine va_astq hx hb hK hP hD hS 0 4 1 4 rfl rfl rfl rfl (by unfold vp_in; decide) dR_wholes_23 (fun H locs hP hD hS => ?_)
  have hP : va_P D vwCl [(q1, .inl (cT 4, 48, .inr (.inr (.inr (.inr (va_up fg132 44 (some q14_44))))))), (q14_44, .inr (4, [.ref u134x0, .int 0, .int 0])), (u134x0, .inl (cT 0, 24, .inl (fun _ => 0)))] H := hP
  have hD : va_D A [(q1, .inl (cT 4, 48, .inr (.inr (.inr (.inr (va_up fg132 44 (some q14_44))))))), (q14_44, .inr (4, [.ref u134x0, .int 0, .int 0])), (u134x0, .inl (cT 0, 24, .inl (fun _ => 0)))] := hD
  have hP := hP.sub (ws' := [(q1, .inl (cT 4, 48, .inr (.inr (.inr (.inr (va_up fg132 44 (some q14_44)))))))]) [0] rfl
  have hD := hD.sub (ws' := [(q1, .inl (cT 4, 48, .inr (.inr (.inr (.inr (va_up fg132 44 (some q14_44)))))))]) [0] (by decide) rfl
  generalize va_up fg132 44 (some q14_44) = fg135 at hP hD
  refine lv_iinc (k := 0) (v := 45) hx hb dR_wholes_24 hl rfl (by decide) (by decide) rfl (fun ls hl => ?_)
  have hl : lv_has ls 3 [(2, .int 45), (1, .ref q1), (0, .int 48)] := hl
  refine lv_goto (tgt := 7) hx hb dR_wholes_27 rfl ?_
  refine lv_iload_n hx hb dR_wholes_7 rfl (lv_at hl 0 rfl) ?_
  refine lv_iload_n hx hb dR_wholes_8 rfl (lv_at hl 2 rfl) ?_
  refine lv_icmp_ge (tgt := 30) hx hb dR_wholes_9 rfl (fun h136 => absurd h136 (by decide)) (fun _ => ?_)
  refine lv_aload_n hx hb dR_wholes_12 rfl (lv_at hl 1 rfl) ?_
  refine lv_iload_n hx hb dR_wholes_13 rfl (lv_at hl 0 rfl) ?_
  refine va_new (ci := 4) (fs := [.null, .int 0, .int 0]) (C := R_W) (T := T_W) (N := 3) hx hb hT in_W ty_W ty_W_ok hown (hT _ w138) (hT _ w140) (hT _ w5) hK hP hD hS hA rfl (fun j hj => match j, hj with | 0, _ => rfl | 1, _ => rfl | 2, _ => rfl | _ + 3, hj => absurd hj (by omega)) (Nat.le_of_ble_eq_true rfl) (Nat.le_of_ble_eq_true rfl) dR_wholes_14 (fun q14_45 H hP hD hS => ?_)
  have hP : va_P D vwCl [(q1, .inl (cT 4, 48, .inr (.inr (.inr (.inr fg135))))), (q14_45, .inr (4, [.null, .int 0, .int 0]))] H := hP
  have hD : va_D A [(q1, .inl (cT 4, 48, .inr (.inr (.inr (.inr fg135))))), (q14_45, .inr (4, [.null, .int 0, .int 0]))] := hD
  refine lv_dup hx hb dR_wholes_17 rfl ?_
  refine lv_bipush (v := 24) hx hb dR_wholes_18 (by decide) ?_
  refine rw_v (wc := [(q14_45, .inr (4, [.null, .int 0, .int 0]))]) (wr := [(q1, .inl (cT 4, 48, .inr (.inr (.inr (.inr fg135)))))]) hP hD hS hA [1] [0] rfl rfl (by decide) (by decide) (va_runI (As := [.int 24]) (rest := [.ref q14_45, .int 45, .ref q1]) ⟨hx, hb, hml, hown, hT⟩ (k_Whole24 l D cT q14_45 _) ⟨callB_of 1 hT (tb_gd w143) rfl rfl rfl (hT _ w5) (hT _ w141) hW_init ⟨Nat.le_of_ble_eq_true rfl, Nat.le_of_ble_eq_true rfl⟩, rfl, (hT _ w142)⟩ (RW.preS hZ hS (va_free (wc := [(q14_45, .inr (4, [.null, .int 0, .int 0]))]) hD hS hA [1] rfl) (hP.sub (ws' := [(q14_45, .inr (4, [.null, .int 0, .int 0]))]) [1] rfl) hK (hD.sub (ws' := [(q14_45, .inr (4, [.null, .int 0, .int 0]))]) [1] (by decide) rfl)) rfl rfl hl.1 rfl (lv_room (Nat.le_of_ble_eq_true rfl)) dR_wholes_20 ⟨Nat.le_of_ble_eq_true rfl, Nat.le_of_ble_eq_true rfl⟩) (fun u137 H locs hpu137 hP hD hS => ?_)
  generalize u137 0 = u137x0 at hP hD
  have hP : va_P D vwCl [(q1, .inl (cT 4, 48, .inr (.inr (.inr (.inr fg135))))), (q14_45, .inr (4, [.ref u137x0, .int 0, .int 0])), (u137x0, .inl (cT 0, 24, .inl (fun _ => 0)))] H := hP
  have hD : va_D A [(q1, .inl (cT 4, 48, .inr (.inr (.inr (.inr fg135))))), (q14_45, .inr (4, [.ref u137x0, .int 0, .int 0])), (u137x0, .inl (cT 0, 24, .inl (fun _ => 0)))] := hD
  refine va_astq hx hb hK hP hD hS 0 4 1 4 rfl rfl rfl rfl (by unfold vp_in; decide) dR_wholes_23 (fun H locs hP hD hS => ?_)
  have hP : va_P D vwCl [(q1, .inl (cT 4, 48, .inr (.inr (.inr (.inr (va_up fg135 45 (some q14_45))))))), (q14_45, .inr (4, [.ref u137x0, .int 0, .int 0])), (u137x0, .inl (cT 0, 24, .inl (fun _ => 0)))] H := hP
  have hD : va_D A [(q1, .inl (cT 4, 48, .inr (.inr (.inr (.inr (va_up fg135 45 (some q14_45))))))), (q14_45, .inr (4, [.ref u137x0, .int 0, .int 0])), (u137x0, .inl (cT 0, 24, .inl (fun _ => 0)))] := hD
  have hP := hP.sub (ws' := [(q1, .inl (cT 4, 48, .inr (.inr (.inr (.inr (va_up fg135 45 (some q14_45)))))))]) [0] rfl
  have hD := hD.sub (ws' := [(q1, .inl (cT 4, 48, .inr (.inr (.inr (.inr (va_up fg135 45 (some q14_45)))))))]) [0] (by decide) rfl
  generalize va_up fg135 45 (some q14_45) = fg138 at hP hD
  refine lv_iinc (k := 0) (v := 46) hx hb dR_wholes_24 hl rfl (by decide) (by decide) rfl (fun ls hl => ?_)
  have hl : lv_has ls 3 [(2, .int 46), (1, .ref q1), (0, .int 48)] := hl
  refine lv_goto (tgt := 7) hx hb dR_wholes_27 rfl ?_
  refine lv_iload_n hx hb dR_wholes_7 rfl (lv_at hl 0 rfl) ?_
  refine lv_iload_n hx hb dR_wholes_8 rfl (lv_at hl 2 rfl) ?_
  refine lv_icmp_ge (tgt := 30) hx hb dR_wholes_9 rfl (fun h139 => absurd h139 (by decide)) (fun _ => ?_)
  refine lv_aload_n hx hb dR_wholes_12 rfl (lv_at hl 1 rfl) ?_
  refine lv_iload_n hx hb dR_wholes_13 rfl (lv_at hl 0 rfl) ?_
  refine va_new (ci := 4) (fs := [.null, .int 0, .int 0]) (C := R_W) (T := T_W) (N := 3) hx hb hT in_W ty_W ty_W_ok hown (hT _ w138) (hT _ w140) (hT _ w5) hK hP hD hS hA rfl (fun j hj => match j, hj with | 0, _ => rfl | 1, _ => rfl | 2, _ => rfl | _ + 3, hj => absurd hj (by omega)) (Nat.le_of_ble_eq_true rfl) (Nat.le_of_ble_eq_true rfl) dR_wholes_14 (fun q14_46 H hP hD hS => ?_)
  have hP : va_P D vwCl [(q1, .inl (cT 4, 48, .inr (.inr (.inr (.inr fg138))))), (q14_46, .inr (4, [.null, .int 0, .int 0]))] H := hP
  have hD : va_D A [(q1, .inl (cT 4, 48, .inr (.inr (.inr (.inr fg138))))), (q14_46, .inr (4, [.null, .int 0, .int 0]))] := hD
  refine lv_dup hx hb dR_wholes_17 rfl ?_
  refine lv_bipush (v := 24) hx hb dR_wholes_18 (by decide) ?_
  refine rw_v (wc := [(q14_46, .inr (4, [.null, .int 0, .int 0]))]) (wr := [(q1, .inl (cT 4, 48, .inr (.inr (.inr (.inr fg138)))))]) hP hD hS hA [1] [0] rfl rfl (by decide) (by decide) (va_runI (As := [.int 24]) (rest := [.ref q14_46, .int 46, .ref q1]) ⟨hx, hb, hml, hown, hT⟩ (k_Whole24 l D cT q14_46 _) ⟨callB_of 1 hT (tb_gd w143) rfl rfl rfl (hT _ w5) (hT _ w141) hW_init ⟨Nat.le_of_ble_eq_true rfl, Nat.le_of_ble_eq_true rfl⟩, rfl, (hT _ w142)⟩ (RW.preS hZ hS (va_free (wc := [(q14_46, .inr (4, [.null, .int 0, .int 0]))]) hD hS hA [1] rfl) (hP.sub (ws' := [(q14_46, .inr (4, [.null, .int 0, .int 0]))]) [1] rfl) hK (hD.sub (ws' := [(q14_46, .inr (4, [.null, .int 0, .int 0]))]) [1] (by decide) rfl)) rfl rfl hl.1 rfl (lv_room (Nat.le_of_ble_eq_true rfl)) dR_wholes_20 ⟨Nat.le_of_ble_eq_true rfl, Nat.le_of_ble_eq_true rfl⟩) (fun u140 H locs hpu140 hP hD hS => ?_)
  generalize u140 0 = u140x0 at hP hD
  have hP : va_P D vwCl [(q1, .inl (cT 4, 48, .inr (.inr (.inr (.inr fg138))))), (q14_46, .inr (4, [.ref u140x0, .int 0, .int 0])), (u140x0, .inl (cT 0, 24, .inl (fun _ => 0)))] H := hP
  have hD : va_D A [(q1, .inl (cT 4, 48, .inr (.inr (.inr (.inr fg138))))), (q14_46, .inr (4, [.ref u140x0, .int 0, .int 0])), (u140x0, .inl (cT 0, 24, .inl (fun _ => 0)))] := hD
  refine va_astq hx hb hK hP hD hS 0 4 1 4 rfl rfl rfl rfl (by unfold vp_in; decide) dR_wholes_23 (fun H locs hP hD hS => ?_)
  have hP : va_P D vwCl [(q1, .inl (cT 4, 48, .inr (.inr (.inr (.inr (va_up fg138 46 (some q14_46))))))), (q14_46, .inr (4, [.ref u140x0, .int 0, .int 0])), (u140x0, .inl (cT 0, 24, .inl (fun _ => 0)))] H := hP
  have hD : va_D A [(q1, .inl (cT 4, 48, .inr (.inr (.inr (.inr (va_up fg138 46 (some q14_46))))))), (q14_46, .inr (4, [.ref u140x0, .int 0, .int 0])), (u140x0, .inl (cT 0, 24, .inl (fun _ => 0)))] := hD
  have hP := hP.sub (ws' := [(q1, .inl (cT 4, 48, .inr (.inr (.inr (.inr (va_up fg138 46 (some q14_46)))))))]) [0] rfl
  have hD := hD.sub (ws' := [(q1, .inl (cT 4, 48, .inr (.inr (.inr (.inr (va_up fg138 46 (some q14_46)))))))]) [0] (by decide) rfl
  generalize va_up fg138 46 (some q14_46) = fg141 at hP hD
  refine lv_iinc (k := 0) (v := 47) hx hb dR_wholes_24 hl rfl (by decide) (by decide) rfl (fun ls hl => ?_)
  have hl : lv_has ls 3 [(2, .int 47), (1, .ref q1), (0, .int 48)] := hl
  refine lv_goto (tgt := 7) hx hb dR_wholes_27 rfl ?_
  refine lv_iload_n hx hb dR_wholes_7 rfl (lv_at hl 0 rfl) ?_
  refine lv_iload_n hx hb dR_wholes_8 rfl (lv_at hl 2 rfl) ?_
  refine lv_icmp_ge (tgt := 30) hx hb dR_wholes_9 rfl (fun h142 => absurd h142 (by decide)) (fun _ => ?_)
  refine lv_aload_n hx hb dR_wholes_12 rfl (lv_at hl 1 rfl) ?_
  refine lv_iload_n hx hb dR_wholes_13 rfl (lv_at hl 0 rfl) ?_
  refine va_new (ci := 4) (fs := [.null, .int 0, .int 0]) (C := R_W) (T := T_W) (N := 3) hx hb hT in_W ty_W ty_W_ok hown (hT _ w138) (hT _ w140) (hT _ w5) hK hP hD hS hA rfl (fun j hj => match j, hj with | 0, _ => rfl | 1, _ => rfl | 2, _ => rfl | _ + 3, hj => absurd hj (by omega)) (Nat.le_of_ble_eq_true rfl) (Nat.le_of_ble_eq_true rfl) dR_wholes_14 (fun q14_47 H hP hD hS => ?_)
  have hP : va_P D vwCl [(q1, .inl (cT 4, 48, .inr (.inr (.inr (.inr fg141))))), (q14_47, .inr (4, [.null, .int 0, .int 0]))] H := hP
  have hD : va_D A [(q1, .inl (cT 4, 48, .inr (.inr (.inr (.inr fg141))))), (q14_47, .inr (4, [.null, .int 0, .int 0]))] := hD
  refine lv_dup hx hb dR_wholes_17 rfl ?_
  refine lv_bipush (v := 24) hx hb dR_wholes_18 (by decide) ?_
  refine rw_v (wc := [(q14_47, .inr (4, [.null, .int 0, .int 0]))]) (wr := [(q1, .inl (cT 4, 48, .inr (.inr (.inr (.inr fg141)))))]) hP hD hS hA [1] [0] rfl rfl (by decide) (by decide) (va_runI (As := [.int 24]) (rest := [.ref q14_47, .int 47, .ref q1]) ⟨hx, hb, hml, hown, hT⟩ (k_Whole24 l D cT q14_47 _) ⟨callB_of 1 hT (tb_gd w143) rfl rfl rfl (hT _ w5) (hT _ w141) hW_init ⟨Nat.le_of_ble_eq_true rfl, Nat.le_of_ble_eq_true rfl⟩, rfl, (hT _ w142)⟩ (RW.preS hZ hS (va_free (wc := [(q14_47, .inr (4, [.null, .int 0, .int 0]))]) hD hS hA [1] rfl) (hP.sub (ws' := [(q14_47, .inr (4, [.null, .int 0, .int 0]))]) [1] rfl) hK (hD.sub (ws' := [(q14_47, .inr (4, [.null, .int 0, .int 0]))]) [1] (by decide) rfl)) rfl rfl hl.1 rfl (lv_room (Nat.le_of_ble_eq_true rfl)) dR_wholes_20 ⟨Nat.le_of_ble_eq_true rfl, Nat.le_of_ble_eq_true rfl⟩) (fun u143 H locs hpu143 hP hD hS => ?_)
  generalize u143 0 = u143x0 at hP hD
  have hP : va_P D vwCl [(q1, .inl (cT 4, 48, .inr (.inr (.inr (.inr fg141))))), (q14_47, .inr (4, [.ref u143x0, .int 0, .int 0])), (u143x0, .inl (cT 0, 24, .inl (fun _ => 0)))] H := hP
  have hD : va_D A [(q1, .inl (cT 4, 48, .inr (.inr (.inr (.inr fg141))))), (q14_47, .inr (4, [.ref u143x0, .int 0, .int 0])), (u143x0, .inl (cT 0, 24, .inl (fun _ => 0)))] := hD
  refine va_astq hx hb hK hP hD hS 0 4 1 4 rfl rfl rfl rfl (by unfold vp_in; decide) dR_wholes_23 (fun H locs hP hD hS => ?_)
  have hP : va_P D vwCl [(q1, .inl (cT 4, 48, .inr (.inr (.inr (.inr (va_up fg141 47 (some q14_47))))))), (q14_47, .inr (4, [.ref u143x0, .int 0, .int 0])), (u143x0, .inl (cT 0, 24, .inl (fun _ => 0)))] H := hP
  have hD : va_D A [(q1, .inl (cT 4, 48, .inr (.inr (.inr (.inr (va_up fg141 47 (some q14_47))))))), (q14_47, .inr (4, [.ref u143x0, .int 0, .int 0])), (u143x0, .inl (cT 0, 24, .inl (fun _ => 0)))] := hD
  have hP := hP.sub (ws' := [(q1, .inl (cT 4, 48, .inr (.inr (.inr (.inr (va_up fg141 47 (some q14_47)))))))]) [0] rfl
  have hD := hD.sub (ws' := [(q1, .inl (cT 4, 48, .inr (.inr (.inr (.inr (va_up fg141 47 (some q14_47)))))))]) [0] (by decide) rfl
  generalize va_up fg141 47 (some q14_47) = fg144 at hP hD
  refine lv_iinc (k := 0) (v := 48) hx hb dR_wholes_24 hl rfl (by decide) (by decide) rfl (fun ls hl => ?_)
  have hl : lv_has ls 3 [(2, .int 48), (1, .ref q1), (0, .int 48)] := hl
  refine lv_goto (tgt := 7) hx hb dR_wholes_27 rfl ?_
  refine lv_iload_n hx hb dR_wholes_7 rfl (lv_at hl 0 rfl) ?_
  refine lv_iload_n hx hb dR_wholes_8 rfl (lv_at hl 2 rfl) ?_
  refine lv_icmp_ge (tgt := 30) hx hb dR_wholes_9 rfl (fun _ => ?_) (fun h145 => absurd (by decide) h145)
  refine lv_aload_n hx hb dR_wholes_30 rfl (lv_at hl 1 rfl) ?_
  have hP9 := hP.sub (ws' := []) [] rfl
  have hD9 := hD.sub (ws' := []) [] (by decide) rfl
  refine W.widen (k := 97) (n := 1344) (Nat.le_of_ble_eq_true rfl) (Nat.le_of_ble_eq_true rfl) ?_
  exact W.aret (v := .ref q1) hx hb hr (Or.inr ⟨_, rfl⟩) (Or.inr ⟨_, rfl⟩) (fun t ht hW => ⟨⟨(fun _ => 0), q1, rfl, trivial, by rw [ht]; exact hP9, hD9⟩, hS.F ht⟩) hS.2.2 dR_wholes_31
