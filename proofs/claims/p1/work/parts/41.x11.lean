set_option maxHeartbeats 4000000 in
set_option maxRecDepth 100000 in
theorem k_reduceOne24 (l : Launch) (D : va_G) (cT : Nat → ClassId) (h : Nat) (ww : Nat) (wb : Int32) (wf : Nat → Int32) (ua : Nat) (h0 : wf 0 = 1) : Met l yR_reduce WR_reduce ({ frames := 2, cells := 0, slots := 0, locals := 49 } : Room) (RO D vwCl [.ref ua, .int 0, .ref h] [(h, .inr (4, [.ref ww, .int 1, .int wb])), (ww, .inl (cT 0, 24, .inl wf))] (TY cT)) (QcReadV) 0 0 (fun _ => False) := by
  refine Met.ofW (cc := cR_reduce) (maxL := 9) (ret := none) (by decide) rfl ?_
  intro p e s m args below meth c s₁ B hml hv
  obtain ⟨rfl, hZ, hP, hK⟩ := hv
  have hx := B.exec
  have hb := B.bytes
  have hr := B.returns
  have hts := atoms_spec (ws := WR_reduce) B.pre
  have hT : ∀ w ∈ TB, w.before _ s = true := fun w h => hts w (List.mem_cons_of_mem _ h)
  have hown : s.vm.findClass R_R = some m.cls := findClass_of_methodNamed B.named
  have hlocks := B.notSynchronized
  have hS : va_S (fun _ => False) s.heap s.heap [] := va_S.rf
  have hl := lv_entry ([.ref ua, .int 0, .ref h]) (n := 9) (Nat.le_of_ble_eq_true rfl)
  rw [lg_entry_eq]
  generalize (lg_sl ([.ref ua, .int 0, .ref h]) ++ List.replicate (9 - (lg_sl ([.ref ua, .int 0, .ref h])).length) Slot.unset).toArray = ls at hl ⊢
  have hl : lv_has ls 9 [(0, .ref ua), (1, .int 0), (2, .ref h)] := hl
  obtain ⟨tQ, hQ1, hQ2⟩ := hZ.2.2.2.1
  refine va_gets hx hb hQ1 hS hown (hT _ w970) (fun _ h => h) dR_reduce_0 ?_
  refine lv_astore_n hx hb dR_reduce_3 rfl hl (by decide) rfl (fun ls hl => ?_)
  have hl : lv_has ls 9 [(3, .ref tQ), (0, .ref ua), (1, .int 0), (2, .ref h)] := hl
  refine lv_aload_n hx hb dR_reduce_4 rfl (lv_at hl 0 rfl) ?_
  refine va_tlen (v := 19) hx hb hQ2 hS rfl dR_reduce_5 ?_
  refine lv_istore hx hb dR_reduce_6 hl (by decide) rfl (fun ls hl => ?_)
  have hl : lv_has ls 9 [(4, .int 19), (3, .ref tQ), (0, .ref ua), (1, .int 0), (2, .ref h)] := hl
  refine lv_iconst (v := 0) hx hb dR_reduce_8 (by decide) ?_
  refine lv_istore hx hb dR_reduce_9 hl (by decide) rfl (fun ls hl => ?_)
  have hl : lv_has ls 9 [(5, .int 0), (4, .int 19), (3, .ref tQ), (0, .ref ua), (1, .int 0), (2, .ref h)] := hl
  refine lv_iload hx hb dR_reduce_11 (lv_at hl 0 rfl) ?_
  refine lv_iload hx hb dR_reduce_13 (lv_at hl 1 rfl) ?_
  refine lv_icmp_ge (tgt := 89) hx hb dR_reduce_15 rfl (fun hj1 => absurd hj1 (by decide)) (fun _ => ?_)
  refine lv_aload_n hx hb dR_reduce_18 rfl (lv_at hl 2 rfl) ?_
  refine lv_iload hx hb dR_reduce_19 (lv_at hl 0 rfl) ?_
  refine va_ti (v := .int 2) hx hb hQ2 hS (by unfold vp_in; decide) rfl dR_reduce_21 ?_
  refine lv_istore hx hb dR_reduce_22 hl (by decide) rfl (fun ls hl => ?_)
  have hl : lv_has ls 9 [(6, .int 2), (5, .int 0), (4, .int 19), (3, .ref tQ), (0, .ref ua), (1, .int 0), (2, .ref h)] := hl
  refine lv_iconst (v := 0) hx hb dR_reduce_24 (by decide) ?_
  refine lv_istore hx hb dR_reduce_25 hl (by decide) rfl (fun ls hl => ?_)
  have hl : lv_has ls 9 [(7, .int 0), (6, .int 2), (5, .int 0), (4, .int 19), (3, .ref tQ), (0, .ref ua), (1, .int 0), (2, .ref h)] := hl
  refine lv_iload hx hb dR_reduce_27 (lv_at hl 0 rfl) ?_
  refine lv_aload_n hx hb dR_reduce_29 rfl (lv_at hl 7 rfl) ?_
  refine ro_i (va_Run.run (va_runV (As := []) (rest := [.int 0]) ⟨hx, hb, hml, hown, hT⟩ (k_mostBits24 l D cT h ww 1 wb wf) ⟨callB_of 0 hT (tb_gd w975) rfl rfl rfl (hT _ w5) (hT _ w972) hW_mostBits ⟨Nat.le_of_ble_eq_true rfl, Nat.le_of_ble_eq_true rfl⟩, (hT _ w973), (hT _ w974)⟩ (RO.preV (ci := 4) (q0 := 0) hZ hS (hP.sub (ws' := [(h, .inr (4, [.ref ww, .int 1, .int wb])), (ww, .inl (cT 0, 24, .inl wf))]) [0, 1] rfl) hK rfl rfl) rfl rfl hl.1 rfl (lv_room (Nat.le_of_ble_eq_true rfl)) dR_reduce_30 ⟨Nat.le_of_ble_eq_true rfl, Nat.le_of_ble_eq_true rfl⟩)) ?_
  refine lv_icmp_ge (tgt := 83) hx hb dR_reduce_33 rfl (fun hj2 => absurd hj2 (by decide)) (fun _ => ?_)
  refine lv_iload hx hb dR_reduce_36 (lv_at hl 1 rfl) ?_
  refine lv_aload_n hx hb dR_reduce_38 rfl (lv_at hl 5 rfl) ?_
  refine lv_iload_n hx hb dR_reduce_39 rfl (lv_at hl 6 rfl) ?_
  refine lv_aload_n hx hb dR_reduce_40 rfl (lv_at hl 7 rfl) ?_
  refine ro_i (va_Run.run (va_runS (As := [.int 2, .ref ua, .int 0, .ref h]) (rest := []) ⟨hx, hb, hml, hown, hT⟩ (k_dividesOne24_0 l D cT h ww wb wf 2 ua h0 (by decide) (by decide)) ⟨callB_of 4 hT (tb_gd w978) rfl rfl rfl (hT _ w1) (hT _ w976) hR_divides ⟨Nat.le_of_ble_eq_true rfl, Nat.le_of_ble_eq_true rfl⟩, (hT _ w977)⟩ (RO.preS hZ hS (hP.sub (ws' := [(h, .inr (4, [.ref ww, .int 1, .int wb])), (ww, .inl (cT 0, 24, .inl wf))]) [0, 1] rfl) hK) rfl rfl hl.1 rfl (lv_room (Nat.le_of_ble_eq_true rfl)) dR_reduce_41 ⟨Nat.le_of_ble_eq_true rfl, Nat.le_of_ble_eq_true rfl⟩)) ?_
  refine lv_if_eq (tgt := 83) hx hb dR_reduce_44 rfl (fun _ => ?_) (fun hj3 => absurd (by decide) hj3)
  refine lv_iinc (k := 2) (v := 1) hx hb dR_reduce_83 hl rfl (by decide) (by decide) rfl (fun ls hl => ?_)
  have hl : lv_has ls 9 [(5, .int 1), (7, .int 0), (6, .int 2), (4, .int 19), (3, .ref tQ), (0, .ref ua), (1, .int 0), (2, .ref h)] := hl
  refine lv_goto (tgt := 11) hx hb dR_reduce_86 rfl ?_
  refine lv_iload hx hb dR_reduce_11 (lv_at hl 0 rfl) ?_
  refine lv_iload hx hb dR_reduce_13 (lv_at hl 3 rfl) ?_
  refine lv_icmp_ge (tgt := 89) hx hb dR_reduce_15 rfl (fun hj4 => absurd hj4 (by decide)) (fun _ => ?_)
  refine lv_aload_n hx hb dR_reduce_18 rfl (lv_at hl 4 rfl) ?_
  refine lv_iload hx hb dR_reduce_19 (lv_at hl 0 rfl) ?_
  refine va_ti (v := .int 3) hx hb hQ2 hS (by unfold vp_in; decide) rfl dR_reduce_21 ?_
  refine lv_istore hx hb dR_reduce_22 hl (by decide) rfl (fun ls hl => ?_)
  have hl : lv_has ls 9 [(6, .int 3), (5, .int 1), (7, .int 0), (4, .int 19), (3, .ref tQ), (0, .ref ua), (1, .int 0), (2, .ref h)] := hl
  refine lv_iconst (v := 0) hx hb dR_reduce_24 (by decide) ?_
  refine lv_istore hx hb dR_reduce_25 hl (by decide) rfl (fun ls hl => ?_)
  have hl : lv_has ls 9 [(7, .int 0), (6, .int 3), (5, .int 1), (4, .int 19), (3, .ref tQ), (0, .ref ua), (1, .int 0), (2, .ref h)] := hl
  refine lv_iload hx hb dR_reduce_27 (lv_at hl 0 rfl) ?_
  refine lv_aload_n hx hb dR_reduce_29 rfl (lv_at hl 7 rfl) ?_
  refine ro_i (va_Run.run (va_runV (As := []) (rest := [.int 0]) ⟨hx, hb, hml, hown, hT⟩ (k_mostBits24 l D cT h ww 1 wb wf) ⟨callB_of 0 hT (tb_gd w975) rfl rfl rfl (hT _ w5) (hT _ w972) hW_mostBits ⟨Nat.le_of_ble_eq_true rfl, Nat.le_of_ble_eq_true rfl⟩, (hT _ w973), (hT _ w974)⟩ (RO.preV (ci := 4) (q0 := 0) hZ hS (hP.sub (ws' := [(h, .inr (4, [.ref ww, .int 1, .int wb])), (ww, .inl (cT 0, 24, .inl wf))]) [0, 1] rfl) hK rfl rfl) rfl rfl hl.1 rfl (lv_room (Nat.le_of_ble_eq_true rfl)) dR_reduce_30 ⟨Nat.le_of_ble_eq_true rfl, Nat.le_of_ble_eq_true rfl⟩)) ?_
  refine lv_icmp_ge (tgt := 83) hx hb dR_reduce_33 rfl (fun hj5 => absurd hj5 (by decide)) (fun _ => ?_)
  refine lv_iload hx hb dR_reduce_36 (lv_at hl 1 rfl) ?_
  refine lv_aload_n hx hb dR_reduce_38 rfl (lv_at hl 5 rfl) ?_
  refine lv_iload_n hx hb dR_reduce_39 rfl (lv_at hl 6 rfl) ?_
  refine lv_aload_n hx hb dR_reduce_40 rfl (lv_at hl 7 rfl) ?_
  refine ro_i (va_Run.run (va_runS (As := [.int 3, .ref ua, .int 0, .ref h]) (rest := []) ⟨hx, hb, hml, hown, hT⟩ (k_dividesOne24_0 l D cT h ww wb wf 3 ua h0 (by decide) (by decide)) ⟨callB_of 4 hT (tb_gd w978) rfl rfl rfl (hT _ w1) (hT _ w976) hR_divides ⟨Nat.le_of_ble_eq_true rfl, Nat.le_of_ble_eq_true rfl⟩, (hT _ w977)⟩ (RO.preS hZ hS (hP.sub (ws' := [(h, .inr (4, [.ref ww, .int 1, .int wb])), (ww, .inl (cT 0, 24, .inl wf))]) [0, 1] rfl) hK) rfl rfl hl.1 rfl (lv_room (Nat.le_of_ble_eq_true rfl)) dR_reduce_41 ⟨Nat.le_of_ble_eq_true rfl, Nat.le_of_ble_eq_true rfl⟩)) ?_
  refine lv_if_eq (tgt := 83) hx hb dR_reduce_44 rfl (fun _ => ?_) (fun hj6 => absurd (by decide) hj6)
  refine lv_iinc (k := 2) (v := 2) hx hb dR_reduce_83 hl rfl (by decide) (by decide) rfl (fun ls hl => ?_)
  have hl : lv_has ls 9 [(5, .int 2), (7, .int 0), (6, .int 3), (4, .int 19), (3, .ref tQ), (0, .ref ua), (1, .int 0), (2, .ref h)] := hl
  refine lv_goto (tgt := 11) hx hb dR_reduce_86 rfl ?_
  refine lv_iload hx hb dR_reduce_11 (lv_at hl 0 rfl) ?_
  refine lv_iload hx hb dR_reduce_13 (lv_at hl 3 rfl) ?_
  refine lv_icmp_ge (tgt := 89) hx hb dR_reduce_15 rfl (fun hj7 => absurd hj7 (by decide)) (fun _ => ?_)
  refine lv_aload_n hx hb dR_reduce_18 rfl (lv_at hl 4 rfl) ?_
  refine lv_iload hx hb dR_reduce_19 (lv_at hl 0 rfl) ?_
  refine va_ti (v := .int 5) hx hb hQ2 hS (by unfold vp_in; decide) rfl dR_reduce_21 ?_
  refine lv_istore hx hb dR_reduce_22 hl (by decide) rfl (fun ls hl => ?_)
  have hl : lv_has ls 9 [(6, .int 5), (5, .int 2), (7, .int 0), (4, .int 19), (3, .ref tQ), (0, .ref ua), (1, .int 0), (2, .ref h)] := hl
  refine lv_iconst (v := 0) hx hb dR_reduce_24 (by decide) ?_
  refine lv_istore hx hb dR_reduce_25 hl (by decide) rfl (fun ls hl => ?_)
  have hl : lv_has ls 9 [(7, .int 0), (6, .int 5), (5, .int 2), (4, .int 19), (3, .ref tQ), (0, .ref ua), (1, .int 0), (2, .ref h)] := hl
  refine lv_iload hx hb dR_reduce_27 (lv_at hl 0 rfl) ?_
  refine lv_aload_n hx hb dR_reduce_29 rfl (lv_at hl 7 rfl) ?_
  refine ro_i (va_Run.run (va_runV (As := []) (rest := [.int 0]) ⟨hx, hb, hml, hown, hT⟩ (k_mostBits24 l D cT h ww 1 wb wf) ⟨callB_of 0 hT (tb_gd w975) rfl rfl rfl (hT _ w5) (hT _ w972) hW_mostBits ⟨Nat.le_of_ble_eq_true rfl, Nat.le_of_ble_eq_true rfl⟩, (hT _ w973), (hT _ w974)⟩ (RO.preV (ci := 4) (q0 := 0) hZ hS (hP.sub (ws' := [(h, .inr (4, [.ref ww, .int 1, .int wb])), (ww, .inl (cT 0, 24, .inl wf))]) [0, 1] rfl) hK rfl rfl) rfl rfl hl.1 rfl (lv_room (Nat.le_of_ble_eq_true rfl)) dR_reduce_30 ⟨Nat.le_of_ble_eq_true rfl, Nat.le_of_ble_eq_true rfl⟩)) ?_
  refine lv_icmp_ge (tgt := 83) hx hb dR_reduce_33 rfl (fun hj8 => absurd hj8 (by decide)) (fun _ => ?_)
  refine lv_iload hx hb dR_reduce_36 (lv_at hl 1 rfl) ?_
  refine lv_aload_n hx hb dR_reduce_38 rfl (lv_at hl 5 rfl) ?_
  refine lv_iload_n hx hb dR_reduce_39 rfl (lv_at hl 6 rfl) ?_
  refine lv_aload_n hx hb dR_reduce_40 rfl (lv_at hl 7 rfl) ?_
  refine ro_i (va_Run.run (va_runS (As := [.int 5, .ref ua, .int 0, .ref h]) (rest := []) ⟨hx, hb, hml, hown, hT⟩ (k_dividesOne24_0 l D cT h ww wb wf 5 ua h0 (by decide) (by decide)) ⟨callB_of 4 hT (tb_gd w978) rfl rfl rfl (hT _ w1) (hT _ w976) hR_divides ⟨Nat.le_of_ble_eq_true rfl, Nat.le_of_ble_eq_true rfl⟩, (hT _ w977)⟩ (RO.preS hZ hS (hP.sub (ws' := [(h, .inr (4, [.ref ww, .int 1, .int wb])), (ww, .inl (cT 0, 24, .inl wf))]) [0, 1] rfl) hK) rfl rfl hl.1 rfl (lv_room (Nat.le_of_ble_eq_true rfl)) dR_reduce_41 ⟨Nat.le_of_ble_eq_true rfl, Nat.le_of_ble_eq_true rfl⟩)) ?_
  refine lv_if_eq (tgt := 83) hx hb dR_reduce_44 rfl (fun _ => ?_) (fun hj9 => absurd (by decide) hj9)
  refine lv_iinc (k := 2) (v := 3) hx hb dR_reduce_83 hl rfl (by decide) (by decide) rfl (fun ls hl => ?_)
  have hl : lv_has ls 9 [(5, .int 3), (7, .int 0), (6, .int 5), (4, .int 19), (3, .ref tQ), (0, .ref ua), (1, .int 0), (2, .ref h)] := hl
  refine lv_goto (tgt := 11) hx hb dR_reduce_86 rfl ?_
  refine lv_iload hx hb dR_reduce_11 (lv_at hl 0 rfl) ?_
  refine lv_iload hx hb dR_reduce_13 (lv_at hl 3 rfl) ?_
  refine lv_icmp_ge (tgt := 89) hx hb dR_reduce_15 rfl (fun hj10 => absurd hj10 (by decide)) (fun _ => ?_)
  refine lv_aload_n hx hb dR_reduce_18 rfl (lv_at hl 4 rfl) ?_
  refine lv_iload hx hb dR_reduce_19 (lv_at hl 0 rfl) ?_
  refine va_ti (v := .int 7) hx hb hQ2 hS (by unfold vp_in; decide) rfl dR_reduce_21 ?_
  refine lv_istore hx hb dR_reduce_22 hl (by decide) rfl (fun ls hl => ?_)
  have hl : lv_has ls 9 [(6, .int 7), (5, .int 3), (7, .int 0), (4, .int 19), (3, .ref tQ), (0, .ref ua), (1, .int 0), (2, .ref h)] := hl
  refine lv_iconst (v := 0) hx hb dR_reduce_24 (by decide) ?_
  refine lv_istore hx hb dR_reduce_25 hl (by decide) rfl (fun ls hl => ?_)
  have hl : lv_has ls 9 [(7, .int 0), (6, .int 7), (5, .int 3), (4, .int 19), (3, .ref tQ), (0, .ref ua), (1, .int 0), (2, .ref h)] := hl
  refine lv_iload hx hb dR_reduce_27 (lv_at hl 0 rfl) ?_
  refine lv_aload_n hx hb dR_reduce_29 rfl (lv_at hl 7 rfl) ?_
  refine ro_i (va_Run.run (va_runV (As := []) (rest := [.int 0]) ⟨hx, hb, hml, hown, hT⟩ (k_mostBits24 l D cT h ww 1 wb wf) ⟨callB_of 0 hT (tb_gd w975) rfl rfl rfl (hT _ w5) (hT _ w972) hW_mostBits ⟨Nat.le_of_ble_eq_true rfl, Nat.le_of_ble_eq_true rfl⟩, (hT _ w973), (hT _ w974)⟩ (RO.preV (ci := 4) (q0 := 0) hZ hS (hP.sub (ws' := [(h, .inr (4, [.ref ww, .int 1, .int wb])), (ww, .inl (cT 0, 24, .inl wf))]) [0, 1] rfl) hK rfl rfl) rfl rfl hl.1 rfl (lv_room (Nat.le_of_ble_eq_true rfl)) dR_reduce_30 ⟨Nat.le_of_ble_eq_true rfl, Nat.le_of_ble_eq_true rfl⟩)) ?_
  refine lv_icmp_ge (tgt := 83) hx hb dR_reduce_33 rfl (fun hj11 => absurd hj11 (by decide)) (fun _ => ?_)
  refine lv_iload hx hb dR_reduce_36 (lv_at hl 1 rfl) ?_
  refine lv_aload_n hx hb dR_reduce_38 rfl (lv_at hl 5 rfl) ?_
  refine lv_iload_n hx hb dR_reduce_39 rfl (lv_at hl 6 rfl) ?_
  refine lv_aload_n hx hb dR_reduce_40 rfl (lv_at hl 7 rfl) ?_
  refine ro_i (va_Run.run (va_runS (As := [.int 7, .ref ua, .int 0, .ref h]) (rest := []) ⟨hx, hb, hml, hown, hT⟩ (k_dividesOne24_0 l D cT h ww wb wf 7 ua h0 (by decide) (by decide)) ⟨callB_of 4 hT (tb_gd w978) rfl rfl rfl (hT _ w1) (hT _ w976) hR_divides ⟨Nat.le_of_ble_eq_true rfl, Nat.le_of_ble_eq_true rfl⟩, (hT _ w977)⟩ (RO.preS hZ hS (hP.sub (ws' := [(h, .inr (4, [.ref ww, .int 1, .int wb])), (ww, .inl (cT 0, 24, .inl wf))]) [0, 1] rfl) hK) rfl rfl hl.1 rfl (lv_room (Nat.le_of_ble_eq_true rfl)) dR_reduce_41 ⟨Nat.le_of_ble_eq_true rfl, Nat.le_of_ble_eq_true rfl⟩)) ?_
  refine lv_if_eq (tgt := 83) hx hb dR_reduce_44 rfl (fun _ => ?_) (fun hj12 => absurd (by decide) hj12)
  refine lv_iinc (k := 2) (v := 4) hx hb dR_reduce_83 hl rfl (by decide) (by decide) rfl (fun ls hl => ?_)
  have hl : lv_has ls 9 [(5, .int 4), (7, .int 0), (6, .int 7), (4, .int 19), (3, .ref tQ), (0, .ref ua), (1, .int 0), (2, .ref h)] := hl
  refine lv_goto (tgt := 11) hx hb dR_reduce_86 rfl ?_
  refine lv_iload hx hb dR_reduce_11 (lv_at hl 0 rfl) ?_
  refine lv_iload hx hb dR_reduce_13 (lv_at hl 3 rfl) ?_
  refine lv_icmp_ge (tgt := 89) hx hb dR_reduce_15 rfl (fun hj13 => absurd hj13 (by decide)) (fun _ => ?_)
  refine lv_aload_n hx hb dR_reduce_18 rfl (lv_at hl 4 rfl) ?_
  refine lv_iload hx hb dR_reduce_19 (lv_at hl 0 rfl) ?_
  refine va_ti (v := .int 11) hx hb hQ2 hS (by unfold vp_in; decide) rfl dR_reduce_21 ?_
  refine lv_istore hx hb dR_reduce_22 hl (by decide) rfl (fun ls hl => ?_)
  have hl : lv_has ls 9 [(6, .int 11), (5, .int 4), (7, .int 0), (4, .int 19), (3, .ref tQ), (0, .ref ua), (1, .int 0), (2, .ref h)] := hl
  refine lv_iconst (v := 0) hx hb dR_reduce_24 (by decide) ?_
  refine lv_istore hx hb dR_reduce_25 hl (by decide) rfl (fun ls hl => ?_)
  have hl : lv_has ls 9 [(7, .int 0), (6, .int 11), (5, .int 4), (4, .int 19), (3, .ref tQ), (0, .ref ua), (1, .int 0), (2, .ref h)] := hl
  refine lv_iload hx hb dR_reduce_27 (lv_at hl 0 rfl) ?_
  refine lv_aload_n hx hb dR_reduce_29 rfl (lv_at hl 7 rfl) ?_
  refine ro_i (va_Run.run (va_runV (As := []) (rest := [.int 0]) ⟨hx, hb, hml, hown, hT⟩ (k_mostBits24 l D cT h ww 1 wb wf) ⟨callB_of 0 hT (tb_gd w975) rfl rfl rfl (hT _ w5) (hT _ w972) hW_mostBits ⟨Nat.le_of_ble_eq_true rfl, Nat.le_of_ble_eq_true rfl⟩, (hT _ w973), (hT _ w974)⟩ (RO.preV (ci := 4) (q0 := 0) hZ hS (hP.sub (ws' := [(h, .inr (4, [.ref ww, .int 1, .int wb])), (ww, .inl (cT 0, 24, .inl wf))]) [0, 1] rfl) hK rfl rfl) rfl rfl hl.1 rfl (lv_room (Nat.le_of_ble_eq_true rfl)) dR_reduce_30 ⟨Nat.le_of_ble_eq_true rfl, Nat.le_of_ble_eq_true rfl⟩)) ?_
  refine lv_icmp_ge (tgt := 83) hx hb dR_reduce_33 rfl (fun hj14 => absurd hj14 (by decide)) (fun _ => ?_)
  refine lv_iload hx hb dR_reduce_36 (lv_at hl 1 rfl) ?_
  refine lv_aload_n hx hb dR_reduce_38 rfl (lv_at hl 5 rfl) ?_
  refine lv_iload_n hx hb dR_reduce_39 rfl (lv_at hl 6 rfl) ?_
  refine lv_aload_n hx hb dR_reduce_40 rfl (lv_at hl 7 rfl) ?_
  refine ro_i (va_Run.run (va_runS (As := [.int 11, .ref ua, .int 0, .ref h]) (rest := []) ⟨hx, hb, hml, hown, hT⟩ (k_dividesOne24_0 l D cT h ww wb wf 11 ua h0 (by decide) (by decide)) ⟨callB_of 4 hT (tb_gd w978) rfl rfl rfl (hT _ w1) (hT _ w976) hR_divides ⟨Nat.le_of_ble_eq_true rfl, Nat.le_of_ble_eq_true rfl⟩, (hT _ w977)⟩ (RO.preS hZ hS (hP.sub (ws' := [(h, .inr (4, [.ref ww, .int 1, .int wb])), (ww, .inl (cT 0, 24, .inl wf))]) [0, 1] rfl) hK) rfl rfl hl.1 rfl (lv_room (Nat.le_of_ble_eq_true rfl)) dR_reduce_41 ⟨Nat.le_of_ble_eq_true rfl, Nat.le_of_ble_eq_true rfl⟩)) ?_
  refine lv_if_eq (tgt := 83) hx hb dR_reduce_44 rfl (fun _ => ?_) (fun hj15 => absurd (by decide) hj15)
  refine lv_iinc (k := 2) (v := 5) hx hb dR_reduce_83 hl rfl (by decide) (by decide) rfl (fun ls hl => ?_)
  have hl : lv_has ls 9 [(5, .int 5), (7, .int 0), (6, .int 11), (4, .int 19), (3, .ref tQ), (0, .ref ua), (1, .int 0), (2, .ref h)] := hl
  refine lv_goto (tgt := 11) hx hb dR_reduce_86 rfl ?_
  refine lv_iload hx hb dR_reduce_11 (lv_at hl 0 rfl) ?_
  refine lv_iload hx hb dR_reduce_13 (lv_at hl 3 rfl) ?_
  refine lv_icmp_ge (tgt := 89) hx hb dR_reduce_15 rfl (fun hj16 => absurd hj16 (by decide)) (fun _ => ?_)
  refine lv_aload_n hx hb dR_reduce_18 rfl (lv_at hl 4 rfl) ?_
  refine lv_iload hx hb dR_reduce_19 (lv_at hl 0 rfl) ?_
  refine va_ti (v := .int 13) hx hb hQ2 hS (by unfold vp_in; decide) rfl dR_reduce_21 ?_
  refine lv_istore hx hb dR_reduce_22 hl (by decide) rfl (fun ls hl => ?_)
  have hl : lv_has ls 9 [(6, .int 13), (5, .int 5), (7, .int 0), (4, .int 19), (3, .ref tQ), (0, .ref ua), (1, .int 0), (2, .ref h)] := hl
  refine lv_iconst (v := 0) hx hb dR_reduce_24 (by decide) ?_
  refine lv_istore hx hb dR_reduce_25 hl (by decide) rfl (fun ls hl => ?_)
  have hl : lv_has ls 9 [(7, .int 0), (6, .int 13), (5, .int 5), (4, .int 19), (3, .ref tQ), (0, .ref ua), (1, .int 0), (2, .ref h)] := hl
  refine lv_iload hx hb dR_reduce_27 (lv_at hl 0 rfl) ?_
  refine lv_aload_n hx hb dR_reduce_29 rfl (lv_at hl 7 rfl) ?_
  refine ro_i (va_Run.run (va_runV (As := []) (rest := [.int 0]) ⟨hx, hb, hml, hown, hT⟩ (k_mostBits24 l D cT h ww 1 wb wf) ⟨callB_of 0 hT (tb_gd w975) rfl rfl rfl (hT _ w5) (hT _ w972) hW_mostBits ⟨Nat.le_of_ble_eq_true rfl, Nat.le_of_ble_eq_true rfl⟩, (hT _ w973), (hT _ w974)⟩ (RO.preV (ci := 4) (q0 := 0) hZ hS (hP.sub (ws' := [(h, .inr (4, [.ref ww, .int 1, .int wb])), (ww, .inl (cT 0, 24, .inl wf))]) [0, 1] rfl) hK rfl rfl) rfl rfl hl.1 rfl (lv_room (Nat.le_of_ble_eq_true rfl)) dR_reduce_30 ⟨Nat.le_of_ble_eq_true rfl, Nat.le_of_ble_eq_true rfl⟩)) ?_
  refine lv_icmp_ge (tgt := 83) hx hb dR_reduce_33 rfl (fun hj17 => absurd hj17 (by decide)) (fun _ => ?_)
  refine lv_iload hx hb dR_reduce_36 (lv_at hl 1 rfl) ?_
  refine lv_aload_n hx hb dR_reduce_38 rfl (lv_at hl 5 rfl) ?_
  refine lv_iload_n hx hb dR_reduce_39 rfl (lv_at hl 6 rfl) ?_
  refine lv_aload_n hx hb dR_reduce_40 rfl (lv_at hl 7 rfl) ?_
  refine ro_i (va_Run.run (va_runS (As := [.int 13, .ref ua, .int 0, .ref h]) (rest := []) ⟨hx, hb, hml, hown, hT⟩ (k_dividesOne24_0 l D cT h ww wb wf 13 ua h0 (by decide) (by decide)) ⟨callB_of 4 hT (tb_gd w978) rfl rfl rfl (hT _ w1) (hT _ w976) hR_divides ⟨Nat.le_of_ble_eq_true rfl, Nat.le_of_ble_eq_true rfl⟩, (hT _ w977)⟩ (RO.preS hZ hS (hP.sub (ws' := [(h, .inr (4, [.ref ww, .int 1, .int wb])), (ww, .inl (cT 0, 24, .inl wf))]) [0, 1] rfl) hK) rfl rfl hl.1 rfl (lv_room (Nat.le_of_ble_eq_true rfl)) dR_reduce_41 ⟨Nat.le_of_ble_eq_true rfl, Nat.le_of_ble_eq_true rfl⟩)) ?_
  refine lv_if_eq (tgt := 83) hx hb dR_reduce_44 rfl (fun _ => ?_) (fun hj18 => absurd (by decide) hj18)
  refine lv_iinc (k := 2) (v := 6) hx hb dR_reduce_83 hl rfl (by decide) (by decide) rfl (fun ls hl => ?_)
  have hl : lv_has ls 9 [(5, .int 6), (7, .int 0), (6, .int 13), (4, .int 19), (3, .ref tQ), (0, .ref ua), (1, .int 0), (2, .ref h)] := hl
  refine lv_goto (tgt := 11) hx hb dR_reduce_86 rfl ?_
  refine lv_iload hx hb dR_reduce_11 (lv_at hl 0 rfl) ?_
  refine lv_iload hx hb dR_reduce_13 (lv_at hl 3 rfl) ?_
  refine lv_icmp_ge (tgt := 89) hx hb dR_reduce_15 rfl (fun hj19 => absurd hj19 (by decide)) (fun _ => ?_)
  refine lv_aload_n hx hb dR_reduce_18 rfl (lv_at hl 4 rfl) ?_
  refine lv_iload hx hb dR_reduce_19 (lv_at hl 0 rfl) ?_
  refine va_ti (v := .int 17) hx hb hQ2 hS (by unfold vp_in; decide) rfl dR_reduce_21 ?_
  refine lv_istore hx hb dR_reduce_22 hl (by decide) rfl (fun ls hl => ?_)
  have hl : lv_has ls 9 [(6, .int 17), (5, .int 6), (7, .int 0), (4, .int 19), (3, .ref tQ), (0, .ref ua), (1, .int 0), (2, .ref h)] := hl
  refine lv_iconst (v := 0) hx hb dR_reduce_24 (by decide) ?_
  refine lv_istore hx hb dR_reduce_25 hl (by decide) rfl (fun ls hl => ?_)
  have hl : lv_has ls 9 [(7, .int 0), (6, .int 17), (5, .int 6), (4, .int 19), (3, .ref tQ), (0, .ref ua), (1, .int 0), (2, .ref h)] := hl
  refine lv_iload hx hb dR_reduce_27 (lv_at hl 0 rfl) ?_
  refine lv_aload_n hx hb dR_reduce_29 rfl (lv_at hl 7 rfl) ?_
  refine ro_i (va_Run.run (va_runV (As := []) (rest := [.int 0]) ⟨hx, hb, hml, hown, hT⟩ (k_mostBits24 l D cT h ww 1 wb wf) ⟨callB_of 0 hT (tb_gd w975) rfl rfl rfl (hT _ w5) (hT _ w972) hW_mostBits ⟨Nat.le_of_ble_eq_true rfl, Nat.le_of_ble_eq_true rfl⟩, (hT _ w973), (hT _ w974)⟩ (RO.preV (ci := 4) (q0 := 0) hZ hS (hP.sub (ws' := [(h, .inr (4, [.ref ww, .int 1, .int wb])), (ww, .inl (cT 0, 24, .inl wf))]) [0, 1] rfl) hK rfl rfl) rfl rfl hl.1 rfl (lv_room (Nat.le_of_ble_eq_true rfl)) dR_reduce_30 ⟨Nat.le_of_ble_eq_true rfl, Nat.le_of_ble_eq_true rfl⟩)) ?_
  refine lv_icmp_ge (tgt := 83) hx hb dR_reduce_33 rfl (fun hj20 => absurd hj20 (by decide)) (fun _ => ?_)
  refine lv_iload hx hb dR_reduce_36 (lv_at hl 1 rfl) ?_
  refine lv_aload_n hx hb dR_reduce_38 rfl (lv_at hl 5 rfl) ?_
  refine lv_iload_n hx hb dR_reduce_39 rfl (lv_at hl 6 rfl) ?_
  refine lv_aload_n hx hb dR_reduce_40 rfl (lv_at hl 7 rfl) ?_
  refine ro_i (va_Run.run (va_runS (As := [.int 17, .ref ua, .int 0, .ref h]) (rest := []) ⟨hx, hb, hml, hown, hT⟩ (k_dividesOne24_0 l D cT h ww wb wf 17 ua h0 (by decide) (by decide)) ⟨callB_of 4 hT (tb_gd w978) rfl rfl rfl (hT _ w1) (hT _ w976) hR_divides ⟨Nat.le_of_ble_eq_true rfl, Nat.le_of_ble_eq_true rfl⟩, (hT _ w977)⟩ (RO.preS hZ hS (hP.sub (ws' := [(h, .inr (4, [.ref ww, .int 1, .int wb])), (ww, .inl (cT 0, 24, .inl wf))]) [0, 1] rfl) hK) rfl rfl hl.1 rfl (lv_room (Nat.le_of_ble_eq_true rfl)) dR_reduce_41 ⟨Nat.le_of_ble_eq_true rfl, Nat.le_of_ble_eq_true rfl⟩)) ?_
  refine lv_if_eq (tgt := 83) hx hb dR_reduce_44 rfl (fun _ => ?_) (fun hj21 => absurd (by decide) hj21)
  refine lv_iinc (k := 2) (v := 7) hx hb dR_reduce_83 hl rfl (by decide) (by decide) rfl (fun ls hl => ?_)
  have hl : lv_has ls 9 [(5, .int 7), (7, .int 0), (6, .int 17), (4, .int 19), (3, .ref tQ), (0, .ref ua), (1, .int 0), (2, .ref h)] := hl
  refine lv_goto (tgt := 11) hx hb dR_reduce_86 rfl ?_
  refine lv_iload hx hb dR_reduce_11 (lv_at hl 0 rfl) ?_
  refine lv_iload hx hb dR_reduce_13 (lv_at hl 3 rfl) ?_
  refine lv_icmp_ge (tgt := 89) hx hb dR_reduce_15 rfl (fun hj22 => absurd hj22 (by decide)) (fun _ => ?_)
  refine lv_aload_n hx hb dR_reduce_18 rfl (lv_at hl 4 rfl) ?_
  refine lv_iload hx hb dR_reduce_19 (lv_at hl 0 rfl) ?_
  refine va_ti (v := .int 19) hx hb hQ2 hS (by unfold vp_in; decide) rfl dR_reduce_21 ?_
  refine lv_istore hx hb dR_reduce_22 hl (by decide) rfl (fun ls hl => ?_)
  have hl : lv_has ls 9 [(6, .int 19), (5, .int 7), (7, .int 0), (4, .int 19), (3, .ref tQ), (0, .ref ua), (1, .int 0), (2, .ref h)] := hl
  refine lv_iconst (v := 0) hx hb dR_reduce_24 (by decide) ?_
  refine lv_istore hx hb dR_reduce_25 hl (by decide) rfl (fun ls hl => ?_)
  have hl : lv_has ls 9 [(7, .int 0), (6, .int 19), (5, .int 7), (4, .int 19), (3, .ref tQ), (0, .ref ua), (1, .int 0), (2, .ref h)] := hl
  refine lv_iload hx hb dR_reduce_27 (lv_at hl 0 rfl) ?_
  refine lv_aload_n hx hb dR_reduce_29 rfl (lv_at hl 7 rfl) ?_
  refine ro_i (va_Run.run (va_runV (As := []) (rest := [.int 0]) ⟨hx, hb, hml, hown, hT⟩ (k_mostBits24 l D cT h ww 1 wb wf) ⟨callB_of 0 hT (tb_gd w975) rfl rfl rfl (hT _ w5) (hT _ w972) hW_mostBits ⟨Nat.le_of_ble_eq_true rfl, Nat.le_of_ble_eq_true rfl⟩, (hT _ w973), (hT _ w974)⟩ (RO.preV (ci := 4) (q0 := 0) hZ hS (hP.sub (ws' := [(h, .inr (4, [.ref ww, .int 1, .int wb])), (ww, .inl (cT 0, 24, .inl wf))]) [0, 1] rfl) hK rfl rfl) rfl rfl hl.1 rfl (lv_room (Nat.le_of_ble_eq_true rfl)) dR_reduce_30 ⟨Nat.le_of_ble_eq_true rfl, Nat.le_of_ble_eq_true rfl⟩)) ?_
  refine lv_icmp_ge (tgt := 83) hx hb dR_reduce_33 rfl (fun hj23 => absurd hj23 (by decide)) (fun _ => ?_)
  refine lv_iload hx hb dR_reduce_36 (lv_at hl 1 rfl) ?_
  refine lv_aload_n hx hb dR_reduce_38 rfl (lv_at hl 5 rfl) ?_
  refine lv_iload_n hx hb dR_reduce_39 rfl (lv_at hl 6 rfl) ?_
  refine lv_aload_n hx hb dR_reduce_40 rfl (lv_at hl 7 rfl) ?_
  refine ro_i (va_Run.run (va_runS (As := [.int 19, .ref ua, .int 0, .ref h]) (rest := []) ⟨hx, hb, hml, hown, hT⟩ (k_dividesOne24_0 l D cT h ww wb wf 19 ua h0 (by decide) (by decide)) ⟨callB_of 4 hT (tb_gd w978) rfl rfl rfl (hT _ w1) (hT _ w976) hR_divides ⟨Nat.le_of_ble_eq_true rfl, Nat.le_of_ble_eq_true rfl⟩, (hT _ w977)⟩ (RO.preS hZ hS (hP.sub (ws' := [(h, .inr (4, [.ref ww, .int 1, .int wb])), (ww, .inl (cT 0, 24, .inl wf))]) [0, 1] rfl) hK) rfl rfl hl.1 rfl (lv_room (Nat.le_of_ble_eq_true rfl)) dR_reduce_41 ⟨Nat.le_of_ble_eq_true rfl, Nat.le_of_ble_eq_true rfl⟩)) ?_
  refine lv_if_eq (tgt := 83) hx hb dR_reduce_44 rfl (fun _ => ?_) (fun hj24 => absurd (by decide) hj24)
  refine lv_iinc (k := 2) (v := 8) hx hb dR_reduce_83 hl rfl (by decide) (by decide) rfl (fun ls hl => ?_)
  have hl : lv_has ls 9 [(5, .int 8), (7, .int 0), (6, .int 19), (4, .int 19), (3, .ref tQ), (0, .ref ua), (1, .int 0), (2, .ref h)] := hl
  refine lv_goto (tgt := 11) hx hb dR_reduce_86 rfl ?_
  refine lv_iload hx hb dR_reduce_11 (lv_at hl 0 rfl) ?_
  refine lv_iload hx hb dR_reduce_13 (lv_at hl 3 rfl) ?_
  refine lv_icmp_ge (tgt := 89) hx hb dR_reduce_15 rfl (fun hj25 => absurd hj25 (by decide)) (fun _ => ?_)
  refine lv_aload_n hx hb dR_reduce_18 rfl (lv_at hl 4 rfl) ?_
  refine lv_iload hx hb dR_reduce_19 (lv_at hl 0 rfl) ?_
  refine va_ti (v := .int 23) hx hb hQ2 hS (by unfold vp_in; decide) rfl dR_reduce_21 ?_
  refine lv_istore hx hb dR_reduce_22 hl (by decide) rfl (fun ls hl => ?_)
  have hl : lv_has ls 9 [(6, .int 23), (5, .int 8), (7, .int 0), (4, .int 19), (3, .ref tQ), (0, .ref ua), (1, .int 0), (2, .ref h)] := hl
  refine lv_iconst (v := 0) hx hb dR_reduce_24 (by decide) ?_
  refine lv_istore hx hb dR_reduce_25 hl (by decide) rfl (fun ls hl => ?_)
  have hl : lv_has ls 9 [(7, .int 0), (6, .int 23), (5, .int 8), (4, .int 19), (3, .ref tQ), (0, .ref ua), (1, .int 0), (2, .ref h)] := hl
  refine lv_iload hx hb dR_reduce_27 (lv_at hl 0 rfl) ?_
  refine lv_aload_n hx hb dR_reduce_29 rfl (lv_at hl 7 rfl) ?_
  refine ro_i (va_Run.run (va_runV (As := []) (rest := [.int 0]) ⟨hx, hb, hml, hown, hT⟩ (k_mostBits24 l D cT h ww 1 wb wf) ⟨callB_of 0 hT (tb_gd w975) rfl rfl rfl (hT _ w5) (hT _ w972) hW_mostBits ⟨Nat.le_of_ble_eq_true rfl, Nat.le_of_ble_eq_true rfl⟩, (hT _ w973), (hT _ w974)⟩ (RO.preV (ci := 4) (q0 := 0) hZ hS (hP.sub (ws' := [(h, .inr (4, [.ref ww, .int 1, .int wb])), (ww, .inl (cT 0, 24, .inl wf))]) [0, 1] rfl) hK rfl rfl) rfl rfl hl.1 rfl (lv_room (Nat.le_of_ble_eq_true rfl)) dR_reduce_30 ⟨Nat.le_of_ble_eq_true rfl, Nat.le_of_ble_eq_true rfl⟩)) ?_
  refine lv_icmp_ge (tgt := 83) hx hb dR_reduce_33 rfl (fun hj26 => absurd hj26 (by decide)) (fun _ => ?_)
  refine lv_iload hx hb dR_reduce_36 (lv_at hl 1 rfl) ?_
  refine lv_aload_n hx hb dR_reduce_38 rfl (lv_at hl 5 rfl) ?_
  refine lv_iload_n hx hb dR_reduce_39 rfl (lv_at hl 6 rfl) ?_
  refine lv_aload_n hx hb dR_reduce_40 rfl (lv_at hl 7 rfl) ?_
  refine ro_i (va_Run.run (va_runS (As := [.int 23, .ref ua, .int 0, .ref h]) (rest := []) ⟨hx, hb, hml, hown, hT⟩ (k_dividesOne24_0 l D cT h ww wb wf 23 ua h0 (by decide) (by decide)) ⟨callB_of 4 hT (tb_gd w978) rfl rfl rfl (hT _ w1) (hT _ w976) hR_divides ⟨Nat.le_of_ble_eq_true rfl, Nat.le_of_ble_eq_true rfl⟩, (hT _ w977)⟩ (RO.preS hZ hS (hP.sub (ws' := [(h, .inr (4, [.ref ww, .int 1, .int wb])), (ww, .inl (cT 0, 24, .inl wf))]) [0, 1] rfl) hK) rfl rfl hl.1 rfl (lv_room (Nat.le_of_ble_eq_true rfl)) dR_reduce_41 ⟨Nat.le_of_ble_eq_true rfl, Nat.le_of_ble_eq_true rfl⟩)) ?_
  refine lv_if_eq (tgt := 83) hx hb dR_reduce_44 rfl (fun _ => ?_) (fun hj27 => absurd (by decide) hj27)
  refine lv_iinc (k := 2) (v := 9) hx hb dR_reduce_83 hl rfl (by decide) (by decide) rfl (fun ls hl => ?_)
  have hl : lv_has ls 9 [(5, .int 9), (7, .int 0), (6, .int 23), (4, .int 19), (3, .ref tQ), (0, .ref ua), (1, .int 0), (2, .ref h)] := hl
  refine lv_goto (tgt := 11) hx hb dR_reduce_86 rfl ?_
  refine lv_iload hx hb dR_reduce_11 (lv_at hl 0 rfl) ?_
  refine lv_iload hx hb dR_reduce_13 (lv_at hl 3 rfl) ?_
  refine lv_icmp_ge (tgt := 89) hx hb dR_reduce_15 rfl (fun hj28 => absurd hj28 (by decide)) (fun _ => ?_)
  refine lv_aload_n hx hb dR_reduce_18 rfl (lv_at hl 4 rfl) ?_
  refine lv_iload hx hb dR_reduce_19 (lv_at hl 0 rfl) ?_
  refine va_ti (v := .int 29) hx hb hQ2 hS (by unfold vp_in; decide) rfl dR_reduce_21 ?_
  refine lv_istore hx hb dR_reduce_22 hl (by decide) rfl (fun ls hl => ?_)
  have hl : lv_has ls 9 [(6, .int 29), (5, .int 9), (7, .int 0), (4, .int 19), (3, .ref tQ), (0, .ref ua), (1, .int 0), (2, .ref h)] := hl
  refine lv_iconst (v := 0) hx hb dR_reduce_24 (by decide) ?_
  refine lv_istore hx hb dR_reduce_25 hl (by decide) rfl (fun ls hl => ?_)
  have hl : lv_has ls 9 [(7, .int 0), (6, .int 29), (5, .int 9), (4, .int 19), (3, .ref tQ), (0, .ref ua), (1, .int 0), (2, .ref h)] := hl
  refine lv_iload hx hb dR_reduce_27 (lv_at hl 0 rfl) ?_
  refine lv_aload_n hx hb dR_reduce_29 rfl (lv_at hl 7 rfl) ?_
  refine ro_i (va_Run.run (va_runV (As := []) (rest := [.int 0]) ⟨hx, hb, hml, hown, hT⟩ (k_mostBits24 l D cT h ww 1 wb wf) ⟨callB_of 0 hT (tb_gd w975) rfl rfl rfl (hT _ w5) (hT _ w972) hW_mostBits ⟨Nat.le_of_ble_eq_true rfl, Nat.le_of_ble_eq_true rfl⟩, (hT _ w973), (hT _ w974)⟩ (RO.preV (ci := 4) (q0 := 0) hZ hS (hP.sub (ws' := [(h, .inr (4, [.ref ww, .int 1, .int wb])), (ww, .inl (cT 0, 24, .inl wf))]) [0, 1] rfl) hK rfl rfl) rfl rfl hl.1 rfl (lv_room (Nat.le_of_ble_eq_true rfl)) dR_reduce_30 ⟨Nat.le_of_ble_eq_true rfl, Nat.le_of_ble_eq_true rfl⟩)) ?_
  refine lv_icmp_ge (tgt := 83) hx hb dR_reduce_33 rfl (fun hj29 => absurd hj29 (by decide)) (fun _ => ?_)
  refine lv_iload hx hb dR_reduce_36 (lv_at hl 1 rfl) ?_
  refine lv_aload_n hx hb dR_reduce_38 rfl (lv_at hl 5 rfl) ?_
  refine lv_iload_n hx hb dR_reduce_39 rfl (lv_at hl 6 rfl) ?_
  refine lv_aload_n hx hb dR_reduce_40 rfl (lv_at hl 7 rfl) ?_
  refine ro_i (va_Run.run (va_runS (As := [.int 29, .ref ua, .int 0, .ref h]) (rest := []) ⟨hx, hb, hml, hown, hT⟩ (k_dividesOne24_0 l D cT h ww wb wf 29 ua h0 (by decide) (by decide)) ⟨callB_of 4 hT (tb_gd w978) rfl rfl rfl (hT _ w1) (hT _ w976) hR_divides ⟨Nat.le_of_ble_eq_true rfl, Nat.le_of_ble_eq_true rfl⟩, (hT _ w977)⟩ (RO.preS hZ hS (hP.sub (ws' := [(h, .inr (4, [.ref ww, .int 1, .int wb])), (ww, .inl (cT 0, 24, .inl wf))]) [0, 1] rfl) hK) rfl rfl hl.1 rfl (lv_room (Nat.le_of_ble_eq_true rfl)) dR_reduce_41 ⟨Nat.le_of_ble_eq_true rfl, Nat.le_of_ble_eq_true rfl⟩)) ?_
  refine lv_if_eq (tgt := 83) hx hb dR_reduce_44 rfl (fun _ => ?_) (fun hj30 => absurd (by decide) hj30)
  refine lv_iinc (k := 2) (v := 10) hx hb dR_reduce_83 hl rfl (by decide) (by decide) rfl (fun ls hl => ?_)
  have hl : lv_has ls 9 [(5, .int 10), (7, .int 0), (6, .int 29), (4, .int 19), (3, .ref tQ), (0, .ref ua), (1, .int 0), (2, .ref h)] := hl
  refine lv_goto (tgt := 11) hx hb dR_reduce_86 rfl ?_
  refine lv_iload hx hb dR_reduce_11 (lv_at hl 0 rfl) ?_
  refine lv_iload hx hb dR_reduce_13 (lv_at hl 3 rfl) ?_
  refine lv_icmp_ge (tgt := 89) hx hb dR_reduce_15 rfl (fun hj31 => absurd hj31 (by decide)) (fun _ => ?_)
  refine lv_aload_n hx hb dR_reduce_18 rfl (lv_at hl 4 rfl) ?_
  refine lv_iload hx hb dR_reduce_19 (lv_at hl 0 rfl) ?_
  refine va_ti (v := .int 31) hx hb hQ2 hS (by unfold vp_in; decide) rfl dR_reduce_21 ?_
  refine lv_istore hx hb dR_reduce_22 hl (by decide) rfl (fun ls hl => ?_)
  have hl : lv_has ls 9 [(6, .int 31), (5, .int 10), (7, .int 0), (4, .int 19), (3, .ref tQ), (0, .ref ua), (1, .int 0), (2, .ref h)] := hl
  refine lv_iconst (v := 0) hx hb dR_reduce_24 (by decide) ?_
  refine lv_istore hx hb dR_reduce_25 hl (by decide) rfl (fun ls hl => ?_)
  have hl : lv_has ls 9 [(7, .int 0), (6, .int 31), (5, .int 10), (4, .int 19), (3, .ref tQ), (0, .ref ua), (1, .int 0), (2, .ref h)] := hl
  refine lv_iload hx hb dR_reduce_27 (lv_at hl 0 rfl) ?_
  refine lv_aload_n hx hb dR_reduce_29 rfl (lv_at hl 7 rfl) ?_
  refine ro_i (va_Run.run (va_runV (As := []) (rest := [.int 0]) ⟨hx, hb, hml, hown, hT⟩ (k_mostBits24 l D cT h ww 1 wb wf) ⟨callB_of 0 hT (tb_gd w975) rfl rfl rfl (hT _ w5) (hT _ w972) hW_mostBits ⟨Nat.le_of_ble_eq_true rfl, Nat.le_of_ble_eq_true rfl⟩, (hT _ w973), (hT _ w974)⟩ (RO.preV (ci := 4) (q0 := 0) hZ hS (hP.sub (ws' := [(h, .inr (4, [.ref ww, .int 1, .int wb])), (ww, .inl (cT 0, 24, .inl wf))]) [0, 1] rfl) hK rfl rfl) rfl rfl hl.1 rfl (lv_room (Nat.le_of_ble_eq_true rfl)) dR_reduce_30 ⟨Nat.le_of_ble_eq_true rfl, Nat.le_of_ble_eq_true rfl⟩)) ?_
  refine lv_icmp_ge (tgt := 83) hx hb dR_reduce_33 rfl (fun hj32 => absurd hj32 (by decide)) (fun _ => ?_)
  refine lv_iload hx hb dR_reduce_36 (lv_at hl 1 rfl) ?_
  refine lv_aload_n hx hb dR_reduce_38 rfl (lv_at hl 5 rfl) ?_
  refine lv_iload_n hx hb dR_reduce_39 rfl (lv_at hl 6 rfl) ?_
  refine lv_aload_n hx hb dR_reduce_40 rfl (lv_at hl 7 rfl) ?_
  refine ro_i (va_Run.run (va_runS (As := [.int 31, .ref ua, .int 0, .ref h]) (rest := []) ⟨hx, hb, hml, hown, hT⟩ (k_dividesOne24_0 l D cT h ww wb wf 31 ua h0 (by decide) (by decide)) ⟨callB_of 4 hT (tb_gd w978) rfl rfl rfl (hT _ w1) (hT _ w976) hR_divides ⟨Nat.le_of_ble_eq_true rfl, Nat.le_of_ble_eq_true rfl⟩, (hT _ w977)⟩ (RO.preS hZ hS (hP.sub (ws' := [(h, .inr (4, [.ref ww, .int 1, .int wb])), (ww, .inl (cT 0, 24, .inl wf))]) [0, 1] rfl) hK) rfl rfl hl.1 rfl (lv_room (Nat.le_of_ble_eq_true rfl)) dR_reduce_41 ⟨Nat.le_of_ble_eq_true rfl, Nat.le_of_ble_eq_true rfl⟩)) ?_
  refine lv_if_eq (tgt := 83) hx hb dR_reduce_44 rfl (fun _ => ?_) (fun hj33 => absurd (by decide) hj33)
  refine lv_iinc (k := 2) (v := 11) hx hb dR_reduce_83 hl rfl (by decide) (by decide) rfl (fun ls hl => ?_)
  have hl : lv_has ls 9 [(5, .int 11), (7, .int 0), (6, .int 31), (4, .int 19), (3, .ref tQ), (0, .ref ua), (1, .int 0), (2, .ref h)] := hl
  refine lv_goto (tgt := 11) hx hb dR_reduce_86 rfl ?_
  refine lv_iload hx hb dR_reduce_11 (lv_at hl 0 rfl) ?_
  refine lv_iload hx hb dR_reduce_13 (lv_at hl 3 rfl) ?_
  refine lv_icmp_ge (tgt := 89) hx hb dR_reduce_15 rfl (fun hj34 => absurd hj34 (by decide)) (fun _ => ?_)
  refine lv_aload_n hx hb dR_reduce_18 rfl (lv_at hl 4 rfl) ?_
  refine lv_iload hx hb dR_reduce_19 (lv_at hl 0 rfl) ?_
  refine va_ti (v := .int 37) hx hb hQ2 hS (by unfold vp_in; decide) rfl dR_reduce_21 ?_
  refine lv_istore hx hb dR_reduce_22 hl (by decide) rfl (fun ls hl => ?_)
  have hl : lv_has ls 9 [(6, .int 37), (5, .int 11), (7, .int 0), (4, .int 19), (3, .ref tQ), (0, .ref ua), (1, .int 0), (2, .ref h)] := hl
  refine lv_iconst (v := 0) hx hb dR_reduce_24 (by decide) ?_
  refine lv_istore hx hb dR_reduce_25 hl (by decide) rfl (fun ls hl => ?_)
  have hl : lv_has ls 9 [(7, .int 0), (6, .int 37), (5, .int 11), (4, .int 19), (3, .ref tQ), (0, .ref ua), (1, .int 0), (2, .ref h)] := hl
  refine lv_iload hx hb dR_reduce_27 (lv_at hl 0 rfl) ?_
  refine lv_aload_n hx hb dR_reduce_29 rfl (lv_at hl 7 rfl) ?_
  refine ro_i (va_Run.run (va_runV (As := []) (rest := [.int 0]) ⟨hx, hb, hml, hown, hT⟩ (k_mostBits24 l D cT h ww 1 wb wf) ⟨callB_of 0 hT (tb_gd w975) rfl rfl rfl (hT _ w5) (hT _ w972) hW_mostBits ⟨Nat.le_of_ble_eq_true rfl, Nat.le_of_ble_eq_true rfl⟩, (hT _ w973), (hT _ w974)⟩ (RO.preV (ci := 4) (q0 := 0) hZ hS (hP.sub (ws' := [(h, .inr (4, [.ref ww, .int 1, .int wb])), (ww, .inl (cT 0, 24, .inl wf))]) [0, 1] rfl) hK rfl rfl) rfl rfl hl.1 rfl (lv_room (Nat.le_of_ble_eq_true rfl)) dR_reduce_30 ⟨Nat.le_of_ble_eq_true rfl, Nat.le_of_ble_eq_true rfl⟩)) ?_
  refine lv_icmp_ge (tgt := 83) hx hb dR_reduce_33 rfl (fun hj35 => absurd hj35 (by decide)) (fun _ => ?_)
  refine lv_iload hx hb dR_reduce_36 (lv_at hl 1 rfl) ?_
  refine lv_aload_n hx hb dR_reduce_38 rfl (lv_at hl 5 rfl) ?_
  refine lv_iload_n hx hb dR_reduce_39 rfl (lv_at hl 6 rfl) ?_
  refine lv_aload_n hx hb dR_reduce_40 rfl (lv_at hl 7 rfl) ?_
  refine ro_i (va_Run.run (va_runS (As := [.int 37, .ref ua, .int 0, .ref h]) (rest := []) ⟨hx, hb, hml, hown, hT⟩ (k_dividesOne24_0 l D cT h ww wb wf 37 ua h0 (by decide) (by decide)) ⟨callB_of 4 hT (tb_gd w978) rfl rfl rfl (hT _ w1) (hT _ w976) hR_divides ⟨Nat.le_of_ble_eq_true rfl, Nat.le_of_ble_eq_true rfl⟩, (hT _ w977)⟩ (RO.preS hZ hS (hP.sub (ws' := [(h, .inr (4, [.ref ww, .int 1, .int wb])), (ww, .inl (cT 0, 24, .inl wf))]) [0, 1] rfl) hK) rfl rfl hl.1 rfl (lv_room (Nat.le_of_ble_eq_true rfl)) dR_reduce_41 ⟨Nat.le_of_ble_eq_true rfl, Nat.le_of_ble_eq_true rfl⟩)) ?_
  refine lv_if_eq (tgt := 83) hx hb dR_reduce_44 rfl (fun _ => ?_) (fun hj36 => absurd (by decide) hj36)
  refine lv_iinc (k := 2) (v := 12) hx hb dR_reduce_83 hl rfl (by decide) (by decide) rfl (fun ls hl => ?_)
  have hl : lv_has ls 9 [(5, .int 12), (7, .int 0), (6, .int 37), (4, .int 19), (3, .ref tQ), (0, .ref ua), (1, .int 0), (2, .ref h)] := hl
  refine lv_goto (tgt := 11) hx hb dR_reduce_86 rfl ?_
  refine lv_iload hx hb dR_reduce_11 (lv_at hl 0 rfl) ?_
  refine lv_iload hx hb dR_reduce_13 (lv_at hl 3 rfl) ?_
  refine lv_icmp_ge (tgt := 89) hx hb dR_reduce_15 rfl (fun hj37 => absurd hj37 (by decide)) (fun _ => ?_)
  refine lv_aload_n hx hb dR_reduce_18 rfl (lv_at hl 4 rfl) ?_
  refine lv_iload hx hb dR_reduce_19 (lv_at hl 0 rfl) ?_
  refine va_ti (v := .int 41) hx hb hQ2 hS (by unfold vp_in; decide) rfl dR_reduce_21 ?_
  refine lv_istore hx hb dR_reduce_22 hl (by decide) rfl (fun ls hl => ?_)
  have hl : lv_has ls 9 [(6, .int 41), (5, .int 12), (7, .int 0), (4, .int 19), (3, .ref tQ), (0, .ref ua), (1, .int 0), (2, .ref h)] := hl
  refine lv_iconst (v := 0) hx hb dR_reduce_24 (by decide) ?_
  refine lv_istore hx hb dR_reduce_25 hl (by decide) rfl (fun ls hl => ?_)
  have hl : lv_has ls 9 [(7, .int 0), (6, .int 41), (5, .int 12), (4, .int 19), (3, .ref tQ), (0, .ref ua), (1, .int 0), (2, .ref h)] := hl
  refine lv_iload hx hb dR_reduce_27 (lv_at hl 0 rfl) ?_
  refine lv_aload_n hx hb dR_reduce_29 rfl (lv_at hl 7 rfl) ?_
  refine ro_i (va_Run.run (va_runV (As := []) (rest := [.int 0]) ⟨hx, hb, hml, hown, hT⟩ (k_mostBits24 l D cT h ww 1 wb wf) ⟨callB_of 0 hT (tb_gd w975) rfl rfl rfl (hT _ w5) (hT _ w972) hW_mostBits ⟨Nat.le_of_ble_eq_true rfl, Nat.le_of_ble_eq_true rfl⟩, (hT _ w973), (hT _ w974)⟩ (RO.preV (ci := 4) (q0 := 0) hZ hS (hP.sub (ws' := [(h, .inr (4, [.ref ww, .int 1, .int wb])), (ww, .inl (cT 0, 24, .inl wf))]) [0, 1] rfl) hK rfl rfl) rfl rfl hl.1 rfl (lv_room (Nat.le_of_ble_eq_true rfl)) dR_reduce_30 ⟨Nat.le_of_ble_eq_true rfl, Nat.le_of_ble_eq_true rfl⟩)) ?_
  refine lv_icmp_ge (tgt := 83) hx hb dR_reduce_33 rfl (fun hj38 => absurd hj38 (by decide)) (fun _ => ?_)
  refine lv_iload hx hb dR_reduce_36 (lv_at hl 1 rfl) ?_
  refine lv_aload_n hx hb dR_reduce_38 rfl (lv_at hl 5 rfl) ?_
  refine lv_iload_n hx hb dR_reduce_39 rfl (lv_at hl 6 rfl) ?_
  refine lv_aload_n hx hb dR_reduce_40 rfl (lv_at hl 7 rfl) ?_
  refine ro_i (va_Run.run (va_runS (As := [.int 41, .ref ua, .int 0, .ref h]) (rest := []) ⟨hx, hb, hml, hown, hT⟩ (k_dividesOne24_0 l D cT h ww wb wf 41 ua h0 (by decide) (by decide)) ⟨callB_of 4 hT (tb_gd w978) rfl rfl rfl (hT _ w1) (hT _ w976) hR_divides ⟨Nat.le_of_ble_eq_true rfl, Nat.le_of_ble_eq_true rfl⟩, (hT _ w977)⟩ (RO.preS hZ hS (hP.sub (ws' := [(h, .inr (4, [.ref ww, .int 1, .int wb])), (ww, .inl (cT 0, 24, .inl wf))]) [0, 1] rfl) hK) rfl rfl hl.1 rfl (lv_room (Nat.le_of_ble_eq_true rfl)) dR_reduce_41 ⟨Nat.le_of_ble_eq_true rfl, Nat.le_of_ble_eq_true rfl⟩)) ?_
  refine lv_if_eq (tgt := 83) hx hb dR_reduce_44 rfl (fun _ => ?_) (fun hj39 => absurd (by decide) hj39)
  refine lv_iinc (k := 2) (v := 13) hx hb dR_reduce_83 hl rfl (by decide) (by decide) rfl (fun ls hl => ?_)
  have hl : lv_has ls 9 [(5, .int 13), (7, .int 0), (6, .int 41), (4, .int 19), (3, .ref tQ), (0, .ref ua), (1, .int 0), (2, .ref h)] := hl
  refine lv_goto (tgt := 11) hx hb dR_reduce_86 rfl ?_
  refine lv_iload hx hb dR_reduce_11 (lv_at hl 0 rfl) ?_
  refine lv_iload hx hb dR_reduce_13 (lv_at hl 3 rfl) ?_
  refine lv_icmp_ge (tgt := 89) hx hb dR_reduce_15 rfl (fun hj40 => absurd hj40 (by decide)) (fun _ => ?_)
  refine lv_aload_n hx hb dR_reduce_18 rfl (lv_at hl 4 rfl) ?_
  refine lv_iload hx hb dR_reduce_19 (lv_at hl 0 rfl) ?_
  refine va_ti (v := .int 43) hx hb hQ2 hS (by unfold vp_in; decide) rfl dR_reduce_21 ?_
  refine lv_istore hx hb dR_reduce_22 hl (by decide) rfl (fun ls hl => ?_)
  have hl : lv_has ls 9 [(6, .int 43), (5, .int 13), (7, .int 0), (4, .int 19), (3, .ref tQ), (0, .ref ua), (1, .int 0), (2, .ref h)] := hl
  refine lv_iconst (v := 0) hx hb dR_reduce_24 (by decide) ?_
  refine lv_istore hx hb dR_reduce_25 hl (by decide) rfl (fun ls hl => ?_)
  have hl : lv_has ls 9 [(7, .int 0), (6, .int 43), (5, .int 13), (4, .int 19), (3, .ref tQ), (0, .ref ua), (1, .int 0), (2, .ref h)] := hl
  refine lv_iload hx hb dR_reduce_27 (lv_at hl 0 rfl) ?_
  refine lv_aload_n hx hb dR_reduce_29 rfl (lv_at hl 7 rfl) ?_
  refine ro_i (va_Run.run (va_runV (As := []) (rest := [.int 0]) ⟨hx, hb, hml, hown, hT⟩ (k_mostBits24 l D cT h ww 1 wb wf) ⟨callB_of 0 hT (tb_gd w975) rfl rfl rfl (hT _ w5) (hT _ w972) hW_mostBits ⟨Nat.le_of_ble_eq_true rfl, Nat.le_of_ble_eq_true rfl⟩, (hT _ w973), (hT _ w974)⟩ (RO.preV (ci := 4) (q0 := 0) hZ hS (hP.sub (ws' := [(h, .inr (4, [.ref ww, .int 1, .int wb])), (ww, .inl (cT 0, 24, .inl wf))]) [0, 1] rfl) hK rfl rfl) rfl rfl hl.1 rfl (lv_room (Nat.le_of_ble_eq_true rfl)) dR_reduce_30 ⟨Nat.le_of_ble_eq_true rfl, Nat.le_of_ble_eq_true rfl⟩)) ?_
  refine lv_icmp_ge (tgt := 83) hx hb dR_reduce_33 rfl (fun hj41 => absurd hj41 (by decide)) (fun _ => ?_)
  refine lv_iload hx hb dR_reduce_36 (lv_at hl 1 rfl) ?_
  refine lv_aload_n hx hb dR_reduce_38 rfl (lv_at hl 5 rfl) ?_
  refine lv_iload_n hx hb dR_reduce_39 rfl (lv_at hl 6 rfl) ?_
  refine lv_aload_n hx hb dR_reduce_40 rfl (lv_at hl 7 rfl) ?_
  refine ro_i (va_Run.run (va_runS (As := [.int 43, .ref ua, .int 0, .ref h]) (rest := []) ⟨hx, hb, hml, hown, hT⟩ (k_dividesOne24_0 l D cT h ww wb wf 43 ua h0 (by decide) (by decide)) ⟨callB_of 4 hT (tb_gd w978) rfl rfl rfl (hT _ w1) (hT _ w976) hR_divides ⟨Nat.le_of_ble_eq_true rfl, Nat.le_of_ble_eq_true rfl⟩, (hT _ w977)⟩ (RO.preS hZ hS (hP.sub (ws' := [(h, .inr (4, [.ref ww, .int 1, .int wb])), (ww, .inl (cT 0, 24, .inl wf))]) [0, 1] rfl) hK) rfl rfl hl.1 rfl (lv_room (Nat.le_of_ble_eq_true rfl)) dR_reduce_41 ⟨Nat.le_of_ble_eq_true rfl, Nat.le_of_ble_eq_true rfl⟩)) ?_
  refine lv_if_eq (tgt := 83) hx hb dR_reduce_44 rfl (fun _ => ?_) (fun hj42 => absurd (by decide) hj42)
  refine lv_iinc (k := 2) (v := 14) hx hb dR_reduce_83 hl rfl (by decide) (by decide) rfl (fun ls hl => ?_)
  have hl : lv_has ls 9 [(5, .int 14), (7, .int 0), (6, .int 43), (4, .int 19), (3, .ref tQ), (0, .ref ua), (1, .int 0), (2, .ref h)] := hl
  refine lv_goto (tgt := 11) hx hb dR_reduce_86 rfl ?_
  refine lv_iload hx hb dR_reduce_11 (lv_at hl 0 rfl) ?_
  refine lv_iload hx hb dR_reduce_13 (lv_at hl 3 rfl) ?_
  refine lv_icmp_ge (tgt := 89) hx hb dR_reduce_15 rfl (fun hj43 => absurd hj43 (by decide)) (fun _ => ?_)
  refine lv_aload_n hx hb dR_reduce_18 rfl (lv_at hl 4 rfl) ?_
  refine lv_iload hx hb dR_reduce_19 (lv_at hl 0 rfl) ?_
  refine va_ti (v := .int 47) hx hb hQ2 hS (by unfold vp_in; decide) rfl dR_reduce_21 ?_
  refine lv_istore hx hb dR_reduce_22 hl (by decide) rfl (fun ls hl => ?_)
  have hl : lv_has ls 9 [(6, .int 47), (5, .int 14), (7, .int 0), (4, .int 19), (3, .ref tQ), (0, .ref ua), (1, .int 0), (2, .ref h)] := hl
  refine lv_iconst (v := 0) hx hb dR_reduce_24 (by decide) ?_
  refine lv_istore hx hb dR_reduce_25 hl (by decide) rfl (fun ls hl => ?_)
  have hl : lv_has ls 9 [(7, .int 0), (6, .int 47), (5, .int 14), (4, .int 19), (3, .ref tQ), (0, .ref ua), (1, .int 0), (2, .ref h)] := hl
  refine lv_iload hx hb dR_reduce_27 (lv_at hl 0 rfl) ?_
  refine lv_aload_n hx hb dR_reduce_29 rfl (lv_at hl 7 rfl) ?_
  refine ro_i (va_Run.run (va_runV (As := []) (rest := [.int 0]) ⟨hx, hb, hml, hown, hT⟩ (k_mostBits24 l D cT h ww 1 wb wf) ⟨callB_of 0 hT (tb_gd w975) rfl rfl rfl (hT _ w5) (hT _ w972) hW_mostBits ⟨Nat.le_of_ble_eq_true rfl, Nat.le_of_ble_eq_true rfl⟩, (hT _ w973), (hT _ w974)⟩ (RO.preV (ci := 4) (q0 := 0) hZ hS (hP.sub (ws' := [(h, .inr (4, [.ref ww, .int 1, .int wb])), (ww, .inl (cT 0, 24, .inl wf))]) [0, 1] rfl) hK rfl rfl) rfl rfl hl.1 rfl (lv_room (Nat.le_of_ble_eq_true rfl)) dR_reduce_30 ⟨Nat.le_of_ble_eq_true rfl, Nat.le_of_ble_eq_true rfl⟩)) ?_
  refine lv_icmp_ge (tgt := 83) hx hb dR_reduce_33 rfl (fun hj44 => absurd hj44 (by decide)) (fun _ => ?_)
  refine lv_iload hx hb dR_reduce_36 (lv_at hl 1 rfl) ?_
  refine lv_aload_n hx hb dR_reduce_38 rfl (lv_at hl 5 rfl) ?_
  refine lv_iload_n hx hb dR_reduce_39 rfl (lv_at hl 6 rfl) ?_
  refine lv_aload_n hx hb dR_reduce_40 rfl (lv_at hl 7 rfl) ?_
  refine ro_i (va_Run.run (va_runS (As := [.int 47, .ref ua, .int 0, .ref h]) (rest := []) ⟨hx, hb, hml, hown, hT⟩ (k_dividesOne24_0 l D cT h ww wb wf 47 ua h0 (by decide) (by decide)) ⟨callB_of 4 hT (tb_gd w978) rfl rfl rfl (hT _ w1) (hT _ w976) hR_divides ⟨Nat.le_of_ble_eq_true rfl, Nat.le_of_ble_eq_true rfl⟩, (hT _ w977)⟩ (RO.preS hZ hS (hP.sub (ws' := [(h, .inr (4, [.ref ww, .int 1, .int wb])), (ww, .inl (cT 0, 24, .inl wf))]) [0, 1] rfl) hK) rfl rfl hl.1 rfl (lv_room (Nat.le_of_ble_eq_true rfl)) dR_reduce_41 ⟨Nat.le_of_ble_eq_true rfl, Nat.le_of_ble_eq_true rfl⟩)) ?_
  refine lv_if_eq (tgt := 83) hx hb dR_reduce_44 rfl (fun _ => ?_) (fun hj45 => absurd (by decide) hj45)
  refine lv_iinc (k := 2) (v := 15) hx hb dR_reduce_83 hl rfl (by decide) (by decide) rfl (fun ls hl => ?_)
  have hl : lv_has ls 9 [(5, .int 15), (7, .int 0), (6, .int 47), (4, .int 19), (3, .ref tQ), (0, .ref ua), (1, .int 0), (2, .ref h)] := hl
  refine lv_goto (tgt := 11) hx hb dR_reduce_86 rfl ?_
  refine lv_iload hx hb dR_reduce_11 (lv_at hl 0 rfl) ?_
  refine lv_iload hx hb dR_reduce_13 (lv_at hl 3 rfl) ?_
  refine lv_icmp_ge (tgt := 89) hx hb dR_reduce_15 rfl (fun hj46 => absurd hj46 (by decide)) (fun _ => ?_)
  refine lv_aload_n hx hb dR_reduce_18 rfl (lv_at hl 4 rfl) ?_
  refine lv_iload hx hb dR_reduce_19 (lv_at hl 0 rfl) ?_
  refine va_ti (v := .int 53) hx hb hQ2 hS (by unfold vp_in; decide) rfl dR_reduce_21 ?_
  refine lv_istore hx hb dR_reduce_22 hl (by decide) rfl (fun ls hl => ?_)
  have hl : lv_has ls 9 [(6, .int 53), (5, .int 15), (7, .int 0), (4, .int 19), (3, .ref tQ), (0, .ref ua), (1, .int 0), (2, .ref h)] := hl
  refine lv_iconst (v := 0) hx hb dR_reduce_24 (by decide) ?_
  refine lv_istore hx hb dR_reduce_25 hl (by decide) rfl (fun ls hl => ?_)
  have hl : lv_has ls 9 [(7, .int 0), (6, .int 53), (5, .int 15), (4, .int 19), (3, .ref tQ), (0, .ref ua), (1, .int 0), (2, .ref h)] := hl
  refine lv_iload hx hb dR_reduce_27 (lv_at hl 0 rfl) ?_
  refine lv_aload_n hx hb dR_reduce_29 rfl (lv_at hl 7 rfl) ?_
  refine ro_i (va_Run.run (va_runV (As := []) (rest := [.int 0]) ⟨hx, hb, hml, hown, hT⟩ (k_mostBits24 l D cT h ww 1 wb wf) ⟨callB_of 0 hT (tb_gd w975) rfl rfl rfl (hT _ w5) (hT _ w972) hW_mostBits ⟨Nat.le_of_ble_eq_true rfl, Nat.le_of_ble_eq_true rfl⟩, (hT _ w973), (hT _ w974)⟩ (RO.preV (ci := 4) (q0 := 0) hZ hS (hP.sub (ws' := [(h, .inr (4, [.ref ww, .int 1, .int wb])), (ww, .inl (cT 0, 24, .inl wf))]) [0, 1] rfl) hK rfl rfl) rfl rfl hl.1 rfl (lv_room (Nat.le_of_ble_eq_true rfl)) dR_reduce_30 ⟨Nat.le_of_ble_eq_true rfl, Nat.le_of_ble_eq_true rfl⟩)) ?_
  refine lv_icmp_ge (tgt := 83) hx hb dR_reduce_33 rfl (fun hj47 => absurd hj47 (by decide)) (fun _ => ?_)
  refine lv_iload hx hb dR_reduce_36 (lv_at hl 1 rfl) ?_
  refine lv_aload_n hx hb dR_reduce_38 rfl (lv_at hl 5 rfl) ?_
  refine lv_iload_n hx hb dR_reduce_39 rfl (lv_at hl 6 rfl) ?_
  refine lv_aload_n hx hb dR_reduce_40 rfl (lv_at hl 7 rfl) ?_
  refine ro_i (va_Run.run (va_runS (As := [.int 53, .ref ua, .int 0, .ref h]) (rest := []) ⟨hx, hb, hml, hown, hT⟩ (k_dividesOne24_0 l D cT h ww wb wf 53 ua h0 (by decide) (by decide)) ⟨callB_of 4 hT (tb_gd w978) rfl rfl rfl (hT _ w1) (hT _ w976) hR_divides ⟨Nat.le_of_ble_eq_true rfl, Nat.le_of_ble_eq_true rfl⟩, (hT _ w977)⟩ (RO.preS hZ hS (hP.sub (ws' := [(h, .inr (4, [.ref ww, .int 1, .int wb])), (ww, .inl (cT 0, 24, .inl wf))]) [0, 1] rfl) hK) rfl rfl hl.1 rfl (lv_room (Nat.le_of_ble_eq_true rfl)) dR_reduce_41 ⟨Nat.le_of_ble_eq_true rfl, Nat.le_of_ble_eq_true rfl⟩)) ?_
  refine lv_if_eq (tgt := 83) hx hb dR_reduce_44 rfl (fun _ => ?_) (fun hj48 => absurd (by decide) hj48)
  refine lv_iinc (k := 2) (v := 16) hx hb dR_reduce_83 hl rfl (by decide) (by decide) rfl (fun ls hl => ?_)
  have hl : lv_has ls 9 [(5, .int 16), (7, .int 0), (6, .int 53), (4, .int 19), (3, .ref tQ), (0, .ref ua), (1, .int 0), (2, .ref h)] := hl
  refine lv_goto (tgt := 11) hx hb dR_reduce_86 rfl ?_
  refine lv_iload hx hb dR_reduce_11 (lv_at hl 0 rfl) ?_
  refine lv_iload hx hb dR_reduce_13 (lv_at hl 3 rfl) ?_
  refine lv_icmp_ge (tgt := 89) hx hb dR_reduce_15 rfl (fun hj49 => absurd hj49 (by decide)) (fun _ => ?_)
  refine lv_aload_n hx hb dR_reduce_18 rfl (lv_at hl 4 rfl) ?_
  refine lv_iload hx hb dR_reduce_19 (lv_at hl 0 rfl) ?_
  refine va_ti (v := .int 59) hx hb hQ2 hS (by unfold vp_in; decide) rfl dR_reduce_21 ?_
  refine lv_istore hx hb dR_reduce_22 hl (by decide) rfl (fun ls hl => ?_)
  have hl : lv_has ls 9 [(6, .int 59), (5, .int 16), (7, .int 0), (4, .int 19), (3, .ref tQ), (0, .ref ua), (1, .int 0), (2, .ref h)] := hl
  refine lv_iconst (v := 0) hx hb dR_reduce_24 (by decide) ?_
  refine lv_istore hx hb dR_reduce_25 hl (by decide) rfl (fun ls hl => ?_)
  have hl : lv_has ls 9 [(7, .int 0), (6, .int 59), (5, .int 16), (4, .int 19), (3, .ref tQ), (0, .ref ua), (1, .int 0), (2, .ref h)] := hl
  refine lv_iload hx hb dR_reduce_27 (lv_at hl 0 rfl) ?_
  refine lv_aload_n hx hb dR_reduce_29 rfl (lv_at hl 7 rfl) ?_
  refine ro_i (va_Run.run (va_runV (As := []) (rest := [.int 0]) ⟨hx, hb, hml, hown, hT⟩ (k_mostBits24 l D cT h ww 1 wb wf) ⟨callB_of 0 hT (tb_gd w975) rfl rfl rfl (hT _ w5) (hT _ w972) hW_mostBits ⟨Nat.le_of_ble_eq_true rfl, Nat.le_of_ble_eq_true rfl⟩, (hT _ w973), (hT _ w974)⟩ (RO.preV (ci := 4) (q0 := 0) hZ hS (hP.sub (ws' := [(h, .inr (4, [.ref ww, .int 1, .int wb])), (ww, .inl (cT 0, 24, .inl wf))]) [0, 1] rfl) hK rfl rfl) rfl rfl hl.1 rfl (lv_room (Nat.le_of_ble_eq_true rfl)) dR_reduce_30 ⟨Nat.le_of_ble_eq_true rfl, Nat.le_of_ble_eq_true rfl⟩)) ?_
  refine lv_icmp_ge (tgt := 83) hx hb dR_reduce_33 rfl (fun hj50 => absurd hj50 (by decide)) (fun _ => ?_)
  refine lv_iload hx hb dR_reduce_36 (lv_at hl 1 rfl) ?_
  refine lv_aload_n hx hb dR_reduce_38 rfl (lv_at hl 5 rfl) ?_
  refine lv_iload_n hx hb dR_reduce_39 rfl (lv_at hl 6 rfl) ?_
  refine lv_aload_n hx hb dR_reduce_40 rfl (lv_at hl 7 rfl) ?_
  refine ro_i (va_Run.run (va_runS (As := [.int 59, .ref ua, .int 0, .ref h]) (rest := []) ⟨hx, hb, hml, hown, hT⟩ (k_dividesOne24_0 l D cT h ww wb wf 59 ua h0 (by decide) (by decide)) ⟨callB_of 4 hT (tb_gd w978) rfl rfl rfl (hT _ w1) (hT _ w976) hR_divides ⟨Nat.le_of_ble_eq_true rfl, Nat.le_of_ble_eq_true rfl⟩, (hT _ w977)⟩ (RO.preS hZ hS (hP.sub (ws' := [(h, .inr (4, [.ref ww, .int 1, .int wb])), (ww, .inl (cT 0, 24, .inl wf))]) [0, 1] rfl) hK) rfl rfl hl.1 rfl (lv_room (Nat.le_of_ble_eq_true rfl)) dR_reduce_41 ⟨Nat.le_of_ble_eq_true rfl, Nat.le_of_ble_eq_true rfl⟩)) ?_
  refine lv_if_eq (tgt := 83) hx hb dR_reduce_44 rfl (fun _ => ?_) (fun hj51 => absurd (by decide) hj51)
  refine lv_iinc (k := 2) (v := 17) hx hb dR_reduce_83 hl rfl (by decide) (by decide) rfl (fun ls hl => ?_)
  have hl : lv_has ls 9 [(5, .int 17), (7, .int 0), (6, .int 59), (4, .int 19), (3, .ref tQ), (0, .ref ua), (1, .int 0), (2, .ref h)] := hl
  refine lv_goto (tgt := 11) hx hb dR_reduce_86 rfl ?_
  refine lv_iload hx hb dR_reduce_11 (lv_at hl 0 rfl) ?_
  refine lv_iload hx hb dR_reduce_13 (lv_at hl 3 rfl) ?_
  refine lv_icmp_ge (tgt := 89) hx hb dR_reduce_15 rfl (fun hj52 => absurd hj52 (by decide)) (fun _ => ?_)
  refine lv_aload_n hx hb dR_reduce_18 rfl (lv_at hl 4 rfl) ?_
  refine lv_iload hx hb dR_reduce_19 (lv_at hl 0 rfl) ?_
  refine va_ti (v := .int 61) hx hb hQ2 hS (by unfold vp_in; decide) rfl dR_reduce_21 ?_
  refine lv_istore hx hb dR_reduce_22 hl (by decide) rfl (fun ls hl => ?_)
  have hl : lv_has ls 9 [(6, .int 61), (5, .int 17), (7, .int 0), (4, .int 19), (3, .ref tQ), (0, .ref ua), (1, .int 0), (2, .ref h)] := hl
  refine lv_iconst (v := 0) hx hb dR_reduce_24 (by decide) ?_
  refine lv_istore hx hb dR_reduce_25 hl (by decide) rfl (fun ls hl => ?_)
  have hl : lv_has ls 9 [(7, .int 0), (6, .int 61), (5, .int 17), (4, .int 19), (3, .ref tQ), (0, .ref ua), (1, .int 0), (2, .ref h)] := hl
  refine lv_iload hx hb dR_reduce_27 (lv_at hl 0 rfl) ?_
  refine lv_aload_n hx hb dR_reduce_29 rfl (lv_at hl 7 rfl) ?_
  refine ro_i (va_Run.run (va_runV (As := []) (rest := [.int 0]) ⟨hx, hb, hml, hown, hT⟩ (k_mostBits24 l D cT h ww 1 wb wf) ⟨callB_of 0 hT (tb_gd w975) rfl rfl rfl (hT _ w5) (hT _ w972) hW_mostBits ⟨Nat.le_of_ble_eq_true rfl, Nat.le_of_ble_eq_true rfl⟩, (hT _ w973), (hT _ w974)⟩ (RO.preV (ci := 4) (q0 := 0) hZ hS (hP.sub (ws' := [(h, .inr (4, [.ref ww, .int 1, .int wb])), (ww, .inl (cT 0, 24, .inl wf))]) [0, 1] rfl) hK rfl rfl) rfl rfl hl.1 rfl (lv_room (Nat.le_of_ble_eq_true rfl)) dR_reduce_30 ⟨Nat.le_of_ble_eq_true rfl, Nat.le_of_ble_eq_true rfl⟩)) ?_
  refine lv_icmp_ge (tgt := 83) hx hb dR_reduce_33 rfl (fun hj53 => absurd hj53 (by decide)) (fun _ => ?_)
  refine lv_iload hx hb dR_reduce_36 (lv_at hl 1 rfl) ?_
  refine lv_aload_n hx hb dR_reduce_38 rfl (lv_at hl 5 rfl) ?_
  refine lv_iload_n hx hb dR_reduce_39 rfl (lv_at hl 6 rfl) ?_
  refine lv_aload_n hx hb dR_reduce_40 rfl (lv_at hl 7 rfl) ?_
  refine ro_i (va_Run.run (va_runS (As := [.int 61, .ref ua, .int 0, .ref h]) (rest := []) ⟨hx, hb, hml, hown, hT⟩ (k_dividesOne24_0 l D cT h ww wb wf 61 ua h0 (by decide) (by decide)) ⟨callB_of 4 hT (tb_gd w978) rfl rfl rfl (hT _ w1) (hT _ w976) hR_divides ⟨Nat.le_of_ble_eq_true rfl, Nat.le_of_ble_eq_true rfl⟩, (hT _ w977)⟩ (RO.preS hZ hS (hP.sub (ws' := [(h, .inr (4, [.ref ww, .int 1, .int wb])), (ww, .inl (cT 0, 24, .inl wf))]) [0, 1] rfl) hK) rfl rfl hl.1 rfl (lv_room (Nat.le_of_ble_eq_true rfl)) dR_reduce_41 ⟨Nat.le_of_ble_eq_true rfl, Nat.le_of_ble_eq_true rfl⟩)) ?_
  refine lv_if_eq (tgt := 83) hx hb dR_reduce_44 rfl (fun _ => ?_) (fun hj54 => absurd (by decide) hj54)
  refine lv_iinc (k := 2) (v := 18) hx hb dR_reduce_83 hl rfl (by decide) (by decide) rfl (fun ls hl => ?_)
  have hl : lv_has ls 9 [(5, .int 18), (7, .int 0), (6, .int 61), (4, .int 19), (3, .ref tQ), (0, .ref ua), (1, .int 0), (2, .ref h)] := hl
  refine lv_goto (tgt := 11) hx hb dR_reduce_86 rfl ?_
  refine lv_iload hx hb dR_reduce_11 (lv_at hl 0 rfl) ?_
  refine lv_iload hx hb dR_reduce_13 (lv_at hl 3 rfl) ?_
  refine lv_icmp_ge (tgt := 89) hx hb dR_reduce_15 rfl (fun hj55 => absurd hj55 (by decide)) (fun _ => ?_)
  refine lv_aload_n hx hb dR_reduce_18 rfl (lv_at hl 4 rfl) ?_
  refine lv_iload hx hb dR_reduce_19 (lv_at hl 0 rfl) ?_
  refine va_ti (v := .int 67) hx hb hQ2 hS (by unfold vp_in; decide) rfl dR_reduce_21 ?_
  refine lv_istore hx hb dR_reduce_22 hl (by decide) rfl (fun ls hl => ?_)
  have hl : lv_has ls 9 [(6, .int 67), (5, .int 18), (7, .int 0), (4, .int 19), (3, .ref tQ), (0, .ref ua), (1, .int 0), (2, .ref h)] := hl
  refine lv_iconst (v := 0) hx hb dR_reduce_24 (by decide) ?_
  refine lv_istore hx hb dR_reduce_25 hl (by decide) rfl (fun ls hl => ?_)
  have hl : lv_has ls 9 [(7, .int 0), (6, .int 67), (5, .int 18), (4, .int 19), (3, .ref tQ), (0, .ref ua), (1, .int 0), (2, .ref h)] := hl
  refine lv_iload hx hb dR_reduce_27 (lv_at hl 0 rfl) ?_
  refine lv_aload_n hx hb dR_reduce_29 rfl (lv_at hl 7 rfl) ?_
  refine ro_i (va_Run.run (va_runV (As := []) (rest := [.int 0]) ⟨hx, hb, hml, hown, hT⟩ (k_mostBits24 l D cT h ww 1 wb wf) ⟨callB_of 0 hT (tb_gd w975) rfl rfl rfl (hT _ w5) (hT _ w972) hW_mostBits ⟨Nat.le_of_ble_eq_true rfl, Nat.le_of_ble_eq_true rfl⟩, (hT _ w973), (hT _ w974)⟩ (RO.preV (ci := 4) (q0 := 0) hZ hS (hP.sub (ws' := [(h, .inr (4, [.ref ww, .int 1, .int wb])), (ww, .inl (cT 0, 24, .inl wf))]) [0, 1] rfl) hK rfl rfl) rfl rfl hl.1 rfl (lv_room (Nat.le_of_ble_eq_true rfl)) dR_reduce_30 ⟨Nat.le_of_ble_eq_true rfl, Nat.le_of_ble_eq_true rfl⟩)) ?_
  refine lv_icmp_ge (tgt := 83) hx hb dR_reduce_33 rfl (fun hj56 => absurd hj56 (by decide)) (fun _ => ?_)
  refine lv_iload hx hb dR_reduce_36 (lv_at hl 1 rfl) ?_
  refine lv_aload_n hx hb dR_reduce_38 rfl (lv_at hl 5 rfl) ?_
  refine lv_iload_n hx hb dR_reduce_39 rfl (lv_at hl 6 rfl) ?_
  refine lv_aload_n hx hb dR_reduce_40 rfl (lv_at hl 7 rfl) ?_
  refine ro_i (va_Run.run (va_runS (As := [.int 67, .ref ua, .int 0, .ref h]) (rest := []) ⟨hx, hb, hml, hown, hT⟩ (k_dividesOne24_0 l D cT h ww wb wf 67 ua h0 (by decide) (by decide)) ⟨callB_of 4 hT (tb_gd w978) rfl rfl rfl (hT _ w1) (hT _ w976) hR_divides ⟨Nat.le_of_ble_eq_true rfl, Nat.le_of_ble_eq_true rfl⟩, (hT _ w977)⟩ (RO.preS hZ hS (hP.sub (ws' := [(h, .inr (4, [.ref ww, .int 1, .int wb])), (ww, .inl (cT 0, 24, .inl wf))]) [0, 1] rfl) hK) rfl rfl hl.1 rfl (lv_room (Nat.le_of_ble_eq_true rfl)) dR_reduce_41 ⟨Nat.le_of_ble_eq_true rfl, Nat.le_of_ble_eq_true rfl⟩)) ?_
  refine lv_if_eq (tgt := 83) hx hb dR_reduce_44 rfl (fun _ => ?_) (fun hj57 => absurd (by decide) hj57)
  refine lv_iinc (k := 2) (v := 19) hx hb dR_reduce_83 hl rfl (by decide) (by decide) rfl (fun ls hl => ?_)
  have hl : lv_has ls 9 [(5, .int 19), (7, .int 0), (6, .int 67), (4, .int 19), (3, .ref tQ), (0, .ref ua), (1, .int 0), (2, .ref h)] := hl
  refine lv_goto (tgt := 11) hx hb dR_reduce_86 rfl ?_
  refine lv_iload hx hb dR_reduce_11 (lv_at hl 0 rfl) ?_
  refine lv_iload hx hb dR_reduce_13 (lv_at hl 3 rfl) ?_
  refine lv_icmp_ge (tgt := 89) hx hb dR_reduce_15 rfl (fun _ => ?_) (fun hj58 => absurd (by decide) hj58)
  exact W.vret hx hb hr (fun t ht hW => ⟨rfl, ht⟩) (fun q h => nomatch h) dR_reduce_89
set_option maxHeartbeats 4000000 in
set_option maxRecDepth 100000 in
theorem k_reduceOne48 (l : Launch) (D : va_G) (cT : Nat → ClassId) (h : Nat) (ww : Nat) (wb : Int32) (wf : Nat → Int32) (ua : Nat) (h0 : wf 0 = 1) : Met l yR_reduce WR_reduce ({ frames := 2, cells := 0, slots := 0, locals := 49 } : Room) (RO D vwCl [.ref ua, .int 1, .ref h] [(h, .inr (4, [.ref ww, .int 1, .int wb])), (ww, .inl (cT 0, 48, .inl wf))] (TY cT)) (QcReadV) 0 0 (fun _ => False) := by
  refine Met.ofW (cc := cR_reduce) (maxL := 9) (ret := none) (by decide) rfl ?_
  intro p e s m args below meth c s₁ B hml hv
  obtain ⟨rfl, hZ, hP, hK⟩ := hv
  have hx := B.exec
  have hb := B.bytes
  have hr := B.returns
  have hts := atoms_spec (ws := WR_reduce) B.pre
  have hT : ∀ w ∈ TB, w.before _ s = true := fun w h => hts w (List.mem_cons_of_mem _ h)
  have hown : s.vm.findClass R_R = some m.cls := findClass_of_methodNamed B.named
  have hlocks := B.notSynchronized
  have hS : va_S (fun _ => False) s.heap s.heap [] := va_S.rf
  have hl := lv_entry ([.ref ua, .int 1, .ref h]) (n := 9) (Nat.le_of_ble_eq_true rfl)
  rw [lg_entry_eq]
  generalize (lg_sl ([.ref ua, .int 1, .ref h]) ++ List.replicate (9 - (lg_sl ([.ref ua, .int 1, .ref h])).length) Slot.unset).toArray = ls at hl ⊢
  have hl : lv_has ls 9 [(0, .ref ua), (1, .int 1), (2, .ref h)] := hl
  obtain ⟨tQ, hQ1, hQ2⟩ := hZ.2.2.2.1
  refine va_gets hx hb hQ1 hS hown (hT _ w970) (fun _ h => h) dR_reduce_0 ?_
  refine lv_astore_n hx hb dR_reduce_3 rfl hl (by decide) rfl (fun ls hl => ?_)
  have hl : lv_has ls 9 [(3, .ref tQ), (0, .ref ua), (1, .int 1), (2, .ref h)] := hl
  refine lv_aload_n hx hb dR_reduce_4 rfl (lv_at hl 0 rfl) ?_
  refine va_tlen (v := 19) hx hb hQ2 hS rfl dR_reduce_5 ?_
  refine lv_istore hx hb dR_reduce_6 hl (by decide) rfl (fun ls hl => ?_)
  have hl : lv_has ls 9 [(4, .int 19), (3, .ref tQ), (0, .ref ua), (1, .int 1), (2, .ref h)] := hl
  refine lv_iconst (v := 0) hx hb dR_reduce_8 (by decide) ?_
  refine lv_istore hx hb dR_reduce_9 hl (by decide) rfl (fun ls hl => ?_)
  have hl : lv_has ls 9 [(5, .int 0), (4, .int 19), (3, .ref tQ), (0, .ref ua), (1, .int 1), (2, .ref h)] := hl
  refine lv_iload hx hb dR_reduce_11 (lv_at hl 0 rfl) ?_
  refine lv_iload hx hb dR_reduce_13 (lv_at hl 1 rfl) ?_
  refine lv_icmp_ge (tgt := 89) hx hb dR_reduce_15 rfl (fun hj1 => absurd hj1 (by decide)) (fun _ => ?_)
  refine lv_aload_n hx hb dR_reduce_18 rfl (lv_at hl 2 rfl) ?_
  refine lv_iload hx hb dR_reduce_19 (lv_at hl 0 rfl) ?_
  refine va_ti (v := .int 2) hx hb hQ2 hS (by unfold vp_in; decide) rfl dR_reduce_21 ?_
  refine lv_istore hx hb dR_reduce_22 hl (by decide) rfl (fun ls hl => ?_)
  have hl : lv_has ls 9 [(6, .int 2), (5, .int 0), (4, .int 19), (3, .ref tQ), (0, .ref ua), (1, .int 1), (2, .ref h)] := hl
  refine lv_iconst (v := 0) hx hb dR_reduce_24 (by decide) ?_
  refine lv_istore hx hb dR_reduce_25 hl (by decide) rfl (fun ls hl => ?_)
  have hl : lv_has ls 9 [(7, .int 0), (6, .int 2), (5, .int 0), (4, .int 19), (3, .ref tQ), (0, .ref ua), (1, .int 1), (2, .ref h)] := hl
  refine lv_iload hx hb dR_reduce_27 (lv_at hl 0 rfl) ?_
  refine lv_aload_n hx hb dR_reduce_29 rfl (lv_at hl 7 rfl) ?_
  refine ro_i (va_Run.run (va_runV (As := []) (rest := [.int 0]) ⟨hx, hb, hml, hown, hT⟩ (k_mostBits48 l D cT h ww 1 wb wf) ⟨callB_of 0 hT (tb_gd w975) rfl rfl rfl (hT _ w5) (hT _ w972) hW_mostBits ⟨Nat.le_of_ble_eq_true rfl, Nat.le_of_ble_eq_true rfl⟩, (hT _ w973), (hT _ w974)⟩ (RO.preV (ci := 4) (q0 := 0) hZ hS (hP.sub (ws' := [(h, .inr (4, [.ref ww, .int 1, .int wb])), (ww, .inl (cT 0, 48, .inl wf))]) [0, 1] rfl) hK rfl rfl) rfl rfl hl.1 rfl (lv_room (Nat.le_of_ble_eq_true rfl)) dR_reduce_30 ⟨Nat.le_of_ble_eq_true rfl, Nat.le_of_ble_eq_true rfl⟩)) ?_
  refine lv_icmp_ge (tgt := 83) hx hb dR_reduce_33 rfl (fun hj2 => absurd hj2 (by decide)) (fun _ => ?_)
  refine lv_iload hx hb dR_reduce_36 (lv_at hl 1 rfl) ?_
  refine lv_aload_n hx hb dR_reduce_38 rfl (lv_at hl 5 rfl) ?_
  refine lv_iload_n hx hb dR_reduce_39 rfl (lv_at hl 6 rfl) ?_
  refine lv_aload_n hx hb dR_reduce_40 rfl (lv_at hl 7 rfl) ?_
  refine ro_i (va_Run.run (va_runS (As := [.int 2, .ref ua, .int 1, .ref h]) (rest := []) ⟨hx, hb, hml, hown, hT⟩ (k_dividesOne48_1 l D cT h ww wb wf 2 ua h0 (by decide) (by decide)) ⟨callB_of 4 hT (tb_gd w978) rfl rfl rfl (hT _ w1) (hT _ w976) hR_divides ⟨Nat.le_of_ble_eq_true rfl, Nat.le_of_ble_eq_true rfl⟩, (hT _ w977)⟩ (RO.preS hZ hS (hP.sub (ws' := [(h, .inr (4, [.ref ww, .int 1, .int wb])), (ww, .inl (cT 0, 48, .inl wf))]) [0, 1] rfl) hK) rfl rfl hl.1 rfl (lv_room (Nat.le_of_ble_eq_true rfl)) dR_reduce_41 ⟨Nat.le_of_ble_eq_true rfl, Nat.le_of_ble_eq_true rfl⟩)) ?_
  refine lv_if_eq (tgt := 83) hx hb dR_reduce_44 rfl (fun _ => ?_) (fun hj3 => absurd (by decide) hj3)
  refine lv_iinc (k := 2) (v := 1) hx hb dR_reduce_83 hl rfl (by decide) (by decide) rfl (fun ls hl => ?_)
  have hl : lv_has ls 9 [(5, .int 1), (7, .int 0), (6, .int 2), (4, .int 19), (3, .ref tQ), (0, .ref ua), (1, .int 1), (2, .ref h)] := hl
  refine lv_goto (tgt := 11) hx hb dR_reduce_86 rfl ?_
  refine lv_iload hx hb dR_reduce_11 (lv_at hl 0 rfl) ?_
  refine lv_iload hx hb dR_reduce_13 (lv_at hl 3 rfl) ?_
  refine lv_icmp_ge (tgt := 89) hx hb dR_reduce_15 rfl (fun hj4 => absurd hj4 (by decide)) (fun _ => ?_)
  refine lv_aload_n hx hb dR_reduce_18 rfl (lv_at hl 4 rfl) ?_
  refine lv_iload hx hb dR_reduce_19 (lv_at hl 0 rfl) ?_
  refine va_ti (v := .int 3) hx hb hQ2 hS (by unfold vp_in; decide) rfl dR_reduce_21 ?_
  refine lv_istore hx hb dR_reduce_22 hl (by decide) rfl (fun ls hl => ?_)
  have hl : lv_has ls 9 [(6, .int 3), (5, .int 1), (7, .int 0), (4, .int 19), (3, .ref tQ), (0, .ref ua), (1, .int 1), (2, .ref h)] := hl
  refine lv_iconst (v := 0) hx hb dR_reduce_24 (by decide) ?_
  refine lv_istore hx hb dR_reduce_25 hl (by decide) rfl (fun ls hl => ?_)
  have hl : lv_has ls 9 [(7, .int 0), (6, .int 3), (5, .int 1), (4, .int 19), (3, .ref tQ), (0, .ref ua), (1, .int 1), (2, .ref h)] := hl
  refine lv_iload hx hb dR_reduce_27 (lv_at hl 0 rfl) ?_
  refine lv_aload_n hx hb dR_reduce_29 rfl (lv_at hl 7 rfl) ?_
  refine ro_i (va_Run.run (va_runV (As := []) (rest := [.int 0]) ⟨hx, hb, hml, hown, hT⟩ (k_mostBits48 l D cT h ww 1 wb wf) ⟨callB_of 0 hT (tb_gd w975) rfl rfl rfl (hT _ w5) (hT _ w972) hW_mostBits ⟨Nat.le_of_ble_eq_true rfl, Nat.le_of_ble_eq_true rfl⟩, (hT _ w973), (hT _ w974)⟩ (RO.preV (ci := 4) (q0 := 0) hZ hS (hP.sub (ws' := [(h, .inr (4, [.ref ww, .int 1, .int wb])), (ww, .inl (cT 0, 48, .inl wf))]) [0, 1] rfl) hK rfl rfl) rfl rfl hl.1 rfl (lv_room (Nat.le_of_ble_eq_true rfl)) dR_reduce_30 ⟨Nat.le_of_ble_eq_true rfl, Nat.le_of_ble_eq_true rfl⟩)) ?_
  refine lv_icmp_ge (tgt := 83) hx hb dR_reduce_33 rfl (fun hj5 => absurd hj5 (by decide)) (fun _ => ?_)
  refine lv_iload hx hb dR_reduce_36 (lv_at hl 1 rfl) ?_
  refine lv_aload_n hx hb dR_reduce_38 rfl (lv_at hl 5 rfl) ?_
  refine lv_iload_n hx hb dR_reduce_39 rfl (lv_at hl 6 rfl) ?_
  refine lv_aload_n hx hb dR_reduce_40 rfl (lv_at hl 7 rfl) ?_
  refine ro_i (va_Run.run (va_runS (As := [.int 3, .ref ua, .int 1, .ref h]) (rest := []) ⟨hx, hb, hml, hown, hT⟩ (k_dividesOne48_1 l D cT h ww wb wf 3 ua h0 (by decide) (by decide)) ⟨callB_of 4 hT (tb_gd w978) rfl rfl rfl (hT _ w1) (hT _ w976) hR_divides ⟨Nat.le_of_ble_eq_true rfl, Nat.le_of_ble_eq_true rfl⟩, (hT _ w977)⟩ (RO.preS hZ hS (hP.sub (ws' := [(h, .inr (4, [.ref ww, .int 1, .int wb])), (ww, .inl (cT 0, 48, .inl wf))]) [0, 1] rfl) hK) rfl rfl hl.1 rfl (lv_room (Nat.le_of_ble_eq_true rfl)) dR_reduce_41 ⟨Nat.le_of_ble_eq_true rfl, Nat.le_of_ble_eq_true rfl⟩)) ?_
  refine lv_if_eq (tgt := 83) hx hb dR_reduce_44 rfl (fun _ => ?_) (fun hj6 => absurd (by decide) hj6)
  refine lv_iinc (k := 2) (v := 2) hx hb dR_reduce_83 hl rfl (by decide) (by decide) rfl (fun ls hl => ?_)
  have hl : lv_has ls 9 [(5, .int 2), (7, .int 0), (6, .int 3), (4, .int 19), (3, .ref tQ), (0, .ref ua), (1, .int 1), (2, .ref h)] := hl
  refine lv_goto (tgt := 11) hx hb dR_reduce_86 rfl ?_
  refine lv_iload hx hb dR_reduce_11 (lv_at hl 0 rfl) ?_
  refine lv_iload hx hb dR_reduce_13 (lv_at hl 3 rfl) ?_
  refine lv_icmp_ge (tgt := 89) hx hb dR_reduce_15 rfl (fun hj7 => absurd hj7 (by decide)) (fun _ => ?_)
  refine lv_aload_n hx hb dR_reduce_18 rfl (lv_at hl 4 rfl) ?_
  refine lv_iload hx hb dR_reduce_19 (lv_at hl 0 rfl) ?_
  refine va_ti (v := .int 5) hx hb hQ2 hS (by unfold vp_in; decide) rfl dR_reduce_21 ?_
  refine lv_istore hx hb dR_reduce_22 hl (by decide) rfl (fun ls hl => ?_)
  have hl : lv_has ls 9 [(6, .int 5), (5, .int 2), (7, .int 0), (4, .int 19), (3, .ref tQ), (0, .ref ua), (1, .int 1), (2, .ref h)] := hl
  refine lv_iconst (v := 0) hx hb dR_reduce_24 (by decide) ?_
  refine lv_istore hx hb dR_reduce_25 hl (by decide) rfl (fun ls hl => ?_)
  have hl : lv_has ls 9 [(7, .int 0), (6, .int 5), (5, .int 2), (4, .int 19), (3, .ref tQ), (0, .ref ua), (1, .int 1), (2, .ref h)] := hl
  refine lv_iload hx hb dR_reduce_27 (lv_at hl 0 rfl) ?_
  refine lv_aload_n hx hb dR_reduce_29 rfl (lv_at hl 7 rfl) ?_
  refine ro_i (va_Run.run (va_runV (As := []) (rest := [.int 0]) ⟨hx, hb, hml, hown, hT⟩ (k_mostBits48 l D cT h ww 1 wb wf) ⟨callB_of 0 hT (tb_gd w975) rfl rfl rfl (hT _ w5) (hT _ w972) hW_mostBits ⟨Nat.le_of_ble_eq_true rfl, Nat.le_of_ble_eq_true rfl⟩, (hT _ w973), (hT _ w974)⟩ (RO.preV (ci := 4) (q0 := 0) hZ hS (hP.sub (ws' := [(h, .inr (4, [.ref ww, .int 1, .int wb])), (ww, .inl (cT 0, 48, .inl wf))]) [0, 1] rfl) hK rfl rfl) rfl rfl hl.1 rfl (lv_room (Nat.le_of_ble_eq_true rfl)) dR_reduce_30 ⟨Nat.le_of_ble_eq_true rfl, Nat.le_of_ble_eq_true rfl⟩)) ?_
  refine lv_icmp_ge (tgt := 83) hx hb dR_reduce_33 rfl (fun hj8 => absurd hj8 (by decide)) (fun _ => ?_)
  refine lv_iload hx hb dR_reduce_36 (lv_at hl 1 rfl) ?_
  refine lv_aload_n hx hb dR_reduce_38 rfl (lv_at hl 5 rfl) ?_
  refine lv_iload_n hx hb dR_reduce_39 rfl (lv_at hl 6 rfl) ?_
  refine lv_aload_n hx hb dR_reduce_40 rfl (lv_at hl 7 rfl) ?_
  refine ro_i (va_Run.run (va_runS (As := [.int 5, .ref ua, .int 1, .ref h]) (rest := []) ⟨hx, hb, hml, hown, hT⟩ (k_dividesOne48_1 l D cT h ww wb wf 5 ua h0 (by decide) (by decide)) ⟨callB_of 4 hT (tb_gd w978) rfl rfl rfl (hT _ w1) (hT _ w976) hR_divides ⟨Nat.le_of_ble_eq_true rfl, Nat.le_of_ble_eq_true rfl⟩, (hT _ w977)⟩ (RO.preS hZ hS (hP.sub (ws' := [(h, .inr (4, [.ref ww, .int 1, .int wb])), (ww, .inl (cT 0, 48, .inl wf))]) [0, 1] rfl) hK) rfl rfl hl.1 rfl (lv_room (Nat.le_of_ble_eq_true rfl)) dR_reduce_41 ⟨Nat.le_of_ble_eq_true rfl, Nat.le_of_ble_eq_true rfl⟩)) ?_
  refine lv_if_eq (tgt := 83) hx hb dR_reduce_44 rfl (fun _ => ?_) (fun hj9 => absurd (by decide) hj9)
  refine lv_iinc (k := 2) (v := 3) hx hb dR_reduce_83 hl rfl (by decide) (by decide) rfl (fun ls hl => ?_)
  have hl : lv_has ls 9 [(5, .int 3), (7, .int 0), (6, .int 5), (4, .int 19), (3, .ref tQ), (0, .ref ua), (1, .int 1), (2, .ref h)] := hl
  refine lv_goto (tgt := 11) hx hb dR_reduce_86 rfl ?_
  refine lv_iload hx hb dR_reduce_11 (lv_at hl 0 rfl) ?_
  refine lv_iload hx hb dR_reduce_13 (lv_at hl 3 rfl) ?_
  refine lv_icmp_ge (tgt := 89) hx hb dR_reduce_15 rfl (fun hj10 => absurd hj10 (by decide)) (fun _ => ?_)
  refine lv_aload_n hx hb dR_reduce_18 rfl (lv_at hl 4 rfl) ?_
  refine lv_iload hx hb dR_reduce_19 (lv_at hl 0 rfl) ?_
  refine va_ti (v := .int 7) hx hb hQ2 hS (by unfold vp_in; decide) rfl dR_reduce_21 ?_
  refine lv_istore hx hb dR_reduce_22 hl (by decide) rfl (fun ls hl => ?_)
  have hl : lv_has ls 9 [(6, .int 7), (5, .int 3), (7, .int 0), (4, .int 19), (3, .ref tQ), (0, .ref ua), (1, .int 1), (2, .ref h)] := hl
  refine lv_iconst (v := 0) hx hb dR_reduce_24 (by decide) ?_
  refine lv_istore hx hb dR_reduce_25 hl (by decide) rfl (fun ls hl => ?_)
  have hl : lv_has ls 9 [(7, .int 0), (6, .int 7), (5, .int 3), (4, .int 19), (3, .ref tQ), (0, .ref ua), (1, .int 1), (2, .ref h)] := hl
  refine lv_iload hx hb dR_reduce_27 (lv_at hl 0 rfl) ?_
  refine lv_aload_n hx hb dR_reduce_29 rfl (lv_at hl 7 rfl) ?_
  refine ro_i (va_Run.run (va_runV (As := []) (rest := [.int 0]) ⟨hx, hb, hml, hown, hT⟩ (k_mostBits48 l D cT h ww 1 wb wf) ⟨callB_of 0 hT (tb_gd w975) rfl rfl rfl (hT _ w5) (hT _ w972) hW_mostBits ⟨Nat.le_of_ble_eq_true rfl, Nat.le_of_ble_eq_true rfl⟩, (hT _ w973), (hT _ w974)⟩ (RO.preV (ci := 4) (q0 := 0) hZ hS (hP.sub (ws' := [(h, .inr (4, [.ref ww, .int 1, .int wb])), (ww, .inl (cT 0, 48, .inl wf))]) [0, 1] rfl) hK rfl rfl) rfl rfl hl.1 rfl (lv_room (Nat.le_of_ble_eq_true rfl)) dR_reduce_30 ⟨Nat.le_of_ble_eq_true rfl, Nat.le_of_ble_eq_true rfl⟩)) ?_
  refine lv_icmp_ge (tgt := 83) hx hb dR_reduce_33 rfl (fun hj11 => absurd hj11 (by decide)) (fun _ => ?_)
  refine lv_iload hx hb dR_reduce_36 (lv_at hl 1 rfl) ?_
  refine lv_aload_n hx hb dR_reduce_38 rfl (lv_at hl 5 rfl) ?_
  refine lv_iload_n hx hb dR_reduce_39 rfl (lv_at hl 6 rfl) ?_
  refine lv_aload_n hx hb dR_reduce_40 rfl (lv_at hl 7 rfl) ?_
  refine ro_i (va_Run.run (va_runS (As := [.int 7, .ref ua, .int 1, .ref h]) (rest := []) ⟨hx, hb, hml, hown, hT⟩ (k_dividesOne48_1 l D cT h ww wb wf 7 ua h0 (by decide) (by decide)) ⟨callB_of 4 hT (tb_gd w978) rfl rfl rfl (hT _ w1) (hT _ w976) hR_divides ⟨Nat.le_of_ble_eq_true rfl, Nat.le_of_ble_eq_true rfl⟩, (hT _ w977)⟩ (RO.preS hZ hS (hP.sub (ws' := [(h, .inr (4, [.ref ww, .int 1, .int wb])), (ww, .inl (cT 0, 48, .inl wf))]) [0, 1] rfl) hK) rfl rfl hl.1 rfl (lv_room (Nat.le_of_ble_eq_true rfl)) dR_reduce_41 ⟨Nat.le_of_ble_eq_true rfl, Nat.le_of_ble_eq_true rfl⟩)) ?_
  refine lv_if_eq (tgt := 83) hx hb dR_reduce_44 rfl (fun _ => ?_) (fun hj12 => absurd (by decide) hj12)
  refine lv_iinc (k := 2) (v := 4) hx hb dR_reduce_83 hl rfl (by decide) (by decide) rfl (fun ls hl => ?_)
  have hl : lv_has ls 9 [(5, .int 4), (7, .int 0), (6, .int 7), (4, .int 19), (3, .ref tQ), (0, .ref ua), (1, .int 1), (2, .ref h)] := hl
  refine lv_goto (tgt := 11) hx hb dR_reduce_86 rfl ?_
  refine lv_iload hx hb dR_reduce_11 (lv_at hl 0 rfl) ?_
  refine lv_iload hx hb dR_reduce_13 (lv_at hl 3 rfl) ?_
  refine lv_icmp_ge (tgt := 89) hx hb dR_reduce_15 rfl (fun hj13 => absurd hj13 (by decide)) (fun _ => ?_)
  refine lv_aload_n hx hb dR_reduce_18 rfl (lv_at hl 4 rfl) ?_
  refine lv_iload hx hb dR_reduce_19 (lv_at hl 0 rfl) ?_
  refine va_ti (v := .int 11) hx hb hQ2 hS (by unfold vp_in; decide) rfl dR_reduce_21 ?_
  refine lv_istore hx hb dR_reduce_22 hl (by decide) rfl (fun ls hl => ?_)
  have hl : lv_has ls 9 [(6, .int 11), (5, .int 4), (7, .int 0), (4, .int 19), (3, .ref tQ), (0, .ref ua), (1, .int 1), (2, .ref h)] := hl
  refine lv_iconst (v := 0) hx hb dR_reduce_24 (by decide) ?_
  refine lv_istore hx hb dR_reduce_25 hl (by decide) rfl (fun ls hl => ?_)
  have hl : lv_has ls 9 [(7, .int 0), (6, .int 11), (5, .int 4), (4, .int 19), (3, .ref tQ), (0, .ref ua), (1, .int 1), (2, .ref h)] := hl
  refine lv_iload hx hb dR_reduce_27 (lv_at hl 0 rfl) ?_
  refine lv_aload_n hx hb dR_reduce_29 rfl (lv_at hl 7 rfl) ?_
  refine ro_i (va_Run.run (va_runV (As := []) (rest := [.int 0]) ⟨hx, hb, hml, hown, hT⟩ (k_mostBits48 l D cT h ww 1 wb wf) ⟨callB_of 0 hT (tb_gd w975) rfl rfl rfl (hT _ w5) (hT _ w972) hW_mostBits ⟨Nat.le_of_ble_eq_true rfl, Nat.le_of_ble_eq_true rfl⟩, (hT _ w973), (hT _ w974)⟩ (RO.preV (ci := 4) (q0 := 0) hZ hS (hP.sub (ws' := [(h, .inr (4, [.ref ww, .int 1, .int wb])), (ww, .inl (cT 0, 48, .inl wf))]) [0, 1] rfl) hK rfl rfl) rfl rfl hl.1 rfl (lv_room (Nat.le_of_ble_eq_true rfl)) dR_reduce_30 ⟨Nat.le_of_ble_eq_true rfl, Nat.le_of_ble_eq_true rfl⟩)) ?_
  refine lv_icmp_ge (tgt := 83) hx hb dR_reduce_33 rfl (fun hj14 => absurd hj14 (by decide)) (fun _ => ?_)
  refine lv_iload hx hb dR_reduce_36 (lv_at hl 1 rfl) ?_
  refine lv_aload_n hx hb dR_reduce_38 rfl (lv_at hl 5 rfl) ?_
  refine lv_iload_n hx hb dR_reduce_39 rfl (lv_at hl 6 rfl) ?_
  refine lv_aload_n hx hb dR_reduce_40 rfl (lv_at hl 7 rfl) ?_
  refine ro_i (va_Run.run (va_runS (As := [.int 11, .ref ua, .int 1, .ref h]) (rest := []) ⟨hx, hb, hml, hown, hT⟩ (k_dividesOne48_1 l D cT h ww wb wf 11 ua h0 (by decide) (by decide)) ⟨callB_of 4 hT (tb_gd w978) rfl rfl rfl (hT _ w1) (hT _ w976) hR_divides ⟨Nat.le_of_ble_eq_true rfl, Nat.le_of_ble_eq_true rfl⟩, (hT _ w977)⟩ (RO.preS hZ hS (hP.sub (ws' := [(h, .inr (4, [.ref ww, .int 1, .int wb])), (ww, .inl (cT 0, 48, .inl wf))]) [0, 1] rfl) hK) rfl rfl hl.1 rfl (lv_room (Nat.le_of_ble_eq_true rfl)) dR_reduce_41 ⟨Nat.le_of_ble_eq_true rfl, Nat.le_of_ble_eq_true rfl⟩)) ?_
  refine lv_if_eq (tgt := 83) hx hb dR_reduce_44 rfl (fun _ => ?_) (fun hj15 => absurd (by decide) hj15)
  refine lv_iinc (k := 2) (v := 5) hx hb dR_reduce_83 hl rfl (by decide) (by decide) rfl (fun ls hl => ?_)
  have hl : lv_has ls 9 [(5, .int 5), (7, .int 0), (6, .int 11), (4, .int 19), (3, .ref tQ), (0, .ref ua), (1, .int 1), (2, .ref h)] := hl
  refine lv_goto (tgt := 11) hx hb dR_reduce_86 rfl ?_
  refine lv_iload hx hb dR_reduce_11 (lv_at hl 0 rfl) ?_
  refine lv_iload hx hb dR_reduce_13 (lv_at hl 3 rfl) ?_
  refine lv_icmp_ge (tgt := 89) hx hb dR_reduce_15 rfl (fun hj16 => absurd hj16 (by decide)) (fun _ => ?_)
  refine lv_aload_n hx hb dR_reduce_18 rfl (lv_at hl 4 rfl) ?_
  refine lv_iload hx hb dR_reduce_19 (lv_at hl 0 rfl) ?_
  refine va_ti (v := .int 13) hx hb hQ2 hS (by unfold vp_in; decide) rfl dR_reduce_21 ?_
  refine lv_istore hx hb dR_reduce_22 hl (by decide) rfl (fun ls hl => ?_)
  have hl : lv_has ls 9 [(6, .int 13), (5, .int 5), (7, .int 0), (4, .int 19), (3, .ref tQ), (0, .ref ua), (1, .int 1), (2, .ref h)] := hl
  refine lv_iconst (v := 0) hx hb dR_reduce_24 (by decide) ?_
  refine lv_istore hx hb dR_reduce_25 hl (by decide) rfl (fun ls hl => ?_)
  have hl : lv_has ls 9 [(7, .int 0), (6, .int 13), (5, .int 5), (4, .int 19), (3, .ref tQ), (0, .ref ua), (1, .int 1), (2, .ref h)] := hl
  refine lv_iload hx hb dR_reduce_27 (lv_at hl 0 rfl) ?_
  refine lv_aload_n hx hb dR_reduce_29 rfl (lv_at hl 7 rfl) ?_
  refine ro_i (va_Run.run (va_runV (As := []) (rest := [.int 0]) ⟨hx, hb, hml, hown, hT⟩ (k_mostBits48 l D cT h ww 1 wb wf) ⟨callB_of 0 hT (tb_gd w975) rfl rfl rfl (hT _ w5) (hT _ w972) hW_mostBits ⟨Nat.le_of_ble_eq_true rfl, Nat.le_of_ble_eq_true rfl⟩, (hT _ w973), (hT _ w974)⟩ (RO.preV (ci := 4) (q0 := 0) hZ hS (hP.sub (ws' := [(h, .inr (4, [.ref ww, .int 1, .int wb])), (ww, .inl (cT 0, 48, .inl wf))]) [0, 1] rfl) hK rfl rfl) rfl rfl hl.1 rfl (lv_room (Nat.le_of_ble_eq_true rfl)) dR_reduce_30 ⟨Nat.le_of_ble_eq_true rfl, Nat.le_of_ble_eq_true rfl⟩)) ?_
  refine lv_icmp_ge (tgt := 83) hx hb dR_reduce_33 rfl (fun hj17 => absurd hj17 (by decide)) (fun _ => ?_)
  refine lv_iload hx hb dR_reduce_36 (lv_at hl 1 rfl) ?_
  refine lv_aload_n hx hb dR_reduce_38 rfl (lv_at hl 5 rfl) ?_
  refine lv_iload_n hx hb dR_reduce_39 rfl (lv_at hl 6 rfl) ?_
  refine lv_aload_n hx hb dR_reduce_40 rfl (lv_at hl 7 rfl) ?_
  refine ro_i (va_Run.run (va_runS (As := [.int 13, .ref ua, .int 1, .ref h]) (rest := []) ⟨hx, hb, hml, hown, hT⟩ (k_dividesOne48_1 l D cT h ww wb wf 13 ua h0 (by decide) (by decide)) ⟨callB_of 4 hT (tb_gd w978) rfl rfl rfl (hT _ w1) (hT _ w976) hR_divides ⟨Nat.le_of_ble_eq_true rfl, Nat.le_of_ble_eq_true rfl⟩, (hT _ w977)⟩ (RO.preS hZ hS (hP.sub (ws' := [(h, .inr (4, [.ref ww, .int 1, .int wb])), (ww, .inl (cT 0, 48, .inl wf))]) [0, 1] rfl) hK) rfl rfl hl.1 rfl (lv_room (Nat.le_of_ble_eq_true rfl)) dR_reduce_41 ⟨Nat.le_of_ble_eq_true rfl, Nat.le_of_ble_eq_true rfl⟩)) ?_
  refine lv_if_eq (tgt := 83) hx hb dR_reduce_44 rfl (fun _ => ?_) (fun hj18 => absurd (by decide) hj18)
  refine lv_iinc (k := 2) (v := 6) hx hb dR_reduce_83 hl rfl (by decide) (by decide) rfl (fun ls hl => ?_)
  have hl : lv_has ls 9 [(5, .int 6), (7, .int 0), (6, .int 13), (4, .int 19), (3, .ref tQ), (0, .ref ua), (1, .int 1), (2, .ref h)] := hl
  refine lv_goto (tgt := 11) hx hb dR_reduce_86 rfl ?_
  refine lv_iload hx hb dR_reduce_11 (lv_at hl 0 rfl) ?_
  refine lv_iload hx hb dR_reduce_13 (lv_at hl 3 rfl) ?_
  refine lv_icmp_ge (tgt := 89) hx hb dR_reduce_15 rfl (fun hj19 => absurd hj19 (by decide)) (fun _ => ?_)
  refine lv_aload_n hx hb dR_reduce_18 rfl (lv_at hl 4 rfl) ?_
  refine lv_iload hx hb dR_reduce_19 (lv_at hl 0 rfl) ?_
  refine va_ti (v := .int 17) hx hb hQ2 hS (by unfold vp_in; decide) rfl dR_reduce_21 ?_
  refine lv_istore hx hb dR_reduce_22 hl (by decide) rfl (fun ls hl => ?_)
  have hl : lv_has ls 9 [(6, .int 17), (5, .int 6), (7, .int 0), (4, .int 19), (3, .ref tQ), (0, .ref ua), (1, .int 1), (2, .ref h)] := hl
  refine lv_iconst (v := 0) hx hb dR_reduce_24 (by decide) ?_
  refine lv_istore hx hb dR_reduce_25 hl (by decide) rfl (fun ls hl => ?_)
  have hl : lv_has ls 9 [(7, .int 0), (6, .int 17), (5, .int 6), (4, .int 19), (3, .ref tQ), (0, .ref ua), (1, .int 1), (2, .ref h)] := hl
  refine lv_iload hx hb dR_reduce_27 (lv_at hl 0 rfl) ?_
  refine lv_aload_n hx hb dR_reduce_29 rfl (lv_at hl 7 rfl) ?_
  refine ro_i (va_Run.run (va_runV (As := []) (rest := [.int 0]) ⟨hx, hb, hml, hown, hT⟩ (k_mostBits48 l D cT h ww 1 wb wf) ⟨callB_of 0 hT (tb_gd w975) rfl rfl rfl (hT _ w5) (hT _ w972) hW_mostBits ⟨Nat.le_of_ble_eq_true rfl, Nat.le_of_ble_eq_true rfl⟩, (hT _ w973), (hT _ w974)⟩ (RO.preV (ci := 4) (q0 := 0) hZ hS (hP.sub (ws' := [(h, .inr (4, [.ref ww, .int 1, .int wb])), (ww, .inl (cT 0, 48, .inl wf))]) [0, 1] rfl) hK rfl rfl) rfl rfl hl.1 rfl (lv_room (Nat.le_of_ble_eq_true rfl)) dR_reduce_30 ⟨Nat.le_of_ble_eq_true rfl, Nat.le_of_ble_eq_true rfl⟩)) ?_
  refine lv_icmp_ge (tgt := 83) hx hb dR_reduce_33 rfl (fun hj20 => absurd hj20 (by decide)) (fun _ => ?_)
  refine lv_iload hx hb dR_reduce_36 (lv_at hl 1 rfl) ?_
  refine lv_aload_n hx hb dR_reduce_38 rfl (lv_at hl 5 rfl) ?_
  refine lv_iload_n hx hb dR_reduce_39 rfl (lv_at hl 6 rfl) ?_
  refine lv_aload_n hx hb dR_reduce_40 rfl (lv_at hl 7 rfl) ?_
  refine ro_i (va_Run.run (va_runS (As := [.int 17, .ref ua, .int 1, .ref h]) (rest := []) ⟨hx, hb, hml, hown, hT⟩ (k_dividesOne48_1 l D cT h ww wb wf 17 ua h0 (by decide) (by decide)) ⟨callB_of 4 hT (tb_gd w978) rfl rfl rfl (hT _ w1) (hT _ w976) hR_divides ⟨Nat.le_of_ble_eq_true rfl, Nat.le_of_ble_eq_true rfl⟩, (hT _ w977)⟩ (RO.preS hZ hS (hP.sub (ws' := [(h, .inr (4, [.ref ww, .int 1, .int wb])), (ww, .inl (cT 0, 48, .inl wf))]) [0, 1] rfl) hK) rfl rfl hl.1 rfl (lv_room (Nat.le_of_ble_eq_true rfl)) dR_reduce_41 ⟨Nat.le_of_ble_eq_true rfl, Nat.le_of_ble_eq_true rfl⟩)) ?_
  refine lv_if_eq (tgt := 83) hx hb dR_reduce_44 rfl (fun _ => ?_) (fun hj21 => absurd (by decide) hj21)
  refine lv_iinc (k := 2) (v := 7) hx hb dR_reduce_83 hl rfl (by decide) (by decide) rfl (fun ls hl => ?_)
  have hl : lv_has ls 9 [(5, .int 7), (7, .int 0), (6, .int 17), (4, .int 19), (3, .ref tQ), (0, .ref ua), (1, .int 1), (2, .ref h)] := hl
  refine lv_goto (tgt := 11) hx hb dR_reduce_86 rfl ?_
  refine lv_iload hx hb dR_reduce_11 (lv_at hl 0 rfl) ?_
  refine lv_iload hx hb dR_reduce_13 (lv_at hl 3 rfl) ?_
  refine lv_icmp_ge (tgt := 89) hx hb dR_reduce_15 rfl (fun hj22 => absurd hj22 (by decide)) (fun _ => ?_)
  refine lv_aload_n hx hb dR_reduce_18 rfl (lv_at hl 4 rfl) ?_
  refine lv_iload hx hb dR_reduce_19 (lv_at hl 0 rfl) ?_
  refine va_ti (v := .int 19) hx hb hQ2 hS (by unfold vp_in; decide) rfl dR_reduce_21 ?_
  refine lv_istore hx hb dR_reduce_22 hl (by decide) rfl (fun ls hl => ?_)
  have hl : lv_has ls 9 [(6, .int 19), (5, .int 7), (7, .int 0), (4, .int 19), (3, .ref tQ), (0, .ref ua), (1, .int 1), (2, .ref h)] := hl
  refine lv_iconst (v := 0) hx hb dR_reduce_24 (by decide) ?_
  refine lv_istore hx hb dR_reduce_25 hl (by decide) rfl (fun ls hl => ?_)
  have hl : lv_has ls 9 [(7, .int 0), (6, .int 19), (5, .int 7), (4, .int 19), (3, .ref tQ), (0, .ref ua), (1, .int 1), (2, .ref h)] := hl
  refine lv_iload hx hb dR_reduce_27 (lv_at hl 0 rfl) ?_
  refine lv_aload_n hx hb dR_reduce_29 rfl (lv_at hl 7 rfl) ?_
  refine ro_i (va_Run.run (va_runV (As := []) (rest := [.int 0]) ⟨hx, hb, hml, hown, hT⟩ (k_mostBits48 l D cT h ww 1 wb wf) ⟨callB_of 0 hT (tb_gd w975) rfl rfl rfl (hT _ w5) (hT _ w972) hW_mostBits ⟨Nat.le_of_ble_eq_true rfl, Nat.le_of_ble_eq_true rfl⟩, (hT _ w973), (hT _ w974)⟩ (RO.preV (ci := 4) (q0 := 0) hZ hS (hP.sub (ws' := [(h, .inr (4, [.ref ww, .int 1, .int wb])), (ww, .inl (cT 0, 48, .inl wf))]) [0, 1] rfl) hK rfl rfl) rfl rfl hl.1 rfl (lv_room (Nat.le_of_ble_eq_true rfl)) dR_reduce_30 ⟨Nat.le_of_ble_eq_true rfl, Nat.le_of_ble_eq_true rfl⟩)) ?_
  refine lv_icmp_ge (tgt := 83) hx hb dR_reduce_33 rfl (fun hj23 => absurd hj23 (by decide)) (fun _ => ?_)
  refine lv_iload hx hb dR_reduce_36 (lv_at hl 1 rfl) ?_
  refine lv_aload_n hx hb dR_reduce_38 rfl (lv_at hl 5 rfl) ?_
  refine lv_iload_n hx hb dR_reduce_39 rfl (lv_at hl 6 rfl) ?_
  refine lv_aload_n hx hb dR_reduce_40 rfl (lv_at hl 7 rfl) ?_
  refine ro_i (va_Run.run (va_runS (As := [.int 19, .ref ua, .int 1, .ref h]) (rest := []) ⟨hx, hb, hml, hown, hT⟩ (k_dividesOne48_1 l D cT h ww wb wf 19 ua h0 (by decide) (by decide)) ⟨callB_of 4 hT (tb_gd w978) rfl rfl rfl (hT _ w1) (hT _ w976) hR_divides ⟨Nat.le_of_ble_eq_true rfl, Nat.le_of_ble_eq_true rfl⟩, (hT _ w977)⟩ (RO.preS hZ hS (hP.sub (ws' := [(h, .inr (4, [.ref ww, .int 1, .int wb])), (ww, .inl (cT 0, 48, .inl wf))]) [0, 1] rfl) hK) rfl rfl hl.1 rfl (lv_room (Nat.le_of_ble_eq_true rfl)) dR_reduce_41 ⟨Nat.le_of_ble_eq_true rfl, Nat.le_of_ble_eq_true rfl⟩)) ?_
  refine lv_if_eq (tgt := 83) hx hb dR_reduce_44 rfl (fun _ => ?_) (fun hj24 => absurd (by decide) hj24)
  refine lv_iinc (k := 2) (v := 8) hx hb dR_reduce_83 hl rfl (by decide) (by decide) rfl (fun ls hl => ?_)
  have hl : lv_has ls 9 [(5, .int 8), (7, .int 0), (6, .int 19), (4, .int 19), (3, .ref tQ), (0, .ref ua), (1, .int 1), (2, .ref h)] := hl
  refine lv_goto (tgt := 11) hx hb dR_reduce_86 rfl ?_
  refine lv_iload hx hb dR_reduce_11 (lv_at hl 0 rfl) ?_
  refine lv_iload hx hb dR_reduce_13 (lv_at hl 3 rfl) ?_
  refine lv_icmp_ge (tgt := 89) hx hb dR_reduce_15 rfl (fun hj25 => absurd hj25 (by decide)) (fun _ => ?_)
  refine lv_aload_n hx hb dR_reduce_18 rfl (lv_at hl 4 rfl) ?_
  refine lv_iload hx hb dR_reduce_19 (lv_at hl 0 rfl) ?_
  refine va_ti (v := .int 23) hx hb hQ2 hS (by unfold vp_in; decide) rfl dR_reduce_21 ?_
  refine lv_istore hx hb dR_reduce_22 hl (by decide) rfl (fun ls hl => ?_)
  have hl : lv_has ls 9 [(6, .int 23), (5, .int 8), (7, .int 0), (4, .int 19), (3, .ref tQ), (0, .ref ua), (1, .int 1), (2, .ref h)] := hl
  refine lv_iconst (v := 0) hx hb dR_reduce_24 (by decide) ?_
  refine lv_istore hx hb dR_reduce_25 hl (by decide) rfl (fun ls hl => ?_)
  have hl : lv_has ls 9 [(7, .int 0), (6, .int 23), (5, .int 8), (4, .int 19), (3, .ref tQ), (0, .ref ua), (1, .int 1), (2, .ref h)] := hl
  refine lv_iload hx hb dR_reduce_27 (lv_at hl 0 rfl) ?_
  refine lv_aload_n hx hb dR_reduce_29 rfl (lv_at hl 7 rfl) ?_
  refine ro_i (va_Run.run (va_runV (As := []) (rest := [.int 0]) ⟨hx, hb, hml, hown, hT⟩ (k_mostBits48 l D cT h ww 1 wb wf) ⟨callB_of 0 hT (tb_gd w975) rfl rfl rfl (hT _ w5) (hT _ w972) hW_mostBits ⟨Nat.le_of_ble_eq_true rfl, Nat.le_of_ble_eq_true rfl⟩, (hT _ w973), (hT _ w974)⟩ (RO.preV (ci := 4) (q0 := 0) hZ hS (hP.sub (ws' := [(h, .inr (4, [.ref ww, .int 1, .int wb])), (ww, .inl (cT 0, 48, .inl wf))]) [0, 1] rfl) hK rfl rfl) rfl rfl hl.1 rfl (lv_room (Nat.le_of_ble_eq_true rfl)) dR_reduce_30 ⟨Nat.le_of_ble_eq_true rfl, Nat.le_of_ble_eq_true rfl⟩)) ?_
  refine lv_icmp_ge (tgt := 83) hx hb dR_reduce_33 rfl (fun hj26 => absurd hj26 (by decide)) (fun _ => ?_)
  refine lv_iload hx hb dR_reduce_36 (lv_at hl 1 rfl) ?_
  refine lv_aload_n hx hb dR_reduce_38 rfl (lv_at hl 5 rfl) ?_
  refine lv_iload_n hx hb dR_reduce_39 rfl (lv_at hl 6 rfl) ?_
  refine lv_aload_n hx hb dR_reduce_40 rfl (lv_at hl 7 rfl) ?_
  refine ro_i (va_Run.run (va_runS (As := [.int 23, .ref ua, .int 1, .ref h]) (rest := []) ⟨hx, hb, hml, hown, hT⟩ (k_dividesOne48_1 l D cT h ww wb wf 23 ua h0 (by decide) (by decide)) ⟨callB_of 4 hT (tb_gd w978) rfl rfl rfl (hT _ w1) (hT _ w976) hR_divides ⟨Nat.le_of_ble_eq_true rfl, Nat.le_of_ble_eq_true rfl⟩, (hT _ w977)⟩ (RO.preS hZ hS (hP.sub (ws' := [(h, .inr (4, [.ref ww, .int 1, .int wb])), (ww, .inl (cT 0, 48, .inl wf))]) [0, 1] rfl) hK) rfl rfl hl.1 rfl (lv_room (Nat.le_of_ble_eq_true rfl)) dR_reduce_41 ⟨Nat.le_of_ble_eq_true rfl, Nat.le_of_ble_eq_true rfl⟩)) ?_
  refine lv_if_eq (tgt := 83) hx hb dR_reduce_44 rfl (fun _ => ?_) (fun hj27 => absurd (by decide) hj27)
  refine lv_iinc (k := 2) (v := 9) hx hb dR_reduce_83 hl rfl (by decide) (by decide) rfl (fun ls hl => ?_)
  have hl : lv_has ls 9 [(5, .int 9), (7, .int 0), (6, .int 23), (4, .int 19), (3, .ref tQ), (0, .ref ua), (1, .int 1), (2, .ref h)] := hl
  refine lv_goto (tgt := 11) hx hb dR_reduce_86 rfl ?_
  refine lv_iload hx hb dR_reduce_11 (lv_at hl 0 rfl) ?_
  refine lv_iload hx hb dR_reduce_13 (lv_at hl 3 rfl) ?_
  refine lv_icmp_ge (tgt := 89) hx hb dR_reduce_15 rfl (fun hj28 => absurd hj28 (by decide)) (fun _ => ?_)
  refine lv_aload_n hx hb dR_reduce_18 rfl (lv_at hl 4 rfl) ?_
  refine lv_iload hx hb dR_reduce_19 (lv_at hl 0 rfl) ?_
  refine va_ti (v := .int 29) hx hb hQ2 hS (by unfold vp_in; decide) rfl dR_reduce_21 ?_
  refine lv_istore hx hb dR_reduce_22 hl (by decide) rfl (fun ls hl => ?_)
  have hl : lv_has ls 9 [(6, .int 29), (5, .int 9), (7, .int 0), (4, .int 19), (3, .ref tQ), (0, .ref ua), (1, .int 1), (2, .ref h)] := hl
  refine lv_iconst (v := 0) hx hb dR_reduce_24 (by decide) ?_
  refine lv_istore hx hb dR_reduce_25 hl (by decide) rfl (fun ls hl => ?_)
  have hl : lv_has ls 9 [(7, .int 0), (6, .int 29), (5, .int 9), (4, .int 19), (3, .ref tQ), (0, .ref ua), (1, .int 1), (2, .ref h)] := hl
  refine lv_iload hx hb dR_reduce_27 (lv_at hl 0 rfl) ?_
  refine lv_aload_n hx hb dR_reduce_29 rfl (lv_at hl 7 rfl) ?_
  refine ro_i (va_Run.run (va_runV (As := []) (rest := [.int 0]) ⟨hx, hb, hml, hown, hT⟩ (k_mostBits48 l D cT h ww 1 wb wf) ⟨callB_of 0 hT (tb_gd w975) rfl rfl rfl (hT _ w5) (hT _ w972) hW_mostBits ⟨Nat.le_of_ble_eq_true rfl, Nat.le_of_ble_eq_true rfl⟩, (hT _ w973), (hT _ w974)⟩ (RO.preV (ci := 4) (q0 := 0) hZ hS (hP.sub (ws' := [(h, .inr (4, [.ref ww, .int 1, .int wb])), (ww, .inl (cT 0, 48, .inl wf))]) [0, 1] rfl) hK rfl rfl) rfl rfl hl.1 rfl (lv_room (Nat.le_of_ble_eq_true rfl)) dR_reduce_30 ⟨Nat.le_of_ble_eq_true rfl, Nat.le_of_ble_eq_true rfl⟩)) ?_
  refine lv_icmp_ge (tgt := 83) hx hb dR_reduce_33 rfl (fun hj29 => absurd hj29 (by decide)) (fun _ => ?_)
  refine lv_iload hx hb dR_reduce_36 (lv_at hl 1 rfl) ?_
  refine lv_aload_n hx hb dR_reduce_38 rfl (lv_at hl 5 rfl) ?_
  refine lv_iload_n hx hb dR_reduce_39 rfl (lv_at hl 6 rfl) ?_
  refine lv_aload_n hx hb dR_reduce_40 rfl (lv_at hl 7 rfl) ?_
  refine ro_i (va_Run.run (va_runS (As := [.int 29, .ref ua, .int 1, .ref h]) (rest := []) ⟨hx, hb, hml, hown, hT⟩ (k_dividesOne48_1 l D cT h ww wb wf 29 ua h0 (by decide) (by decide)) ⟨callB_of 4 hT (tb_gd w978) rfl rfl rfl (hT _ w1) (hT _ w976) hR_divides ⟨Nat.le_of_ble_eq_true rfl, Nat.le_of_ble_eq_true rfl⟩, (hT _ w977)⟩ (RO.preS hZ hS (hP.sub (ws' := [(h, .inr (4, [.ref ww, .int 1, .int wb])), (ww, .inl (cT 0, 48, .inl wf))]) [0, 1] rfl) hK) rfl rfl hl.1 rfl (lv_room (Nat.le_of_ble_eq_true rfl)) dR_reduce_41 ⟨Nat.le_of_ble_eq_true rfl, Nat.le_of_ble_eq_true rfl⟩)) ?_
  refine lv_if_eq (tgt := 83) hx hb dR_reduce_44 rfl (fun _ => ?_) (fun hj30 => absurd (by decide) hj30)
  refine lv_iinc (k := 2) (v := 10) hx hb dR_reduce_83 hl rfl (by decide) (by decide) rfl (fun ls hl => ?_)
  have hl : lv_has ls 9 [(5, .int 10), (7, .int 0), (6, .int 29), (4, .int 19), (3, .ref tQ), (0, .ref ua), (1, .int 1), (2, .ref h)] := hl
  refine lv_goto (tgt := 11) hx hb dR_reduce_86 rfl ?_
  refine lv_iload hx hb dR_reduce_11 (lv_at hl 0 rfl) ?_
  refine lv_iload hx hb dR_reduce_13 (lv_at hl 3 rfl) ?_
  refine lv_icmp_ge (tgt := 89) hx hb dR_reduce_15 rfl (fun hj31 => absurd hj31 (by decide)) (fun _ => ?_)
  refine lv_aload_n hx hb dR_reduce_18 rfl (lv_at hl 4 rfl) ?_
  refine lv_iload hx hb dR_reduce_19 (lv_at hl 0 rfl) ?_
  refine va_ti (v := .int 31) hx hb hQ2 hS (by unfold vp_in; decide) rfl dR_reduce_21 ?_
  refine lv_istore hx hb dR_reduce_22 hl (by decide) rfl (fun ls hl => ?_)
  have hl : lv_has ls 9 [(6, .int 31), (5, .int 10), (7, .int 0), (4, .int 19), (3, .ref tQ), (0, .ref ua), (1, .int 1), (2, .ref h)] := hl
  refine lv_iconst (v := 0) hx hb dR_reduce_24 (by decide) ?_
  refine lv_istore hx hb dR_reduce_25 hl (by decide) rfl (fun ls hl => ?_)
  have hl : lv_has ls 9 [(7, .int 0), (6, .int 31), (5, .int 10), (4, .int 19), (3, .ref tQ), (0, .ref ua), (1, .int 1), (2, .ref h)] := hl
  refine lv_iload hx hb dR_reduce_27 (lv_at hl 0 rfl) ?_
  refine lv_aload_n hx hb dR_reduce_29 rfl (lv_at hl 7 rfl) ?_
  refine ro_i (va_Run.run (va_runV (As := []) (rest := [.int 0]) ⟨hx, hb, hml, hown, hT⟩ (k_mostBits48 l D cT h ww 1 wb wf) ⟨callB_of 0 hT (tb_gd w975) rfl rfl rfl (hT _ w5) (hT _ w972) hW_mostBits ⟨Nat.le_of_ble_eq_true rfl, Nat.le_of_ble_eq_true rfl⟩, (hT _ w973), (hT _ w974)⟩ (RO.preV (ci := 4) (q0 := 0) hZ hS (hP.sub (ws' := [(h, .inr (4, [.ref ww, .int 1, .int wb])), (ww, .inl (cT 0, 48, .inl wf))]) [0, 1] rfl) hK rfl rfl) rfl rfl hl.1 rfl (lv_room (Nat.le_of_ble_eq_true rfl)) dR_reduce_30 ⟨Nat.le_of_ble_eq_true rfl, Nat.le_of_ble_eq_true rfl⟩)) ?_
  refine lv_icmp_ge (tgt := 83) hx hb dR_reduce_33 rfl (fun hj32 => absurd hj32 (by decide)) (fun _ => ?_)
  refine lv_iload hx hb dR_reduce_36 (lv_at hl 1 rfl) ?_
  refine lv_aload_n hx hb dR_reduce_38 rfl (lv_at hl 5 rfl) ?_
  refine lv_iload_n hx hb dR_reduce_39 rfl (lv_at hl 6 rfl) ?_
  refine lv_aload_n hx hb dR_reduce_40 rfl (lv_at hl 7 rfl) ?_
  refine ro_i (va_Run.run (va_runS (As := [.int 31, .ref ua, .int 1, .ref h]) (rest := []) ⟨hx, hb, hml, hown, hT⟩ (k_dividesOne48_1 l D cT h ww wb wf 31 ua h0 (by decide) (by decide)) ⟨callB_of 4 hT (tb_gd w978) rfl rfl rfl (hT _ w1) (hT _ w976) hR_divides ⟨Nat.le_of_ble_eq_true rfl, Nat.le_of_ble_eq_true rfl⟩, (hT _ w977)⟩ (RO.preS hZ hS (hP.sub (ws' := [(h, .inr (4, [.ref ww, .int 1, .int wb])), (ww, .inl (cT 0, 48, .inl wf))]) [0, 1] rfl) hK) rfl rfl hl.1 rfl (lv_room (Nat.le_of_ble_eq_true rfl)) dR_reduce_41 ⟨Nat.le_of_ble_eq_true rfl, Nat.le_of_ble_eq_true rfl⟩)) ?_
  refine lv_if_eq (tgt := 83) hx hb dR_reduce_44 rfl (fun _ => ?_) (fun hj33 => absurd (by decide) hj33)
  refine lv_iinc (k := 2) (v := 11) hx hb dR_reduce_83 hl rfl (by decide) (by decide) rfl (fun ls hl => ?_)
  have hl : lv_has ls 9 [(5, .int 11), (7, .int 0), (6, .int 31), (4, .int 19), (3, .ref tQ), (0, .ref ua), (1, .int 1), (2, .ref h)] := hl
  refine lv_goto (tgt := 11) hx hb dR_reduce_86 rfl ?_
  refine lv_iload hx hb dR_reduce_11 (lv_at hl 0 rfl) ?_
  refine lv_iload hx hb dR_reduce_13 (lv_at hl 3 rfl) ?_
  refine lv_icmp_ge (tgt := 89) hx hb dR_reduce_15 rfl (fun hj34 => absurd hj34 (by decide)) (fun _ => ?_)
  refine lv_aload_n hx hb dR_reduce_18 rfl (lv_at hl 4 rfl) ?_
  refine lv_iload hx hb dR_reduce_19 (lv_at hl 0 rfl) ?_
  refine va_ti (v := .int 37) hx hb hQ2 hS (by unfold vp_in; decide) rfl dR_reduce_21 ?_
  refine lv_istore hx hb dR_reduce_22 hl (by decide) rfl (fun ls hl => ?_)
  have hl : lv_has ls 9 [(6, .int 37), (5, .int 11), (7, .int 0), (4, .int 19), (3, .ref tQ), (0, .ref ua), (1, .int 1), (2, .ref h)] := hl
  refine lv_iconst (v := 0) hx hb dR_reduce_24 (by decide) ?_
  refine lv_istore hx hb dR_reduce_25 hl (by decide) rfl (fun ls hl => ?_)
  have hl : lv_has ls 9 [(7, .int 0), (6, .int 37), (5, .int 11), (4, .int 19), (3, .ref tQ), (0, .ref ua), (1, .int 1), (2, .ref h)] := hl
  refine lv_iload hx hb dR_reduce_27 (lv_at hl 0 rfl) ?_
  refine lv_aload_n hx hb dR_reduce_29 rfl (lv_at hl 7 rfl) ?_
  refine ro_i (va_Run.run (va_runV (As := []) (rest := [.int 0]) ⟨hx, hb, hml, hown, hT⟩ (k_mostBits48 l D cT h ww 1 wb wf) ⟨callB_of 0 hT (tb_gd w975) rfl rfl rfl (hT _ w5) (hT _ w972) hW_mostBits ⟨Nat.le_of_ble_eq_true rfl, Nat.le_of_ble_eq_true rfl⟩, (hT _ w973), (hT _ w974)⟩ (RO.preV (ci := 4) (q0 := 0) hZ hS (hP.sub (ws' := [(h, .inr (4, [.ref ww, .int 1, .int wb])), (ww, .inl (cT 0, 48, .inl wf))]) [0, 1] rfl) hK rfl rfl) rfl rfl hl.1 rfl (lv_room (Nat.le_of_ble_eq_true rfl)) dR_reduce_30 ⟨Nat.le_of_ble_eq_true rfl, Nat.le_of_ble_eq_true rfl⟩)) ?_
  refine lv_icmp_ge (tgt := 83) hx hb dR_reduce_33 rfl (fun hj35 => absurd hj35 (by decide)) (fun _ => ?_)
  refine lv_iload hx hb dR_reduce_36 (lv_at hl 1 rfl) ?_
  refine lv_aload_n hx hb dR_reduce_38 rfl (lv_at hl 5 rfl) ?_
  refine lv_iload_n hx hb dR_reduce_39 rfl (lv_at hl 6 rfl) ?_
  refine lv_aload_n hx hb dR_reduce_40 rfl (lv_at hl 7 rfl) ?_
  refine ro_i (va_Run.run (va_runS (As := [.int 37, .ref ua, .int 1, .ref h]) (rest := []) ⟨hx, hb, hml, hown, hT⟩ (k_dividesOne48_1 l D cT h ww wb wf 37 ua h0 (by decide) (by decide)) ⟨callB_of 4 hT (tb_gd w978) rfl rfl rfl (hT _ w1) (hT _ w976) hR_divides ⟨Nat.le_of_ble_eq_true rfl, Nat.le_of_ble_eq_true rfl⟩, (hT _ w977)⟩ (RO.preS hZ hS (hP.sub (ws' := [(h, .inr (4, [.ref ww, .int 1, .int wb])), (ww, .inl (cT 0, 48, .inl wf))]) [0, 1] rfl) hK) rfl rfl hl.1 rfl (lv_room (Nat.le_of_ble_eq_true rfl)) dR_reduce_41 ⟨Nat.le_of_ble_eq_true rfl, Nat.le_of_ble_eq_true rfl⟩)) ?_
  refine lv_if_eq (tgt := 83) hx hb dR_reduce_44 rfl (fun _ => ?_) (fun hj36 => absurd (by decide) hj36)
  refine lv_iinc (k := 2) (v := 12) hx hb dR_reduce_83 hl rfl (by decide) (by decide) rfl (fun ls hl => ?_)
  have hl : lv_has ls 9 [(5, .int 12), (7, .int 0), (6, .int 37), (4, .int 19), (3, .ref tQ), (0, .ref ua), (1, .int 1), (2, .ref h)] := hl
  refine lv_goto (tgt := 11) hx hb dR_reduce_86 rfl ?_
  refine lv_iload hx hb dR_reduce_11 (lv_at hl 0 rfl) ?_
  refine lv_iload hx hb dR_reduce_13 (lv_at hl 3 rfl) ?_
  refine lv_icmp_ge (tgt := 89) hx hb dR_reduce_15 rfl (fun hj37 => absurd hj37 (by decide)) (fun _ => ?_)
  refine lv_aload_n hx hb dR_reduce_18 rfl (lv_at hl 4 rfl) ?_
  refine lv_iload hx hb dR_reduce_19 (lv_at hl 0 rfl) ?_
  refine va_ti (v := .int 41) hx hb hQ2 hS (by unfold vp_in; decide) rfl dR_reduce_21 ?_
  refine lv_istore hx hb dR_reduce_22 hl (by decide) rfl (fun ls hl => ?_)
  have hl : lv_has ls 9 [(6, .int 41), (5, .int 12), (7, .int 0), (4, .int 19), (3, .ref tQ), (0, .ref ua), (1, .int 1), (2, .ref h)] := hl
  refine lv_iconst (v := 0) hx hb dR_reduce_24 (by decide) ?_
  refine lv_istore hx hb dR_reduce_25 hl (by decide) rfl (fun ls hl => ?_)
  have hl : lv_has ls 9 [(7, .int 0), (6, .int 41), (5, .int 12), (4, .int 19), (3, .ref tQ), (0, .ref ua), (1, .int 1), (2, .ref h)] := hl
  refine lv_iload hx hb dR_reduce_27 (lv_at hl 0 rfl) ?_
  refine lv_aload_n hx hb dR_reduce_29 rfl (lv_at hl 7 rfl) ?_
  refine ro_i (va_Run.run (va_runV (As := []) (rest := [.int 0]) ⟨hx, hb, hml, hown, hT⟩ (k_mostBits48 l D cT h ww 1 wb wf) ⟨callB_of 0 hT (tb_gd w975) rfl rfl rfl (hT _ w5) (hT _ w972) hW_mostBits ⟨Nat.le_of_ble_eq_true rfl, Nat.le_of_ble_eq_true rfl⟩, (hT _ w973), (hT _ w974)⟩ (RO.preV (ci := 4) (q0 := 0) hZ hS (hP.sub (ws' := [(h, .inr (4, [.ref ww, .int 1, .int wb])), (ww, .inl (cT 0, 48, .inl wf))]) [0, 1] rfl) hK rfl rfl) rfl rfl hl.1 rfl (lv_room (Nat.le_of_ble_eq_true rfl)) dR_reduce_30 ⟨Nat.le_of_ble_eq_true rfl, Nat.le_of_ble_eq_true rfl⟩)) ?_
  refine lv_icmp_ge (tgt := 83) hx hb dR_reduce_33 rfl (fun hj38 => absurd hj38 (by decide)) (fun _ => ?_)
  refine lv_iload hx hb dR_reduce_36 (lv_at hl 1 rfl) ?_
  refine lv_aload_n hx hb dR_reduce_38 rfl (lv_at hl 5 rfl) ?_
  refine lv_iload_n hx hb dR_reduce_39 rfl (lv_at hl 6 rfl) ?_
  refine lv_aload_n hx hb dR_reduce_40 rfl (lv_at hl 7 rfl) ?_
  refine ro_i (va_Run.run (va_runS (As := [.int 41, .ref ua, .int 1, .ref h]) (rest := []) ⟨hx, hb, hml, hown, hT⟩ (k_dividesOne48_1 l D cT h ww wb wf 41 ua h0 (by decide) (by decide)) ⟨callB_of 4 hT (tb_gd w978) rfl rfl rfl (hT _ w1) (hT _ w976) hR_divides ⟨Nat.le_of_ble_eq_true rfl, Nat.le_of_ble_eq_true rfl⟩, (hT _ w977)⟩ (RO.preS hZ hS (hP.sub (ws' := [(h, .inr (4, [.ref ww, .int 1, .int wb])), (ww, .inl (cT 0, 48, .inl wf))]) [0, 1] rfl) hK) rfl rfl hl.1 rfl (lv_room (Nat.le_of_ble_eq_true rfl)) dR_reduce_41 ⟨Nat.le_of_ble_eq_true rfl, Nat.le_of_ble_eq_true rfl⟩)) ?_
  refine lv_if_eq (tgt := 83) hx hb dR_reduce_44 rfl (fun _ => ?_) (fun hj39 => absurd (by decide) hj39)
  refine lv_iinc (k := 2) (v := 13) hx hb dR_reduce_83 hl rfl (by decide) (by decide) rfl (fun ls hl => ?_)
  have hl : lv_has ls 9 [(5, .int 13), (7, .int 0), (6, .int 41), (4, .int 19), (3, .ref tQ), (0, .ref ua), (1, .int 1), (2, .ref h)] := hl
  refine lv_goto (tgt := 11) hx hb dR_reduce_86 rfl ?_
  refine lv_iload hx hb dR_reduce_11 (lv_at hl 0 rfl) ?_
  refine lv_iload hx hb dR_reduce_13 (lv_at hl 3 rfl) ?_
  refine lv_icmp_ge (tgt := 89) hx hb dR_reduce_15 rfl (fun hj40 => absurd hj40 (by decide)) (fun _ => ?_)
  refine lv_aload_n hx hb dR_reduce_18 rfl (lv_at hl 4 rfl) ?_
  refine lv_iload hx hb dR_reduce_19 (lv_at hl 0 rfl) ?_
  refine va_ti (v := .int 43) hx hb hQ2 hS (by unfold vp_in; decide) rfl dR_reduce_21 ?_
  refine lv_istore hx hb dR_reduce_22 hl (by decide) rfl (fun ls hl => ?_)
  have hl : lv_has ls 9 [(6, .int 43), (5, .int 13), (7, .int 0), (4, .int 19), (3, .ref tQ), (0, .ref ua), (1, .int 1), (2, .ref h)] := hl
  refine lv_iconst (v := 0) hx hb dR_reduce_24 (by decide) ?_
  refine lv_istore hx hb dR_reduce_25 hl (by decide) rfl (fun ls hl => ?_)
  have hl : lv_has ls 9 [(7, .int 0), (6, .int 43), (5, .int 13), (4, .int 19), (3, .ref tQ), (0, .ref ua), (1, .int 1), (2, .ref h)] := hl
  refine lv_iload hx hb dR_reduce_27 (lv_at hl 0 rfl) ?_
  refine lv_aload_n hx hb dR_reduce_29 rfl (lv_at hl 7 rfl) ?_
  refine ro_i (va_Run.run (va_runV (As := []) (rest := [.int 0]) ⟨hx, hb, hml, hown, hT⟩ (k_mostBits48 l D cT h ww 1 wb wf) ⟨callB_of 0 hT (tb_gd w975) rfl rfl rfl (hT _ w5) (hT _ w972) hW_mostBits ⟨Nat.le_of_ble_eq_true rfl, Nat.le_of_ble_eq_true rfl⟩, (hT _ w973), (hT _ w974)⟩ (RO.preV (ci := 4) (q0 := 0) hZ hS (hP.sub (ws' := [(h, .inr (4, [.ref ww, .int 1, .int wb])), (ww, .inl (cT 0, 48, .inl wf))]) [0, 1] rfl) hK rfl rfl) rfl rfl hl.1 rfl (lv_room (Nat.le_of_ble_eq_true rfl)) dR_reduce_30 ⟨Nat.le_of_ble_eq_true rfl, Nat.le_of_ble_eq_true rfl⟩)) ?_
  refine lv_icmp_ge (tgt := 83) hx hb dR_reduce_33 rfl (fun hj41 => absurd hj41 (by decide)) (fun _ => ?_)
  refine lv_iload hx hb dR_reduce_36 (lv_at hl 1 rfl) ?_
  refine lv_aload_n hx hb dR_reduce_38 rfl (lv_at hl 5 rfl) ?_
  refine lv_iload_n hx hb dR_reduce_39 rfl (lv_at hl 6 rfl) ?_
  refine lv_aload_n hx hb dR_reduce_40 rfl (lv_at hl 7 rfl) ?_
  refine ro_i (va_Run.run (va_runS (As := [.int 43, .ref ua, .int 1, .ref h]) (rest := []) ⟨hx, hb, hml, hown, hT⟩ (k_dividesOne48_1 l D cT h ww wb wf 43 ua h0 (by decide) (by decide)) ⟨callB_of 4 hT (tb_gd w978) rfl rfl rfl (hT _ w1) (hT _ w976) hR_divides ⟨Nat.le_of_ble_eq_true rfl, Nat.le_of_ble_eq_true rfl⟩, (hT _ w977)⟩ (RO.preS hZ hS (hP.sub (ws' := [(h, .inr (4, [.ref ww, .int 1, .int wb])), (ww, .inl (cT 0, 48, .inl wf))]) [0, 1] rfl) hK) rfl rfl hl.1 rfl (lv_room (Nat.le_of_ble_eq_true rfl)) dR_reduce_41 ⟨Nat.le_of_ble_eq_true rfl, Nat.le_of_ble_eq_true rfl⟩)) ?_
  refine lv_if_eq (tgt := 83) hx hb dR_reduce_44 rfl (fun _ => ?_) (fun hj42 => absurd (by decide) hj42)
  refine lv_iinc (k := 2) (v := 14) hx hb dR_reduce_83 hl rfl (by decide) (by decide) rfl (fun ls hl => ?_)
  have hl : lv_has ls 9 [(5, .int 14), (7, .int 0), (6, .int 43), (4, .int 19), (3, .ref tQ), (0, .ref ua), (1, .int 1), (2, .ref h)] := hl
  refine lv_goto (tgt := 11) hx hb dR_reduce_86 rfl ?_
  refine lv_iload hx hb dR_reduce_11 (lv_at hl 0 rfl) ?_
  refine lv_iload hx hb dR_reduce_13 (lv_at hl 3 rfl) ?_
  refine lv_icmp_ge (tgt := 89) hx hb dR_reduce_15 rfl (fun hj43 => absurd hj43 (by decide)) (fun _ => ?_)
  refine lv_aload_n hx hb dR_reduce_18 rfl (lv_at hl 4 rfl) ?_
  refine lv_iload hx hb dR_reduce_19 (lv_at hl 0 rfl) ?_
  refine va_ti (v := .int 47) hx hb hQ2 hS (by unfold vp_in; decide) rfl dR_reduce_21 ?_
  refine lv_istore hx hb dR_reduce_22 hl (by decide) rfl (fun ls hl => ?_)
  have hl : lv_has ls 9 [(6, .int 47), (5, .int 14), (7, .int 0), (4, .int 19), (3, .ref tQ), (0, .ref ua), (1, .int 1), (2, .ref h)] := hl
  refine lv_iconst (v := 0) hx hb dR_reduce_24 (by decide) ?_
  refine lv_istore hx hb dR_reduce_25 hl (by decide) rfl (fun ls hl => ?_)
  have hl : lv_has ls 9 [(7, .int 0), (6, .int 47), (5, .int 14), (4, .int 19), (3, .ref tQ), (0, .ref ua), (1, .int 1), (2, .ref h)] := hl
  refine lv_iload hx hb dR_reduce_27 (lv_at hl 0 rfl) ?_
  refine lv_aload_n hx hb dR_reduce_29 rfl (lv_at hl 7 rfl) ?_
  refine ro_i (va_Run.run (va_runV (As := []) (rest := [.int 0]) ⟨hx, hb, hml, hown, hT⟩ (k_mostBits48 l D cT h ww 1 wb wf) ⟨callB_of 0 hT (tb_gd w975) rfl rfl rfl (hT _ w5) (hT _ w972) hW_mostBits ⟨Nat.le_of_ble_eq_true rfl, Nat.le_of_ble_eq_true rfl⟩, (hT _ w973), (hT _ w974)⟩ (RO.preV (ci := 4) (q0 := 0) hZ hS (hP.sub (ws' := [(h, .inr (4, [.ref ww, .int 1, .int wb])), (ww, .inl (cT 0, 48, .inl wf))]) [0, 1] rfl) hK rfl rfl) rfl rfl hl.1 rfl (lv_room (Nat.le_of_ble_eq_true rfl)) dR_reduce_30 ⟨Nat.le_of_ble_eq_true rfl, Nat.le_of_ble_eq_true rfl⟩)) ?_
  refine lv_icmp_ge (tgt := 83) hx hb dR_reduce_33 rfl (fun hj44 => absurd hj44 (by decide)) (fun _ => ?_)
  refine lv_iload hx hb dR_reduce_36 (lv_at hl 1 rfl) ?_
  refine lv_aload_n hx hb dR_reduce_38 rfl (lv_at hl 5 rfl) ?_
  refine lv_iload_n hx hb dR_reduce_39 rfl (lv_at hl 6 rfl) ?_
  refine lv_aload_n hx hb dR_reduce_40 rfl (lv_at hl 7 rfl) ?_
  refine ro_i (va_Run.run (va_runS (As := [.int 47, .ref ua, .int 1, .ref h]) (rest := []) ⟨hx, hb, hml, hown, hT⟩ (k_dividesOne48_1 l D cT h ww wb wf 47 ua h0 (by decide) (by decide)) ⟨callB_of 4 hT (tb_gd w978) rfl rfl rfl (hT _ w1) (hT _ w976) hR_divides ⟨Nat.le_of_ble_eq_true rfl, Nat.le_of_ble_eq_true rfl⟩, (hT _ w977)⟩ (RO.preS hZ hS (hP.sub (ws' := [(h, .inr (4, [.ref ww, .int 1, .int wb])), (ww, .inl (cT 0, 48, .inl wf))]) [0, 1] rfl) hK) rfl rfl hl.1 rfl (lv_room (Nat.le_of_ble_eq_true rfl)) dR_reduce_41 ⟨Nat.le_of_ble_eq_true rfl, Nat.le_of_ble_eq_true rfl⟩)) ?_
  refine lv_if_eq (tgt := 83) hx hb dR_reduce_44 rfl (fun _ => ?_) (fun hj45 => absurd (by decide) hj45)
  refine lv_iinc (k := 2) (v := 15) hx hb dR_reduce_83 hl rfl (by decide) (by decide) rfl (fun ls hl => ?_)
  have hl : lv_has ls 9 [(5, .int 15), (7, .int 0), (6, .int 47), (4, .int 19), (3, .ref tQ), (0, .ref ua), (1, .int 1), (2, .ref h)] := hl
  refine lv_goto (tgt := 11) hx hb dR_reduce_86 rfl ?_
  refine lv_iload hx hb dR_reduce_11 (lv_at hl 0 rfl) ?_
  refine lv_iload hx hb dR_reduce_13 (lv_at hl 3 rfl) ?_
  refine lv_icmp_ge (tgt := 89) hx hb dR_reduce_15 rfl (fun hj46 => absurd hj46 (by decide)) (fun _ => ?_)
  refine lv_aload_n hx hb dR_reduce_18 rfl (lv_at hl 4 rfl) ?_
  refine lv_iload hx hb dR_reduce_19 (lv_at hl 0 rfl) ?_
  refine va_ti (v := .int 53) hx hb hQ2 hS (by unfold vp_in; decide) rfl dR_reduce_21 ?_
  refine lv_istore hx hb dR_reduce_22 hl (by decide) rfl (fun ls hl => ?_)
  have hl : lv_has ls 9 [(6, .int 53), (5, .int 15), (7, .int 0), (4, .int 19), (3, .ref tQ), (0, .ref ua), (1, .int 1), (2, .ref h)] := hl
  refine lv_iconst (v := 0) hx hb dR_reduce_24 (by decide) ?_
  refine lv_istore hx hb dR_reduce_25 hl (by decide) rfl (fun ls hl => ?_)
  have hl : lv_has ls 9 [(7, .int 0), (6, .int 53), (5, .int 15), (4, .int 19), (3, .ref tQ), (0, .ref ua), (1, .int 1), (2, .ref h)] := hl
  refine lv_iload hx hb dR_reduce_27 (lv_at hl 0 rfl) ?_
  refine lv_aload_n hx hb dR_reduce_29 rfl (lv_at hl 7 rfl) ?_
  refine ro_i (va_Run.run (va_runV (As := []) (rest := [.int 0]) ⟨hx, hb, hml, hown, hT⟩ (k_mostBits48 l D cT h ww 1 wb wf) ⟨callB_of 0 hT (tb_gd w975) rfl rfl rfl (hT _ w5) (hT _ w972) hW_mostBits ⟨Nat.le_of_ble_eq_true rfl, Nat.le_of_ble_eq_true rfl⟩, (hT _ w973), (hT _ w974)⟩ (RO.preV (ci := 4) (q0 := 0) hZ hS (hP.sub (ws' := [(h, .inr (4, [.ref ww, .int 1, .int wb])), (ww, .inl (cT 0, 48, .inl wf))]) [0, 1] rfl) hK rfl rfl) rfl rfl hl.1 rfl (lv_room (Nat.le_of_ble_eq_true rfl)) dR_reduce_30 ⟨Nat.le_of_ble_eq_true rfl, Nat.le_of_ble_eq_true rfl⟩)) ?_
  refine lv_icmp_ge (tgt := 83) hx hb dR_reduce_33 rfl (fun hj47 => absurd hj47 (by decide)) (fun _ => ?_)
  refine lv_iload hx hb dR_reduce_36 (lv_at hl 1 rfl) ?_
  refine lv_aload_n hx hb dR_reduce_38 rfl (lv_at hl 5 rfl) ?_
  refine lv_iload_n hx hb dR_reduce_39 rfl (lv_at hl 6 rfl) ?_
  refine lv_aload_n hx hb dR_reduce_40 rfl (lv_at hl 7 rfl) ?_
  refine ro_i (va_Run.run (va_runS (As := [.int 53, .ref ua, .int 1, .ref h]) (rest := []) ⟨hx, hb, hml, hown, hT⟩ (k_dividesOne48_1 l D cT h ww wb wf 53 ua h0 (by decide) (by decide)) ⟨callB_of 4 hT (tb_gd w978) rfl rfl rfl (hT _ w1) (hT _ w976) hR_divides ⟨Nat.le_of_ble_eq_true rfl, Nat.le_of_ble_eq_true rfl⟩, (hT _ w977)⟩ (RO.preS hZ hS (hP.sub (ws' := [(h, .inr (4, [.ref ww, .int 1, .int wb])), (ww, .inl (cT 0, 48, .inl wf))]) [0, 1] rfl) hK) rfl rfl hl.1 rfl (lv_room (Nat.le_of_ble_eq_true rfl)) dR_reduce_41 ⟨Nat.le_of_ble_eq_true rfl, Nat.le_of_ble_eq_true rfl⟩)) ?_
  refine lv_if_eq (tgt := 83) hx hb dR_reduce_44 rfl (fun _ => ?_) (fun hj48 => absurd (by decide) hj48)
  refine lv_iinc (k := 2) (v := 16) hx hb dR_reduce_83 hl rfl (by decide) (by decide) rfl (fun ls hl => ?_)
  have hl : lv_has ls 9 [(5, .int 16), (7, .int 0), (6, .int 53), (4, .int 19), (3, .ref tQ), (0, .ref ua), (1, .int 1), (2, .ref h)] := hl
  refine lv_goto (tgt := 11) hx hb dR_reduce_86 rfl ?_
  refine lv_iload hx hb dR_reduce_11 (lv_at hl 0 rfl) ?_
  refine lv_iload hx hb dR_reduce_13 (lv_at hl 3 rfl) ?_
  refine lv_icmp_ge (tgt := 89) hx hb dR_reduce_15 rfl (fun hj49 => absurd hj49 (by decide)) (fun _ => ?_)
  refine lv_aload_n hx hb dR_reduce_18 rfl (lv_at hl 4 rfl) ?_
  refine lv_iload hx hb dR_reduce_19 (lv_at hl 0 rfl) ?_
  refine va_ti (v := .int 59) hx hb hQ2 hS (by unfold vp_in; decide) rfl dR_reduce_21 ?_
  refine lv_istore hx hb dR_reduce_22 hl (by decide) rfl (fun ls hl => ?_)
  have hl : lv_has ls 9 [(6, .int 59), (5, .int 16), (7, .int 0), (4, .int 19), (3, .ref tQ), (0, .ref ua), (1, .int 1), (2, .ref h)] := hl
  refine lv_iconst (v := 0) hx hb dR_reduce_24 (by decide) ?_
  refine lv_istore hx hb dR_reduce_25 hl (by decide) rfl (fun ls hl => ?_)
  have hl : lv_has ls 9 [(7, .int 0), (6, .int 59), (5, .int 16), (4, .int 19), (3, .ref tQ), (0, .ref ua), (1, .int 1), (2, .ref h)] := hl
  refine lv_iload hx hb dR_reduce_27 (lv_at hl 0 rfl) ?_
  refine lv_aload_n hx hb dR_reduce_29 rfl (lv_at hl 7 rfl) ?_
  refine ro_i (va_Run.run (va_runV (As := []) (rest := [.int 0]) ⟨hx, hb, hml, hown, hT⟩ (k_mostBits48 l D cT h ww 1 wb wf) ⟨callB_of 0 hT (tb_gd w975) rfl rfl rfl (hT _ w5) (hT _ w972) hW_mostBits ⟨Nat.le_of_ble_eq_true rfl, Nat.le_of_ble_eq_true rfl⟩, (hT _ w973), (hT _ w974)⟩ (RO.preV (ci := 4) (q0 := 0) hZ hS (hP.sub (ws' := [(h, .inr (4, [.ref ww, .int 1, .int wb])), (ww, .inl (cT 0, 48, .inl wf))]) [0, 1] rfl) hK rfl rfl) rfl rfl hl.1 rfl (lv_room (Nat.le_of_ble_eq_true rfl)) dR_reduce_30 ⟨Nat.le_of_ble_eq_true rfl, Nat.le_of_ble_eq_true rfl⟩)) ?_
  refine lv_icmp_ge (tgt := 83) hx hb dR_reduce_33 rfl (fun hj50 => absurd hj50 (by decide)) (fun _ => ?_)
  refine lv_iload hx hb dR_reduce_36 (lv_at hl 1 rfl) ?_
  refine lv_aload_n hx hb dR_reduce_38 rfl (lv_at hl 5 rfl) ?_
  refine lv_iload_n hx hb dR_reduce_39 rfl (lv_at hl 6 rfl) ?_
  refine lv_aload_n hx hb dR_reduce_40 rfl (lv_at hl 7 rfl) ?_
  refine ro_i (va_Run.run (va_runS (As := [.int 59, .ref ua, .int 1, .ref h]) (rest := []) ⟨hx, hb, hml, hown, hT⟩ (k_dividesOne48_1 l D cT h ww wb wf 59 ua h0 (by decide) (by decide)) ⟨callB_of 4 hT (tb_gd w978) rfl rfl rfl (hT _ w1) (hT _ w976) hR_divides ⟨Nat.le_of_ble_eq_true rfl, Nat.le_of_ble_eq_true rfl⟩, (hT _ w977)⟩ (RO.preS hZ hS (hP.sub (ws' := [(h, .inr (4, [.ref ww, .int 1, .int wb])), (ww, .inl (cT 0, 48, .inl wf))]) [0, 1] rfl) hK) rfl rfl hl.1 rfl (lv_room (Nat.le_of_ble_eq_true rfl)) dR_reduce_41 ⟨Nat.le_of_ble_eq_true rfl, Nat.le_of_ble_eq_true rfl⟩)) ?_
  refine lv_if_eq (tgt := 83) hx hb dR_reduce_44 rfl (fun _ => ?_) (fun hj51 => absurd (by decide) hj51)
  refine lv_iinc (k := 2) (v := 17) hx hb dR_reduce_83 hl rfl (by decide) (by decide) rfl (fun ls hl => ?_)
  have hl : lv_has ls 9 [(5, .int 17), (7, .int 0), (6, .int 59), (4, .int 19), (3, .ref tQ), (0, .ref ua), (1, .int 1), (2, .ref h)] := hl
  refine lv_goto (tgt := 11) hx hb dR_reduce_86 rfl ?_
  refine lv_iload hx hb dR_reduce_11 (lv_at hl 0 rfl) ?_
  refine lv_iload hx hb dR_reduce_13 (lv_at hl 3 rfl) ?_
  refine lv_icmp_ge (tgt := 89) hx hb dR_reduce_15 rfl (fun hj52 => absurd hj52 (by decide)) (fun _ => ?_)
  refine lv_aload_n hx hb dR_reduce_18 rfl (lv_at hl 4 rfl) ?_
  refine lv_iload hx hb dR_reduce_19 (lv_at hl 0 rfl) ?_
  refine va_ti (v := .int 61) hx hb hQ2 hS (by unfold vp_in; decide) rfl dR_reduce_21 ?_
  refine lv_istore hx hb dR_reduce_22 hl (by decide) rfl (fun ls hl => ?_)
  have hl : lv_has ls 9 [(6, .int 61), (5, .int 17), (7, .int 0), (4, .int 19), (3, .ref tQ), (0, .ref ua), (1, .int 1), (2, .ref h)] := hl
  refine lv_iconst (v := 0) hx hb dR_reduce_24 (by decide) ?_
  refine lv_istore hx hb dR_reduce_25 hl (by decide) rfl (fun ls hl => ?_)
  have hl : lv_has ls 9 [(7, .int 0), (6, .int 61), (5, .int 17), (4, .int 19), (3, .ref tQ), (0, .ref ua), (1, .int 1), (2, .ref h)] := hl
  refine lv_iload hx hb dR_reduce_27 (lv_at hl 0 rfl) ?_
  refine lv_aload_n hx hb dR_reduce_29 rfl (lv_at hl 7 rfl) ?_
  refine ro_i (va_Run.run (va_runV (As := []) (rest := [.int 0]) ⟨hx, hb, hml, hown, hT⟩ (k_mostBits48 l D cT h ww 1 wb wf) ⟨callB_of 0 hT (tb_gd w975) rfl rfl rfl (hT _ w5) (hT _ w972) hW_mostBits ⟨Nat.le_of_ble_eq_true rfl, Nat.le_of_ble_eq_true rfl⟩, (hT _ w973), (hT _ w974)⟩ (RO.preV (ci := 4) (q0 := 0) hZ hS (hP.sub (ws' := [(h, .inr (4, [.ref ww, .int 1, .int wb])), (ww, .inl (cT 0, 48, .inl wf))]) [0, 1] rfl) hK rfl rfl) rfl rfl hl.1 rfl (lv_room (Nat.le_of_ble_eq_true rfl)) dR_reduce_30 ⟨Nat.le_of_ble_eq_true rfl, Nat.le_of_ble_eq_true rfl⟩)) ?_
  refine lv_icmp_ge (tgt := 83) hx hb dR_reduce_33 rfl (fun hj53 => absurd hj53 (by decide)) (fun _ => ?_)
  refine lv_iload hx hb dR_reduce_36 (lv_at hl 1 rfl) ?_
  refine lv_aload_n hx hb dR_reduce_38 rfl (lv_at hl 5 rfl) ?_
  refine lv_iload_n hx hb dR_reduce_39 rfl (lv_at hl 6 rfl) ?_
  refine lv_aload_n hx hb dR_reduce_40 rfl (lv_at hl 7 rfl) ?_
  refine ro_i (va_Run.run (va_runS (As := [.int 61, .ref ua, .int 1, .ref h]) (rest := []) ⟨hx, hb, hml, hown, hT⟩ (k_dividesOne48_1 l D cT h ww wb wf 61 ua h0 (by decide) (by decide)) ⟨callB_of 4 hT (tb_gd w978) rfl rfl rfl (hT _ w1) (hT _ w976) hR_divides ⟨Nat.le_of_ble_eq_true rfl, Nat.le_of_ble_eq_true rfl⟩, (hT _ w977)⟩ (RO.preS hZ hS (hP.sub (ws' := [(h, .inr (4, [.ref ww, .int 1, .int wb])), (ww, .inl (cT 0, 48, .inl wf))]) [0, 1] rfl) hK) rfl rfl hl.1 rfl (lv_room (Nat.le_of_ble_eq_true rfl)) dR_reduce_41 ⟨Nat.le_of_ble_eq_true rfl, Nat.le_of_ble_eq_true rfl⟩)) ?_
  refine lv_if_eq (tgt := 83) hx hb dR_reduce_44 rfl (fun _ => ?_) (fun hj54 => absurd (by decide) hj54)
  refine lv_iinc (k := 2) (v := 18) hx hb dR_reduce_83 hl rfl (by decide) (by decide) rfl (fun ls hl => ?_)
  have hl : lv_has ls 9 [(5, .int 18), (7, .int 0), (6, .int 61), (4, .int 19), (3, .ref tQ), (0, .ref ua), (1, .int 1), (2, .ref h)] := hl
  refine lv_goto (tgt := 11) hx hb dR_reduce_86 rfl ?_
  refine lv_iload hx hb dR_reduce_11 (lv_at hl 0 rfl) ?_
  refine lv_iload hx hb dR_reduce_13 (lv_at hl 3 rfl) ?_
  refine lv_icmp_ge (tgt := 89) hx hb dR_reduce_15 rfl (fun hj55 => absurd hj55 (by decide)) (fun _ => ?_)
  refine lv_aload_n hx hb dR_reduce_18 rfl (lv_at hl 4 rfl) ?_
  refine lv_iload hx hb dR_reduce_19 (lv_at hl 0 rfl) ?_
  refine va_ti (v := .int 67) hx hb hQ2 hS (by unfold vp_in; decide) rfl dR_reduce_21 ?_
  refine lv_istore hx hb dR_reduce_22 hl (by decide) rfl (fun ls hl => ?_)
  have hl : lv_has ls 9 [(6, .int 67), (5, .int 18), (7, .int 0), (4, .int 19), (3, .ref tQ), (0, .ref ua), (1, .int 1), (2, .ref h)] := hl
  refine lv_iconst (v := 0) hx hb dR_reduce_24 (by decide) ?_
  refine lv_istore hx hb dR_reduce_25 hl (by decide) rfl (fun ls hl => ?_)
  have hl : lv_has ls 9 [(7, .int 0), (6, .int 67), (5, .int 18), (4, .int 19), (3, .ref tQ), (0, .ref ua), (1, .int 1), (2, .ref h)] := hl
  refine lv_iload hx hb dR_reduce_27 (lv_at hl 0 rfl) ?_
  refine lv_aload_n hx hb dR_reduce_29 rfl (lv_at hl 7 rfl) ?_
  refine ro_i (va_Run.run (va_runV (As := []) (rest := [.int 0]) ⟨hx, hb, hml, hown, hT⟩ (k_mostBits48 l D cT h ww 1 wb wf) ⟨callB_of 0 hT (tb_gd w975) rfl rfl rfl (hT _ w5) (hT _ w972) hW_mostBits ⟨Nat.le_of_ble_eq_true rfl, Nat.le_of_ble_eq_true rfl⟩, (hT _ w973), (hT _ w974)⟩ (RO.preV (ci := 4) (q0 := 0) hZ hS (hP.sub (ws' := [(h, .inr (4, [.ref ww, .int 1, .int wb])), (ww, .inl (cT 0, 48, .inl wf))]) [0, 1] rfl) hK rfl rfl) rfl rfl hl.1 rfl (lv_room (Nat.le_of_ble_eq_true rfl)) dR_reduce_30 ⟨Nat.le_of_ble_eq_true rfl, Nat.le_of_ble_eq_true rfl⟩)) ?_
  refine lv_icmp_ge (tgt := 83) hx hb dR_reduce_33 rfl (fun hj56 => absurd hj56 (by decide)) (fun _ => ?_)
  refine lv_iload hx hb dR_reduce_36 (lv_at hl 1 rfl) ?_
  refine lv_aload_n hx hb dR_reduce_38 rfl (lv_at hl 5 rfl) ?_
  refine lv_iload_n hx hb dR_reduce_39 rfl (lv_at hl 6 rfl) ?_
  refine lv_aload_n hx hb dR_reduce_40 rfl (lv_at hl 7 rfl) ?_
  refine ro_i (va_Run.run (va_runS (As := [.int 67, .ref ua, .int 1, .ref h]) (rest := []) ⟨hx, hb, hml, hown, hT⟩ (k_dividesOne48_1 l D cT h ww wb wf 67 ua h0 (by decide) (by decide)) ⟨callB_of 4 hT (tb_gd w978) rfl rfl rfl (hT _ w1) (hT _ w976) hR_divides ⟨Nat.le_of_ble_eq_true rfl, Nat.le_of_ble_eq_true rfl⟩, (hT _ w977)⟩ (RO.preS hZ hS (hP.sub (ws' := [(h, .inr (4, [.ref ww, .int 1, .int wb])), (ww, .inl (cT 0, 48, .inl wf))]) [0, 1] rfl) hK) rfl rfl hl.1 rfl (lv_room (Nat.le_of_ble_eq_true rfl)) dR_reduce_41 ⟨Nat.le_of_ble_eq_true rfl, Nat.le_of_ble_eq_true rfl⟩)) ?_
  refine lv_if_eq (tgt := 83) hx hb dR_reduce_44 rfl (fun _ => ?_) (fun hj57 => absurd (by decide) hj57)
  refine lv_iinc (k := 2) (v := 19) hx hb dR_reduce_83 hl rfl (by decide) (by decide) rfl (fun ls hl => ?_)
  have hl : lv_has ls 9 [(5, .int 19), (7, .int 0), (6, .int 67), (4, .int 19), (3, .ref tQ), (0, .ref ua), (1, .int 1), (2, .ref h)] := hl
  refine lv_goto (tgt := 11) hx hb dR_reduce_86 rfl ?_
  refine lv_iload hx hb dR_reduce_11 (lv_at hl 0 rfl) ?_
  refine lv_iload hx hb dR_reduce_13 (lv_at hl 3 rfl) ?_
  refine lv_icmp_ge (tgt := 89) hx hb dR_reduce_15 rfl (fun _ => ?_) (fun hj58 => absurd (by decide) hj58)
  exact W.vret hx hb hr (fun t ht hW => ⟨rfl, ht⟩) (fun q h => nomatch h) dR_reduce_89
