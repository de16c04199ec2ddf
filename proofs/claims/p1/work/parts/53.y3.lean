set_option maxHeartbeats 4000000 in
set_option maxRecDepth 100000 in
theorem y_countBits0 (l : Launch) (D : va_G) (cT : Nat → ClassId) : Met l yM_count WM_count ({ frames := 0, cells := 0, slots := 0, locals := 0 } : Room) (RO D vwCl [.long 0] [] (TY cT)) (QcRead 0) 0 0 (fun _ => False) := by
  refine Met.ofW (cc := cM_count) (maxL := 4) (ret := (some .int)) (by decide) rfl ?_
  intro p e s m args below meth c s₁ B hml hv
  obtain ⟨rfl, hZ, hP, hK⟩ := hv
  have hx := B.exec
  have hb := B.bytes
  have hr := B.returns
  have hts := atoms_spec (ws := WM_count) B.pre
  have hT : ∀ w ∈ TB, w.before _ s = true := fun w h => hts w (List.mem_cons_of_mem _ h)
  have hown : s.vm.findClass R_M = some m.cls := findClass_of_methodNamed B.named
  have hlocks := B.notSynchronized
  have hS : va_S (fun _ => False) s.heap s.heap [] := va_S.rf
  have hl := lv_entry ([.long 0]) (n := 4) (Nat.le_of_ble_eq_true rfl)
  rw [lg_entry_eq]
  generalize (lg_sl ([.long 0]) ++ List.replicate (4 - (lg_sl ([.long 0])).length) Slot.unset).toArray = ls at hl ⊢
  have hl : lv_has ls 4 [(0, .long 0)] := hl
  refine lv_iconst (v := 0) hx hb dM_count_0 (by decide) ?_
  refine lv_istore_n hx hb dM_count_1 rfl hl (by decide) rfl (fun ls hl => ?_)
  have hl : lv_has ls 4 [(2, .int 0), (0, .long 0)] := hl
  refine lv_iconst (v := 0) hx hb dM_count_2 (by decide) ?_
  refine lv_istore_n hx hb dM_count_3 rfl hl (by decide) rfl (fun ls hl => ?_)
  have hl : lv_has ls 4 [(3, .int 0), (2, .int 0), (0, .long 0)] := hl
  refine lv_iload_n hx hb dM_count_4 rfl (lv_at hl 0 rfl) ?_
  refine lv_bipush (v := 64) hx hb dM_count_5 (by decide) ?_
  refine lv_icmp_ge (tgt := 34) hx hb dM_count_7 rfl (fun hj1 => absurd hj1 (by decide)) (fun _ => ?_)
  refine lv_iload_n hx hb dM_count_10 rfl (lv_at hl 1 rfl) ?_
  refine lv_lload_n hx hb dM_count_11 rfl (lv_at hl 2 rfl) ?_
  refine lv_iload_n hx hb dM_count_12 rfl (lv_at hl 0 rfl) ?_
  refine lv_lshr (v := 0) hx hb dM_count_13 (by decide +kernel) ?_
  refine lv_lconst (v := 1) hx hb dM_count_14 (by decide) ?_
  refine lv_land hx hb dM_count_15 ?_
  refine lv_topl (fun y9 e9 => ?_)
  cases (show y9 = 0 from e9.trans (by decide))
  refine lv_lconst (v := 1) hx hb dM_count_16 (by decide) ?_
  refine W.lcmp hx hb dM_count_17 ?_
  refine lv_topi (fun y9 e9 => ?_)
  cases (show y9 = (-1) from e9.trans (by decide))
  refine lv_if_ne (tgt := 25) hx hb dM_count_18 rfl (fun _ => ?_) (fun hj2 => absurd hj2 (by decide))
  refine lv_iconst (v := 0) hx hb dM_count_25 (by decide) ?_
  refine lv_iadd hx hb dM_count_26 ?_
  refine lv_topi (fun y9 e9 => ?_)
  cases (show y9 = 0 from e9.trans (by decide))
  refine lv_istore_n hx hb dM_count_27 rfl hl (by decide) rfl (fun ls hl => ?_)
  have hl : lv_has ls 4 [(2, .int 0), (3, .int 0), (0, .long 0)] := hl
  refine lv_iinc (k := 1) (v := 1) hx hb dM_count_28 hl rfl (by decide) (by decide) rfl (fun ls hl => ?_)
  have hl : lv_has ls 4 [(3, .int 1), (2, .int 0), (0, .long 0)] := hl
  refine lv_goto (tgt := 4) hx hb dM_count_31 rfl ?_
  refine lv_iload_n hx hb dM_count_4 rfl (lv_at hl 0 rfl) ?_
  refine lv_bipush (v := 64) hx hb dM_count_5 (by decide) ?_
  refine lv_icmp_ge (tgt := 34) hx hb dM_count_7 rfl (fun hj3 => absurd hj3 (by decide)) (fun _ => ?_)
  refine lv_iload_n hx hb dM_count_10 rfl (lv_at hl 1 rfl) ?_
  refine lv_lload_n hx hb dM_count_11 rfl (lv_at hl 2 rfl) ?_
  refine lv_iload_n hx hb dM_count_12 rfl (lv_at hl 0 rfl) ?_
  refine lv_lshr (v := 0) hx hb dM_count_13 (by decide +kernel) ?_
  refine lv_lconst (v := 1) hx hb dM_count_14 (by decide) ?_
  refine lv_land hx hb dM_count_15 ?_
  refine lv_topl (fun y9 e9 => ?_)
  cases (show y9 = 0 from e9.trans (by decide))
  refine lv_lconst (v := 1) hx hb dM_count_16 (by decide) ?_
  refine W.lcmp hx hb dM_count_17 ?_
  refine lv_topi (fun y9 e9 => ?_)
  cases (show y9 = (-1) from e9.trans (by decide))
  refine lv_if_ne (tgt := 25) hx hb dM_count_18 rfl (fun _ => ?_) (fun hj4 => absurd hj4 (by decide))
  refine lv_iconst (v := 0) hx hb dM_count_25 (by decide) ?_
  refine lv_iadd hx hb dM_count_26 ?_
  refine lv_topi (fun y9 e9 => ?_)
  cases (show y9 = 0 from e9.trans (by decide))
  refine lv_istore_n hx hb dM_count_27 rfl hl (by decide) rfl (fun ls hl => ?_)
  have hl : lv_has ls 4 [(2, .int 0), (3, .int 1), (0, .long 0)] := hl
  refine lv_iinc (k := 1) (v := 2) hx hb dM_count_28 hl rfl (by decide) (by decide) rfl (fun ls hl => ?_)
  have hl : lv_has ls 4 [(3, .int 2), (2, .int 0), (0, .long 0)] := hl
  refine lv_goto (tgt := 4) hx hb dM_count_31 rfl ?_
  refine lv_iload_n hx hb dM_count_4 rfl (lv_at hl 0 rfl) ?_
  refine lv_bipush (v := 64) hx hb dM_count_5 (by decide) ?_
  refine lv_icmp_ge (tgt := 34) hx hb dM_count_7 rfl (fun hj5 => absurd hj5 (by decide)) (fun _ => ?_)
  refine lv_iload_n hx hb dM_count_10 rfl (lv_at hl 1 rfl) ?_
  refine lv_lload_n hx hb dM_count_11 rfl (lv_at hl 2 rfl) ?_
  refine lv_iload_n hx hb dM_count_12 rfl (lv_at hl 0 rfl) ?_
  refine lv_lshr (v := 0) hx hb dM_count_13 (by decide +kernel) ?_
  refine lv_lconst (v := 1) hx hb dM_count_14 (by decide) ?_
  refine lv_land hx hb dM_count_15 ?_
  refine lv_topl (fun y9 e9 => ?_)
  cases (show y9 = 0 from e9.trans (by decide))
  refine lv_lconst (v := 1) hx hb dM_count_16 (by decide) ?_
  refine W.lcmp hx hb dM_count_17 ?_
  refine lv_topi (fun y9 e9 => ?_)
  cases (show y9 = (-1) from e9.trans (by decide))
  refine lv_if_ne (tgt := 25) hx hb dM_count_18 rfl (fun _ => ?_) (fun hj6 => absurd hj6 (by decide))
  refine lv_iconst (v := 0) hx hb dM_count_25 (by decide) ?_
  refine lv_iadd hx hb dM_count_26 ?_
  refine lv_topi (fun y9 e9 => ?_)
  cases (show y9 = 0 from e9.trans (by decide))
  refine lv_istore_n hx hb dM_count_27 rfl hl (by decide) rfl (fun ls hl => ?_)
  have hl : lv_has ls 4 [(2, .int 0), (3, .int 2), (0, .long 0)] := hl
  refine lv_iinc (k := 1) (v := 3) hx hb dM_count_28 hl rfl (by decide) (by decide) rfl (fun ls hl => ?_)
  have hl : lv_has ls 4 [(3, .int 3), (2, .int 0), (0, .long 0)] := hl
  refine lv_goto (tgt := 4) hx hb dM_count_31 rfl ?_
  refine lv_iload_n hx hb dM_count_4 rfl (lv_at hl 0 rfl) ?_
  refine lv_bipush (v := 64) hx hb dM_count_5 (by decide) ?_
  refine lv_icmp_ge (tgt := 34) hx hb dM_count_7 rfl (fun hj7 => absurd hj7 (by decide)) (fun _ => ?_)
  refine lv_iload_n hx hb dM_count_10 rfl (lv_at hl 1 rfl) ?_
  refine lv_lload_n hx hb dM_count_11 rfl (lv_at hl 2 rfl) ?_
  refine lv_iload_n hx hb dM_count_12 rfl (lv_at hl 0 rfl) ?_
  refine lv_lshr (v := 0) hx hb dM_count_13 (by decide +kernel) ?_
  refine lv_lconst (v := 1) hx hb dM_count_14 (by decide) ?_
  refine lv_land hx hb dM_count_15 ?_
  refine lv_topl (fun y9 e9 => ?_)
  cases (show y9 = 0 from e9.trans (by decide))
  refine lv_lconst (v := 1) hx hb dM_count_16 (by decide) ?_
  refine W.lcmp hx hb dM_count_17 ?_
  refine lv_topi (fun y9 e9 => ?_)
  cases (show y9 = (-1) from e9.trans (by decide))
  refine lv_if_ne (tgt := 25) hx hb dM_count_18 rfl (fun _ => ?_) (fun hj8 => absurd hj8 (by decide))
  refine lv_iconst (v := 0) hx hb dM_count_25 (by decide) ?_
  refine lv_iadd hx hb dM_count_26 ?_
  refine lv_topi (fun y9 e9 => ?_)
  cases (show y9 = 0 from e9.trans (by decide))
  refine lv_istore_n hx hb dM_count_27 rfl hl (by decide) rfl (fun ls hl => ?_)
  have hl : lv_has ls 4 [(2, .int 0), (3, .int 3), (0, .long 0)] := hl
  refine lv_iinc (k := 1) (v := 4) hx hb dM_count_28 hl rfl (by decide) (by decide) rfl (fun ls hl => ?_)
  have hl : lv_has ls 4 [(3, .int 4), (2, .int 0), (0, .long 0)] := hl
  refine lv_goto (tgt := 4) hx hb dM_count_31 rfl ?_
  refine lv_iload_n hx hb dM_count_4 rfl (lv_at hl 0 rfl) ?_
  refine lv_bipush (v := 64) hx hb dM_count_5 (by decide) ?_
  refine lv_icmp_ge (tgt := 34) hx hb dM_count_7 rfl (fun hj9 => absurd hj9 (by decide)) (fun _ => ?_)
  refine lv_iload_n hx hb dM_count_10 rfl (lv_at hl 1 rfl) ?_
  refine lv_lload_n hx hb dM_count_11 rfl (lv_at hl 2 rfl) ?_
  refine lv_iload_n hx hb dM_count_12 rfl (lv_at hl 0 rfl) ?_
  refine lv_lshr (v := 0) hx hb dM_count_13 (by decide +kernel) ?_
  refine lv_lconst (v := 1) hx hb dM_count_14 (by decide) ?_
  refine lv_land hx hb dM_count_15 ?_
  refine lv_topl (fun y9 e9 => ?_)
  cases (show y9 = 0 from e9.trans (by decide))
  refine lv_lconst (v := 1) hx hb dM_count_16 (by decide) ?_
  refine W.lcmp hx hb dM_count_17 ?_
  refine lv_topi (fun y9 e9 => ?_)
  cases (show y9 = (-1) from e9.trans (by decide))
  refine lv_if_ne (tgt := 25) hx hb dM_count_18 rfl (fun _ => ?_) (fun hj10 => absurd hj10 (by decide))
  refine lv_iconst (v := 0) hx hb dM_count_25 (by decide) ?_
  refine lv_iadd hx hb dM_count_26 ?_
  refine lv_topi (fun y9 e9 => ?_)
  cases (show y9 = 0 from e9.trans (by decide))
  refine lv_istore_n hx hb dM_count_27 rfl hl (by decide) rfl (fun ls hl => ?_)
  have hl : lv_has ls 4 [(2, .int 0), (3, .int 4), (0, .long 0)] := hl
  refine lv_iinc (k := 1) (v := 5) hx hb dM_count_28 hl rfl (by decide) (by decide) rfl (fun ls hl => ?_)
  have hl : lv_has ls 4 [(3, .int 5), (2, .int 0), (0, .long 0)] := hl
  refine lv_goto (tgt := 4) hx hb dM_count_31 rfl ?_
  refine lv_iload_n hx hb dM_count_4 rfl (lv_at hl 0 rfl) ?_
  refine lv_bipush (v := 64) hx hb dM_count_5 (by decide) ?_
  refine lv_icmp_ge (tgt := 34) hx hb dM_count_7 rfl (fun hj11 => absurd hj11 (by decide)) (fun _ => ?_)
  refine lv_iload_n hx hb dM_count_10 rfl (lv_at hl 1 rfl) ?_
  refine lv_lload_n hx hb dM_count_11 rfl (lv_at hl 2 rfl) ?_
  refine lv_iload_n hx hb dM_count_12 rfl (lv_at hl 0 rfl) ?_
  refine lv_lshr (v := 0) hx hb dM_count_13 (by decide +kernel) ?_
  refine lv_lconst (v := 1) hx hb dM_count_14 (by decide) ?_
  refine lv_land hx hb dM_count_15 ?_
  refine lv_topl (fun y9 e9 => ?_)
  cases (show y9 = 0 from e9.trans (by decide))
  refine lv_lconst (v := 1) hx hb dM_count_16 (by decide) ?_
  refine W.lcmp hx hb dM_count_17 ?_
  refine lv_topi (fun y9 e9 => ?_)
  cases (show y9 = (-1) from e9.trans (by decide))
  refine lv_if_ne (tgt := 25) hx hb dM_count_18 rfl (fun _ => ?_) (fun hj12 => absurd hj12 (by decide))
  refine lv_iconst (v := 0) hx hb dM_count_25 (by decide) ?_
  refine lv_iadd hx hb dM_count_26 ?_
  refine lv_topi (fun y9 e9 => ?_)
  cases (show y9 = 0 from e9.trans (by decide))
  refine lv_istore_n hx hb dM_count_27 rfl hl (by decide) rfl (fun ls hl => ?_)
  have hl : lv_has ls 4 [(2, .int 0), (3, .int 5), (0, .long 0)] := hl
  refine lv_iinc (k := 1) (v := 6) hx hb dM_count_28 hl rfl (by decide) (by decide) rfl (fun ls hl => ?_)
  have hl : lv_has ls 4 [(3, .int 6), (2, .int 0), (0, .long 0)] := hl
  refine lv_goto (tgt := 4) hx hb dM_count_31 rfl ?_
  refine lv_iload_n hx hb dM_count_4 rfl (lv_at hl 0 rfl) ?_
  refine lv_bipush (v := 64) hx hb dM_count_5 (by decide) ?_
  refine lv_icmp_ge (tgt := 34) hx hb dM_count_7 rfl (fun hj13 => absurd hj13 (by decide)) (fun _ => ?_)
  refine lv_iload_n hx hb dM_count_10 rfl (lv_at hl 1 rfl) ?_
  refine lv_lload_n hx hb dM_count_11 rfl (lv_at hl 2 rfl) ?_
  refine lv_iload_n hx hb dM_count_12 rfl (lv_at hl 0 rfl) ?_
  refine lv_lshr (v := 0) hx hb dM_count_13 (by decide +kernel) ?_
  refine lv_lconst (v := 1) hx hb dM_count_14 (by decide) ?_
  refine lv_land hx hb dM_count_15 ?_
  refine lv_topl (fun y9 e9 => ?_)
  cases (show y9 = 0 from e9.trans (by decide))
  refine lv_lconst (v := 1) hx hb dM_count_16 (by decide) ?_
  refine W.lcmp hx hb dM_count_17 ?_
  refine lv_topi (fun y9 e9 => ?_)
  cases (show y9 = (-1) from e9.trans (by decide))
  refine lv_if_ne (tgt := 25) hx hb dM_count_18 rfl (fun _ => ?_) (fun hj14 => absurd hj14 (by decide))
  refine lv_iconst (v := 0) hx hb dM_count_25 (by decide) ?_
  refine lv_iadd hx hb dM_count_26 ?_
  refine lv_topi (fun y9 e9 => ?_)
  cases (show y9 = 0 from e9.trans (by decide))
  refine lv_istore_n hx hb dM_count_27 rfl hl (by decide) rfl (fun ls hl => ?_)
  have hl : lv_has ls 4 [(2, .int 0), (3, .int 6), (0, .long 0)] := hl
  refine lv_iinc (k := 1) (v := 7) hx hb dM_count_28 hl rfl (by decide) (by decide) rfl (fun ls hl => ?_)
  have hl : lv_has ls 4 [(3, .int 7), (2, .int 0), (0, .long 0)] := hl
  refine lv_goto (tgt := 4) hx hb dM_count_31 rfl ?_
  refine lv_iload_n hx hb dM_count_4 rfl (lv_at hl 0 rfl) ?_
  refine lv_bipush (v := 64) hx hb dM_count_5 (by decide) ?_
  refine lv_icmp_ge (tgt := 34) hx hb dM_count_7 rfl (fun hj15 => absurd hj15 (by decide)) (fun _ => ?_)
  refine lv_iload_n hx hb dM_count_10 rfl (lv_at hl 1 rfl) ?_
  refine lv_lload_n hx hb dM_count_11 rfl (lv_at hl 2 rfl) ?_
  refine lv_iload_n hx hb dM_count_12 rfl (lv_at hl 0 rfl) ?_
  refine lv_lshr (v := 0) hx hb dM_count_13 (by decide +kernel) ?_
  refine lv_lconst (v := 1) hx hb dM_count_14 (by decide) ?_
  refine lv_land hx hb dM_count_15 ?_
  refine lv_topl (fun y9 e9 => ?_)
  cases (show y9 = 0 from e9.trans (by decide))
  refine lv_lconst (v := 1) hx hb dM_count_16 (by decide) ?_
  refine W.lcmp hx hb dM_count_17 ?_
  refine lv_topi (fun y9 e9 => ?_)
  cases (show y9 = (-1) from e9.trans (by decide))
  refine lv_if_ne (tgt := 25) hx hb dM_count_18 rfl (fun _ => ?_) (fun hj16 => absurd hj16 (by decide))
  refine lv_iconst (v := 0) hx hb dM_count_25 (by decide) ?_
  refine lv_iadd hx hb dM_count_26 ?_
  refine lv_topi (fun y9 e9 => ?_)
  cases (show y9 = 0 from e9.trans (by decide))
  refine lv_istore_n hx hb dM_count_27 rfl hl (by decide) rfl (fun ls hl => ?_)
  have hl : lv_has ls 4 [(2, .int 0), (3, .int 7), (0, .long 0)] := hl
  refine lv_iinc (k := 1) (v := 8) hx hb dM_count_28 hl rfl (by decide) (by decide) rfl (fun ls hl => ?_)
  have hl : lv_has ls 4 [(3, .int 8), (2, .int 0), (0, .long 0)] := hl
  refine lv_goto (tgt := 4) hx hb dM_count_31 rfl ?_
  refine lv_iload_n hx hb dM_count_4 rfl (lv_at hl 0 rfl) ?_
  refine lv_bipush (v := 64) hx hb dM_count_5 (by decide) ?_
  refine lv_icmp_ge (tgt := 34) hx hb dM_count_7 rfl (fun hj17 => absurd hj17 (by decide)) (fun _ => ?_)
  refine lv_iload_n hx hb dM_count_10 rfl (lv_at hl 1 rfl) ?_
  refine lv_lload_n hx hb dM_count_11 rfl (lv_at hl 2 rfl) ?_
  refine lv_iload_n hx hb dM_count_12 rfl (lv_at hl 0 rfl) ?_
  refine lv_lshr (v := 0) hx hb dM_count_13 (by decide +kernel) ?_
  refine lv_lconst (v := 1) hx hb dM_count_14 (by decide) ?_
  refine lv_land hx hb dM_count_15 ?_
  refine lv_topl (fun y9 e9 => ?_)
  cases (show y9 = 0 from e9.trans (by decide))
  refine lv_lconst (v := 1) hx hb dM_count_16 (by decide) ?_
  refine W.lcmp hx hb dM_count_17 ?_
  refine lv_topi (fun y9 e9 => ?_)
  cases (show y9 = (-1) from e9.trans (by decide))
  refine lv_if_ne (tgt := 25) hx hb dM_count_18 rfl (fun _ => ?_) (fun hj18 => absurd hj18 (by decide))
  refine lv_iconst (v := 0) hx hb dM_count_25 (by decide) ?_
  refine lv_iadd hx hb dM_count_26 ?_
  refine lv_topi (fun y9 e9 => ?_)
  cases (show y9 = 0 from e9.trans (by decide))
  refine lv_istore_n hx hb dM_count_27 rfl hl (by decide) rfl (fun ls hl => ?_)
  have hl : lv_has ls 4 [(2, .int 0), (3, .int 8), (0, .long 0)] := hl
  refine lv_iinc (k := 1) (v := 9) hx hb dM_count_28 hl rfl (by decide) (by decide) rfl (fun ls hl => ?_)
  have hl : lv_has ls 4 [(3, .int 9), (2, .int 0), (0, .long 0)] := hl
  refine lv_goto (tgt := 4) hx hb dM_count_31 rfl ?_
  refine lv_iload_n hx hb dM_count_4 rfl (lv_at hl 0 rfl) ?_
  refine lv_bipush (v := 64) hx hb dM_count_5 (by decide) ?_
  refine lv_icmp_ge (tgt := 34) hx hb dM_count_7 rfl (fun hj19 => absurd hj19 (by decide)) (fun _ => ?_)
  refine lv_iload_n hx hb dM_count_10 rfl (lv_at hl 1 rfl) ?_
  refine lv_lload_n hx hb dM_count_11 rfl (lv_at hl 2 rfl) ?_
  refine lv_iload_n hx hb dM_count_12 rfl (lv_at hl 0 rfl) ?_
  refine lv_lshr (v := 0) hx hb dM_count_13 (by decide +kernel) ?_
  refine lv_lconst (v := 1) hx hb dM_count_14 (by decide) ?_
  refine lv_land hx hb dM_count_15 ?_
  refine lv_topl (fun y9 e9 => ?_)
  cases (show y9 = 0 from e9.trans (by decide))
  refine lv_lconst (v := 1) hx hb dM_count_16 (by decide) ?_
  refine W.lcmp hx hb dM_count_17 ?_
  refine lv_topi (fun y9 e9 => ?_)
  cases (show y9 = (-1) from e9.trans (by decide))
  refine lv_if_ne (tgt := 25) hx hb dM_count_18 rfl (fun _ => ?_) (fun hj20 => absurd hj20 (by decide))
  refine lv_iconst (v := 0) hx hb dM_count_25 (by decide) ?_
  refine lv_iadd hx hb dM_count_26 ?_
  refine lv_topi (fun y9 e9 => ?_)
  cases (show y9 = 0 from e9.trans (by decide))
  refine lv_istore_n hx hb dM_count_27 rfl hl (by decide) rfl (fun ls hl => ?_)
  have hl : lv_has ls 4 [(2, .int 0), (3, .int 9), (0, .long 0)] := hl
  refine lv_iinc (k := 1) (v := 10) hx hb dM_count_28 hl rfl (by decide) (by decide) rfl (fun ls hl => ?_)
  have hl : lv_has ls 4 [(3, .int 10), (2, .int 0), (0, .long 0)] := hl
  refine lv_goto (tgt := 4) hx hb dM_count_31 rfl ?_
  refine lv_iload_n hx hb dM_count_4 rfl (lv_at hl 0 rfl) ?_
  refine lv_bipush (v := 64) hx hb dM_count_5 (by decide) ?_
  refine lv_icmp_ge (tgt := 34) hx hb dM_count_7 rfl (fun hj21 => absurd hj21 (by decide)) (fun _ => ?_)
  refine lv_iload_n hx hb dM_count_10 rfl (lv_at hl 1 rfl) ?_
  refine lv_lload_n hx hb dM_count_11 rfl (lv_at hl 2 rfl) ?_
  refine lv_iload_n hx hb dM_count_12 rfl (lv_at hl 0 rfl) ?_
  refine lv_lshr (v := 0) hx hb dM_count_13 (by decide +kernel) ?_
  refine lv_lconst (v := 1) hx hb dM_count_14 (by decide) ?_
  refine lv_land hx hb dM_count_15 ?_
  refine lv_topl (fun y9 e9 => ?_)
  cases (show y9 = 0 from e9.trans (by decide))
  refine lv_lconst (v := 1) hx hb dM_count_16 (by decide) ?_
  refine W.lcmp hx hb dM_count_17 ?_
  refine lv_topi (fun y9 e9 => ?_)
  cases (show y9 = (-1) from e9.trans (by decide))
  refine lv_if_ne (tgt := 25) hx hb dM_count_18 rfl (fun _ => ?_) (fun hj22 => absurd hj22 (by decide))
  refine lv_iconst (v := 0) hx hb dM_count_25 (by decide) ?_
  refine lv_iadd hx hb dM_count_26 ?_
  refine lv_topi (fun y9 e9 => ?_)
  cases (show y9 = 0 from e9.trans (by decide))
  refine lv_istore_n hx hb dM_count_27 rfl hl (by decide) rfl (fun ls hl => ?_)
  have hl : lv_has ls 4 [(2, .int 0), (3, .int 10), (0, .long 0)] := hl
  refine lv_iinc (k := 1) (v := 11) hx hb dM_count_28 hl rfl (by decide) (by decide) rfl (fun ls hl => ?_)
  have hl : lv_has ls 4 [(3, .int 11), (2, .int 0), (0, .long 0)] := hl
  refine lv_goto (tgt := 4) hx hb dM_count_31 rfl ?_
  refine lv_iload_n hx hb dM_count_4 rfl (lv_at hl 0 rfl) ?_
  refine lv_bipush (v := 64) hx hb dM_count_5 (by decide) ?_
  refine lv_icmp_ge (tgt := 34) hx hb dM_count_7 rfl (fun hj23 => absurd hj23 (by decide)) (fun _ => ?_)
  refine lv_iload_n hx hb dM_count_10 rfl (lv_at hl 1 rfl) ?_
  refine lv_lload_n hx hb dM_count_11 rfl (lv_at hl 2 rfl) ?_
  refine lv_iload_n hx hb dM_count_12 rfl (lv_at hl 0 rfl) ?_
  refine lv_lshr (v := 0) hx hb dM_count_13 (by decide +kernel) ?_
  refine lv_lconst (v := 1) hx hb dM_count_14 (by decide) ?_
  refine lv_land hx hb dM_count_15 ?_
  refine lv_topl (fun y9 e9 => ?_)
  cases (show y9 = 0 from e9.trans (by decide))
  refine lv_lconst (v := 1) hx hb dM_count_16 (by decide) ?_
  refine W.lcmp hx hb dM_count_17 ?_
  refine lv_topi (fun y9 e9 => ?_)
  cases (show y9 = (-1) from e9.trans (by decide))
  refine lv_if_ne (tgt := 25) hx hb dM_count_18 rfl (fun _ => ?_) (fun hj24 => absurd hj24 (by decide))
  refine lv_iconst (v := 0) hx hb dM_count_25 (by decide) ?_
  refine lv_iadd hx hb dM_count_26 ?_
  refine lv_topi (fun y9 e9 => ?_)
  cases (show y9 = 0 from e9.trans (by decide))
  refine lv_istore_n hx hb dM_count_27 rfl hl (by decide) rfl (fun ls hl => ?_)
  have hl : lv_has ls 4 [(2, .int 0), (3, .int 11), (0, .long 0)] := hl
  refine lv_iinc (k := 1) (v := 12) hx hb dM_count_28 hl rfl (by decide) (by decide) rfl (fun ls hl => ?_)
  have hl : lv_has ls 4 [(3, .int 12), (2, .int 0), (0, .long 0)] := hl
  refine lv_goto (tgt := 4) hx hb dM_count_31 rfl ?_
  refine lv_iload_n hx hb dM_count_4 rfl (lv_at hl 0 rfl) ?_
  refine lv_bipush (v := 64) hx hb dM_count_5 (by decide) ?_
  refine lv_icmp_ge (tgt := 34) hx hb dM_count_7 rfl (fun hj25 => absurd hj25 (by decide)) (fun _ => ?_)
  refine lv_iload_n hx hb dM_count_10 rfl (lv_at hl 1 rfl) ?_
  refine lv_lload_n hx hb dM_count_11 rfl (lv_at hl 2 rfl) ?_
  refine lv_iload_n hx hb dM_count_12 rfl (lv_at hl 0 rfl) ?_
  refine lv_lshr (v := 0) hx hb dM_count_13 (by decide +kernel) ?_
  refine lv_lconst (v := 1) hx hb dM_count_14 (by decide) ?_
  refine lv_land hx hb dM_count_15 ?_
  refine lv_topl (fun y9 e9 => ?_)
  cases (show y9 = 0 from e9.trans (by decide))
  refine lv_lconst (v := 1) hx hb dM_count_16 (by decide) ?_
  refine W.lcmp hx hb dM_count_17 ?_
  refine lv_topi (fun y9 e9 => ?_)
  cases (show y9 = (-1) from e9.trans (by decide))
  refine lv_if_ne (tgt := 25) hx hb dM_count_18 rfl (fun _ => ?_) (fun hj26 => absurd hj26 (by decide))
  refine lv_iconst (v := 0) hx hb dM_count_25 (by decide) ?_
  refine lv_iadd hx hb dM_count_26 ?_
  refine lv_topi (fun y9 e9 => ?_)
  cases (show y9 = 0 from e9.trans (by decide))
  refine lv_istore_n hx hb dM_count_27 rfl hl (by decide) rfl (fun ls hl => ?_)
  have hl : lv_has ls 4 [(2, .int 0), (3, .int 12), (0, .long 0)] := hl
  refine lv_iinc (k := 1) (v := 13) hx hb dM_count_28 hl rfl (by decide) (by decide) rfl (fun ls hl => ?_)
  have hl : lv_has ls 4 [(3, .int 13), (2, .int 0), (0, .long 0)] := hl
  refine lv_goto (tgt := 4) hx hb dM_count_31 rfl ?_
  refine lv_iload_n hx hb dM_count_4 rfl (lv_at hl 0 rfl) ?_
  refine lv_bipush (v := 64) hx hb dM_count_5 (by decide) ?_
  refine lv_icmp_ge (tgt := 34) hx hb dM_count_7 rfl (fun hj27 => absurd hj27 (by decide)) (fun _ => ?_)
  refine lv_iload_n hx hb dM_count_10 rfl (lv_at hl 1 rfl) ?_
  refine lv_lload_n hx hb dM_count_11 rfl (lv_at hl 2 rfl) ?_
  refine lv_iload_n hx hb dM_count_12 rfl (lv_at hl 0 rfl) ?_
  refine lv_lshr (v := 0) hx hb dM_count_13 (by decide +kernel) ?_
  refine lv_lconst (v := 1) hx hb dM_count_14 (by decide) ?_
  refine lv_land hx hb dM_count_15 ?_
  refine lv_topl (fun y9 e9 => ?_)
  cases (show y9 = 0 from e9.trans (by decide))
  refine lv_lconst (v := 1) hx hb dM_count_16 (by decide) ?_
  refine W.lcmp hx hb dM_count_17 ?_
  refine lv_topi (fun y9 e9 => ?_)
  cases (show y9 = (-1) from e9.trans (by decide))
  refine lv_if_ne (tgt := 25) hx hb dM_count_18 rfl (fun _ => ?_) (fun hj28 => absurd hj28 (by decide))
  refine lv_iconst (v := 0) hx hb dM_count_25 (by decide) ?_
  refine lv_iadd hx hb dM_count_26 ?_
  refine lv_topi (fun y9 e9 => ?_)
  cases (show y9 = 0 from e9.trans (by decide))
  refine lv_istore_n hx hb dM_count_27 rfl hl (by decide) rfl (fun ls hl => ?_)
  have hl : lv_has ls 4 [(2, .int 0), (3, .int 13), (0, .long 0)] := hl
  refine lv_iinc (k := 1) (v := 14) hx hb dM_count_28 hl rfl (by decide) (by decide) rfl (fun ls hl => ?_)
  have hl : lv_has ls 4 [(3, .int 14), (2, .int 0), (0, .long 0)] := hl
  refine lv_goto (tgt := 4) hx hb dM_count_31 rfl ?_
  refine lv_iload_n hx hb dM_count_4 rfl (lv_at hl 0 rfl) ?_
  refine lv_bipush (v := 64) hx hb dM_count_5 (by decide) ?_
  refine lv_icmp_ge (tgt := 34) hx hb dM_count_7 rfl (fun hj29 => absurd hj29 (by decide)) (fun _ => ?_)
  refine lv_iload_n hx hb dM_count_10 rfl (lv_at hl 1 rfl) ?_
  refine lv_lload_n hx hb dM_count_11 rfl (lv_at hl 2 rfl) ?_
  refine lv_iload_n hx hb dM_count_12 rfl (lv_at hl 0 rfl) ?_
  refine lv_lshr (v := 0) hx hb dM_count_13 (by decide +kernel) ?_
  refine lv_lconst (v := 1) hx hb dM_count_14 (by decide) ?_
  refine lv_land hx hb dM_count_15 ?_
  refine lv_topl (fun y9 e9 => ?_)
  cases (show y9 = 0 from e9.trans (by decide))
  refine lv_lconst (v := 1) hx hb dM_count_16 (by decide) ?_
  refine W.lcmp hx hb dM_count_17 ?_
  refine lv_topi (fun y9 e9 => ?_)
  cases (show y9 = (-1) from e9.trans (by decide))
  refine lv_if_ne (tgt := 25) hx hb dM_count_18 rfl (fun _ => ?_) (fun hj30 => absurd hj30 (by decide))
  refine lv_iconst (v := 0) hx hb dM_count_25 (by decide) ?_
  refine lv_iadd hx hb dM_count_26 ?_
  refine lv_topi (fun y9 e9 => ?_)
  cases (show y9 = 0 from e9.trans (by decide))
  refine lv_istore_n hx hb dM_count_27 rfl hl (by decide) rfl (fun ls hl => ?_)
  have hl : lv_has ls 4 [(2, .int 0), (3, .int 14), (0, .long 0)] := hl
  refine lv_iinc (k := 1) (v := 15) hx hb dM_count_28 hl rfl (by decide) (by decide) rfl (fun ls hl => ?_)
  have hl : lv_has ls 4 [(3, .int 15), (2, .int 0), (0, .long 0)] := hl
  refine lv_goto (tgt := 4) hx hb dM_count_31 rfl ?_
  refine lv_iload_n hx hb dM_count_4 rfl (lv_at hl 0 rfl) ?_
  refine lv_bipush (v := 64) hx hb dM_count_5 (by decide) ?_
  refine lv_icmp_ge (tgt := 34) hx hb dM_count_7 rfl (fun hj31 => absurd hj31 (by decide)) (fun _ => ?_)
  refine lv_iload_n hx hb dM_count_10 rfl (lv_at hl 1 rfl) ?_
  refine lv_lload_n hx hb dM_count_11 rfl (lv_at hl 2 rfl) ?_
  refine lv_iload_n hx hb dM_count_12 rfl (lv_at hl 0 rfl) ?_
  refine lv_lshr (v := 0) hx hb dM_count_13 (by decide +kernel) ?_
  refine lv_lconst (v := 1) hx hb dM_count_14 (by decide) ?_
  refine lv_land hx hb dM_count_15 ?_
  refine lv_topl (fun y9 e9 => ?_)
  cases (show y9 = 0 from e9.trans (by decide))
  refine lv_lconst (v := 1) hx hb dM_count_16 (by decide) ?_
  refine W.lcmp hx hb dM_count_17 ?_
  refine lv_topi (fun y9 e9 => ?_)
  cases (show y9 = (-1) from e9.trans (by decide))
  refine lv_if_ne (tgt := 25) hx hb dM_count_18 rfl (fun _ => ?_) (fun hj32 => absurd hj32 (by decide))
  refine lv_iconst (v := 0) hx hb dM_count_25 (by decide) ?_
  refine lv_iadd hx hb dM_count_26 ?_
  refine lv_topi (fun y9 e9 => ?_)
  cases (show y9 = 0 from e9.trans (by decide))
  refine lv_istore_n hx hb dM_count_27 rfl hl (by decide) rfl (fun ls hl => ?_)
  have hl : lv_has ls 4 [(2, .int 0), (3, .int 15), (0, .long 0)] := hl
  refine lv_iinc (k := 1) (v := 16) hx hb dM_count_28 hl rfl (by decide) (by decide) rfl (fun ls hl => ?_)
  have hl : lv_has ls 4 [(3, .int 16), (2, .int 0), (0, .long 0)] := hl
  refine lv_goto (tgt := 4) hx hb dM_count_31 rfl ?_
  refine lv_iload_n hx hb dM_count_4 rfl (lv_at hl 0 rfl) ?_
  refine lv_bipush (v := 64) hx hb dM_count_5 (by decide) ?_
  refine lv_icmp_ge (tgt := 34) hx hb dM_count_7 rfl (fun hj33 => absurd hj33 (by decide)) (fun _ => ?_)
  refine lv_iload_n hx hb dM_count_10 rfl (lv_at hl 1 rfl) ?_
  refine lv_lload_n hx hb dM_count_11 rfl (lv_at hl 2 rfl) ?_
  refine lv_iload_n hx hb dM_count_12 rfl (lv_at hl 0 rfl) ?_
  refine lv_lshr (v := 0) hx hb dM_count_13 (by decide +kernel) ?_
  refine lv_lconst (v := 1) hx hb dM_count_14 (by decide) ?_
  refine lv_land hx hb dM_count_15 ?_
  refine lv_topl (fun y9 e9 => ?_)
  cases (show y9 = 0 from e9.trans (by decide))
  refine lv_lconst (v := 1) hx hb dM_count_16 (by decide) ?_
  refine W.lcmp hx hb dM_count_17 ?_
  refine lv_topi (fun y9 e9 => ?_)
  cases (show y9 = (-1) from e9.trans (by decide))
  refine lv_if_ne (tgt := 25) hx hb dM_count_18 rfl (fun _ => ?_) (fun hj34 => absurd hj34 (by decide))
  refine lv_iconst (v := 0) hx hb dM_count_25 (by decide) ?_
  refine lv_iadd hx hb dM_count_26 ?_
  refine lv_topi (fun y9 e9 => ?_)
  cases (show y9 = 0 from e9.trans (by decide))
  refine lv_istore_n hx hb dM_count_27 rfl hl (by decide) rfl (fun ls hl => ?_)
  have hl : lv_has ls 4 [(2, .int 0), (3, .int 16), (0, .long 0)] := hl
  refine lv_iinc (k := 1) (v := 17) hx hb dM_count_28 hl rfl (by decide) (by decide) rfl (fun ls hl => ?_)
  have hl : lv_has ls 4 [(3, .int 17), (2, .int 0), (0, .long 0)] := hl
  refine lv_goto (tgt := 4) hx hb dM_count_31 rfl ?_
  refine lv_iload_n hx hb dM_count_4 rfl (lv_at hl 0 rfl) ?_
  refine lv_bipush (v := 64) hx hb dM_count_5 (by decide) ?_
  refine lv_icmp_ge (tgt := 34) hx hb dM_count_7 rfl (fun hj35 => absurd hj35 (by decide)) (fun _ => ?_)
  refine lv_iload_n hx hb dM_count_10 rfl (lv_at hl 1 rfl) ?_
  refine lv_lload_n hx hb dM_count_11 rfl (lv_at hl 2 rfl) ?_
  refine lv_iload_n hx hb dM_count_12 rfl (lv_at hl 0 rfl) ?_
  refine lv_lshr (v := 0) hx hb dM_count_13 (by decide +kernel) ?_
  refine lv_lconst (v := 1) hx hb dM_count_14 (by decide) ?_
  refine lv_land hx hb dM_count_15 ?_
  refine lv_topl (fun y9 e9 => ?_)
  cases (show y9 = 0 from e9.trans (by decide))
  refine lv_lconst (v := 1) hx hb dM_count_16 (by decide) ?_
  refine W.lcmp hx hb dM_count_17 ?_
  refine lv_topi (fun y9 e9 => ?_)
  cases (show y9 = (-1) from e9.trans (by decide))
  refine lv_if_ne (tgt := 25) hx hb dM_count_18 rfl (fun _ => ?_) (fun hj36 => absurd hj36 (by decide))
  refine lv_iconst (v := 0) hx hb dM_count_25 (by decide) ?_
  refine lv_iadd hx hb dM_count_26 ?_
  refine lv_topi (fun y9 e9 => ?_)
  cases (show y9 = 0 from e9.trans (by decide))
  refine lv_istore_n hx hb dM_count_27 rfl hl (by decide) rfl (fun ls hl => ?_)
  have hl : lv_has ls 4 [(2, .int 0), (3, .int 17), (0, .long 0)] := hl
  refine lv_iinc (k := 1) (v := 18) hx hb dM_count_28 hl rfl (by decide) (by decide) rfl (fun ls hl => ?_)
  have hl : lv_has ls 4 [(3, .int 18), (2, .int 0), (0, .long 0)] := hl
  refine lv_goto (tgt := 4) hx hb dM_count_31 rfl ?_
  refine lv_iload_n hx hb dM_count_4 rfl (lv_at hl 0 rfl) ?_
  refine lv_bipush (v := 64) hx hb dM_count_5 (by decide) ?_
  refine lv_icmp_ge (tgt := 34) hx hb dM_count_7 rfl (fun hj37 => absurd hj37 (by decide)) (fun _ => ?_)
  refine lv_iload_n hx hb dM_count_10 rfl (lv_at hl 1 rfl) ?_
  refine lv_lload_n hx hb dM_count_11 rfl (lv_at hl 2 rfl) ?_
  refine lv_iload_n hx hb dM_count_12 rfl (lv_at hl 0 rfl) ?_
  refine lv_lshr (v := 0) hx hb dM_count_13 (by decide +kernel) ?_
  refine lv_lconst (v := 1) hx hb dM_count_14 (by decide) ?_
  refine lv_land hx hb dM_count_15 ?_
  refine lv_topl (fun y9 e9 => ?_)
  cases (show y9 = 0 from e9.trans (by decide))
  refine lv_lconst (v := 1) hx hb dM_count_16 (by decide) ?_
  refine W.lcmp hx hb dM_count_17 ?_
  refine lv_topi (fun y9 e9 => ?_)
  cases (show y9 = (-1) from e9.trans (by decide))
  refine lv_if_ne (tgt := 25) hx hb dM_count_18 rfl (fun _ => ?_) (fun hj38 => absurd hj38 (by decide))
  refine lv_iconst (v := 0) hx hb dM_count_25 (by decide) ?_
  refine lv_iadd hx hb dM_count_26 ?_
  refine lv_topi (fun y9 e9 => ?_)
  cases (show y9 = 0 from e9.trans (by decide))
  refine lv_istore_n hx hb dM_count_27 rfl hl (by decide) rfl (fun ls hl => ?_)
  have hl : lv_has ls 4 [(2, .int 0), (3, .int 18), (0, .long 0)] := hl
  refine lv_iinc (k := 1) (v := 19) hx hb dM_count_28 hl rfl (by decide) (by decide) rfl (fun ls hl => ?_)
  have hl : lv_has ls 4 [(3, .int 19), (2, .int 0), (0, .long 0)] := hl
  refine lv_goto (tgt := 4) hx hb dM_count_31 rfl ?_
  refine lv_iload_n hx hb dM_count_4 rfl (lv_at hl 0 rfl) ?_
  refine lv_bipush (v := 64) hx hb dM_count_5 (by decide) ?_
  refine lv_icmp_ge (tgt := 34) hx hb dM_count_7 rfl (fun hj39 => absurd hj39 (by decide)) (fun _ => ?_)
  refine lv_iload_n hx hb dM_count_10 rfl (lv_at hl 1 rfl) ?_
  refine lv_lload_n hx hb dM_count_11 rfl (lv_at hl 2 rfl) ?_
  refine lv_iload_n hx hb dM_count_12 rfl (lv_at hl 0 rfl) ?_
  refine lv_lshr (v := 0) hx hb dM_count_13 (by decide +kernel) ?_
  refine lv_lconst (v := 1) hx hb dM_count_14 (by decide) ?_
  refine lv_land hx hb dM_count_15 ?_
  refine lv_topl (fun y9 e9 => ?_)
  cases (show y9 = 0 from e9.trans (by decide))
  refine lv_lconst (v := 1) hx hb dM_count_16 (by decide) ?_
  refine W.lcmp hx hb dM_count_17 ?_
  refine lv_topi (fun y9 e9 => ?_)
  cases (show y9 = (-1) from e9.trans (by decide))
  refine lv_if_ne (tgt := 25) hx hb dM_count_18 rfl (fun _ => ?_) (fun hj40 => absurd hj40 (by decide))
  refine lv_iconst (v := 0) hx hb dM_count_25 (by decide) ?_
  refine lv_iadd hx hb dM_count_26 ?_
  refine lv_topi (fun y9 e9 => ?_)
  cases (show y9 = 0 from e9.trans (by decide))
  refine lv_istore_n hx hb dM_count_27 rfl hl (by decide) rfl (fun ls hl => ?_)
  have hl : lv_has ls 4 [(2, .int 0), (3, .int 19), (0, .long 0)] := hl
  refine lv_iinc (k := 1) (v := 20) hx hb dM_count_28 hl rfl (by decide) (by decide) rfl (fun ls hl => ?_)
  have hl : lv_has ls 4 [(3, .int 20), (2, .int 0), (0, .long 0)] := hl
  refine lv_goto (tgt := 4) hx hb dM_count_31 rfl ?_
  refine lv_iload_n hx hb dM_count_4 rfl (lv_at hl 0 rfl) ?_
  refine lv_bipush (v := 64) hx hb dM_count_5 (by decide) ?_
  refine lv_icmp_ge (tgt := 34) hx hb dM_count_7 rfl (fun hj41 => absurd hj41 (by decide)) (fun _ => ?_)
  refine lv_iload_n hx hb dM_count_10 rfl (lv_at hl 1 rfl) ?_
  refine lv_lload_n hx hb dM_count_11 rfl (lv_at hl 2 rfl) ?_
  refine lv_iload_n hx hb dM_count_12 rfl (lv_at hl 0 rfl) ?_
  refine lv_lshr (v := 0) hx hb dM_count_13 (by decide +kernel) ?_
  refine lv_lconst (v := 1) hx hb dM_count_14 (by decide) ?_
  refine lv_land hx hb dM_count_15 ?_
  refine lv_topl (fun y9 e9 => ?_)
  cases (show y9 = 0 from e9.trans (by decide))
  refine lv_lconst (v := 1) hx hb dM_count_16 (by decide) ?_
  refine W.lcmp hx hb dM_count_17 ?_
  refine lv_topi (fun y9 e9 => ?_)
  cases (show y9 = (-1) from e9.trans (by decide))
  refine lv_if_ne (tgt := 25) hx hb dM_count_18 rfl (fun _ => ?_) (fun hj42 => absurd hj42 (by decide))
  refine lv_iconst (v := 0) hx hb dM_count_25 (by decide) ?_
  refine lv_iadd hx hb dM_count_26 ?_
  refine lv_topi (fun y9 e9 => ?_)
  cases (show y9 = 0 from e9.trans (by decide))
  refine lv_istore_n hx hb dM_count_27 rfl hl (by decide) rfl (fun ls hl => ?_)
  have hl : lv_has ls 4 [(2, .int 0), (3, .int 20), (0, .long 0)] := hl
  refine lv_iinc (k := 1) (v := 21) hx hb dM_count_28 hl rfl (by decide) (by decide) rfl (fun ls hl => ?_)
  have hl : lv_has ls 4 [(3, .int 21), (2, .int 0), (0, .long 0)] := hl
  refine lv_goto (tgt := 4) hx hb dM_count_31 rfl ?_
  refine lv_iload_n hx hb dM_count_4 rfl (lv_at hl 0 rfl) ?_
  refine lv_bipush (v := 64) hx hb dM_count_5 (by decide) ?_
  refine lv_icmp_ge (tgt := 34) hx hb dM_count_7 rfl (fun hj43 => absurd hj43 (by decide)) (fun _ => ?_)
  refine lv_iload_n hx hb dM_count_10 rfl (lv_at hl 1 rfl) ?_
  refine lv_lload_n hx hb dM_count_11 rfl (lv_at hl 2 rfl) ?_
  refine lv_iload_n hx hb dM_count_12 rfl (lv_at hl 0 rfl) ?_
  refine lv_lshr (v := 0) hx hb dM_count_13 (by decide +kernel) ?_
  refine lv_lconst (v := 1) hx hb dM_count_14 (by decide) ?_
  refine lv_land hx hb dM_count_15 ?_
  refine lv_topl (fun y9 e9 => ?_)
  cases (show y9 = 0 from e9.trans (by decide))
  refine lv_lconst (v := 1) hx hb dM_count_16 (by decide) ?_
  refine W.lcmp hx hb dM_count_17 ?_
  refine lv_topi (fun y9 e9 => ?_)
  cases (show y9 = (-1) from e9.trans (by decide))
  refine lv_if_ne (tgt := 25) hx hb dM_count_18 rfl (fun _ => ?_) (fun hj44 => absurd hj44 (by decide))
  refine lv_iconst (v := 0) hx hb dM_count_25 (by decide) ?_
  refine lv_iadd hx hb dM_count_26 ?_
  refine lv_topi (fun y9 e9 => ?_)
  cases (show y9 = 0 from e9.trans (by decide))
  refine lv_istore_n hx hb dM_count_27 rfl hl (by decide) rfl (fun ls hl => ?_)
  have hl : lv_has ls 4 [(2, .int 0), (3, .int 21), (0, .long 0)] := hl
  refine lv_iinc (k := 1) (v := 22) hx hb dM_count_28 hl rfl (by decide) (by decide) rfl (fun ls hl => ?_)
  have hl : lv_has ls 4 [(3, .int 22), (2, .int 0), (0, .long 0)] := hl
  refine lv_goto (tgt := 4) hx hb dM_count_31 rfl ?_
  refine lv_iload_n hx hb dM_count_4 rfl (lv_at hl 0 rfl) ?_
  refine lv_bipush (v := 64) hx hb dM_count_5 (by decide) ?_
  refine lv_icmp_ge (tgt := 34) hx hb dM_count_7 rfl (fun hj45 => absurd hj45 (by decide)) (fun _ => ?_)
  refine lv_iload_n hx hb dM_count_10 rfl (lv_at hl 1 rfl) ?_
  refine lv_lload_n hx hb dM_count_11 rfl (lv_at hl 2 rfl) ?_
  refine lv_iload_n hx hb dM_count_12 rfl (lv_at hl 0 rfl) ?_
  refine lv_lshr (v := 0) hx hb dM_count_13 (by decide +kernel) ?_
  refine lv_lconst (v := 1) hx hb dM_count_14 (by decide) ?_
  refine lv_land hx hb dM_count_15 ?_
  refine lv_topl (fun y9 e9 => ?_)
  cases (show y9 = 0 from e9.trans (by decide))
  refine lv_lconst (v := 1) hx hb dM_count_16 (by decide) ?_
  refine W.lcmp hx hb dM_count_17 ?_
  refine lv_topi (fun y9 e9 => ?_)
  cases (show y9 = (-1) from e9.trans (by decide))
  refine lv_if_ne (tgt := 25) hx hb dM_count_18 rfl (fun _ => ?_) (fun hj46 => absurd hj46 (by decide))
  refine lv_iconst (v := 0) hx hb dM_count_25 (by decide) ?_
  refine lv_iadd hx hb dM_count_26 ?_
  refine lv_topi (fun y9 e9 => ?_)
  cases (show y9 = 0 from e9.trans (by decide))
  refine lv_istore_n hx hb dM_count_27 rfl hl (by decide) rfl (fun ls hl => ?_)
  have hl : lv_has ls 4 [(2, .int 0), (3, .int 22), (0, .long 0)] := hl
  refine lv_iinc (k := 1) (v := 23) hx hb dM_count_28 hl rfl (by decide) (by decide) rfl (fun ls hl => ?_)
  have hl : lv_has ls 4 [(3, .int 23), (2, .int 0), (0, .long 0)] := hl
  refine lv_goto (tgt := 4) hx hb dM_count_31 rfl ?_
  refine lv_iload_n hx hb dM_count_4 rfl (lv_at hl 0 rfl) ?_
  refine lv_bipush (v := 64) hx hb dM_count_5 (by decide) ?_
  refine lv_icmp_ge (tgt := 34) hx hb dM_count_7 rfl (fun hj47 => absurd hj47 (by decide)) (fun _ => ?_)
  refine lv_iload_n hx hb dM_count_10 rfl (lv_at hl 1 rfl) ?_
  refine lv_lload_n hx hb dM_count_11 rfl (lv_at hl 2 rfl) ?_
  refine lv_iload_n hx hb dM_count_12 rfl (lv_at hl 0 rfl) ?_
  refine lv_lshr (v := 0) hx hb dM_count_13 (by decide +kernel) ?_
  refine lv_lconst (v := 1) hx hb dM_count_14 (by decide) ?_
  refine lv_land hx hb dM_count_15 ?_
  refine lv_topl (fun y9 e9 => ?_)
  cases (show y9 = 0 from e9.trans (by decide))
  refine lv_lconst (v := 1) hx hb dM_count_16 (by decide) ?_
  refine W.lcmp hx hb dM_count_17 ?_
  refine lv_topi (fun y9 e9 => ?_)
  cases (show y9 = (-1) from e9.trans (by decide))
  refine lv_if_ne (tgt := 25) hx hb dM_count_18 rfl (fun _ => ?_) (fun hj48 => absurd hj48 (by decide))
  refine lv_iconst (v := 0) hx hb dM_count_25 (by decide) ?_
  refine lv_iadd hx hb dM_count_26 ?_
  refine lv_topi (fun y9 e9 => ?_)
  cases (show y9 = 0 from e9.trans (by decide))
  refine lv_istore_n hx hb dM_count_27 rfl hl (by decide) rfl (fun ls hl => ?_)
  have hl : lv_has ls 4 [(2, .int 0), (3, .int 23), (0, .long 0)] := hl
  refine lv_iinc (k := 1) (v := 24) hx hb dM_count_28 hl rfl (by decide) (by decide) rfl (fun ls hl => ?_)
  have hl : lv_has ls 4 [(3, .int 24), (2, .int 0), (0, .long 0)] := hl
  refine lv_goto (tgt := 4) hx hb dM_count_31 rfl ?_
  refine lv_iload_n hx hb dM_count_4 rfl (lv_at hl 0 rfl) ?_
  refine lv_bipush (v := 64) hx hb dM_count_5 (by decide) ?_
  refine lv_icmp_ge (tgt := 34) hx hb dM_count_7 rfl (fun hj49 => absurd hj49 (by decide)) (fun _ => ?_)
  refine lv_iload_n hx hb dM_count_10 rfl (lv_at hl 1 rfl) ?_
  refine lv_lload_n hx hb dM_count_11 rfl (lv_at hl 2 rfl) ?_
  refine lv_iload_n hx hb dM_count_12 rfl (lv_at hl 0 rfl) ?_
  refine lv_lshr (v := 0) hx hb dM_count_13 (by decide +kernel) ?_
  refine lv_lconst (v := 1) hx hb dM_count_14 (by decide) ?_
  refine lv_land hx hb dM_count_15 ?_
  refine lv_topl (fun y9 e9 => ?_)
  cases (show y9 = 0 from e9.trans (by decide))
  refine lv_lconst (v := 1) hx hb dM_count_16 (by decide) ?_
  refine W.lcmp hx hb dM_count_17 ?_
  refine lv_topi (fun y9 e9 => ?_)
  cases (show y9 = (-1) from e9.trans (by decide))
  refine lv_if_ne (tgt := 25) hx hb dM_count_18 rfl (fun _ => ?_) (fun hj50 => absurd hj50 (by decide))
  refine lv_iconst (v := 0) hx hb dM_count_25 (by decide) ?_
  refine lv_iadd hx hb dM_count_26 ?_
  refine lv_topi (fun y9 e9 => ?_)
  cases (show y9 = 0 from e9.trans (by decide))
  refine lv_istore_n hx hb dM_count_27 rfl hl (by decide) rfl (fun ls hl => ?_)
  have hl : lv_has ls 4 [(2, .int 0), (3, .int 24), (0, .long 0)] := hl
  refine lv_iinc (k := 1) (v := 25) hx hb dM_count_28 hl rfl (by decide) (by decide) rfl (fun ls hl => ?_)
  have hl : lv_has ls 4 [(3, .int 25), (2, .int 0), (0, .long 0)] := hl
  refine lv_goto (tgt := 4) hx hb dM_count_31 rfl ?_
  refine lv_iload_n hx hb dM_count_4 rfl (lv_at hl 0 rfl) ?_
  refine lv_bipush (v := 64) hx hb dM_count_5 (by decide) ?_
  refine lv_icmp_ge (tgt := 34) hx hb dM_count_7 rfl (fun hj51 => absurd hj51 (by decide)) (fun _ => ?_)
  refine lv_iload_n hx hb dM_count_10 rfl (lv_at hl 1 rfl) ?_
  refine lv_lload_n hx hb dM_count_11 rfl (lv_at hl 2 rfl) ?_
  refine lv_iload_n hx hb dM_count_12 rfl (lv_at hl 0 rfl) ?_
  refine lv_lshr (v := 0) hx hb dM_count_13 (by decide +kernel) ?_
  refine lv_lconst (v := 1) hx hb dM_count_14 (by decide) ?_
  refine lv_land hx hb dM_count_15 ?_
  refine lv_topl (fun y9 e9 => ?_)
  cases (show y9 = 0 from e9.trans (by decide))
  refine lv_lconst (v := 1) hx hb dM_count_16 (by decide) ?_
  refine W.lcmp hx hb dM_count_17 ?_
  refine lv_topi (fun y9 e9 => ?_)
  cases (show y9 = (-1) from e9.trans (by decide))
  refine lv_if_ne (tgt := 25) hx hb dM_count_18 rfl (fun _ => ?_) (fun hj52 => absurd hj52 (by decide))
  refine lv_iconst (v := 0) hx hb dM_count_25 (by decide) ?_
  refine lv_iadd hx hb dM_count_26 ?_
  refine lv_topi (fun y9 e9 => ?_)
  cases (show y9 = 0 from e9.trans (by decide))
  refine lv_istore_n hx hb dM_count_27 rfl hl (by decide) rfl (fun ls hl => ?_)
  have hl : lv_has ls 4 [(2, .int 0), (3, .int 25), (0, .long 0)] := hl
  refine lv_iinc (k := 1) (v := 26) hx hb dM_count_28 hl rfl (by decide) (by decide) rfl (fun ls hl => ?_)
  have hl : lv_has ls 4 [(3, .int 26), (2, .int 0), (0, .long 0)] := hl
  refine lv_goto (tgt := 4) hx hb dM_count_31 rfl ?_
  refine lv_iload_n hx hb dM_count_4 rfl (lv_at hl 0 rfl) ?_
  refine lv_bipush (v := 64) hx hb dM_count_5 (by decide) ?_
  refine lv_icmp_ge (tgt := 34) hx hb dM_count_7 rfl (fun hj53 => absurd hj53 (by decide)) (fun _ => ?_)
  refine lv_iload_n hx hb dM_count_10 rfl (lv_at hl 1 rfl) ?_
  refine lv_lload_n hx hb dM_count_11 rfl (lv_at hl 2 rfl) ?_
  refine lv_iload_n hx hb dM_count_12 rfl (lv_at hl 0 rfl) ?_
  refine lv_lshr (v := 0) hx hb dM_count_13 (by decide +kernel) ?_
  refine lv_lconst (v := 1) hx hb dM_count_14 (by decide) ?_
  refine lv_land hx hb dM_count_15 ?_
  refine lv_topl (fun y9 e9 => ?_)
  cases (show y9 = 0 from e9.trans (by decide))
  refine lv_lconst (v := 1) hx hb dM_count_16 (by decide) ?_
  refine W.lcmp hx hb dM_count_17 ?_
  refine lv_topi (fun y9 e9 => ?_)
  cases (show y9 = (-1) from e9.trans (by decide))
  refine lv_if_ne (tgt := 25) hx hb dM_count_18 rfl (fun _ => ?_) (fun hj54 => absurd hj54 (by decide))
  refine lv_iconst (v := 0) hx hb dM_count_25 (by decide) ?_
  refine lv_iadd hx hb dM_count_26 ?_
  refine lv_topi (fun y9 e9 => ?_)
  cases (show y9 = 0 from e9.trans (by decide))
  refine lv_istore_n hx hb dM_count_27 rfl hl (by decide) rfl (fun ls hl => ?_)
  have hl : lv_has ls 4 [(2, .int 0), (3, .int 26), (0, .long 0)] := hl
  refine lv_iinc (k := 1) (v := 27) hx hb dM_count_28 hl rfl (by decide) (by decide) rfl (fun ls hl => ?_)
  have hl : lv_has ls 4 [(3, .int 27), (2, .int 0), (0, .long 0)] := hl
  refine lv_goto (tgt := 4) hx hb dM_count_31 rfl ?_
  refine lv_iload_n hx hb dM_count_4 rfl (lv_at hl 0 rfl) ?_
  refine lv_bipush (v := 64) hx hb dM_count_5 (by decide) ?_
  refine lv_icmp_ge (tgt := 34) hx hb dM_count_7 rfl (fun hj55 => absurd hj55 (by decide)) (fun _ => ?_)
  refine lv_iload_n hx hb dM_count_10 rfl (lv_at hl 1 rfl) ?_
  refine lv_lload_n hx hb dM_count_11 rfl (lv_at hl 2 rfl) ?_
  refine lv_iload_n hx hb dM_count_12 rfl (lv_at hl 0 rfl) ?_
  refine lv_lshr (v := 0) hx hb dM_count_13 (by decide +kernel) ?_
  refine lv_lconst (v := 1) hx hb dM_count_14 (by decide) ?_
  refine lv_land hx hb dM_count_15 ?_
  refine lv_topl (fun y9 e9 => ?_)
  cases (show y9 = 0 from e9.trans (by decide))
  refine lv_lconst (v := 1) hx hb dM_count_16 (by decide) ?_
  refine W.lcmp hx hb dM_count_17 ?_
  refine lv_topi (fun y9 e9 => ?_)
  cases (show y9 = (-1) from e9.trans (by decide))
  refine lv_if_ne (tgt := 25) hx hb dM_count_18 rfl (fun _ => ?_) (fun hj56 => absurd hj56 (by decide))
  refine lv_iconst (v := 0) hx hb dM_count_25 (by decide) ?_
  refine lv_iadd hx hb dM_count_26 ?_
  refine lv_topi (fun y9 e9 => ?_)
  cases (show y9 = 0 from e9.trans (by decide))
  refine lv_istore_n hx hb dM_count_27 rfl hl (by decide) rfl (fun ls hl => ?_)
  have hl : lv_has ls 4 [(2, .int 0), (3, .int 27), (0, .long 0)] := hl
  refine lv_iinc (k := 1) (v := 28) hx hb dM_count_28 hl rfl (by decide) (by decide) rfl (fun ls hl => ?_)
  have hl : lv_has ls 4 [(3, .int 28), (2, .int 0), (0, .long 0)] := hl
  refine lv_goto (tgt := 4) hx hb dM_count_31 rfl ?_
  refine lv_iload_n hx hb dM_count_4 rfl (lv_at hl 0 rfl) ?_
  refine lv_bipush (v := 64) hx hb dM_count_5 (by decide) ?_
  refine lv_icmp_ge (tgt := 34) hx hb dM_count_7 rfl (fun hj57 => absurd hj57 (by decide)) (fun _ => ?_)
  refine lv_iload_n hx hb dM_count_10 rfl (lv_at hl 1 rfl) ?_
  refine lv_lload_n hx hb dM_count_11 rfl (lv_at hl 2 rfl) ?_
  refine lv_iload_n hx hb dM_count_12 rfl (lv_at hl 0 rfl) ?_
  refine lv_lshr (v := 0) hx hb dM_count_13 (by decide +kernel) ?_
  refine lv_lconst (v := 1) hx hb dM_count_14 (by decide) ?_
  refine lv_land hx hb dM_count_15 ?_
  refine lv_topl (fun y9 e9 => ?_)
  cases (show y9 = 0 from e9.trans (by decide))
  refine lv_lconst (v := 1) hx hb dM_count_16 (by decide) ?_
  refine W.lcmp hx hb dM_count_17 ?_
  refine lv_topi (fun y9 e9 => ?_)
  cases (show y9 = (-1) from e9.trans (by decide))
  refine lv_if_ne (tgt := 25) hx hb dM_count_18 rfl (fun _ => ?_) (fun hj58 => absurd hj58 (by decide))
  refine lv_iconst (v := 0) hx hb dM_count_25 (by decide) ?_
  refine lv_iadd hx hb dM_count_26 ?_
  refine lv_topi (fun y9 e9 => ?_)
  cases (show y9 = 0 from e9.trans (by decide))
  refine lv_istore_n hx hb dM_count_27 rfl hl (by decide) rfl (fun ls hl => ?_)
  have hl : lv_has ls 4 [(2, .int 0), (3, .int 28), (0, .long 0)] := hl
  refine lv_iinc (k := 1) (v := 29) hx hb dM_count_28 hl rfl (by decide) (by decide) rfl (fun ls hl => ?_)
  have hl : lv_has ls 4 [(3, .int 29), (2, .int 0), (0, .long 0)] := hl
  refine lv_goto (tgt := 4) hx hb dM_count_31 rfl ?_
  refine lv_iload_n hx hb dM_count_4 rfl (lv_at hl 0 rfl) ?_
  refine lv_bipush (v := 64) hx hb dM_count_5 (by decide) ?_
  refine lv_icmp_ge (tgt := 34) hx hb dM_count_7 rfl (fun hj59 => absurd hj59 (by decide)) (fun _ => ?_)
  refine lv_iload_n hx hb dM_count_10 rfl (lv_at hl 1 rfl) ?_
  refine lv_lload_n hx hb dM_count_11 rfl (lv_at hl 2 rfl) ?_
  refine lv_iload_n hx hb dM_count_12 rfl (lv_at hl 0 rfl) ?_
  refine lv_lshr (v := 0) hx hb dM_count_13 (by decide +kernel) ?_
  refine lv_lconst (v := 1) hx hb dM_count_14 (by decide) ?_
  refine lv_land hx hb dM_count_15 ?_
  refine lv_topl (fun y9 e9 => ?_)
  cases (show y9 = 0 from e9.trans (by decide))
  refine lv_lconst (v := 1) hx hb dM_count_16 (by decide) ?_
  refine W.lcmp hx hb dM_count_17 ?_
  refine lv_topi (fun y9 e9 => ?_)
  cases (show y9 = (-1) from e9.trans (by decide))
  refine lv_if_ne (tgt := 25) hx hb dM_count_18 rfl (fun _ => ?_) (fun hj60 => absurd hj60 (by decide))
  refine lv_iconst (v := 0) hx hb dM_count_25 (by decide) ?_
  refine lv_iadd hx hb dM_count_26 ?_
  refine lv_topi (fun y9 e9 => ?_)
  cases (show y9 = 0 from e9.trans (by decide))
  refine lv_istore_n hx hb dM_count_27 rfl hl (by decide) rfl (fun ls hl => ?_)
  have hl : lv_has ls 4 [(2, .int 0), (3, .int 29), (0, .long 0)] := hl
  refine lv_iinc (k := 1) (v := 30) hx hb dM_count_28 hl rfl (by decide) (by decide) rfl (fun ls hl => ?_)
  have hl : lv_has ls 4 [(3, .int 30), (2, .int 0), (0, .long 0)] := hl
  refine lv_goto (tgt := 4) hx hb dM_count_31 rfl ?_
  refine lv_iload_n hx hb dM_count_4 rfl (lv_at hl 0 rfl) ?_
  refine lv_bipush (v := 64) hx hb dM_count_5 (by decide) ?_
  refine lv_icmp_ge (tgt := 34) hx hb dM_count_7 rfl (fun hj61 => absurd hj61 (by decide)) (fun _ => ?_)
  refine lv_iload_n hx hb dM_count_10 rfl (lv_at hl 1 rfl) ?_
  refine lv_lload_n hx hb dM_count_11 rfl (lv_at hl 2 rfl) ?_
  refine lv_iload_n hx hb dM_count_12 rfl (lv_at hl 0 rfl) ?_
  refine lv_lshr (v := 0) hx hb dM_count_13 (by decide +kernel) ?_
  refine lv_lconst (v := 1) hx hb dM_count_14 (by decide) ?_
  refine lv_land hx hb dM_count_15 ?_
  refine lv_topl (fun y9 e9 => ?_)
  cases (show y9 = 0 from e9.trans (by decide))
  refine lv_lconst (v := 1) hx hb dM_count_16 (by decide) ?_
  refine W.lcmp hx hb dM_count_17 ?_
  refine lv_topi (fun y9 e9 => ?_)
  cases (show y9 = (-1) from e9.trans (by decide))
  refine lv_if_ne (tgt := 25) hx hb dM_count_18 rfl (fun _ => ?_) (fun hj62 => absurd hj62 (by decide))
  refine lv_iconst (v := 0) hx hb dM_count_25 (by decide) ?_
  refine lv_iadd hx hb dM_count_26 ?_
  refine lv_topi (fun y9 e9 => ?_)
  cases (show y9 = 0 from e9.trans (by decide))
  refine lv_istore_n hx hb dM_count_27 rfl hl (by decide) rfl (fun ls hl => ?_)
  have hl : lv_has ls 4 [(2, .int 0), (3, .int 30), (0, .long 0)] := hl
  refine lv_iinc (k := 1) (v := 31) hx hb dM_count_28 hl rfl (by decide) (by decide) rfl (fun ls hl => ?_)
  have hl : lv_has ls 4 [(3, .int 31), (2, .int 0), (0, .long 0)] := hl
  refine lv_goto (tgt := 4) hx hb dM_count_31 rfl ?_
  refine lv_iload_n hx hb dM_count_4 rfl (lv_at hl 0 rfl) ?_
  refine lv_bipush (v := 64) hx hb dM_count_5 (by decide) ?_
  refine lv_icmp_ge (tgt := 34) hx hb dM_count_7 rfl (fun hj63 => absurd hj63 (by decide)) (fun _ => ?_)
  refine lv_iload_n hx hb dM_count_10 rfl (lv_at hl 1 rfl) ?_
  refine lv_lload_n hx hb dM_count_11 rfl (lv_at hl 2 rfl) ?_
  refine lv_iload_n hx hb dM_count_12 rfl (lv_at hl 0 rfl) ?_
  refine lv_lshr (v := 0) hx hb dM_count_13 (by decide +kernel) ?_
  refine lv_lconst (v := 1) hx hb dM_count_14 (by decide) ?_
  refine lv_land hx hb dM_count_15 ?_
  refine lv_topl (fun y9 e9 => ?_)
  cases (show y9 = 0 from e9.trans (by decide))
  refine lv_lconst (v := 1) hx hb dM_count_16 (by decide) ?_
  refine W.lcmp hx hb dM_count_17 ?_
  refine lv_topi (fun y9 e9 => ?_)
  cases (show y9 = (-1) from e9.trans (by decide))
  refine lv_if_ne (tgt := 25) hx hb dM_count_18 rfl (fun _ => ?_) (fun hj64 => absurd hj64 (by decide))
  refine lv_iconst (v := 0) hx hb dM_count_25 (by decide) ?_
  refine lv_iadd hx hb dM_count_26 ?_
  refine lv_topi (fun y9 e9 => ?_)
  cases (show y9 = 0 from e9.trans (by decide))
  refine lv_istore_n hx hb dM_count_27 rfl hl (by decide) rfl (fun ls hl => ?_)
  have hl : lv_has ls 4 [(2, .int 0), (3, .int 31), (0, .long 0)] := hl
  refine lv_iinc (k := 1) (v := 32) hx hb dM_count_28 hl rfl (by decide) (by decide) rfl (fun ls hl => ?_)
  have hl : lv_has ls 4 [(3, .int 32), (2, .int 0), (0, .long 0)] := hl
  refine lv_goto (tgt := 4) hx hb dM_count_31 rfl ?_
  refine lv_iload_n hx hb dM_count_4 rfl (lv_at hl 0 rfl) ?_
  refine lv_bipush (v := 64) hx hb dM_count_5 (by decide) ?_
  refine lv_icmp_ge (tgt := 34) hx hb dM_count_7 rfl (fun hj65 => absurd hj65 (by decide)) (fun _ => ?_)
  refine lv_iload_n hx hb dM_count_10 rfl (lv_at hl 1 rfl) ?_
  refine lv_lload_n hx hb dM_count_11 rfl (lv_at hl 2 rfl) ?_
  refine lv_iload_n hx hb dM_count_12 rfl (lv_at hl 0 rfl) ?_
  refine lv_lshr (v := 0) hx hb dM_count_13 (by decide +kernel) ?_
  refine lv_lconst (v := 1) hx hb dM_count_14 (by decide) ?_
  refine lv_land hx hb dM_count_15 ?_
  refine lv_topl (fun y9 e9 => ?_)
  cases (show y9 = 0 from e9.trans (by decide))
  refine lv_lconst (v := 1) hx hb dM_count_16 (by decide) ?_
  refine W.lcmp hx hb dM_count_17 ?_
  refine lv_topi (fun y9 e9 => ?_)
  cases (show y9 = (-1) from e9.trans (by decide))
  refine lv_if_ne (tgt := 25) hx hb dM_count_18 rfl (fun _ => ?_) (fun hj66 => absurd hj66 (by decide))
  refine lv_iconst (v := 0) hx hb dM_count_25 (by decide) ?_
  refine lv_iadd hx hb dM_count_26 ?_
  refine lv_topi (fun y9 e9 => ?_)
  cases (show y9 = 0 from e9.trans (by decide))
  refine lv_istore_n hx hb dM_count_27 rfl hl (by decide) rfl (fun ls hl => ?_)
  have hl : lv_has ls 4 [(2, .int 0), (3, .int 32), (0, .long 0)] := hl
  refine lv_iinc (k := 1) (v := 33) hx hb dM_count_28 hl rfl (by decide) (by decide) rfl (fun ls hl => ?_)
  have hl : lv_has ls 4 [(3, .int 33), (2, .int 0), (0, .long 0)] := hl
  refine lv_goto (tgt := 4) hx hb dM_count_31 rfl ?_
  refine lv_iload_n hx hb dM_count_4 rfl (lv_at hl 0 rfl) ?_
  refine lv_bipush (v := 64) hx hb dM_count_5 (by decide) ?_
  refine lv_icmp_ge (tgt := 34) hx hb dM_count_7 rfl (fun hj67 => absurd hj67 (by decide)) (fun _ => ?_)
  refine lv_iload_n hx hb dM_count_10 rfl (lv_at hl 1 rfl) ?_
  refine lv_lload_n hx hb dM_count_11 rfl (lv_at hl 2 rfl) ?_
  refine lv_iload_n hx hb dM_count_12 rfl (lv_at hl 0 rfl) ?_
  refine lv_lshr (v := 0) hx hb dM_count_13 (by decide +kernel) ?_
  refine lv_lconst (v := 1) hx hb dM_count_14 (by decide) ?_
  refine lv_land hx hb dM_count_15 ?_
  refine lv_topl (fun y9 e9 => ?_)
  cases (show y9 = 0 from e9.trans (by decide))
  refine lv_lconst (v := 1) hx hb dM_count_16 (by decide) ?_
  refine W.lcmp hx hb dM_count_17 ?_
  refine lv_topi (fun y9 e9 => ?_)
  cases (show y9 = (-1) from e9.trans (by decide))
  refine lv_if_ne (tgt := 25) hx hb dM_count_18 rfl (fun _ => ?_) (fun hj68 => absurd hj68 (by decide))
  refine lv_iconst (v := 0) hx hb dM_count_25 (by decide) ?_
  refine lv_iadd hx hb dM_count_26 ?_
  refine lv_topi (fun y9 e9 => ?_)
  cases (show y9 = 0 from e9.trans (by decide))
  refine lv_istore_n hx hb dM_count_27 rfl hl (by decide) rfl (fun ls hl => ?_)
  have hl : lv_has ls 4 [(2, .int 0), (3, .int 33), (0, .long 0)] := hl
  refine lv_iinc (k := 1) (v := 34) hx hb dM_count_28 hl rfl (by decide) (by decide) rfl (fun ls hl => ?_)
  have hl : lv_has ls 4 [(3, .int 34), (2, .int 0), (0, .long 0)] := hl
  refine lv_goto (tgt := 4) hx hb dM_count_31 rfl ?_
  refine lv_iload_n hx hb dM_count_4 rfl (lv_at hl 0 rfl) ?_
  refine lv_bipush (v := 64) hx hb dM_count_5 (by decide) ?_
  refine lv_icmp_ge (tgt := 34) hx hb dM_count_7 rfl (fun hj69 => absurd hj69 (by decide)) (fun _ => ?_)
  refine lv_iload_n hx hb dM_count_10 rfl (lv_at hl 1 rfl) ?_
  refine lv_lload_n hx hb dM_count_11 rfl (lv_at hl 2 rfl) ?_
  refine lv_iload_n hx hb dM_count_12 rfl (lv_at hl 0 rfl) ?_
  refine lv_lshr (v := 0) hx hb dM_count_13 (by decide +kernel) ?_
  refine lv_lconst (v := 1) hx hb dM_count_14 (by decide) ?_
  refine lv_land hx hb dM_count_15 ?_
  refine lv_topl (fun y9 e9 => ?_)
  cases (show y9 = 0 from e9.trans (by decide))
  refine lv_lconst (v := 1) hx hb dM_count_16 (by decide) ?_
  refine W.lcmp hx hb dM_count_17 ?_
  refine lv_topi (fun y9 e9 => ?_)
  cases (show y9 = (-1) from e9.trans (by decide))
  refine lv_if_ne (tgt := 25) hx hb dM_count_18 rfl (fun _ => ?_) (fun hj70 => absurd hj70 (by decide))
  refine lv_iconst (v := 0) hx hb dM_count_25 (by decide) ?_
  refine lv_iadd hx hb dM_count_26 ?_
  refine lv_topi (fun y9 e9 => ?_)
  cases (show y9 = 0 from e9.trans (by decide))
  refine lv_istore_n hx hb dM_count_27 rfl hl (by decide) rfl (fun ls hl => ?_)
  have hl : lv_has ls 4 [(2, .int 0), (3, .int 34), (0, .long 0)] := hl
  refine lv_iinc (k := 1) (v := 35) hx hb dM_count_28 hl rfl (by decide) (by decide) rfl (fun ls hl => ?_)
  have hl : lv_has ls 4 [(3, .int 35), (2, .int 0), (0, .long 0)] := hl
  refine lv_goto (tgt := 4) hx hb dM_count_31 rfl ?_
  refine lv_iload_n hx hb dM_count_4 rfl (lv_at hl 0 rfl) ?_
  refine lv_bipush (v := 64) hx hb dM_count_5 (by decide) ?_
  refine lv_icmp_ge (tgt := 34) hx hb dM_count_7 rfl (fun hj71 => absurd hj71 (by decide)) (fun _ => ?_)
  refine lv_iload_n hx hb dM_count_10 rfl (lv_at hl 1 rfl) ?_
  refine lv_lload_n hx hb dM_count_11 rfl (lv_at hl 2 rfl) ?_
  refine lv_iload_n hx hb dM_count_12 rfl (lv_at hl 0 rfl) ?_
  refine lv_lshr (v := 0) hx hb dM_count_13 (by decide +kernel) ?_
  refine lv_lconst (v := 1) hx hb dM_count_14 (by decide) ?_
  refine lv_land hx hb dM_count_15 ?_
  refine lv_topl (fun y9 e9 => ?_)
  cases (show y9 = 0 from e9.trans (by decide))
  refine lv_lconst (v := 1) hx hb dM_count_16 (by decide) ?_
  refine W.lcmp hx hb dM_count_17 ?_
  refine lv_topi (fun y9 e9 => ?_)
  cases (show y9 = (-1) from e9.trans (by decide))
  refine lv_if_ne (tgt := 25) hx hb dM_count_18 rfl (fun _ => ?_) (fun hj72 => absurd hj72 (by decide))
  refine lv_iconst (v := 0) hx hb dM_count_25 (by decide) ?_
  refine lv_iadd hx hb dM_count_26 ?_
  refine lv_topi (fun y9 e9 => ?_)
  cases (show y9 = 0 from e9.trans (by decide))
  refine lv_istore_n hx hb dM_count_27 rfl hl (by decide) rfl (fun ls hl => ?_)
  have hl : lv_has ls 4 [(2, .int 0), (3, .int 35), (0, .long 0)] := hl
  refine lv_iinc (k := 1) (v := 36) hx hb dM_count_28 hl rfl (by decide) (by decide) rfl (fun ls hl => ?_)
  have hl : lv_has ls 4 [(3, .int 36), (2, .int 0), (0, .long 0)] := hl
  refine lv_goto (tgt := 4) hx hb dM_count_31 rfl ?_
  refine lv_iload_n hx hb dM_count_4 rfl (lv_at hl 0 rfl) ?_
  refine lv_bipush (v := 64) hx hb dM_count_5 (by decide) ?_
  refine lv_icmp_ge (tgt := 34) hx hb dM_count_7 rfl (fun hj73 => absurd hj73 (by decide)) (fun _ => ?_)
  refine lv_iload_n hx hb dM_count_10 rfl (lv_at hl 1 rfl) ?_
  refine lv_lload_n hx hb dM_count_11 rfl (lv_at hl 2 rfl) ?_
  refine lv_iload_n hx hb dM_count_12 rfl (lv_at hl 0 rfl) ?_
  refine lv_lshr (v := 0) hx hb dM_count_13 (by decide +kernel) ?_
  refine lv_lconst (v := 1) hx hb dM_count_14 (by decide) ?_
  refine lv_land hx hb dM_count_15 ?_
  refine lv_topl (fun y9 e9 => ?_)
  cases (show y9 = 0 from e9.trans (by decide))
  refine lv_lconst (v := 1) hx hb dM_count_16 (by decide) ?_
  refine W.lcmp hx hb dM_count_17 ?_
  refine lv_topi (fun y9 e9 => ?_)
  cases (show y9 = (-1) from e9.trans (by decide))
  refine lv_if_ne (tgt := 25) hx hb dM_count_18 rfl (fun _ => ?_) (fun hj74 => absurd hj74 (by decide))
  refine lv_iconst (v := 0) hx hb dM_count_25 (by decide) ?_
  refine lv_iadd hx hb dM_count_26 ?_
  refine lv_topi (fun y9 e9 => ?_)
  cases (show y9 = 0 from e9.trans (by decide))
  refine lv_istore_n hx hb dM_count_27 rfl hl (by decide) rfl (fun ls hl => ?_)
  have hl : lv_has ls 4 [(2, .int 0), (3, .int 36), (0, .long 0)] := hl
  refine lv_iinc (k := 1) (v := 37) hx hb dM_count_28 hl rfl (by decide) (by decide) rfl (fun ls hl => ?_)
  have hl : lv_has ls 4 [(3, .int 37), (2, .int 0), (0, .long 0)] := hl
  refine lv_goto (tgt := 4) hx hb dM_count_31 rfl ?_
  refine lv_iload_n hx hb dM_count_4 rfl (lv_at hl 0 rfl) ?_
  refine lv_bipush (v := 64) hx hb dM_count_5 (by decide) ?_
  refine lv_icmp_ge (tgt := 34) hx hb dM_count_7 rfl (fun hj75 => absurd hj75 (by decide)) (fun _ => ?_)
  refine lv_iload_n hx hb dM_count_10 rfl (lv_at hl 1 rfl) ?_
  refine lv_lload_n hx hb dM_count_11 rfl (lv_at hl 2 rfl) ?_
  refine lv_iload_n hx hb dM_count_12 rfl (lv_at hl 0 rfl) ?_
  refine lv_lshr (v := 0) hx hb dM_count_13 (by decide +kernel) ?_
  refine lv_lconst (v := 1) hx hb dM_count_14 (by decide) ?_
  refine lv_land hx hb dM_count_15 ?_
  refine lv_topl (fun y9 e9 => ?_)
  cases (show y9 = 0 from e9.trans (by decide))
  refine lv_lconst (v := 1) hx hb dM_count_16 (by decide) ?_
  refine W.lcmp hx hb dM_count_17 ?_
  refine lv_topi (fun y9 e9 => ?_)
  cases (show y9 = (-1) from e9.trans (by decide))
  refine lv_if_ne (tgt := 25) hx hb dM_count_18 rfl (fun _ => ?_) (fun hj76 => absurd hj76 (by decide))
  refine lv_iconst (v := 0) hx hb dM_count_25 (by decide) ?_
  refine lv_iadd hx hb dM_count_26 ?_
  refine lv_topi (fun y9 e9 => ?_)
  cases (show y9 = 0 from e9.trans (by decide))
  refine lv_istore_n hx hb dM_count_27 rfl hl (by decide) rfl (fun ls hl => ?_)
  have hl : lv_has ls 4 [(2, .int 0), (3, .int 37), (0, .long 0)] := hl
  refine lv_iinc (k := 1) (v := 38) hx hb dM_count_28 hl rfl (by decide) (by decide) rfl (fun ls hl => ?_)
  have hl : lv_has ls 4 [(3, .int 38), (2, .int 0), (0, .long 0)] := hl
  refine lv_goto (tgt := 4) hx hb dM_count_31 rfl ?_
  refine lv_iload_n hx hb dM_count_4 rfl (lv_at hl 0 rfl) ?_
  refine lv_bipush (v := 64) hx hb dM_count_5 (by decide) ?_
  refine lv_icmp_ge (tgt := 34) hx hb dM_count_7 rfl (fun hj77 => absurd hj77 (by decide)) (fun _ => ?_)
  refine lv_iload_n hx hb dM_count_10 rfl (lv_at hl 1 rfl) ?_
  refine lv_lload_n hx hb dM_count_11 rfl (lv_at hl 2 rfl) ?_
  refine lv_iload_n hx hb dM_count_12 rfl (lv_at hl 0 rfl) ?_
  refine lv_lshr (v := 0) hx hb dM_count_13 (by decide +kernel) ?_
  refine lv_lconst (v := 1) hx hb dM_count_14 (by decide) ?_
  refine lv_land hx hb dM_count_15 ?_
  refine lv_topl (fun y9 e9 => ?_)
  cases (show y9 = 0 from e9.trans (by decide))
  refine lv_lconst (v := 1) hx hb dM_count_16 (by decide) ?_
  refine W.lcmp hx hb dM_count_17 ?_
  refine lv_topi (fun y9 e9 => ?_)
  cases (show y9 = (-1) from e9.trans (by decide))
  refine lv_if_ne (tgt := 25) hx hb dM_count_18 rfl (fun _ => ?_) (fun hj78 => absurd hj78 (by decide))
  refine lv_iconst (v := 0) hx hb dM_count_25 (by decide) ?_
  refine lv_iadd hx hb dM_count_26 ?_
  refine lv_topi (fun y9 e9 => ?_)
  cases (show y9 = 0 from e9.trans (by decide))
  refine lv_istore_n hx hb dM_count_27 rfl hl (by decide) rfl (fun ls hl => ?_)
  have hl : lv_has ls 4 [(2, .int 0), (3, .int 38), (0, .long 0)] := hl
  refine lv_iinc (k := 1) (v := 39) hx hb dM_count_28 hl rfl (by decide) (by decide) rfl (fun ls hl => ?_)
  have hl : lv_has ls 4 [(3, .int 39), (2, .int 0), (0, .long 0)] := hl
  refine lv_goto (tgt := 4) hx hb dM_count_31 rfl ?_
  refine lv_iload_n hx hb dM_count_4 rfl (lv_at hl 0 rfl) ?_
  refine lv_bipush (v := 64) hx hb dM_count_5 (by decide) ?_
  refine lv_icmp_ge (tgt := 34) hx hb dM_count_7 rfl (fun hj79 => absurd hj79 (by decide)) (fun _ => ?_)
  refine lv_iload_n hx hb dM_count_10 rfl (lv_at hl 1 rfl) ?_
  refine lv_lload_n hx hb dM_count_11 rfl (lv_at hl 2 rfl) ?_
  refine lv_iload_n hx hb dM_count_12 rfl (lv_at hl 0 rfl) ?_
  refine lv_lshr (v := 0) hx hb dM_count_13 (by decide +kernel) ?_
  refine lv_lconst (v := 1) hx hb dM_count_14 (by decide) ?_
  refine lv_land hx hb dM_count_15 ?_
  refine lv_topl (fun y9 e9 => ?_)
  cases (show y9 = 0 from e9.trans (by decide))
  refine lv_lconst (v := 1) hx hb dM_count_16 (by decide) ?_
  refine W.lcmp hx hb dM_count_17 ?_
  refine lv_topi (fun y9 e9 => ?_)
  cases (show y9 = (-1) from e9.trans (by decide))
  refine lv_if_ne (tgt := 25) hx hb dM_count_18 rfl (fun _ => ?_) (fun hj80 => absurd hj80 (by decide))
  refine lv_iconst (v := 0) hx hb dM_count_25 (by decide) ?_
  refine lv_iadd hx hb dM_count_26 ?_
  refine lv_topi (fun y9 e9 => ?_)
  cases (show y9 = 0 from e9.trans (by decide))
  refine lv_istore_n hx hb dM_count_27 rfl hl (by decide) rfl (fun ls hl => ?_)
  have hl : lv_has ls 4 [(2, .int 0), (3, .int 39), (0, .long 0)] := hl
  refine lv_iinc (k := 1) (v := 40) hx hb dM_count_28 hl rfl (by decide) (by decide) rfl (fun ls hl => ?_)
  have hl : lv_has ls 4 [(3, .int 40), (2, .int 0), (0, .long 0)] := hl
  refine lv_goto (tgt := 4) hx hb dM_count_31 rfl ?_
  refine lv_iload_n hx hb dM_count_4 rfl (lv_at hl 0 rfl) ?_
  refine lv_bipush (v := 64) hx hb dM_count_5 (by decide) ?_
  refine lv_icmp_ge (tgt := 34) hx hb dM_count_7 rfl (fun hj81 => absurd hj81 (by decide)) (fun _ => ?_)
  refine lv_iload_n hx hb dM_count_10 rfl (lv_at hl 1 rfl) ?_
  refine lv_lload_n hx hb dM_count_11 rfl (lv_at hl 2 rfl) ?_
  refine lv_iload_n hx hb dM_count_12 rfl (lv_at hl 0 rfl) ?_
  refine lv_lshr (v := 0) hx hb dM_count_13 (by decide +kernel) ?_
  refine lv_lconst (v := 1) hx hb dM_count_14 (by decide) ?_
  refine lv_land hx hb dM_count_15 ?_
  refine lv_topl (fun y9 e9 => ?_)
  cases (show y9 = 0 from e9.trans (by decide))
  refine lv_lconst (v := 1) hx hb dM_count_16 (by decide) ?_
  refine W.lcmp hx hb dM_count_17 ?_
  refine lv_topi (fun y9 e9 => ?_)
  cases (show y9 = (-1) from e9.trans (by decide))
  refine lv_if_ne (tgt := 25) hx hb dM_count_18 rfl (fun _ => ?_) (fun hj82 => absurd hj82 (by decide))
  refine lv_iconst (v := 0) hx hb dM_count_25 (by decide) ?_
  refine lv_iadd hx hb dM_count_26 ?_
  refine lv_topi (fun y9 e9 => ?_)
  cases (show y9 = 0 from e9.trans (by decide))
  refine lv_istore_n hx hb dM_count_27 rfl hl (by decide) rfl (fun ls hl => ?_)
  have hl : lv_has ls 4 [(2, .int 0), (3, .int 40), (0, .long 0)] := hl
  refine lv_iinc (k := 1) (v := 41) hx hb dM_count_28 hl rfl (by decide) (by decide) rfl (fun ls hl => ?_)
  have hl : lv_has ls 4 [(3, .int 41), (2, .int 0), (0, .long 0)] := hl
  refine lv_goto (tgt := 4) hx hb dM_count_31 rfl ?_
  refine lv_iload_n hx hb dM_count_4 rfl (lv_at hl 0 rfl) ?_
  refine lv_bipush (v := 64) hx hb dM_count_5 (by decide) ?_
  refine lv_icmp_ge (tgt := 34) hx hb dM_count_7 rfl (fun hj83 => absurd hj83 (by decide)) (fun _ => ?_)
  refine lv_iload_n hx hb dM_count_10 rfl (lv_at hl 1 rfl) ?_
  refine lv_lload_n hx hb dM_count_11 rfl (lv_at hl 2 rfl) ?_
  refine lv_iload_n hx hb dM_count_12 rfl (lv_at hl 0 rfl) ?_
  refine lv_lshr (v := 0) hx hb dM_count_13 (by decide +kernel) ?_
  refine lv_lconst (v := 1) hx hb dM_count_14 (by decide) ?_
  refine lv_land hx hb dM_count_15 ?_
  refine lv_topl (fun y9 e9 => ?_)
  cases (show y9 = 0 from e9.trans (by decide))
  refine lv_lconst (v := 1) hx hb dM_count_16 (by decide) ?_
  refine W.lcmp hx hb dM_count_17 ?_
  refine lv_topi (fun y9 e9 => ?_)
  cases (show y9 = (-1) from e9.trans (by decide))
  refine lv_if_ne (tgt := 25) hx hb dM_count_18 rfl (fun _ => ?_) (fun hj84 => absurd hj84 (by decide))
  refine lv_iconst (v := 0) hx hb dM_count_25 (by decide) ?_
  refine lv_iadd hx hb dM_count_26 ?_
  refine lv_topi (fun y9 e9 => ?_)
  cases (show y9 = 0 from e9.trans (by decide))
  refine lv_istore_n hx hb dM_count_27 rfl hl (by decide) rfl (fun ls hl => ?_)
  have hl : lv_has ls 4 [(2, .int 0), (3, .int 41), (0, .long 0)] := hl
  refine lv_iinc (k := 1) (v := 42) hx hb dM_count_28 hl rfl (by decide) (by decide) rfl (fun ls hl => ?_)
  have hl : lv_has ls 4 [(3, .int 42), (2, .int 0), (0, .long 0)] := hl
  refine lv_goto (tgt := 4) hx hb dM_count_31 rfl ?_
  refine lv_iload_n hx hb dM_count_4 rfl (lv_at hl 0 rfl) ?_
  refine lv_bipush (v := 64) hx hb dM_count_5 (by decide) ?_
  refine lv_icmp_ge (tgt := 34) hx hb dM_count_7 rfl (fun hj85 => absurd hj85 (by decide)) (fun _ => ?_)
  refine lv_iload_n hx hb dM_count_10 rfl (lv_at hl 1 rfl) ?_
  refine lv_lload_n hx hb dM_count_11 rfl (lv_at hl 2 rfl) ?_
  refine lv_iload_n hx hb dM_count_12 rfl (lv_at hl 0 rfl) ?_
  refine lv_lshr (v := 0) hx hb dM_count_13 (by decide +kernel) ?_
  refine lv_lconst (v := 1) hx hb dM_count_14 (by decide) ?_
  refine lv_land hx hb dM_count_15 ?_
  refine lv_topl (fun y9 e9 => ?_)
  cases (show y9 = 0 from e9.trans (by decide))
  refine lv_lconst (v := 1) hx hb dM_count_16 (by decide) ?_
  refine W.lcmp hx hb dM_count_17 ?_
  refine lv_topi (fun y9 e9 => ?_)
  cases (show y9 = (-1) from e9.trans (by decide))
  refine lv_if_ne (tgt := 25) hx hb dM_count_18 rfl (fun _ => ?_) (fun hj86 => absurd hj86 (by decide))
  refine lv_iconst (v := 0) hx hb dM_count_25 (by decide) ?_
  refine lv_iadd hx hb dM_count_26 ?_
  refine lv_topi (fun y9 e9 => ?_)
  cases (show y9 = 0 from e9.trans (by decide))
  refine lv_istore_n hx hb dM_count_27 rfl hl (by decide) rfl (fun ls hl => ?_)
  have hl : lv_has ls 4 [(2, .int 0), (3, .int 42), (0, .long 0)] := hl
  refine lv_iinc (k := 1) (v := 43) hx hb dM_count_28 hl rfl (by decide) (by decide) rfl (fun ls hl => ?_)
  have hl : lv_has ls 4 [(3, .int 43), (2, .int 0), (0, .long 0)] := hl
  refine lv_goto (tgt := 4) hx hb dM_count_31 rfl ?_
  refine lv_iload_n hx hb dM_count_4 rfl (lv_at hl 0 rfl) ?_
  refine lv_bipush (v := 64) hx hb dM_count_5 (by decide) ?_
  refine lv_icmp_ge (tgt := 34) hx hb dM_count_7 rfl (fun hj87 => absurd hj87 (by decide)) (fun _ => ?_)
  refine lv_iload_n hx hb dM_count_10 rfl (lv_at hl 1 rfl) ?_
  refine lv_lload_n hx hb dM_count_11 rfl (lv_at hl 2 rfl) ?_
  refine lv_iload_n hx hb dM_count_12 rfl (lv_at hl 0 rfl) ?_
  refine lv_lshr (v := 0) hx hb dM_count_13 (by decide +kernel) ?_
  refine lv_lconst (v := 1) hx hb dM_count_14 (by decide) ?_
  refine lv_land hx hb dM_count_15 ?_
  refine lv_topl (fun y9 e9 => ?_)
  cases (show y9 = 0 from e9.trans (by decide))
  refine lv_lconst (v := 1) hx hb dM_count_16 (by decide) ?_
  refine W.lcmp hx hb dM_count_17 ?_
  refine lv_topi (fun y9 e9 => ?_)
  cases (show y9 = (-1) from e9.trans (by decide))
  refine lv_if_ne (tgt := 25) hx hb dM_count_18 rfl (fun _ => ?_) (fun hj88 => absurd hj88 (by decide))
  refine lv_iconst (v := 0) hx hb dM_count_25 (by decide) ?_
  refine lv_iadd hx hb dM_count_26 ?_
  refine lv_topi (fun y9 e9 => ?_)
  cases (show y9 = 0 from e9.trans (by decide))
  refine lv_istore_n hx hb dM_count_27 rfl hl (by decide) rfl (fun ls hl => ?_)
  have hl : lv_has ls 4 [(2, .int 0), (3, .int 43), (0, .long 0)] := hl
  refine lv_iinc (k := 1) (v := 44) hx hb dM_count_28 hl rfl (by decide) (by decide) rfl (fun ls hl => ?_)
  have hl : lv_has ls 4 [(3, .int 44), (2, .int 0), (0, .long 0)] := hl
  refine lv_goto (tgt := 4) hx hb dM_count_31 rfl ?_
  refine lv_iload_n hx hb dM_count_4 rfl (lv_at hl 0 rfl) ?_
  refine lv_bipush (v := 64) hx hb dM_count_5 (by decide) ?_
  refine lv_icmp_ge (tgt := 34) hx hb dM_count_7 rfl (fun hj89 => absurd hj89 (by decide)) (fun _ => ?_)
  refine lv_iload_n hx hb dM_count_10 rfl (lv_at hl 1 rfl) ?_
  refine lv_lload_n hx hb dM_count_11 rfl (lv_at hl 2 rfl) ?_
  refine lv_iload_n hx hb dM_count_12 rfl (lv_at hl 0 rfl) ?_
  refine lv_lshr (v := 0) hx hb dM_count_13 (by decide +kernel) ?_
  refine lv_lconst (v := 1) hx hb dM_count_14 (by decide) ?_
  refine lv_land hx hb dM_count_15 ?_
  refine lv_topl (fun y9 e9 => ?_)
  cases (show y9 = 0 from e9.trans (by decide))
  refine lv_lconst (v := 1) hx hb dM_count_16 (by decide) ?_
  refine W.lcmp hx hb dM_count_17 ?_
  refine lv_topi (fun y9 e9 => ?_)
  cases (show y9 = (-1) from e9.trans (by decide))
  refine lv_if_ne (tgt := 25) hx hb dM_count_18 rfl (fun _ => ?_) (fun hj90 => absurd hj90 (by decide))
  refine lv_iconst (v := 0) hx hb dM_count_25 (by decide) ?_
  refine lv_iadd hx hb dM_count_26 ?_
  refine lv_topi (fun y9 e9 => ?_)
  cases (show y9 = 0 from e9.trans (by decide))
  refine lv_istore_n hx hb dM_count_27 rfl hl (by decide) rfl (fun ls hl => ?_)
  have hl : lv_has ls 4 [(2, .int 0), (3, .int 44), (0, .long 0)] := hl
  refine lv_iinc (k := 1) (v := 45) hx hb dM_count_28 hl rfl (by decide) (by decide) rfl (fun ls hl => ?_)
  have hl : lv_has ls 4 [(3, .int 45), (2, .int 0), (0, .long 0)] := hl
  refine lv_goto (tgt := 4) hx hb dM_count_31 rfl ?_
  refine lv_iload_n hx hb dM_count_4 rfl (lv_at hl 0 rfl) ?_
  refine lv_bipush (v := 64) hx hb dM_count_5 (by decide) ?_
  refine lv_icmp_ge (tgt := 34) hx hb dM_count_7 rfl (fun hj91 => absurd hj91 (by decide)) (fun _ => ?_)
  refine lv_iload_n hx hb dM_count_10 rfl (lv_at hl 1 rfl) ?_
  refine lv_lload_n hx hb dM_count_11 rfl (lv_at hl 2 rfl) ?_
  refine lv_iload_n hx hb dM_count_12 rfl (lv_at hl 0 rfl) ?_
  refine lv_lshr (v := 0) hx hb dM_count_13 (by decide +kernel) ?_
  refine lv_lconst (v := 1) hx hb dM_count_14 (by decide) ?_
  refine lv_land hx hb dM_count_15 ?_
  refine lv_topl (fun y9 e9 => ?_)
  cases (show y9 = 0 from e9.trans (by decide))
  refine lv_lconst (v := 1) hx hb dM_count_16 (by decide) ?_
  refine W.lcmp hx hb dM_count_17 ?_
  refine lv_topi (fun y9 e9 => ?_)
  cases (show y9 = (-1) from e9.trans (by decide))
  refine lv_if_ne (tgt := 25) hx hb dM_count_18 rfl (fun _ => ?_) (fun hj92 => absurd hj92 (by decide))
  refine lv_iconst (v := 0) hx hb dM_count_25 (by decide) ?_
  refine lv_iadd hx hb dM_count_26 ?_
  refine lv_topi (fun y9 e9 => ?_)
  cases (show y9 = 0 from e9.trans (by decide))
  refine lv_istore_n hx hb dM_count_27 rfl hl (by decide) rfl (fun ls hl => ?_)
  have hl : lv_has ls 4 [(2, .int 0), (3, .int 45), (0, .long 0)] := hl
  refine lv_iinc (k := 1) (v := 46) hx hb dM_count_28 hl rfl (by decide) (by decide) rfl (fun ls hl => ?_)
  have hl : lv_has ls 4 [(3, .int 46), (2, .int 0), (0, .long 0)] := hl
  refine lv_goto (tgt := 4) hx hb dM_count_31 rfl ?_
  refine lv_iload_n hx hb dM_count_4 rfl (lv_at hl 0 rfl) ?_
  refine lv_bipush (v := 64) hx hb dM_count_5 (by decide) ?_
  refine lv_icmp_ge (tgt := 34) hx hb dM_count_7 rfl (fun hj93 => absurd hj93 (by decide)) (fun _ => ?_)
  refine lv_iload_n hx hb dM_count_10 rfl (lv_at hl 1 rfl) ?_
  refine lv_lload_n hx hb dM_count_11 rfl (lv_at hl 2 rfl) ?_
  refine lv_iload_n hx hb dM_count_12 rfl (lv_at hl 0 rfl) ?_
  refine lv_lshr (v := 0) hx hb dM_count_13 (by decide +kernel) ?_
  refine lv_lconst (v := 1) hx hb dM_count_14 (by decide) ?_
  refine lv_land hx hb dM_count_15 ?_
  refine lv_topl (fun y9 e9 => ?_)
  cases (show y9 = 0 from e9.trans (by decide))
  refine lv_lconst (v := 1) hx hb dM_count_16 (by decide) ?_
  refine W.lcmp hx hb dM_count_17 ?_
  refine lv_topi (fun y9 e9 => ?_)
  cases (show y9 = (-1) from e9.trans (by decide))
  refine lv_if_ne (tgt := 25) hx hb dM_count_18 rfl (fun _ => ?_) (fun hj94 => absurd hj94 (by decide))
  refine lv_iconst (v := 0) hx hb dM_count_25 (by decide) ?_
  refine lv_iadd hx hb dM_count_26 ?_
  refine lv_topi (fun y9 e9 => ?_)
  cases (show y9 = 0 from e9.trans (by decide))
  refine lv_istore_n hx hb dM_count_27 rfl hl (by decide) rfl (fun ls hl => ?_)
  have hl : lv_has ls 4 [(2, .int 0), (3, .int 46), (0, .long 0)] := hl
  refine lv_iinc (k := 1) (v := 47) hx hb dM_count_28 hl rfl (by decide) (by decide) rfl (fun ls hl => ?_)
  have hl : lv_has ls 4 [(3, .int 47), (2, .int 0), (0, .long 0)] := hl
  refine lv_goto (tgt := 4) hx hb dM_count_31 rfl ?_
  refine lv_iload_n hx hb dM_count_4 rfl (lv_at hl 0 rfl) ?_
  refine lv_bipush (v := 64) hx hb dM_count_5 (by decide) ?_
  refine lv_icmp_ge (tgt := 34) hx hb dM_count_7 rfl (fun hj95 => absurd hj95 (by decide)) (fun _ => ?_)
  refine lv_iload_n hx hb dM_count_10 rfl (lv_at hl 1 rfl) ?_
  refine lv_lload_n hx hb dM_count_11 rfl (lv_at hl 2 rfl) ?_
  refine lv_iload_n hx hb dM_count_12 rfl (lv_at hl 0 rfl) ?_
  refine lv_lshr (v := 0) hx hb dM_count_13 (by decide +kernel) ?_
  refine lv_lconst (v := 1) hx hb dM_count_14 (by decide) ?_
  refine lv_land hx hb dM_count_15 ?_
  refine lv_topl (fun y9 e9 => ?_)
  cases (show y9 = 0 from e9.trans (by decide))
  refine lv_lconst (v := 1) hx hb dM_count_16 (by decide) ?_
  refine W.lcmp hx hb dM_count_17 ?_
  refine lv_topi (fun y9 e9 => ?_)
  cases (show y9 = (-1) from e9.trans (by decide))
  refine lv_if_ne (tgt := 25) hx hb dM_count_18 rfl (fun _ => ?_) (fun hj96 => absurd hj96 (by decide))
  refine lv_iconst (v := 0) hx hb dM_count_25 (by decide) ?_
  refine lv_iadd hx hb dM_count_26 ?_
  refine lv_topi (fun y9 e9 => ?_)
  cases (show y9 = 0 from e9.trans (by decide))
  refine lv_istore_n hx hb dM_count_27 rfl hl (by decide) rfl (fun ls hl => ?_)
  have hl : lv_has ls 4 [(2, .int 0), (3, .int 47), (0, .long 0)] := hl
  refine lv_iinc (k := 1) (v := 48) hx hb dM_count_28 hl rfl (by decide) (by decide) rfl (fun ls hl => ?_)
  have hl : lv_has ls 4 [(3, .int 48), (2, .int 0), (0, .long 0)] := hl
  refine lv_goto (tgt := 4) hx hb dM_count_31 rfl ?_
  refine lv_iload_n hx hb dM_count_4 rfl (lv_at hl 0 rfl) ?_
  refine lv_bipush (v := 64) hx hb dM_count_5 (by decide) ?_
  refine lv_icmp_ge (tgt := 34) hx hb dM_count_7 rfl (fun hj97 => absurd hj97 (by decide)) (fun _ => ?_)
  refine lv_iload_n hx hb dM_count_10 rfl (lv_at hl 1 rfl) ?_
  refine lv_lload_n hx hb dM_count_11 rfl (lv_at hl 2 rfl) ?_
  refine lv_iload_n hx hb dM_count_12 rfl (lv_at hl 0 rfl) ?_
  refine lv_lshr (v := 0) hx hb dM_count_13 (by decide +kernel) ?_
  refine lv_lconst (v := 1) hx hb dM_count_14 (by decide) ?_
  refine lv_land hx hb dM_count_15 ?_
  refine lv_topl (fun y9 e9 => ?_)
  cases (show y9 = 0 from e9.trans (by decide))
  refine lv_lconst (v := 1) hx hb dM_count_16 (by decide) ?_
  refine W.lcmp hx hb dM_count_17 ?_
  refine lv_topi (fun y9 e9 => ?_)
  cases (show y9 = (-1) from e9.trans (by decide))
  refine lv_if_ne (tgt := 25) hx hb dM_count_18 rfl (fun _ => ?_) (fun hj98 => absurd hj98 (by decide))
  refine lv_iconst (v := 0) hx hb dM_count_25 (by decide) ?_
  refine lv_iadd hx hb dM_count_26 ?_
  refine lv_topi (fun y9 e9 => ?_)
  cases (show y9 = 0 from e9.trans (by decide))
  refine lv_istore_n hx hb dM_count_27 rfl hl (by decide) rfl (fun ls hl => ?_)
  have hl : lv_has ls 4 [(2, .int 0), (3, .int 48), (0, .long 0)] := hl
  refine lv_iinc (k := 1) (v := 49) hx hb dM_count_28 hl rfl (by decide) (by decide) rfl (fun ls hl => ?_)
  have hl : lv_has ls 4 [(3, .int 49), (2, .int 0), (0, .long 0)] := hl
  refine lv_goto (tgt := 4) hx hb dM_count_31 rfl ?_
  refine lv_iload_n hx hb dM_count_4 rfl (lv_at hl 0 rfl) ?_
  refine lv_bipush (v := 64) hx hb dM_count_5 (by decide) ?_
  refine lv_icmp_ge (tgt := 34) hx hb dM_count_7 rfl (fun hj99 => absurd hj99 (by decide)) (fun _ => ?_)
  refine lv_iload_n hx hb dM_count_10 rfl (lv_at hl 1 rfl) ?_
  refine lv_lload_n hx hb dM_count_11 rfl (lv_at hl 2 rfl) ?_
  refine lv_iload_n hx hb dM_count_12 rfl (lv_at hl 0 rfl) ?_
  refine lv_lshr (v := 0) hx hb dM_count_13 (by decide +kernel) ?_
  refine lv_lconst (v := 1) hx hb dM_count_14 (by decide) ?_
  refine lv_land hx hb dM_count_15 ?_
  refine lv_topl (fun y9 e9 => ?_)
  cases (show y9 = 0 from e9.trans (by decide))
  refine lv_lconst (v := 1) hx hb dM_count_16 (by decide) ?_
  refine W.lcmp hx hb dM_count_17 ?_
  refine lv_topi (fun y9 e9 => ?_)
  cases (show y9 = (-1) from e9.trans (by decide))
  refine lv_if_ne (tgt := 25) hx hb dM_count_18 rfl (fun _ => ?_) (fun hj100 => absurd hj100 (by decide))
  refine lv_iconst (v := 0) hx hb dM_count_25 (by decide) ?_
  refine lv_iadd hx hb dM_count_26 ?_
  refine lv_topi (fun y9 e9 => ?_)
  cases (show y9 = 0 from e9.trans (by decide))
  refine lv_istore_n hx hb dM_count_27 rfl hl (by decide) rfl (fun ls hl => ?_)
  have hl : lv_has ls 4 [(2, .int 0), (3, .int 49), (0, .long 0)] := hl
  refine lv_iinc (k := 1) (v := 50) hx hb dM_count_28 hl rfl (by decide) (by decide) rfl (fun ls hl => ?_)
  have hl : lv_has ls 4 [(3, .int 50), (2, .int 0), (0, .long 0)] := hl
  refine lv_goto (tgt := 4) hx hb dM_count_31 rfl ?_
  refine lv_iload_n hx hb dM_count_4 rfl (lv_at hl 0 rfl) ?_
  refine lv_bipush (v := 64) hx hb dM_count_5 (by decide) ?_
  refine lv_icmp_ge (tgt := 34) hx hb dM_count_7 rfl (fun hj101 => absurd hj101 (by decide)) (fun _ => ?_)
  refine lv_iload_n hx hb dM_count_10 rfl (lv_at hl 1 rfl) ?_
  refine lv_lload_n hx hb dM_count_11 rfl (lv_at hl 2 rfl) ?_
  refine lv_iload_n hx hb dM_count_12 rfl (lv_at hl 0 rfl) ?_
  refine lv_lshr (v := 0) hx hb dM_count_13 (by decide +kernel) ?_
  refine lv_lconst (v := 1) hx hb dM_count_14 (by decide) ?_
  refine lv_land hx hb dM_count_15 ?_
  refine lv_topl (fun y9 e9 => ?_)
  cases (show y9 = 0 from e9.trans (by decide))
  refine lv_lconst (v := 1) hx hb dM_count_16 (by decide) ?_
  refine W.lcmp hx hb dM_count_17 ?_
  refine lv_topi (fun y9 e9 => ?_)
  cases (show y9 = (-1) from e9.trans (by decide))
  refine lv_if_ne (tgt := 25) hx hb dM_count_18 rfl (fun _ => ?_) (fun hj102 => absurd hj102 (by decide))
  refine lv_iconst (v := 0) hx hb dM_count_25 (by decide) ?_
  refine lv_iadd hx hb dM_count_26 ?_
  refine lv_topi (fun y9 e9 => ?_)
  cases (show y9 = 0 from e9.trans (by decide))
  refine lv_istore_n hx hb dM_count_27 rfl hl (by decide) rfl (fun ls hl => ?_)
  have hl : lv_has ls 4 [(2, .int 0), (3, .int 50), (0, .long 0)] := hl
  refine lv_iinc (k := 1) (v := 51) hx hb dM_count_28 hl rfl (by decide) (by decide) rfl (fun ls hl => ?_)
  have hl : lv_has ls 4 [(3, .int 51), (2, .int 0), (0, .long 0)] := hl
  refine lv_goto (tgt := 4) hx hb dM_count_31 rfl ?_
  refine lv_iload_n hx hb dM_count_4 rfl (lv_at hl 0 rfl) ?_
  refine lv_bipush (v := 64) hx hb dM_count_5 (by decide) ?_
  refine lv_icmp_ge (tgt := 34) hx hb dM_count_7 rfl (fun hj103 => absurd hj103 (by decide)) (fun _ => ?_)
  refine lv_iload_n hx hb dM_count_10 rfl (lv_at hl 1 rfl) ?_
  refine lv_lload_n hx hb dM_count_11 rfl (lv_at hl 2 rfl) ?_
  refine lv_iload_n hx hb dM_count_12 rfl (lv_at hl 0 rfl) ?_
  refine lv_lshr (v := 0) hx hb dM_count_13 (by decide +kernel) ?_
  refine lv_lconst (v := 1) hx hb dM_count_14 (by decide) ?_
  refine lv_land hx hb dM_count_15 ?_
  refine lv_topl (fun y9 e9 => ?_)
  cases (show y9 = 0 from e9.trans (by decide))
  refine lv_lconst (v := 1) hx hb dM_count_16 (by decide) ?_
  refine W.lcmp hx hb dM_count_17 ?_
  refine lv_topi (fun y9 e9 => ?_)
  cases (show y9 = (-1) from e9.trans (by decide))
  refine lv_if_ne (tgt := 25) hx hb dM_count_18 rfl (fun _ => ?_) (fun hj104 => absurd hj104 (by decide))
  refine lv_iconst (v := 0) hx hb dM_count_25 (by decide) ?_
  refine lv_iadd hx hb dM_count_26 ?_
  refine lv_topi (fun y9 e9 => ?_)
  cases (show y9 = 0 from e9.trans (by decide))
  refine lv_istore_n hx hb dM_count_27 rfl hl (by decide) rfl (fun ls hl => ?_)
  have hl : lv_has ls 4 [(2, .int 0), (3, .int 51), (0, .long 0)] := hl
  refine lv_iinc (k := 1) (v := 52) hx hb dM_count_28 hl rfl (by decide) (by decide) rfl (fun ls hl => ?_)
  have hl : lv_has ls 4 [(3, .int 52), (2, .int 0), (0, .long 0)] := hl
  refine lv_goto (tgt := 4) hx hb dM_count_31 rfl ?_
  refine lv_iload_n hx hb dM_count_4 rfl (lv_at hl 0 rfl) ?_
  refine lv_bipush (v := 64) hx hb dM_count_5 (by decide) ?_
  refine lv_icmp_ge (tgt := 34) hx hb dM_count_7 rfl (fun hj105 => absurd hj105 (by decide)) (fun _ => ?_)
  refine lv_iload_n hx hb dM_count_10 rfl (lv_at hl 1 rfl) ?_
  refine lv_lload_n hx hb dM_count_11 rfl (lv_at hl 2 rfl) ?_
  refine lv_iload_n hx hb dM_count_12 rfl (lv_at hl 0 rfl) ?_
  refine lv_lshr (v := 0) hx hb dM_count_13 (by decide +kernel) ?_
  refine lv_lconst (v := 1) hx hb dM_count_14 (by decide) ?_
  refine lv_land hx hb dM_count_15 ?_
  refine lv_topl (fun y9 e9 => ?_)
  cases (show y9 = 0 from e9.trans (by decide))
  refine lv_lconst (v := 1) hx hb dM_count_16 (by decide) ?_
  refine W.lcmp hx hb dM_count_17 ?_
  refine lv_topi (fun y9 e9 => ?_)
  cases (show y9 = (-1) from e9.trans (by decide))
  refine lv_if_ne (tgt := 25) hx hb dM_count_18 rfl (fun _ => ?_) (fun hj106 => absurd hj106 (by decide))
  refine lv_iconst (v := 0) hx hb dM_count_25 (by decide) ?_
  refine lv_iadd hx hb dM_count_26 ?_
  refine lv_topi (fun y9 e9 => ?_)
  cases (show y9 = 0 from e9.trans (by decide))
  refine lv_istore_n hx hb dM_count_27 rfl hl (by decide) rfl (fun ls hl => ?_)
  have hl : lv_has ls 4 [(2, .int 0), (3, .int 52), (0, .long 0)] := hl
  refine lv_iinc (k := 1) (v := 53) hx hb dM_count_28 hl rfl (by decide) (by decide) rfl (fun ls hl => ?_)
  have hl : lv_has ls 4 [(3, .int 53), (2, .int 0), (0, .long 0)] := hl
  refine lv_goto (tgt := 4) hx hb dM_count_31 rfl ?_
  refine lv_iload_n hx hb dM_count_4 rfl (lv_at hl 0 rfl) ?_
  refine lv_bipush (v := 64) hx hb dM_count_5 (by decide) ?_
  refine lv_icmp_ge (tgt := 34) hx hb dM_count_7 rfl (fun hj107 => absurd hj107 (by decide)) (fun _ => ?_)
  refine lv_iload_n hx hb dM_count_10 rfl (lv_at hl 1 rfl) ?_
  refine lv_lload_n hx hb dM_count_11 rfl (lv_at hl 2 rfl) ?_
  refine lv_iload_n hx hb dM_count_12 rfl (lv_at hl 0 rfl) ?_
  refine lv_lshr (v := 0) hx hb dM_count_13 (by decide +kernel) ?_
  refine lv_lconst (v := 1) hx hb dM_count_14 (by decide) ?_
  refine lv_land hx hb dM_count_15 ?_
  refine lv_topl (fun y9 e9 => ?_)
  cases (show y9 = 0 from e9.trans (by decide))
  refine lv_lconst (v := 1) hx hb dM_count_16 (by decide) ?_
  refine W.lcmp hx hb dM_count_17 ?_
  refine lv_topi (fun y9 e9 => ?_)
  cases (show y9 = (-1) from e9.trans (by decide))
  refine lv_if_ne (tgt := 25) hx hb dM_count_18 rfl (fun _ => ?_) (fun hj108 => absurd hj108 (by decide))
  refine lv_iconst (v := 0) hx hb dM_count_25 (by decide) ?_
  refine lv_iadd hx hb dM_count_26 ?_
  refine lv_topi (fun y9 e9 => ?_)
  cases (show y9 = 0 from e9.trans (by decide))
  refine lv_istore_n hx hb dM_count_27 rfl hl (by decide) rfl (fun ls hl => ?_)
  have hl : lv_has ls 4 [(2, .int 0), (3, .int 53), (0, .long 0)] := hl
  refine lv_iinc (k := 1) (v := 54) hx hb dM_count_28 hl rfl (by decide) (by decide) rfl (fun ls hl => ?_)
  have hl : lv_has ls 4 [(3, .int 54), (2, .int 0), (0, .long 0)] := hl
  refine lv_goto (tgt := 4) hx hb dM_count_31 rfl ?_
  refine lv_iload_n hx hb dM_count_4 rfl (lv_at hl 0 rfl) ?_
  refine lv_bipush (v := 64) hx hb dM_count_5 (by decide) ?_
  refine lv_icmp_ge (tgt := 34) hx hb dM_count_7 rfl (fun hj109 => absurd hj109 (by decide)) (fun _ => ?_)
  refine lv_iload_n hx hb dM_count_10 rfl (lv_at hl 1 rfl) ?_
  refine lv_lload_n hx hb dM_count_11 rfl (lv_at hl 2 rfl) ?_
  refine lv_iload_n hx hb dM_count_12 rfl (lv_at hl 0 rfl) ?_
  refine lv_lshr (v := 0) hx hb dM_count_13 (by decide +kernel) ?_
  refine lv_lconst (v := 1) hx hb dM_count_14 (by decide) ?_
  refine lv_land hx hb dM_count_15 ?_
  refine lv_topl (fun y9 e9 => ?_)
  cases (show y9 = 0 from e9.trans (by decide))
  refine lv_lconst (v := 1) hx hb dM_count_16 (by decide) ?_
  refine W.lcmp hx hb dM_count_17 ?_
  refine lv_topi (fun y9 e9 => ?_)
  cases (show y9 = (-1) from e9.trans (by decide))
  refine lv_if_ne (tgt := 25) hx hb dM_count_18 rfl (fun _ => ?_) (fun hj110 => absurd hj110 (by decide))
  refine lv_iconst (v := 0) hx hb dM_count_25 (by decide) ?_
  refine lv_iadd hx hb dM_count_26 ?_
  refine lv_topi (fun y9 e9 => ?_)
  cases (show y9 = 0 from e9.trans (by decide))
  refine lv_istore_n hx hb dM_count_27 rfl hl (by decide) rfl (fun ls hl => ?_)
  have hl : lv_has ls 4 [(2, .int 0), (3, .int 54), (0, .long 0)] := hl
  refine lv_iinc (k := 1) (v := 55) hx hb dM_count_28 hl rfl (by decide) (by decide) rfl (fun ls hl => ?_)
  have hl : lv_has ls 4 [(3, .int 55), (2, .int 0), (0, .long 0)] := hl
  refine lv_goto (tgt := 4) hx hb dM_count_31 rfl ?_
  refine lv_iload_n hx hb dM_count_4 rfl (lv_at hl 0 rfl) ?_
  refine lv_bipush (v := 64) hx hb dM_count_5 (by decide) ?_
  refine lv_icmp_ge (tgt := 34) hx hb dM_count_7 rfl (fun hj111 => absurd hj111 (by decide)) (fun _ => ?_)
  refine lv_iload_n hx hb dM_count_10 rfl (lv_at hl 1 rfl) ?_
  refine lv_lload_n hx hb dM_count_11 rfl (lv_at hl 2 rfl) ?_
  refine lv_iload_n hx hb dM_count_12 rfl (lv_at hl 0 rfl) ?_
  refine lv_lshr (v := 0) hx hb dM_count_13 (by decide +kernel) ?_
  refine lv_lconst (v := 1) hx hb dM_count_14 (by decide) ?_
  refine lv_land hx hb dM_count_15 ?_
  refine lv_topl (fun y9 e9 => ?_)
  cases (show y9 = 0 from e9.trans (by decide))
  refine lv_lconst (v := 1) hx hb dM_count_16 (by decide) ?_
  refine W.lcmp hx hb dM_count_17 ?_
  refine lv_topi (fun y9 e9 => ?_)
  cases (show y9 = (-1) from e9.trans (by decide))
  refine lv_if_ne (tgt := 25) hx hb dM_count_18 rfl (fun _ => ?_) (fun hj112 => absurd hj112 (by decide))
  refine lv_iconst (v := 0) hx hb dM_count_25 (by decide) ?_
  refine lv_iadd hx hb dM_count_26 ?_
  refine lv_topi (fun y9 e9 => ?_)
  cases (show y9 = 0 from e9.trans (by decide))
  refine lv_istore_n hx hb dM_count_27 rfl hl (by decide) rfl (fun ls hl => ?_)
  have hl : lv_has ls 4 [(2, .int 0), (3, .int 55), (0, .long 0)] := hl
  refine lv_iinc (k := 1) (v := 56) hx hb dM_count_28 hl rfl (by decide) (by decide) rfl (fun ls hl => ?_)
  have hl : lv_has ls 4 [(3, .int 56), (2, .int 0), (0, .long 0)] := hl
  refine lv_goto (tgt := 4) hx hb dM_count_31 rfl ?_
  refine lv_iload_n hx hb dM_count_4 rfl (lv_at hl 0 rfl) ?_
  refine lv_bipush (v := 64) hx hb dM_count_5 (by decide) ?_
  refine lv_icmp_ge (tgt := 34) hx hb dM_count_7 rfl (fun hj113 => absurd hj113 (by decide)) (fun _ => ?_)
  refine lv_iload_n hx hb dM_count_10 rfl (lv_at hl 1 rfl) ?_
  refine lv_lload_n hx hb dM_count_11 rfl (lv_at hl 2 rfl) ?_
  refine lv_iload_n hx hb dM_count_12 rfl (lv_at hl 0 rfl) ?_
  refine lv_lshr (v := 0) hx hb dM_count_13 (by decide +kernel) ?_
  refine lv_lconst (v := 1) hx hb dM_count_14 (by decide) ?_
  refine lv_land hx hb dM_count_15 ?_
  refine lv_topl (fun y9 e9 => ?_)
  cases (show y9 = 0 from e9.trans (by decide))
  refine lv_lconst (v := 1) hx hb dM_count_16 (by decide) ?_
  refine W.lcmp hx hb dM_count_17 ?_
  refine lv_topi (fun y9 e9 => ?_)
  cases (show y9 = (-1) from e9.trans (by decide))
  refine lv_if_ne (tgt := 25) hx hb dM_count_18 rfl (fun _ => ?_) (fun hj114 => absurd hj114 (by decide))
  refine lv_iconst (v := 0) hx hb dM_count_25 (by decide) ?_
  refine lv_iadd hx hb dM_count_26 ?_
  refine lv_topi (fun y9 e9 => ?_)
  cases (show y9 = 0 from e9.trans (by decide))
  refine lv_istore_n hx hb dM_count_27 rfl hl (by decide) rfl (fun ls hl => ?_)
  have hl : lv_has ls 4 [(2, .int 0), (3, .int 56), (0, .long 0)] := hl
  refine lv_iinc (k := 1) (v := 57) hx hb dM_count_28 hl rfl (by decide) (by decide) rfl (fun ls hl => ?_)
  have hl : lv_has ls 4 [(3, .int 57), (2, .int 0), (0, .long 0)] := hl
  refine lv_goto (tgt := 4) hx hb dM_count_31 rfl ?_
  refine lv_iload_n hx hb dM_count_4 rfl (lv_at hl 0 rfl) ?_
  refine lv_bipush (v := 64) hx hb dM_count_5 (by decide) ?_
  refine lv_icmp_ge (tgt := 34) hx hb dM_count_7 rfl (fun hj115 => absurd hj115 (by decide)) (fun _ => ?_)
  refine lv_iload_n hx hb dM_count_10 rfl (lv_at hl 1 rfl) ?_
  refine lv_lload_n hx hb dM_count_11 rfl (lv_at hl 2 rfl) ?_
  refine lv_iload_n hx hb dM_count_12 rfl (lv_at hl 0 rfl) ?_
  refine lv_lshr (v := 0) hx hb dM_count_13 (by decide +kernel) ?_
  refine lv_lconst (v := 1) hx hb dM_count_14 (by decide) ?_
  refine lv_land hx hb dM_count_15 ?_
  refine lv_topl (fun y9 e9 => ?_)
  cases (show y9 = 0 from e9.trans (by decide))
  refine lv_lconst (v := 1) hx hb dM_count_16 (by decide) ?_
  refine W.lcmp hx hb dM_count_17 ?_
  refine lv_topi (fun y9 e9 => ?_)
  cases (show y9 = (-1) from e9.trans (by decide))
  refine lv_if_ne (tgt := 25) hx hb dM_count_18 rfl (fun _ => ?_) (fun hj116 => absurd hj116 (by decide))
  refine lv_iconst (v := 0) hx hb dM_count_25 (by decide) ?_
  refine lv_iadd hx hb dM_count_26 ?_
  refine lv_topi (fun y9 e9 => ?_)
  cases (show y9 = 0 from e9.trans (by decide))
  refine lv_istore_n hx hb dM_count_27 rfl hl (by decide) rfl (fun ls hl => ?_)
  have hl : lv_has ls 4 [(2, .int 0), (3, .int 57), (0, .long 0)] := hl
  refine lv_iinc (k := 1) (v := 58) hx hb dM_count_28 hl rfl (by decide) (by decide) rfl (fun ls hl => ?_)
  have hl : lv_has ls 4 [(3, .int 58), (2, .int 0), (0, .long 0)] := hl
  refine lv_goto (tgt := 4) hx hb dM_count_31 rfl ?_
  refine lv_iload_n hx hb dM_count_4 rfl (lv_at hl 0 rfl) ?_
  refine lv_bipush (v := 64) hx hb dM_count_5 (by decide) ?_
  refine lv_icmp_ge (tgt := 34) hx hb dM_count_7 rfl (fun hj117 => absurd hj117 (by decide)) (fun _ => ?_)
  refine lv_iload_n hx hb dM_count_10 rfl (lv_at hl 1 rfl) ?_
  refine lv_lload_n hx hb dM_count_11 rfl (lv_at hl 2 rfl) ?_
  refine lv_iload_n hx hb dM_count_12 rfl (lv_at hl 0 rfl) ?_
  refine lv_lshr (v := 0) hx hb dM_count_13 (by decide +kernel) ?_
  refine lv_lconst (v := 1) hx hb dM_count_14 (by decide) ?_
  refine lv_land hx hb dM_count_15 ?_
  refine lv_topl (fun y9 e9 => ?_)
  cases (show y9 = 0 from e9.trans (by decide))
  refine lv_lconst (v := 1) hx hb dM_count_16 (by decide) ?_
  refine W.lcmp hx hb dM_count_17 ?_
  refine lv_topi (fun y9 e9 => ?_)
  cases (show y9 = (-1) from e9.trans (by decide))
  refine lv_if_ne (tgt := 25) hx hb dM_count_18 rfl (fun _ => ?_) (fun hj118 => absurd hj118 (by decide))
  refine lv_iconst (v := 0) hx hb dM_count_25 (by decide) ?_
  refine lv_iadd hx hb dM_count_26 ?_
  refine lv_topi (fun y9 e9 => ?_)
  cases (show y9 = 0 from e9.trans (by decide))
  refine lv_istore_n hx hb dM_count_27 rfl hl (by decide) rfl (fun ls hl => ?_)
  have hl : lv_has ls 4 [(2, .int 0), (3, .int 58), (0, .long 0)] := hl
  refine lv_iinc (k := 1) (v := 59) hx hb dM_count_28 hl rfl (by decide) (by decide) rfl (fun ls hl => ?_)
  have hl : lv_has ls 4 [(3, .int 59), (2, .int 0), (0, .long 0)] := hl
  refine lv_goto (tgt := 4) hx hb dM_count_31 rfl ?_
  refine lv_iload_n hx hb dM_count_4 rfl (lv_at hl 0 rfl) ?_
  refine lv_bipush (v := 64) hx hb dM_count_5 (by decide) ?_
  refine lv_icmp_ge (tgt := 34) hx hb dM_count_7 rfl (fun hj119 => absurd hj119 (by decide)) (fun _ => ?_)
  refine lv_iload_n hx hb dM_count_10 rfl (lv_at hl 1 rfl) ?_
  refine lv_lload_n hx hb dM_count_11 rfl (lv_at hl 2 rfl) ?_
  refine lv_iload_n hx hb dM_count_12 rfl (lv_at hl 0 rfl) ?_
  refine lv_lshr (v := 0) hx hb dM_count_13 (by decide +kernel) ?_
  refine lv_lconst (v := 1) hx hb dM_count_14 (by decide) ?_
  refine lv_land hx hb dM_count_15 ?_
  refine lv_topl (fun y9 e9 => ?_)
  cases (show y9 = 0 from e9.trans (by decide))
  refine lv_lconst (v := 1) hx hb dM_count_16 (by decide) ?_
  refine W.lcmp hx hb dM_count_17 ?_
  refine lv_topi (fun y9 e9 => ?_)
  cases (show y9 = (-1) from e9.trans (by decide))
  refine lv_if_ne (tgt := 25) hx hb dM_count_18 rfl (fun _ => ?_) (fun hj120 => absurd hj120 (by decide))
  refine lv_iconst (v := 0) hx hb dM_count_25 (by decide) ?_
  refine lv_iadd hx hb dM_count_26 ?_
  refine lv_topi (fun y9 e9 => ?_)
  cases (show y9 = 0 from e9.trans (by decide))
  refine lv_istore_n hx hb dM_count_27 rfl hl (by decide) rfl (fun ls hl => ?_)
  have hl : lv_has ls 4 [(2, .int 0), (3, .int 59), (0, .long 0)] := hl
  refine lv_iinc (k := 1) (v := 60) hx hb dM_count_28 hl rfl (by decide) (by decide) rfl (fun ls hl => ?_)
  have hl : lv_has ls 4 [(3, .int 60), (2, .int 0), (0, .long 0)] := hl
  refine lv_goto (tgt := 4) hx hb dM_count_31 rfl ?_
  refine lv_iload_n hx hb dM_count_4 rfl (lv_at hl 0 rfl) ?_
  refine lv_bipush (v := 64) hx hb dM_count_5 (by decide) ?_
  refine lv_icmp_ge (tgt := 34) hx hb dM_count_7 rfl (fun hj121 => absurd hj121 (by decide)) (fun _ => ?_)
  refine lv_iload_n hx hb dM_count_10 rfl (lv_at hl 1 rfl) ?_
  refine lv_lload_n hx hb dM_count_11 rfl (lv_at hl 2 rfl) ?_
  refine lv_iload_n hx hb dM_count_12 rfl (lv_at hl 0 rfl) ?_
  refine lv_lshr (v := 0) hx hb dM_count_13 (by decide +kernel) ?_
  refine lv_lconst (v := 1) hx hb dM_count_14 (by decide) ?_
  refine lv_land hx hb dM_count_15 ?_
  refine lv_topl (fun y9 e9 => ?_)
  cases (show y9 = 0 from e9.trans (by decide))
  refine lv_lconst (v := 1) hx hb dM_count_16 (by decide) ?_
  refine W.lcmp hx hb dM_count_17 ?_
  refine lv_topi (fun y9 e9 => ?_)
  cases (show y9 = (-1) from e9.trans (by decide))
  refine lv_if_ne (tgt := 25) hx hb dM_count_18 rfl (fun _ => ?_) (fun hj122 => absurd hj122 (by decide))
  refine lv_iconst (v := 0) hx hb dM_count_25 (by decide) ?_
  refine lv_iadd hx hb dM_count_26 ?_
  refine lv_topi (fun y9 e9 => ?_)
  cases (show y9 = 0 from e9.trans (by decide))
  refine lv_istore_n hx hb dM_count_27 rfl hl (by decide) rfl (fun ls hl => ?_)
  have hl : lv_has ls 4 [(2, .int 0), (3, .int 60), (0, .long 0)] := hl
  refine lv_iinc (k := 1) (v := 61) hx hb dM_count_28 hl rfl (by decide) (by decide) rfl (fun ls hl => ?_)
  have hl : lv_has ls 4 [(3, .int 61), (2, .int 0), (0, .long 0)] := hl
  refine lv_goto (tgt := 4) hx hb dM_count_31 rfl ?_
  refine lv_iload_n hx hb dM_count_4 rfl (lv_at hl 0 rfl) ?_
  refine lv_bipush (v := 64) hx hb dM_count_5 (by decide) ?_
  refine lv_icmp_ge (tgt := 34) hx hb dM_count_7 rfl (fun hj123 => absurd hj123 (by decide)) (fun _ => ?_)
  refine lv_iload_n hx hb dM_count_10 rfl (lv_at hl 1 rfl) ?_
  refine lv_lload_n hx hb dM_count_11 rfl (lv_at hl 2 rfl) ?_
  refine lv_iload_n hx hb dM_count_12 rfl (lv_at hl 0 rfl) ?_
  refine lv_lshr (v := 0) hx hb dM_count_13 (by decide +kernel) ?_
  refine lv_lconst (v := 1) hx hb dM_count_14 (by decide) ?_
  refine lv_land hx hb dM_count_15 ?_
  refine lv_topl (fun y9 e9 => ?_)
  cases (show y9 = 0 from e9.trans (by decide))
  refine lv_lconst (v := 1) hx hb dM_count_16 (by decide) ?_
  refine W.lcmp hx hb dM_count_17 ?_
  refine lv_topi (fun y9 e9 => ?_)
  cases (show y9 = (-1) from e9.trans (by decide))
  refine lv_if_ne (tgt := 25) hx hb dM_count_18 rfl (fun _ => ?_) (fun hj124 => absurd hj124 (by decide))
  refine lv_iconst (v := 0) hx hb dM_count_25 (by decide) ?_
  refine lv_iadd hx hb dM_count_26 ?_
  refine lv_topi (fun y9 e9 => ?_)
  cases (show y9 = 0 from e9.trans (by decide))
  refine lv_istore_n hx hb dM_count_27 rfl hl (by decide) rfl (fun ls hl => ?_)
  have hl : lv_has ls 4 [(2, .int 0), (3, .int 61), (0, .long 0)] := hl
  refine lv_iinc (k := 1) (v := 62) hx hb dM_count_28 hl rfl (by decide) (by decide) rfl (fun ls hl => ?_)
  have hl : lv_has ls 4 [(3, .int 62), (2, .int 0), (0, .long 0)] := hl
  refine lv_goto (tgt := 4) hx hb dM_count_31 rfl ?_
  refine lv_iload_n hx hb dM_count_4 rfl (lv_at hl 0 rfl) ?_
  refine lv_bipush (v := 64) hx hb dM_count_5 (by decide) ?_
  refine lv_icmp_ge (tgt := 34) hx hb dM_count_7 rfl (fun hj125 => absurd hj125 (by decide)) (fun _ => ?_)
  refine lv_iload_n hx hb dM_count_10 rfl (lv_at hl 1 rfl) ?_
  refine lv_lload_n hx hb dM_count_11 rfl (lv_at hl 2 rfl) ?_
  refine lv_iload_n hx hb dM_count_12 rfl (lv_at hl 0 rfl) ?_
  refine lv_lshr (v := 0) hx hb dM_count_13 (by decide +kernel) ?_
  refine lv_lconst (v := 1) hx hb dM_count_14 (by decide) ?_
  refine lv_land hx hb dM_count_15 ?_
  refine lv_topl (fun y9 e9 => ?_)
  cases (show y9 = 0 from e9.trans (by decide))
  refine lv_lconst (v := 1) hx hb dM_count_16 (by decide) ?_
  refine W.lcmp hx hb dM_count_17 ?_
  refine lv_topi (fun y9 e9 => ?_)
  cases (show y9 = (-1) from e9.trans (by decide))
  refine lv_if_ne (tgt := 25) hx hb dM_count_18 rfl (fun _ => ?_) (fun hj126 => absurd hj126 (by decide))
  refine lv_iconst (v := 0) hx hb dM_count_25 (by decide) ?_
  refine lv_iadd hx hb dM_count_26 ?_
  refine lv_topi (fun y9 e9 => ?_)
  cases (show y9 = 0 from e9.trans (by decide))
  refine lv_istore_n hx hb dM_count_27 rfl hl (by decide) rfl (fun ls hl => ?_)
  have hl : lv_has ls 4 [(2, .int 0), (3, .int 62), (0, .long 0)] := hl
  refine lv_iinc (k := 1) (v := 63) hx hb dM_count_28 hl rfl (by decide) (by decide) rfl (fun ls hl => ?_)
  have hl : lv_has ls 4 [(3, .int 63), (2, .int 0), (0, .long 0)] := hl
  refine lv_goto (tgt := 4) hx hb dM_count_31 rfl ?_
  refine lv_iload_n hx hb dM_count_4 rfl (lv_at hl 0 rfl) ?_
  refine lv_bipush (v := 64) hx hb dM_count_5 (by decide) ?_
  refine lv_icmp_ge (tgt := 34) hx hb dM_count_7 rfl (fun hj127 => absurd hj127 (by decide)) (fun _ => ?_)
  refine lv_iload_n hx hb dM_count_10 rfl (lv_at hl 1 rfl) ?_
  refine lv_lload_n hx hb dM_count_11 rfl (lv_at hl 2 rfl) ?_
  refine lv_iload_n hx hb dM_count_12 rfl (lv_at hl 0 rfl) ?_
  refine lv_lshr (v := 0) hx hb dM_count_13 (by decide +kernel) ?_
  refine lv_lconst (v := 1) hx hb dM_count_14 (by decide) ?_
  refine lv_land hx hb dM_count_15 ?_
  refine lv_topl (fun y9 e9 => ?_)
  cases (show y9 = 0 from e9.trans (by decide))
  refine lv_lconst (v := 1) hx hb dM_count_16 (by decide) ?_
  refine W.lcmp hx hb dM_count_17 ?_
  refine lv_topi (fun y9 e9 => ?_)
  cases (show y9 = (-1) from e9.trans (by decide))
  refine lv_if_ne (tgt := 25) hx hb dM_count_18 rfl (fun _ => ?_) (fun hj128 => absurd hj128 (by decide))
  refine lv_iconst (v := 0) hx hb dM_count_25 (by decide) ?_
  refine lv_iadd hx hb dM_count_26 ?_
  refine lv_topi (fun y9 e9 => ?_)
  cases (show y9 = 0 from e9.trans (by decide))
  refine lv_istore_n hx hb dM_count_27 rfl hl (by decide) rfl (fun ls hl => ?_)
  have hl : lv_has ls 4 [(2, .int 0), (3, .int 63), (0, .long 0)] := hl
  refine lv_iinc (k := 1) (v := 64) hx hb dM_count_28 hl rfl (by decide) (by decide) rfl (fun ls hl => ?_)
  have hl : lv_has ls 4 [(3, .int 64), (2, .int 0), (0, .long 0)] := hl
  refine lv_goto (tgt := 4) hx hb dM_count_31 rfl ?_
  refine lv_iload_n hx hb dM_count_4 rfl (lv_at hl 0 rfl) ?_
  refine lv_bipush (v := 64) hx hb dM_count_5 (by decide) ?_
  refine lv_icmp_ge (tgt := 34) hx hb dM_count_7 rfl (fun _ => ?_) (fun hj129 => absurd (by decide) hj129)
  refine lv_iload_n hx hb dM_count_34 rfl (lv_at hl 1 rfl) ?_
  exact W.iret (v := 0) hx hb hr (fun t ht hW => ⟨rfl, ht⟩) (fun q h => nomatch h) dM_count_35
set_option maxHeartbeats 4000000 in
set_option maxRecDepth 100000 in
theorem y_there0 (l : Launch) (D : va_G) (cT : Nat → ClassId) (y : Nat) (y0 : Nat) (y1 : Int32) (y2 : Int32) (y4 : Nat) (y5 : Nat) (y6 : Nat) (y7 : Nat) (y8 : Nat) (y9 : Nat) (y10 : Int32) (y11 : Int32) (y12 : Int32) (y13 : Int32) (y14 : Int32) (y15 : Int64) (y16 : Int32) (y17 : Int32) (y18 : Nat) (y19 : Nat) (y20 : Nat) (y21 : Nat) (y22 : Nat) (y23 : Nat) (y24 : Nat) (y25 : Nat) (y26 : Nat) (y27 : Nat) (y28 : Nat) (y29 : Nat) (y30 : Nat) (y31 : Nat) (y32 : Nat) (y33 : Nat) (y34 : Nat) (y35 : Nat) (y36 : Nat) (y37 : Nat) (y38 : Nat) (y39 : Nat) (y40 : Nat) (y41 : Nat) (y42 : Nat) (y43 : Nat) (y44 : Nat) (y45 : Nat) (y46 : Nat) (y47 : Int32) (y48 : Nat) (y49 : Nat) (y50 : Int32) (y51 : Int32) (y52 : Int32) (y53 : Int32) (y54 : Int64) (y55 : Int32) (y56 : Nat) (y57 : Nat) (y58 : Nat) (y59 : Nat) : Met l yM_there WM_there ({ frames := 0, cells := 0, slots := 0, locals := 0 } : Room) (RO D vwCl [.ref y] [(y, .inr (11, [.ref y0, .int y1, .int y2, .int 0, .ref y4, .ref y5, .ref y6, .ref y7, .ref y8, .ref y9, .int y10, .int y11, .int y12, .int y13, .int y14, .long y15, .int y16, .int y17, .ref y18, .ref y19, .ref y20, .ref y21, .ref y22, .ref y23, .ref y24, .ref y25, .ref y26, .ref y27, .ref y28, .ref y29, .ref y30, .ref y31, .ref y32, .ref y33, .ref y34, .ref y35, .ref y36, .ref y37, .ref y38, .ref y39, .ref y40, .ref y41, .ref y42, .ref y43, .ref y44, .ref y45, .ref y46, .int y47, .ref y48, .ref y49, .int y50, .int y51, .int y52, .int y53, .long y54, .int y55, .ref y56, .ref y57, .ref y58, .ref y59]))] (TY cT)) (QcReadL 0) 0 0 (fun _ => False) := by
  refine Met.ofW (cc := cM_there) (maxL := 1) (ret := (some .long)) (by decide) rfl ?_
  intro p e s m args below meth c s₁ B hml hv
  obtain ⟨rfl, hZ, hP, hK⟩ := hv
  have hx := B.exec
  have hb := B.bytes
  have hr := B.returns
  have hts := atoms_spec (ws := WM_there) B.pre
  have hT : ∀ w ∈ TB, w.before _ s = true := fun w h => hts w (List.mem_cons_of_mem _ h)
  have hown : s.vm.findClass R_M = some m.cls := findClass_of_methodNamed B.named
  have hlocks := B.notSynchronized
  have hS : va_S (fun _ => False) s.heap s.heap [] := va_S.rf
  have hl := lv_entry ([.ref y]) (n := 1) (Nat.le_of_ble_eq_true rfl)
  rw [lg_entry_eq]
  generalize (lg_sl ([.ref y]) ++ List.replicate (1 - (lg_sl ([.ref y])).length) Slot.unset).toArray = ls at hl ⊢
  have hl : lv_has ls 1 [(0, .ref y)] := hl
  refine lv_lconst (v := 1) hx hb dM_there_0 (by decide) ?_
  refine lv_aload_n hx hb dM_there_1 rfl (lv_at hl 0 rfl) ?_
  refine va_get (D := D) (ci := 11) (v := .int 0) (C := R_M) (T := T_M) (N := 60) hx hb hT in_M hown hK hP 0 rfl rfl 3 (by decide) (hT _ w1107) (fun _ h9 => h9) rfl dM_there_2 ?_
  refine lv_lshl (v := 1) hx hb dM_there_5 (by decide +kernel) ?_
  refine lv_lconst (v := 1) hx hb dM_there_6 (by decide) ?_
  refine lv_lsub hx hb dM_there_7 ?_
  refine lv_topl (fun y9 e9 => ?_)
  cases (show y9 = 0 from e9.trans (by decide))
  exact W.lret (v := 0) hx hb hr (fun t ht hW => ⟨rfl, ht⟩) (fun q h => nomatch h) dM_there_8
set_option maxHeartbeats 4000000 in
set_option maxRecDepth 100000 in
theorem y_sample (l : Launch) (D : va_G) (cT : Nat → ClassId) (y : Nat) (y0 : Nat) (y1 : Int32) (y2 : Int32) (y4 : Nat) (y5 : Nat) (y6 : Nat) (y7 : Nat) (y8 : Nat) (y9 : Nat) (y10 : Int32) (y11 : Int32) (y12 : Int32) (y13 : Int32) (y14 : Int32) (y15 : Int64) (y16 : Int32) (y17 : Int32) (y18 : Nat) (y19 : Nat) (y20 : Nat) (y21 : Nat) (y22 : Nat) (y23 : Nat) (y24 : Nat) (y25 : Nat) (y26 : Nat) (y27 : Nat) (y28 : Nat) (y29 : Nat) (y30 : Nat) (y31 : Nat) (y32 : Nat) (y33 : Nat) (y34 : Nat) (y35 : Nat) (y36 : Nat) (y37 : Nat) (y38 : Nat) (y39 : Nat) (y40 : Nat) (y41 : Nat) (y42 : Nat) (y43 : Nat) (y44 : Nat) (y45 : Nat) (y46 : Nat) (y47 : Int32) (y48 : Nat) (y49 : Nat) (y50 : Int32) (y51 : Int32) (y52 : Int32) (y53 : Int32) (y54 : Int64) (y55 : Int32) (y56 : Nat) (y57 : Nat) (y58 : Nat) (y59 : Nat) (a1 : Int64) (a2 : Int32) (sz : Nat) : Met l yM_sample WM_sample ({ frames := 1, cells := 0, slots := 0, locals := 23 } : Room) (RW D vwCl [.ref y, .long a1, .int a2] [(y, .inr (11, [.ref y0, .int y1, .int y2, .int 0, .ref y4, .ref y5, .ref y6, .ref y7, .ref y8, .ref y9, .int y10, .int y11, .int y12, .int y13, .int y14, .long y15, .int y16, .int y17, .ref y18, .ref y19, .ref y20, .ref y21, .ref y22, .ref y23, .ref y24, .ref y25, .ref y26, .ref y27, .ref y28, .ref y29, .ref y30, .ref y31, .ref y32, .ref y33, .ref y34, .ref y35, .ref y36, .ref y37, .ref y38, .ref y39, .ref y40, .ref y41, .ref y42, .ref y43, .ref y44, .ref y45, .ref y46, .int y47, .ref y48, .ref y49, .int y50, .int y51, .int y52, .int y53, .long y54, .int y55, .ref y56, .ref y57, .ref y58, .ref y59]))] (TY cT) sz) (va_Qi (fun (r : Int32) (_ : Nat → Nat) => r = 0) (BW D vwCl (va_A [(y, .inr (11, [.ref y0, .int y1, .int y2, .int 0, .ref y4, .ref y5, .ref y6, .ref y7, .ref y8, .ref y9, .int y10, .int y11, .int y12, .int y13, .int y14, .long y15, .int y16, .int y17, .ref y18, .ref y19, .ref y20, .ref y21, .ref y22, .ref y23, .ref y24, .ref y25, .ref y26, .ref y27, .ref y28, .ref y29, .ref y30, .ref y31, .ref y32, .ref y33, .ref y34, .ref y35, .ref y36, .ref y37, .ref y38, .ref y39, .ref y40, .ref y41, .ref y42, .ref y43, .ref y44, .ref y45, .ref y46, .int y47, .ref y48, .ref y49, .int y50, .int y51, .int y52, .int y53, .long y54, .int y55, .ref y56, .ref y57, .ref y58, .ref y59]))] sz) (fun u => [(y, .inr (11, [.ref y0, .int 0, .int y2, .int 0, .ref y4, .ref y5, .ref y6, .ref y7, .ref y8, .ref y9, .int y10, .int y11, .int y12, .int y13, .int y14, .long a1, .int a2, .int y17, .ref y18, .ref y19, .ref y20, .ref y21, .ref y22, .ref y23, .ref y24, .ref y25, .ref y26, .ref y27, .ref y28, .ref y29, .ref y30, .ref y31, .ref y32, .ref y33, .ref y34, .ref y35, .ref y36, .ref y37, .ref y38, .ref y39, .ref y40, .ref y41, .ref y42, .ref y43, .ref y44, .ref y45, .ref y46, .int y47, .ref y48, .ref y49, .int y50, .int y51, .int y52, .int y53, .long y54, .int y55, .ref y56, .ref y57, .ref y58, .ref y59]))])) (va_A [(y, .inr (11, [.ref y0, .int y1, .int y2, .int 0, .ref y4, .ref y5, .ref y6, .ref y7, .ref y8, .ref y9, .int y10, .int y11, .int y12, .int y13, .int y14, .long y15, .int y16, .int y17, .ref y18, .ref y19, .ref y20, .ref y21, .ref y22, .ref y23, .ref y24, .ref y25, .ref y26, .ref y27, .ref y28, .ref y29, .ref y30, .ref y31, .ref y32, .ref y33, .ref y34, .ref y35, .ref y36, .ref y37, .ref y38, .ref y39, .ref y40, .ref y41, .ref y42, .ref y43, .ref y44, .ref y45, .ref y46, .int y47, .ref y48, .ref y49, .int y50, .int y51, .int y52, .int y53, .long y54, .int y55, .ref y56, .ref y57, .ref y58, .ref y59]))] sz)) 0 0 (va_A [(y, .inr (11, [.ref y0, .int y1, .int y2, .int 0, .ref y4, .ref y5, .ref y6, .ref y7, .ref y8, .ref y9, .int y10, .int y11, .int y12, .int y13, .int y14, .long y15, .int y16, .int y17, .ref y18, .ref y19, .ref y20, .ref y21, .ref y22, .ref y23, .ref y24, .ref y25, .ref y26, .ref y27, .ref y28, .ref y29, .ref y30, .ref y31, .ref y32, .ref y33, .ref y34, .ref y35, .ref y36, .ref y37, .ref y38, .ref y39, .ref y40, .ref y41, .ref y42, .ref y43, .ref y44, .ref y45, .ref y46, .int y47, .ref y48, .ref y49, .int y50, .int y51, .int y52, .int y53, .long y54, .int y55, .ref y56, .ref y57, .ref y58, .ref y59]))] sz) := by
  refine Met.ofW (cc := cM_sample) (maxL := 4) (ret := (some .int)) (by decide) rfl ?_
  intro p e s m args below meth c s₁ B hml hv
  obtain ⟨rfl, hsz, hZ, hP, hK, hD0⟩ := hv
  have hx := B.exec
  have hb := B.bytes
  have hr := B.returns
  have hts := atoms_spec (ws := WM_sample) B.pre
  have hT : ∀ w ∈ TB, w.before _ s = true := fun w h => hts w (List.mem_cons_of_mem _ h)
  have hown : s.vm.findClass R_M = some m.cls := findClass_of_methodNamed B.named
  have hlocks := B.notSynchronized
  subst hsz
  have hD := hD0.self (sz := s.heap.size)
  generalize hAe : va_A [(y, .inr (11, [.ref y0, .int y1, .int y2, .int 0, .ref y4, .ref y5, .ref y6, .ref y7, .ref y8, .ref y9, .int y10, .int y11, .int y12, .int y13, .int y14, .long y15, .int y16, .int y17, .ref y18, .ref y19, .ref y20, .ref y21, .ref y22, .ref y23, .ref y24, .ref y25, .ref y26, .ref y27, .ref y28, .ref y29, .ref y30, .ref y31, .ref y32, .ref y33, .ref y34, .ref y35, .ref y36, .ref y37, .ref y38, .ref y39, .ref y40, .ref y41, .ref y42, .ref y43, .ref y44, .ref y45, .ref y46, .int y47, .ref y48, .ref y49, .int y50, .int y51, .int y52, .int y53, .long y54, .int y55, .ref y56, .ref y57, .ref y58, .ref y59]))] s.heap.size = A at hD hZ ⊢
  have hA : ∀ q : Nat, s.heap.size ≤ q → A q := fun q h => by rw [← hAe]; exact Or.inr h
  have hS : va_S A s.heap s.heap [] := va_S.rf
  have hl := lv_entry ([.ref y, .long a1, .int a2]) (n := 4) (Nat.le_of_ble_eq_true rfl)
  rw [lg_entry_eq]
  generalize (lg_sl ([.ref y, .long a1, .int a2]) ++ List.replicate (4 - (lg_sl ([.ref y, .long a1, .int a2])).length) Slot.unset).toArray = ls at hl ⊢
  have hl : lv_has ls 4 [(0, .ref y), (1, .long a1), (3, .int a2)] := hl
  refine lv_aload_n hx hb dM_sample_0 rfl (lv_at hl 0 rfl) ?_
  refine lv_iconst (v := 0) hx hb dM_sample_1 (by decide) ?_
  refine va_put (D := D) (ci := 11) (v := .int 0) (ty := .int) (C := R_M) (T := T_M) (N := 60) hx hb hT in_M ty_M ty_M_ok m_M hown hK hP hD hS 0 rfl rfl 1 (by decide) (hT _ w1105) (fun _ h9 => h9) rfl (by decide +kernel) rfl rfl (Nat.le_of_ble_eq_true rfl) dM_sample_2 (fun H locs hP hD hS => ?_)
  have hP : va_P D vwCl [(y, .inr (11, [.ref y0, .int 0, .int y2, .int 0, .ref y4, .ref y5, .ref y6, .ref y7, .ref y8, .ref y9, .int y10, .int y11, .int y12, .int y13, .int y14, .long y15, .int y16, .int y17, .ref y18, .ref y19, .ref y20, .ref y21, .ref y22, .ref y23, .ref y24, .ref y25, .ref y26, .ref y27, .ref y28, .ref y29, .ref y30, .ref y31, .ref y32, .ref y33, .ref y34, .ref y35, .ref y36, .ref y37, .ref y38, .ref y39, .ref y40, .ref y41, .ref y42, .ref y43, .ref y44, .ref y45, .ref y46, .int y47, .ref y48, .ref y49, .int y50, .int y51, .int y52, .int y53, .long y54, .int y55, .ref y56, .ref y57, .ref y58, .ref y59]))] H := hP
  have hD : va_D A [(y, .inr (11, [.ref y0, .int 0, .int y2, .int 0, .ref y4, .ref y5, .ref y6, .ref y7, .ref y8, .ref y9, .int y10, .int y11, .int y12, .int y13, .int y14, .long y15, .int y16, .int y17, .ref y18, .ref y19, .ref y20, .ref y21, .ref y22, .ref y23, .ref y24, .ref y25, .ref y26, .ref y27, .ref y28, .ref y29, .ref y30, .ref y31, .ref y32, .ref y33, .ref y34, .ref y35, .ref y36, .ref y37, .ref y38, .ref y39, .ref y40, .ref y41, .ref y42, .ref y43, .ref y44, .ref y45, .ref y46, .int y47, .ref y48, .ref y49, .int y50, .int y51, .int y52, .int y53, .long y54, .int y55, .ref y56, .ref y57, .ref y58, .ref y59]))] := hD
  refine lv_aload_n hx hb dM_sample_5 rfl (lv_at hl 0 rfl) ?_
  refine lv_lload_n hx hb dM_sample_6 rfl (lv_at hl 1 rfl) ?_
  refine va_put (D := D) (ci := 11) (v := .long a1) (ty := .long) (C := R_M) (T := T_M) (N := 60) hx hb hT in_M ty_M ty_M_ok m_M hown hK hP hD hS 0 rfl rfl 15 (by decide) (hT _ w1119) (fun _ h9 => h9) rfl (by decide +kernel) rfl rfl (Nat.le_of_ble_eq_true rfl) dM_sample_7 (fun H locs hP hD hS => ?_)
  have hP : va_P D vwCl [(y, .inr (11, [.ref y0, .int 0, .int y2, .int 0, .ref y4, .ref y5, .ref y6, .ref y7, .ref y8, .ref y9, .int y10, .int y11, .int y12, .int y13, .int y14, .long a1, .int y16, .int y17, .ref y18, .ref y19, .ref y20, .ref y21, .ref y22, .ref y23, .ref y24, .ref y25, .ref y26, .ref y27, .ref y28, .ref y29, .ref y30, .ref y31, .ref y32, .ref y33, .ref y34, .ref y35, .ref y36, .ref y37, .ref y38, .ref y39, .ref y40, .ref y41, .ref y42, .ref y43, .ref y44, .ref y45, .ref y46, .int y47, .ref y48, .ref y49, .int y50, .int y51, .int y52, .int y53, .long y54, .int y55, .ref y56, .ref y57, .ref y58, .ref y59]))] H := hP
  have hD : va_D A [(y, .inr (11, [.ref y0, .int 0, .int y2, .int 0, .ref y4, .ref y5, .ref y6, .ref y7, .ref y8, .ref y9, .int y10, .int y11, .int y12, .int y13, .int y14, .long a1, .int y16, .int y17, .ref y18, .ref y19, .ref y20, .ref y21, .ref y22, .ref y23, .ref y24, .ref y25, .ref y26, .ref y27, .ref y28, .ref y29, .ref y30, .ref y31, .ref y32, .ref y33, .ref y34, .ref y35, .ref y36, .ref y37, .ref y38, .ref y39, .ref y40, .ref y41, .ref y42, .ref y43, .ref y44, .ref y45, .ref y46, .int y47, .ref y48, .ref y49, .int y50, .int y51, .int y52, .int y53, .long y54, .int y55, .ref y56, .ref y57, .ref y58, .ref y59]))] := hD
  refine lv_aload_n hx hb dM_sample_10 rfl (lv_at hl 0 rfl) ?_
  refine lv_iload_n hx hb dM_sample_11 rfl (lv_at hl 2 rfl) ?_
  refine va_put (D := D) (ci := 11) (v := .int a2) (ty := .int) (C := R_M) (T := T_M) (N := 60) hx hb hT in_M ty_M ty_M_ok m_M hown hK hP hD hS 0 rfl rfl 16 (by decide) (hT _ w1120) (fun _ h9 => h9) rfl (by decide +kernel) rfl rfl (Nat.le_of_ble_eq_true rfl) dM_sample_12 (fun H locs hP hD hS => ?_)
  have hP : va_P D vwCl [(y, .inr (11, [.ref y0, .int 0, .int y2, .int 0, .ref y4, .ref y5, .ref y6, .ref y7, .ref y8, .ref y9, .int y10, .int y11, .int y12, .int y13, .int y14, .long a1, .int a2, .int y17, .ref y18, .ref y19, .ref y20, .ref y21, .ref y22, .ref y23, .ref y24, .ref y25, .ref y26, .ref y27, .ref y28, .ref y29, .ref y30, .ref y31, .ref y32, .ref y33, .ref y34, .ref y35, .ref y36, .ref y37, .ref y38, .ref y39, .ref y40, .ref y41, .ref y42, .ref y43, .ref y44, .ref y45, .ref y46, .int y47, .ref y48, .ref y49, .int y50, .int y51, .int y52, .int y53, .long y54, .int y55, .ref y56, .ref y57, .ref y58, .ref y59]))] H := hP
  have hD : va_D A [(y, .inr (11, [.ref y0, .int 0, .int y2, .int 0, .ref y4, .ref y5, .ref y6, .ref y7, .ref y8, .ref y9, .int y10, .int y11, .int y12, .int y13, .int y14, .long a1, .int a2, .int y17, .ref y18, .ref y19, .ref y20, .ref y21, .ref y22, .ref y23, .ref y24, .ref y25, .ref y26, .ref y27, .ref y28, .ref y29, .ref y30, .ref y31, .ref y32, .ref y33, .ref y34, .ref y35, .ref y36, .ref y37, .ref y38, .ref y39, .ref y40, .ref y41, .ref y42, .ref y43, .ref y44, .ref y45, .ref y46, .int y47, .ref y48, .ref y49, .int y50, .int y51, .int y52, .int y53, .long y54, .int y55, .ref y56, .ref y57, .ref y58, .ref y59]))] := hD
  refine lv_lload_n hx hb dM_sample_15 rfl (lv_at hl 1 rfl) ?_
  refine lv_aload_n hx hb dM_sample_16 rfl (lv_at hl 0 rfl) ?_
  refine ro_l (va_Run.run (va_runV (As := []) (rest := [.long a1]) ⟨hx, hb, hml, hown, hT⟩ (y_there0 l D cT y y0 0 y2 y4 y5 y6 y7 y8 y9 y10 y11 y12 y13 y14 a1 a2 y17 y18 y19 y20 y21 y22 y23 y24 y25 y26 y27 y28 y29 y30 y31 y32 y33 y34 y35 y36 y37 y38 y39 y40 y41 y42 y43 y44 y45 y46 y47 y48 y49 y50 y51 y52 y53 y54 y55 y56 y57 y58 y59) ⟨callB_of 0 hT (tb_gd w1366) rfl rfl rfl (hT _ w13) (hT _ w1363) hM_there ⟨Nat.le_of_ble_eq_true rfl, Nat.le_of_ble_eq_true rfl⟩, (hT _ w1365), (hT _ wp34)⟩ (RO.preV (ci := 11) (q0 := 0) hZ hS (hP.sub (ws' := [(y, .inr (11, [.ref y0, .int 0, .int y2, .int 0, .ref y4, .ref y5, .ref y6, .ref y7, .ref y8, .ref y9, .int y10, .int y11, .int y12, .int y13, .int y14, .long a1, .int a2, .int y17, .ref y18, .ref y19, .ref y20, .ref y21, .ref y22, .ref y23, .ref y24, .ref y25, .ref y26, .ref y27, .ref y28, .ref y29, .ref y30, .ref y31, .ref y32, .ref y33, .ref y34, .ref y35, .ref y36, .ref y37, .ref y38, .ref y39, .ref y40, .ref y41, .ref y42, .ref y43, .ref y44, .ref y45, .ref y46, .int y47, .ref y48, .ref y49, .int y50, .int y51, .int y52, .int y53, .long y54, .int y55, .ref y56, .ref y57, .ref y58, .ref y59]))]) [0] rfl) hK rfl rfl) rfl rfl hl.1 rfl (lv_room (Nat.le_of_ble_eq_true rfl)) dM_sample_17 ⟨Nat.le_of_ble_eq_true rfl, Nat.le_of_ble_eq_true rfl⟩)) ?_
  refine lv_land hx hb dM_sample_20 ?_
  refine lv_topl (fun y9 e9 => ?_)
  cases (show y9 = 0 from e9.trans (Int64.and_zero))
  refine ro_i (va_Run.run (va_runS (As := [.long 0]) (rest := []) ⟨hx, hb, hml, hown, hT⟩ (y_countBits0 l D cT ) ⟨callB_of 1 hT (tb_gd w1369) rfl rfl rfl (hT _ w13) (hT _ w1367) hM_count ⟨Nat.le_of_ble_eq_true rfl, Nat.le_of_ble_eq_true rfl⟩, (hT _ w1368)⟩ (RO.preS hZ hS ((show va_P D vwCl [] _ from fun _ _ h => nomatch h)) hK) rfl rfl hl.1 rfl (lv_room (Nat.le_of_ble_eq_true rfl)) dM_sample_21 ⟨Nat.le_of_ble_eq_true rfl, Nat.le_of_ble_eq_true rfl⟩)) ?_
  have hP9 := hP.sub (ws' := [(y, .inr (11, [.ref y0, .int 0, .int y2, .int 0, .ref y4, .ref y5, .ref y6, .ref y7, .ref y8, .ref y9, .int y10, .int y11, .int y12, .int y13, .int y14, .long a1, .int a2, .int y17, .ref y18, .ref y19, .ref y20, .ref y21, .ref y22, .ref y23, .ref y24, .ref y25, .ref y26, .ref y27, .ref y28, .ref y29, .ref y30, .ref y31, .ref y32, .ref y33, .ref y34, .ref y35, .ref y36, .ref y37, .ref y38, .ref y39, .ref y40, .ref y41, .ref y42, .ref y43, .ref y44, .ref y45, .ref y46, .int y47, .ref y48, .ref y49, .int y50, .int y51, .int y52, .int y53, .long y54, .int y55, .ref y56, .ref y57, .ref y58, .ref y59]))]) [0] rfl
  have hD9 := hD.sub (ws' := [(y, .inr (11, [.ref y0, .int 0, .int y2, .int 0, .ref y4, .ref y5, .ref y6, .ref y7, .ref y8, .ref y9, .int y10, .int y11, .int y12, .int y13, .int y14, .long a1, .int a2, .int y17, .ref y18, .ref y19, .ref y20, .ref y21, .ref y22, .ref y23, .ref y24, .ref y25, .ref y26, .ref y27, .ref y28, .ref y29, .ref y30, .ref y31, .ref y32, .ref y33, .ref y34, .ref y35, .ref y36, .ref y37, .ref y38, .ref y39, .ref y40, .ref y41, .ref y42, .ref y43, .ref y44, .ref y45, .ref y46, .int y47, .ref y48, .ref y49, .int y50, .int y51, .int y52, .int y53, .long y54, .int y55, .ref y56, .ref y57, .ref y58, .ref y59]))]) [0] (by decide) rfl
  refine W.widen (k := 0) (n := 0) (Nat.le_of_ble_eq_true rfl) (Nat.le_of_ble_eq_true rfl) ?_
  exact W.iret (v := 0) hx hb hr (fun t ht hW => ⟨⟨0, (fun _ => 0), rfl, rfl, by rw [ht]; exact hP9, hD9⟩, hS.F ht⟩) hS.2.2 dM_sample_24
set_option maxHeartbeats 4000000 in
set_option maxRecDepth 100000 in
theorem y_train_no (l : Launch) (D : va_G) (cT : Nat → ClassId) (y : Nat) (y0 : Nat) (y1 : Int32) (y2 : Int32) (y4 : Nat) (y5 : Nat) (y6 : Nat) (y7 : Nat) (y8 : Nat) (y9 : Nat) (y10 : Int32) (y11 : Int32) (y12 : Int32) (y13 : Int32) (y14 : Int32) (y15 : Int64) (y16 : Int32) (y17 : Int32) (y18 : Nat) (y19 : Nat) (y20 : Nat) (y21 : Nat) (y22 : Nat) (y23 : Nat) (y24 : Nat) (y25 : Nat) (y26 : Nat) (y27 : Nat) (y28 : Nat) (y29 : Nat) (y30 : Nat) (y31 : Nat) (y32 : Nat) (y33 : Nat) (y34 : Nat) (y35 : Nat) (y36 : Nat) (y37 : Nat) (y38 : Nat) (y39 : Nat) (y40 : Nat) (y41 : Nat) (y42 : Nat) (y43 : Nat) (y44 : Nat) (y45 : Nat) (y46 : Nat) (y47 : Int32) (y48 : Nat) (y49 : Nat) (y50 : Int32) (y51 : Int32) (y52 : Int32) (y53 : Int32) (y54 : Int64) (y55 : Int32) (y56 : Nat) (y57 : Nat) (y58 : Nat) (y59 : Nat) (a1 : Int32) (hq : ¬ (1 ≤ a1 ∧ a1 ≤ 16)) (sz : Nat) : Met l yM_train WM_train ({ frames := 1, cells := 0, slots := 0, locals := 22 } : Room) (RW D vwCl [.ref y, .int a1] [(y, .inr (11, [.ref y0, .int y1, .int y2, .int 0, .ref y4, .ref y5, .ref y6, .ref y7, .ref y8, .ref y9, .int y10, .int y11, .int y12, .int y13, .int y14, .long y15, .int y16, .int y17, .ref y18, .ref y19, .ref y20, .ref y21, .ref y22, .ref y23, .ref y24, .ref y25, .ref y26, .ref y27, .ref y28, .ref y29, .ref y30, .ref y31, .ref y32, .ref y33, .ref y34, .ref y35, .ref y36, .ref y37, .ref y38, .ref y39, .ref y40, .ref y41, .ref y42, .ref y43, .ref y44, .ref y45, .ref y46, .int y47, .ref y48, .ref y49, .int y50, .int y51, .int y52, .int y53, .long y54, .int y55, .ref y56, .ref y57, .ref y58, .ref y59]))] (TY cT) sz) (va_Qi (fun (r : Int32) (_ : Nat → Nat) => r = 0) (BW D vwCl (va_A [(y, .inr (11, [.ref y0, .int y1, .int y2, .int 0, .ref y4, .ref y5, .ref y6, .ref y7, .ref y8, .ref y9, .int y10, .int y11, .int y12, .int y13, .int y14, .long y15, .int y16, .int y17, .ref y18, .ref y19, .ref y20, .ref y21, .ref y22, .ref y23, .ref y24, .ref y25, .ref y26, .ref y27, .ref y28, .ref y29, .ref y30, .ref y31, .ref y32, .ref y33, .ref y34, .ref y35, .ref y36, .ref y37, .ref y38, .ref y39, .ref y40, .ref y41, .ref y42, .ref y43, .ref y44, .ref y45, .ref y46, .int y47, .ref y48, .ref y49, .int y50, .int y51, .int y52, .int y53, .long y54, .int y55, .ref y56, .ref y57, .ref y58, .ref y59]))] sz) (fun u => [(y, .inr (11, [.ref y0, .int 1, .int y2, .int 0, .ref y4, .ref y5, .ref y6, .ref y7, .ref y8, .ref y9, .int y10, .int y11, .int y12, .int y13, .int y14, .long y15, .int y16, .int y17, .ref y18, .ref y19, .ref y20, .ref y21, .ref y22, .ref y23, .ref y24, .ref y25, .ref y26, .ref y27, .ref y28, .ref y29, .ref y30, .ref y31, .ref y32, .ref y33, .ref y34, .ref y35, .ref y36, .ref y37, .ref y38, .ref y39, .ref y40, .ref y41, .ref y42, .ref y43, .ref y44, .ref y45, .ref y46, .int y47, .ref y48, .ref y49, .int y50, .int y51, .int y52, .int y53, .long y54, .int y55, .ref y56, .ref y57, .ref y58, .ref y59]))])) (va_A [(y, .inr (11, [.ref y0, .int y1, .int y2, .int 0, .ref y4, .ref y5, .ref y6, .ref y7, .ref y8, .ref y9, .int y10, .int y11, .int y12, .int y13, .int y14, .long y15, .int y16, .int y17, .ref y18, .ref y19, .ref y20, .ref y21, .ref y22, .ref y23, .ref y24, .ref y25, .ref y26, .ref y27, .ref y28, .ref y29, .ref y30, .ref y31, .ref y32, .ref y33, .ref y34, .ref y35, .ref y36, .ref y37, .ref y38, .ref y39, .ref y40, .ref y41, .ref y42, .ref y43, .ref y44, .ref y45, .ref y46, .int y47, .ref y48, .ref y49, .int y50, .int y51, .int y52, .int y53, .long y54, .int y55, .ref y56, .ref y57, .ref y58, .ref y59]))] sz)) 0 0 (va_A [(y, .inr (11, [.ref y0, .int y1, .int y2, .int 0, .ref y4, .ref y5, .ref y6, .ref y7, .ref y8, .ref y9, .int y10, .int y11, .int y12, .int y13, .int y14, .long y15, .int y16, .int y17, .ref y18, .ref y19, .ref y20, .ref y21, .ref y22, .ref y23, .ref y24, .ref y25, .ref y26, .ref y27, .ref y28, .ref y29, .ref y30, .ref y31, .ref y32, .ref y33, .ref y34, .ref y35, .ref y36, .ref y37, .ref y38, .ref y39, .ref y40, .ref y41, .ref y42, .ref y43, .ref y44, .ref y45, .ref y46, .int y47, .ref y48, .ref y49, .int y50, .int y51, .int y52, .int y53, .long y54, .int y55, .ref y56, .ref y57, .ref y58, .ref y59]))] sz) := by
  refine Met.ofW (cc := cM_train) (maxL := 6) (ret := (some .int)) (by decide) rfl ?_
  intro p e s m args below meth c s₁ B hml hv
  obtain ⟨rfl, hsz, hZ, hP, hK, hD0⟩ := hv
  have hx := B.exec
  have hb := B.bytes
  have hr := B.returns
  have hts := atoms_spec (ws := WM_train) B.pre
  have hT : ∀ w ∈ TB, w.before _ s = true := fun w h => hts w (List.mem_cons_of_mem _ h)
  have hown : s.vm.findClass R_M = some m.cls := findClass_of_methodNamed B.named
  have hlocks := B.notSynchronized
  subst hsz
  have hD := hD0.self (sz := s.heap.size)
  generalize hAe : va_A [(y, .inr (11, [.ref y0, .int y1, .int y2, .int 0, .ref y4, .ref y5, .ref y6, .ref y7, .ref y8, .ref y9, .int y10, .int y11, .int y12, .int y13, .int y14, .long y15, .int y16, .int y17, .ref y18, .ref y19, .ref y20, .ref y21, .ref y22, .ref y23, .ref y24, .ref y25, .ref y26, .ref y27, .ref y28, .ref y29, .ref y30, .ref y31, .ref y32, .ref y33, .ref y34, .ref y35, .ref y36, .ref y37, .ref y38, .ref y39, .ref y40, .ref y41, .ref y42, .ref y43, .ref y44, .ref y45, .ref y46, .int y47, .ref y48, .ref y49, .int y50, .int y51, .int y52, .int y53, .long y54, .int y55, .ref y56, .ref y57, .ref y58, .ref y59]))] s.heap.size = A at hD hZ ⊢
  have hA : ∀ q : Nat, s.heap.size ≤ q → A q := fun q h => by rw [← hAe]; exact Or.inr h
  have hS : va_S A s.heap s.heap [] := va_S.rf
  have hl := lv_entry ([.ref y, .int a1]) (n := 6) (Nat.le_of_ble_eq_true rfl)
  rw [lg_entry_eq]
  generalize (lg_sl ([.ref y, .int a1]) ++ List.replicate (6 - (lg_sl ([.ref y, .int a1])).length) Slot.unset).toArray = ls at hl ⊢
  have hl : lv_has ls 6 [(0, .ref y), (1, .int a1)] := hl
  refine lv_aload_n hx hb dM_train_0 rfl (lv_at hl 0 rfl) ?_
  refine va_get (D := D) (ci := 11) (v := .long y15) (C := R_M) (T := T_M) (N := 60) hx hb hT in_M hown hK hP 0 rfl rfl 15 (by decide) (hT _ w1119) (fun _ h9 => h9) rfl dM_train_1 ?_
  refine lv_aload_n hx hb dM_train_4 rfl (lv_at hl 0 rfl) ?_
  refine ro_l (va_Run.run (va_runV (As := []) (rest := [.long y15]) ⟨hx, hb, hml, hown, hT⟩ (y_there0 l D cT y y0 y1 y2 y4 y5 y6 y7 y8 y9 y10 y11 y12 y13 y14 y15 y16 y17 y18 y19 y20 y21 y22 y23 y24 y25 y26 y27 y28 y29 y30 y31 y32 y33 y34 y35 y36 y37 y38 y39 y40 y41 y42 y43 y44 y45 y46 y47 y48 y49 y50 y51 y52 y53 y54 y55 y56 y57 y58 y59) ⟨callB_of 0 hT (tb_gd w1366) rfl rfl rfl (hT _ w13) (hT _ w1363) hM_there ⟨Nat.le_of_ble_eq_true rfl, Nat.le_of_ble_eq_true rfl⟩, (hT _ w1365), (hT _ wp34)⟩ (RO.preV (ci := 11) (q0 := 0) hZ hS (hP.sub (ws' := [(y, .inr (11, [.ref y0, .int y1, .int y2, .int 0, .ref y4, .ref y5, .ref y6, .ref y7, .ref y8, .ref y9, .int y10, .int y11, .int y12, .int y13, .int y14, .long y15, .int y16, .int y17, .ref y18, .ref y19, .ref y20, .ref y21, .ref y22, .ref y23, .ref y24, .ref y25, .ref y26, .ref y27, .ref y28, .ref y29, .ref y30, .ref y31, .ref y32, .ref y33, .ref y34, .ref y35, .ref y36, .ref y37, .ref y38, .ref y39, .ref y40, .ref y41, .ref y42, .ref y43, .ref y44, .ref y45, .ref y46, .int y47, .ref y48, .ref y49, .int y50, .int y51, .int y52, .int y53, .long y54, .int y55, .ref y56, .ref y57, .ref y58, .ref y59]))]) [0] rfl) hK rfl rfl) rfl rfl hl.1 rfl (lv_room (Nat.le_of_ble_eq_true rfl)) dM_train_5 ⟨Nat.le_of_ble_eq_true rfl, Nat.le_of_ble_eq_true rfl⟩)) ?_
  refine lv_land hx hb dM_train_8 ?_
  refine lv_topl (fun y9 e9 => ?_)
  cases (show y9 = 0 from e9.trans (Int64.and_zero))
  refine lv_lconst (v := 0) hx hb dM_train_9 (by decide) ?_
  refine W.lcmp hx hb dM_train_10 ?_
  refine lv_topi (fun y9 e9 => ?_)
  cases (show y9 = 0 from e9.trans (by decide))
  refine lv_if_eq (tgt := 30) hx hb dM_train_11 rfl (fun _ => ?_) (fun hj1 => absurd (by decide) hj1)
  refine lv_iconst (v := 1) hx hb dM_train_30 (by decide) ?_
  refine lv_goto (tgt := 35) hx hb dM_train_31 rfl ?_
  refine lv_istore_n hx hb dM_train_35 rfl hl (by decide) rfl (fun ls hl => ?_)
  have hl : lv_has ls 6 [(2, .int 1), (0, .ref y), (1, .int a1)] := hl
  refine lv_aload_n hx hb dM_train_36 rfl (lv_at hl 1 rfl) ?_
  refine lv_iload_n hx hb dM_train_37 rfl (lv_at hl 2 rfl) ?_
  refine lv_iconst (v := 1) hx hb dM_train_38 (by decide) ?_
  refine lv_bipush (v := 16) hx hb dM_train_39 (by decide) ?_
  refine ro_i (va_Run.run (va_runS (As := [.int a1, .int 1, .int 16]) (rest := [.ref y]) ⟨hx, hb, hml, hown, hT⟩ (y_in l D cT a1 1 16) ⟨callB_of 3 hT (tb_gd w1297) rfl rfl rfl (hT _ w13) (hT _ w1295) hM_in ⟨Nat.le_of_ble_eq_true rfl, Nat.le_of_ble_eq_true rfl⟩, (hT _ w1296)⟩ (RO.preS hZ hS ((show va_P D vwCl [] _ from fun _ _ h => nomatch h)) hK) rfl rfl hl.1 rfl (lv_room (Nat.le_of_ble_eq_true rfl)) dM_train_41 ⟨Nat.le_of_ble_eq_true rfl, Nat.le_of_ble_eq_true rfl⟩)) ?_
  refine lv_if_ne (tgt := 51) hx hb dM_train_44 rfl (fun hj2 => absurd (bi_f hq) hj2) (fun _ => ?_)
  refine lv_iconst (v := 1) hx hb dM_train_47 (by decide) ?_
  refine lv_goto (tgt := 71) hx hb dM_train_48 rfl ?_
  refine rw_i (wc := [(y, .inr (11, [.ref y0, .int y1, .int y2, .int 0, .ref y4, .ref y5, .ref y6, .ref y7, .ref y8, .ref y9, .int y10, .int y11, .int y12, .int y13, .int y14, .long y15, .int y16, .int y17, .ref y18, .ref y19, .ref y20, .ref y21, .ref y22, .ref y23, .ref y24, .ref y25, .ref y26, .ref y27, .ref y28, .ref y29, .ref y30, .ref y31, .ref y32, .ref y33, .ref y34, .ref y35, .ref y36, .ref y37, .ref y38, .ref y39, .ref y40, .ref y41, .ref y42, .ref y43, .ref y44, .ref y45, .ref y46, .int y47, .ref y48, .ref y49, .int y50, .int y51, .int y52, .int y53, .long y54, .int y55, .ref y56, .ref y57, .ref y58, .ref y59]))]) (wr := []) hP hD hS hA [0] [] rfl rfl (by decide) (by decide) (va_runV (As := [.int 1]) (rest := []) ⟨hx, hb, hml, hown, hT⟩ (y_refused1 l D cT y y0 y1 y2 0 y4 y5 y6 y7 y8 y9 y10 y11 y12 y13 y14 y15 y16 y17 y18 y19 y20 y21 y22 y23 y24 y25 y26 y27 y28 y29 y30 y31 y32 y33 y34 y35 y36 y37 y38 y39 y40 y41 y42 y43 y44 y45 y46 y47 y48 y49 y50 y51 y52 y53 y54 y55 y56 y57 y58 y59 _) ⟨callB_of 1 hT (tb_gd w1301) rfl rfl rfl (hT _ w13) (hT _ w1298) hM_refused ⟨Nat.le_of_ble_eq_true rfl, Nat.le_of_ble_eq_true rfl⟩, (hT _ w1300), (hT _ wp29)⟩ (RW.preV (ci := 11) (q0 := 0) hZ hS (va_free (wc := [(y, .inr (11, [.ref y0, .int y1, .int y2, .int 0, .ref y4, .ref y5, .ref y6, .ref y7, .ref y8, .ref y9, .int y10, .int y11, .int y12, .int y13, .int y14, .long y15, .int y16, .int y17, .ref y18, .ref y19, .ref y20, .ref y21, .ref y22, .ref y23, .ref y24, .ref y25, .ref y26, .ref y27, .ref y28, .ref y29, .ref y30, .ref y31, .ref y32, .ref y33, .ref y34, .ref y35, .ref y36, .ref y37, .ref y38, .ref y39, .ref y40, .ref y41, .ref y42, .ref y43, .ref y44, .ref y45, .ref y46, .int y47, .ref y48, .ref y49, .int y50, .int y51, .int y52, .int y53, .long y54, .int y55, .ref y56, .ref y57, .ref y58, .ref y59]))]) hD hS hA [0] rfl) (hP.sub (ws' := [(y, .inr (11, [.ref y0, .int y1, .int y2, .int 0, .ref y4, .ref y5, .ref y6, .ref y7, .ref y8, .ref y9, .int y10, .int y11, .int y12, .int y13, .int y14, .long y15, .int y16, .int y17, .ref y18, .ref y19, .ref y20, .ref y21, .ref y22, .ref y23, .ref y24, .ref y25, .ref y26, .ref y27, .ref y28, .ref y29, .ref y30, .ref y31, .ref y32, .ref y33, .ref y34, .ref y35, .ref y36, .ref y37, .ref y38, .ref y39, .ref y40, .ref y41, .ref y42, .ref y43, .ref y44, .ref y45, .ref y46, .int y47, .ref y48, .ref y49, .int y50, .int y51, .int y52, .int y53, .long y54, .int y55, .ref y56, .ref y57, .ref y58, .ref y59]))]) [0] rfl) hK (hD.sub (ws' := [(y, .inr (11, [.ref y0, .int y1, .int y2, .int 0, .ref y4, .ref y5, .ref y6, .ref y7, .ref y8, .ref y9, .int y10, .int y11, .int y12, .int y13, .int y14, .long y15, .int y16, .int y17, .ref y18, .ref y19, .ref y20, .ref y21, .ref y22, .ref y23, .ref y24, .ref y25, .ref y26, .ref y27, .ref y28, .ref y29, .ref y30, .ref y31, .ref y32, .ref y33, .ref y34, .ref y35, .ref y36, .ref y37, .ref y38, .ref y39, .ref y40, .ref y41, .ref y42, .ref y43, .ref y44, .ref y45, .ref y46, .int y47, .ref y48, .ref y49, .int y50, .int y51, .int y52, .int y53, .long y54, .int y55, .ref y56, .ref y57, .ref y58, .ref y59]))]) [0] (by decide) rfl) rfl rfl) rfl rfl hl.1 rfl (lv_room (Nat.le_of_ble_eq_true rfl)) dM_train_71 ⟨Nat.le_of_ble_eq_true rfl, Nat.le_of_ble_eq_true rfl⟩) (fun ru3 u3 H locs hpu3 hP hD hS => ?_)
  have hP : va_P D vwCl [(y, .inr (11, [.ref y0, .int 1, .int y2, .int 0, .ref y4, .ref y5, .ref y6, .ref y7, .ref y8, .ref y9, .int y10, .int y11, .int y12, .int y13, .int y14, .long y15, .int y16, .int y17, .ref y18, .ref y19, .ref y20, .ref y21, .ref y22, .ref y23, .ref y24, .ref y25, .ref y26, .ref y27, .ref y28, .ref y29, .ref y30, .ref y31, .ref y32, .ref y33, .ref y34, .ref y35, .ref y36, .ref y37, .ref y38, .ref y39, .ref y40, .ref y41, .ref y42, .ref y43, .ref y44, .ref y45, .ref y46, .int y47, .ref y48, .ref y49, .int y50, .int y51, .int y52, .int y53, .long y54, .int y55, .ref y56, .ref y57, .ref y58, .ref y59]))] H := hP
  have hD : va_D A [(y, .inr (11, [.ref y0, .int 1, .int y2, .int 0, .ref y4, .ref y5, .ref y6, .ref y7, .ref y8, .ref y9, .int y10, .int y11, .int y12, .int y13, .int y14, .long y15, .int y16, .int y17, .ref y18, .ref y19, .ref y20, .ref y21, .ref y22, .ref y23, .ref y24, .ref y25, .ref y26, .ref y27, .ref y28, .ref y29, .ref y30, .ref y31, .ref y32, .ref y33, .ref y34, .ref y35, .ref y36, .ref y37, .ref y38, .ref y39, .ref y40, .ref y41, .ref y42, .ref y43, .ref y44, .ref y45, .ref y46, .int y47, .ref y48, .ref y49, .int y50, .int y51, .int y52, .int y53, .long y54, .int y55, .ref y56, .ref y57, .ref y58, .ref y59]))] := hD
  rw [hpu3]
  refine lv_if_eq (tgt := 79) hx hb dM_train_74 rfl (fun hj4 => absurd hj4 (by decide)) (fun _ => ?_)
  refine lv_iconst (v := 0) hx hb dM_train_77 (by decide) ?_
  have hP9 := hP.sub (ws' := [(y, .inr (11, [.ref y0, .int 1, .int y2, .int 0, .ref y4, .ref y5, .ref y6, .ref y7, .ref y8, .ref y9, .int y10, .int y11, .int y12, .int y13, .int y14, .long y15, .int y16, .int y17, .ref y18, .ref y19, .ref y20, .ref y21, .ref y22, .ref y23, .ref y24, .ref y25, .ref y26, .ref y27, .ref y28, .ref y29, .ref y30, .ref y31, .ref y32, .ref y33, .ref y34, .ref y35, .ref y36, .ref y37, .ref y38, .ref y39, .ref y40, .ref y41, .ref y42, .ref y43, .ref y44, .ref y45, .ref y46, .int y47, .ref y48, .ref y49, .int y50, .int y51, .int y52, .int y53, .long y54, .int y55, .ref y56, .ref y57, .ref y58, .ref y59]))]) [0] rfl
  have hD9 := hD.sub (ws' := [(y, .inr (11, [.ref y0, .int 1, .int y2, .int 0, .ref y4, .ref y5, .ref y6, .ref y7, .ref y8, .ref y9, .int y10, .int y11, .int y12, .int y13, .int y14, .long y15, .int y16, .int y17, .ref y18, .ref y19, .ref y20, .ref y21, .ref y22, .ref y23, .ref y24, .ref y25, .ref y26, .ref y27, .ref y28, .ref y29, .ref y30, .ref y31, .ref y32, .ref y33, .ref y34, .ref y35, .ref y36, .ref y37, .ref y38, .ref y39, .ref y40, .ref y41, .ref y42, .ref y43, .ref y44, .ref y45, .ref y46, .int y47, .ref y48, .ref y49, .int y50, .int y51, .int y52, .int y53, .long y54, .int y55, .ref y56, .ref y57, .ref y58, .ref y59]))]) [0] (by decide) rfl
  refine W.widen (k := 0) (n := 0) (Nat.le_of_ble_eq_true rfl) (Nat.le_of_ble_eq_true rfl) ?_
  exact W.iret (v := 0) hx hb hr (fun t ht hW => ⟨⟨0, (fun _ => 0), rfl, rfl, by rw [ht]; exact hP9, hD9⟩, hS.F ht⟩) hS.2.2 dM_train_78
set_option maxHeartbeats 4000000 in
set_option maxRecDepth 100000 in
theorem y_train_none (l : Launch) (D : va_G) (cT : Nat → ClassId) (y : Nat) (y0 : Nat) (y1 : Int32) (y2 : Int32) (y4 : Nat) (y5 : Nat) (y6 : Nat) (y7 : Nat) (y8 : Nat) (y9 : Nat) (y10 : Int32) (y11 : Int32) (y12 : Int32) (y13 : Int32) (y14 : Int32) (y15 : Int64) (y16 : Int32) (y17 : Int32) (y18 : Nat) (y19 : Nat) (y20 : Nat) (y21 : Nat) (y22 : Nat) (y23 : Nat) (y24 : Nat) (y25 : Nat) (y26 : Nat) (y27 : Nat) (y28 : Nat) (y29 : Nat) (y30 : Nat) (y31 : Nat) (y32 : Nat) (y33 : Nat) (y34 : Nat) (y35 : Nat) (y36 : Nat) (y37 : Nat) (y38 : Nat) (y39 : Nat) (y40 : Nat) (y41 : Nat) (y42 : Nat) (y43 : Nat) (y44 : Nat) (y45 : Nat) (y46 : Nat) (y47 : Int32) (y48 : Nat) (y49 : Nat) (y50 : Int32) (y51 : Int32) (y52 : Int32) (y53 : Int32) (y54 : Int64) (y55 : Int32) (y56 : Nat) (y57 : Nat) (y58 : Nat) (y59 : Nat) (a1 : Int32) (hq : 1 ≤ a1 ∧ a1 ≤ 16) (sz : Nat) : Met l yM_train WM_train ({ frames := 1, cells := 0, slots := 0, locals := 22 } : Room) (RW D vwCl [.ref y, .int a1] [(y, .inr (11, [.ref y0, .int y1, .int y2, .int 0, .ref y4, .ref y5, .ref y6, .ref y7, .ref y8, .ref y9, .int y10, .int y11, .int y12, .int y13, .int y14, .long y15, .int y16, .int y17, .ref y18, .ref y19, .ref y20, .ref y21, .ref y22, .ref y23, .ref y24, .ref y25, .ref y26, .ref y27, .ref y28, .ref y29, .ref y30, .ref y31, .ref y32, .ref y33, .ref y34, .ref y35, .ref y36, .ref y37, .ref y38, .ref y39, .ref y40, .ref y41, .ref y42, .ref y43, .ref y44, .ref y45, .ref y46, .int y47, .ref y48, .ref y49, .int y50, .int y51, .int y52, .int y53, .long y54, .int y55, .ref y56, .ref y57, .ref y58, .ref y59]))] (TY cT) sz) (va_Qi (fun (r : Int32) (_ : Nat → Nat) => r = 0) (BW D vwCl (va_A [(y, .inr (11, [.ref y0, .int y1, .int y2, .int 0, .ref y4, .ref y5, .ref y6, .ref y7, .ref y8, .ref y9, .int y10, .int y11, .int y12, .int y13, .int y14, .long y15, .int y16, .int y17, .ref y18, .ref y19, .ref y20, .ref y21, .ref y22, .ref y23, .ref y24, .ref y25, .ref y26, .ref y27, .ref y28, .ref y29, .ref y30, .ref y31, .ref y32, .ref y33, .ref y34, .ref y35, .ref y36, .ref y37, .ref y38, .ref y39, .ref y40, .ref y41, .ref y42, .ref y43, .ref y44, .ref y45, .ref y46, .int y47, .ref y48, .ref y49, .int y50, .int y51, .int y52, .int y53, .long y54, .int y55, .ref y56, .ref y57, .ref y58, .ref y59]))] sz) (fun u => [(y, .inr (11, [.ref y0, .int 2, .int y2, .int 0, .ref y4, .ref y5, .ref y6, .ref y7, .ref y8, .ref y9, .int y10, .int y11, .int y12, .int y13, .int y14, .long y15, .int y16, .int y17, .ref y18, .ref y19, .ref y20, .ref y21, .ref y22, .ref y23, .ref y24, .ref y25, .ref y26, .ref y27, .ref y28, .ref y29, .ref y30, .ref y31, .ref y32, .ref y33, .ref y34, .ref y35, .ref y36, .ref y37, .ref y38, .ref y39, .ref y40, .ref y41, .ref y42, .ref y43, .ref y44, .ref y45, .ref y46, .int y47, .ref y48, .ref y49, .int y50, .int y51, .int y52, .int y53, .long y54, .int y55, .ref y56, .ref y57, .ref y58, .ref y59]))])) (va_A [(y, .inr (11, [.ref y0, .int y1, .int y2, .int 0, .ref y4, .ref y5, .ref y6, .ref y7, .ref y8, .ref y9, .int y10, .int y11, .int y12, .int y13, .int y14, .long y15, .int y16, .int y17, .ref y18, .ref y19, .ref y20, .ref y21, .ref y22, .ref y23, .ref y24, .ref y25, .ref y26, .ref y27, .ref y28, .ref y29, .ref y30, .ref y31, .ref y32, .ref y33, .ref y34, .ref y35, .ref y36, .ref y37, .ref y38, .ref y39, .ref y40, .ref y41, .ref y42, .ref y43, .ref y44, .ref y45, .ref y46, .int y47, .ref y48, .ref y49, .int y50, .int y51, .int y52, .int y53, .long y54, .int y55, .ref y56, .ref y57, .ref y58, .ref y59]))] sz)) 0 0 (va_A [(y, .inr (11, [.ref y0, .int y1, .int y2, .int 0, .ref y4, .ref y5, .ref y6, .ref y7, .ref y8, .ref y9, .int y10, .int y11, .int y12, .int y13, .int y14, .long y15, .int y16, .int y17, .ref y18, .ref y19, .ref y20, .ref y21, .ref y22, .ref y23, .ref y24, .ref y25, .ref y26, .ref y27, .ref y28, .ref y29, .ref y30, .ref y31, .ref y32, .ref y33, .ref y34, .ref y35, .ref y36, .ref y37, .ref y38, .ref y39, .ref y40, .ref y41, .ref y42, .ref y43, .ref y44, .ref y45, .ref y46, .int y47, .ref y48, .ref y49, .int y50, .int y51, .int y52, .int y53, .long y54, .int y55, .ref y56, .ref y57, .ref y58, .ref y59]))] sz) := by
  refine Met.ofW (cc := cM_train) (maxL := 6) (ret := (some .int)) (by decide) rfl ?_
  intro p e s m args below meth c s₁ B hml hv
  obtain ⟨rfl, hsz, hZ, hP, hK, hD0⟩ := hv
  have hx := B.exec
  have hb := B.bytes
  have hr := B.returns
  have hts := atoms_spec (ws := WM_train) B.pre
  have hT : ∀ w ∈ TB, w.before _ s = true := fun w h => hts w (List.mem_cons_of_mem _ h)
  have hown : s.vm.findClass R_M = some m.cls := findClass_of_methodNamed B.named
  have hlocks := B.notSynchronized
  subst hsz
  have hD := hD0.self (sz := s.heap.size)
  generalize hAe : va_A [(y, .inr (11, [.ref y0, .int y1, .int y2, .int 0, .ref y4, .ref y5, .ref y6, .ref y7, .ref y8, .ref y9, .int y10, .int y11, .int y12, .int y13, .int y14, .long y15, .int y16, .int y17, .ref y18, .ref y19, .ref y20, .ref y21, .ref y22, .ref y23, .ref y24, .ref y25, .ref y26, .ref y27, .ref y28, .ref y29, .ref y30, .ref y31, .ref y32, .ref y33, .ref y34, .ref y35, .ref y36, .ref y37, .ref y38, .ref y39, .ref y40, .ref y41, .ref y42, .ref y43, .ref y44, .ref y45, .ref y46, .int y47, .ref y48, .ref y49, .int y50, .int y51, .int y52, .int y53, .long y54, .int y55, .ref y56, .ref y57, .ref y58, .ref y59]))] s.heap.size = A at hD hZ ⊢
  have hA : ∀ q : Nat, s.heap.size ≤ q → A q := fun q h => by rw [← hAe]; exact Or.inr h
  have hS : va_S A s.heap s.heap [] := va_S.rf
  have hl := lv_entry ([.ref y, .int a1]) (n := 6) (Nat.le_of_ble_eq_true rfl)
  rw [lg_entry_eq]
  generalize (lg_sl ([.ref y, .int a1]) ++ List.replicate (6 - (lg_sl ([.ref y, .int a1])).length) Slot.unset).toArray = ls at hl ⊢
  have hl : lv_has ls 6 [(0, .ref y), (1, .int a1)] := hl
  refine lv_aload_n hx hb dM_train_0 rfl (lv_at hl 0 rfl) ?_
  refine va_get (D := D) (ci := 11) (v := .long y15) (C := R_M) (T := T_M) (N := 60) hx hb hT in_M hown hK hP 0 rfl rfl 15 (by decide) (hT _ w1119) (fun _ h9 => h9) rfl dM_train_1 ?_
  refine lv_aload_n hx hb dM_train_4 rfl (lv_at hl 0 rfl) ?_
  refine ro_l (va_Run.run (va_runV (As := []) (rest := [.long y15]) ⟨hx, hb, hml, hown, hT⟩ (y_there0 l D cT y y0 y1 y2 y4 y5 y6 y7 y8 y9 y10 y11 y12 y13 y14 y15 y16 y17 y18 y19 y20 y21 y22 y23 y24 y25 y26 y27 y28 y29 y30 y31 y32 y33 y34 y35 y36 y37 y38 y39 y40 y41 y42 y43 y44 y45 y46 y47 y48 y49 y50 y51 y52 y53 y54 y55 y56 y57 y58 y59) ⟨callB_of 0 hT (tb_gd w1366) rfl rfl rfl (hT _ w13) (hT _ w1363) hM_there ⟨Nat.le_of_ble_eq_true rfl, Nat.le_of_ble_eq_true rfl⟩, (hT _ w1365), (hT _ wp34)⟩ (RO.preV (ci := 11) (q0 := 0) hZ hS (hP.sub (ws' := [(y, .inr (11, [.ref y0, .int y1, .int y2, .int 0, .ref y4, .ref y5, .ref y6, .ref y7, .ref y8, .ref y9, .int y10, .int y11, .int y12, .int y13, .int y14, .long y15, .int y16, .int y17, .ref y18, .ref y19, .ref y20, .ref y21, .ref y22, .ref y23, .ref y24, .ref y25, .ref y26, .ref y27, .ref y28, .ref y29, .ref y30, .ref y31, .ref y32, .ref y33, .ref y34, .ref y35, .ref y36, .ref y37, .ref y38, .ref y39, .ref y40, .ref y41, .ref y42, .ref y43, .ref y44, .ref y45, .ref y46, .int y47, .ref y48, .ref y49, .int y50, .int y51, .int y52, .int y53, .long y54, .int y55, .ref y56, .ref y57, .ref y58, .ref y59]))]) [0] rfl) hK rfl rfl) rfl rfl hl.1 rfl (lv_room (Nat.le_of_ble_eq_true rfl)) dM_train_5 ⟨Nat.le_of_ble_eq_true rfl, Nat.le_of_ble_eq_true rfl⟩)) ?_
  refine lv_land hx hb dM_train_8 ?_
  refine lv_topl (fun y9 e9 => ?_)
  cases (show y9 = 0 from e9.trans (Int64.and_zero))
  refine lv_lconst (v := 0) hx hb dM_train_9 (by decide) ?_
  refine W.lcmp hx hb dM_train_10 ?_
  refine lv_topi (fun y9 e9 => ?_)
  cases (show y9 = 0 from e9.trans (by decide))
  refine lv_if_eq (tgt := 30) hx hb dM_train_11 rfl (fun _ => ?_) (fun hj1 => absurd (by decide) hj1)
  refine lv_iconst (v := 1) hx hb dM_train_30 (by decide) ?_
  refine lv_goto (tgt := 35) hx hb dM_train_31 rfl ?_
  refine lv_istore_n hx hb dM_train_35 rfl hl (by decide) rfl (fun ls hl => ?_)
  have hl : lv_has ls 6 [(2, .int 1), (0, .ref y), (1, .int a1)] := hl
  refine lv_aload_n hx hb dM_train_36 rfl (lv_at hl 1 rfl) ?_
  refine lv_iload_n hx hb dM_train_37 rfl (lv_at hl 2 rfl) ?_
  refine lv_iconst (v := 1) hx hb dM_train_38 (by decide) ?_
  refine lv_bipush (v := 16) hx hb dM_train_39 (by decide) ?_
  refine ro_i (va_Run.run (va_runS (As := [.int a1, .int 1, .int 16]) (rest := [.ref y]) ⟨hx, hb, hml, hown, hT⟩ (y_in l D cT a1 1 16) ⟨callB_of 3 hT (tb_gd w1297) rfl rfl rfl (hT _ w13) (hT _ w1295) hM_in ⟨Nat.le_of_ble_eq_true rfl, Nat.le_of_ble_eq_true rfl⟩, (hT _ w1296)⟩ (RO.preS hZ hS ((show va_P D vwCl [] _ from fun _ _ h => nomatch h)) hK) rfl rfl hl.1 rfl (lv_room (Nat.le_of_ble_eq_true rfl)) dM_train_41 ⟨Nat.le_of_ble_eq_true rfl, Nat.le_of_ble_eq_true rfl⟩)) ?_
  refine lv_if_ne (tgt := 51) hx hb dM_train_44 rfl (fun _ => ?_) (fun hj2 => absurd hj2 (by rw [bi_t hq]; decide))
  refine lv_iload_n hx hb dM_train_51 rfl (lv_at hl 0 rfl) ?_
  refine lv_if_ne (tgt := 66) hx hb dM_train_52 rfl (fun _ => ?_) (fun hj3 => absurd hj3 (by decide))
  refine lv_iconst (v := 2) hx hb dM_train_66 (by decide) ?_
  refine lv_goto (tgt := 71) hx hb dM_train_67 rfl ?_
  refine rw_i (wc := [(y, .inr (11, [.ref y0, .int y1, .int y2, .int 0, .ref y4, .ref y5, .ref y6, .ref y7, .ref y8, .ref y9, .int y10, .int y11, .int y12, .int y13, .int y14, .long y15, .int y16, .int y17, .ref y18, .ref y19, .ref y20, .ref y21, .ref y22, .ref y23, .ref y24, .ref y25, .ref y26, .ref y27, .ref y28, .ref y29, .ref y30, .ref y31, .ref y32, .ref y33, .ref y34, .ref y35, .ref y36, .ref y37, .ref y38, .ref y39, .ref y40, .ref y41, .ref y42, .ref y43, .ref y44, .ref y45, .ref y46, .int y47, .ref y48, .ref y49, .int y50, .int y51, .int y52, .int y53, .long y54, .int y55, .ref y56, .ref y57, .ref y58, .ref y59]))]) (wr := []) hP hD hS hA [0] [] rfl rfl (by decide) (by decide) (va_runV (As := [.int 2]) (rest := []) ⟨hx, hb, hml, hown, hT⟩ (y_refused2 l D cT y y0 y1 y2 0 y4 y5 y6 y7 y8 y9 y10 y11 y12 y13 y14 y15 y16 y17 y18 y19 y20 y21 y22 y23 y24 y25 y26 y27 y28 y29 y30 y31 y32 y33 y34 y35 y36 y37 y38 y39 y40 y41 y42 y43 y44 y45 y46 y47 y48 y49 y50 y51 y52 y53 y54 y55 y56 y57 y58 y59 _) ⟨callB_of 1 hT (tb_gd w1301) rfl rfl rfl (hT _ w13) (hT _ w1298) hM_refused ⟨Nat.le_of_ble_eq_true rfl, Nat.le_of_ble_eq_true rfl⟩, (hT _ w1300), (hT _ wp29)⟩ (RW.preV (ci := 11) (q0 := 0) hZ hS (va_free (wc := [(y, .inr (11, [.ref y0, .int y1, .int y2, .int 0, .ref y4, .ref y5, .ref y6, .ref y7, .ref y8, .ref y9, .int y10, .int y11, .int y12, .int y13, .int y14, .long y15, .int y16, .int y17, .ref y18, .ref y19, .ref y20, .ref y21, .ref y22, .ref y23, .ref y24, .ref y25, .ref y26, .ref y27, .ref y28, .ref y29, .ref y30, .ref y31, .ref y32, .ref y33, .ref y34, .ref y35, .ref y36, .ref y37, .ref y38, .ref y39, .ref y40, .ref y41, .ref y42, .ref y43, .ref y44, .ref y45, .ref y46, .int y47, .ref y48, .ref y49, .int y50, .int y51, .int y52, .int y53, .long y54, .int y55, .ref y56, .ref y57, .ref y58, .ref y59]))]) hD hS hA [0] rfl) (hP.sub (ws' := [(y, .inr (11, [.ref y0, .int y1, .int y2, .int 0, .ref y4, .ref y5, .ref y6, .ref y7, .ref y8, .ref y9, .int y10, .int y11, .int y12, .int y13, .int y14, .long y15, .int y16, .int y17, .ref y18, .ref y19, .ref y20, .ref y21, .ref y22, .ref y23, .ref y24, .ref y25, .ref y26, .ref y27, .ref y28, .ref y29, .ref y30, .ref y31, .ref y32, .ref y33, .ref y34, .ref y35, .ref y36, .ref y37, .ref y38, .ref y39, .ref y40, .ref y41, .ref y42, .ref y43, .ref y44, .ref y45, .ref y46, .int y47, .ref y48, .ref y49, .int y50, .int y51, .int y52, .int y53, .long y54, .int y55, .ref y56, .ref y57, .ref y58, .ref y59]))]) [0] rfl) hK (hD.sub (ws' := [(y, .inr (11, [.ref y0, .int y1, .int y2, .int 0, .ref y4, .ref y5, .ref y6, .ref y7, .ref y8, .ref y9, .int y10, .int y11, .int y12, .int y13, .int y14, .long y15, .int y16, .int y17, .ref y18, .ref y19, .ref y20, .ref y21, .ref y22, .ref y23, .ref y24, .ref y25, .ref y26, .ref y27, .ref y28, .ref y29, .ref y30, .ref y31, .ref y32, .ref y33, .ref y34, .ref y35, .ref y36, .ref y37, .ref y38, .ref y39, .ref y40, .ref y41, .ref y42, .ref y43, .ref y44, .ref y45, .ref y46, .int y47, .ref y48, .ref y49, .int y50, .int y51, .int y52, .int y53, .long y54, .int y55, .ref y56, .ref y57, .ref y58, .ref y59]))]) [0] (by decide) rfl) rfl rfl) rfl rfl hl.1 rfl (lv_room (Nat.le_of_ble_eq_true rfl)) dM_train_71 ⟨Nat.le_of_ble_eq_true rfl, Nat.le_of_ble_eq_true rfl⟩) (fun ru4 u4 H locs hpu4 hP hD hS => ?_)
  have hP : va_P D vwCl [(y, .inr (11, [.ref y0, .int 2, .int y2, .int 0, .ref y4, .ref y5, .ref y6, .ref y7, .ref y8, .ref y9, .int y10, .int y11, .int y12, .int y13, .int y14, .long y15, .int y16, .int y17, .ref y18, .ref y19, .ref y20, .ref y21, .ref y22, .ref y23, .ref y24, .ref y25, .ref y26, .ref y27, .ref y28, .ref y29, .ref y30, .ref y31, .ref y32, .ref y33, .ref y34, .ref y35, .ref y36, .ref y37, .ref y38, .ref y39, .ref y40, .ref y41, .ref y42, .ref y43, .ref y44, .ref y45, .ref y46, .int y47, .ref y48, .ref y49, .int y50, .int y51, .int y52, .int y53, .long y54, .int y55, .ref y56, .ref y57, .ref y58, .ref y59]))] H := hP
  have hD : va_D A [(y, .inr (11, [.ref y0, .int 2, .int y2, .int 0, .ref y4, .ref y5, .ref y6, .ref y7, .ref y8, .ref y9, .int y10, .int y11, .int y12, .int y13, .int y14, .long y15, .int y16, .int y17, .ref y18, .ref y19, .ref y20, .ref y21, .ref y22, .ref y23, .ref y24, .ref y25, .ref y26, .ref y27, .ref y28, .ref y29, .ref y30, .ref y31, .ref y32, .ref y33, .ref y34, .ref y35, .ref y36, .ref y37, .ref y38, .ref y39, .ref y40, .ref y41, .ref y42, .ref y43, .ref y44, .ref y45, .ref y46, .int y47, .ref y48, .ref y49, .int y50, .int y51, .int y52, .int y53, .long y54, .int y55, .ref y56, .ref y57, .ref y58, .ref y59]))] := hD
  rw [hpu4]
  refine lv_if_eq (tgt := 79) hx hb dM_train_74 rfl (fun hj5 => absurd hj5 (by decide)) (fun _ => ?_)
  refine lv_iconst (v := 0) hx hb dM_train_77 (by decide) ?_
  have hP9 := hP.sub (ws' := [(y, .inr (11, [.ref y0, .int 2, .int y2, .int 0, .ref y4, .ref y5, .ref y6, .ref y7, .ref y8, .ref y9, .int y10, .int y11, .int y12, .int y13, .int y14, .long y15, .int y16, .int y17, .ref y18, .ref y19, .ref y20, .ref y21, .ref y22, .ref y23, .ref y24, .ref y25, .ref y26, .ref y27, .ref y28, .ref y29, .ref y30, .ref y31, .ref y32, .ref y33, .ref y34, .ref y35, .ref y36, .ref y37, .ref y38, .ref y39, .ref y40, .ref y41, .ref y42, .ref y43, .ref y44, .ref y45, .ref y46, .int y47, .ref y48, .ref y49, .int y50, .int y51, .int y52, .int y53, .long y54, .int y55, .ref y56, .ref y57, .ref y58, .ref y59]))]) [0] rfl
  have hD9 := hD.sub (ws' := [(y, .inr (11, [.ref y0, .int 2, .int y2, .int 0, .ref y4, .ref y5, .ref y6, .ref y7, .ref y8, .ref y9, .int y10, .int y11, .int y12, .int y13, .int y14, .long y15, .int y16, .int y17, .ref y18, .ref y19, .ref y20, .ref y21, .ref y22, .ref y23, .ref y24, .ref y25, .ref y26, .ref y27, .ref y28, .ref y29, .ref y30, .ref y31, .ref y32, .ref y33, .ref y34, .ref y35, .ref y36, .ref y37, .ref y38, .ref y39, .ref y40, .ref y41, .ref y42, .ref y43, .ref y44, .ref y45, .ref y46, .int y47, .ref y48, .ref y49, .int y50, .int y51, .int y52, .int y53, .long y54, .int y55, .ref y56, .ref y57, .ref y58, .ref y59]))]) [0] (by decide) rfl
  refine W.widen (k := 0) (n := 0) (Nat.le_of_ble_eq_true rfl) (Nat.le_of_ble_eq_true rfl) ?_
  exact W.iret (v := 0) hx hb hr (fun t ht hW => ⟨⟨0, (fun _ => 0), rfl, rfl, by rw [ht]; exact hP9, hD9⟩, hS.F ht⟩) hS.2.2 dM_train_78
set_option maxHeartbeats 4000000 in
set_option maxRecDepth 100000 in
theorem y_drop_ok (l : Launch) (D : va_G) (cT : Nat → ClassId) (y : Nat) (y0 : Nat) (y1 : Int32) (y2 : Int32) (y3 : Int32) (y4 : Nat) (y5 : Nat) (y6 : Nat) (y7 : Nat) (y8 : Nat) (y9 : Nat) (y10 : Int32) (y11 : Int32) (y12 : Int32) (y13 : Int32) (y14 : Int32) (y15 : Int64) (y16 : Int32) (y18 : Nat) (y19 : Nat) (y20 : Nat) (y21 : Nat) (y22 : Nat) (y23 : Nat) (y24 : Nat) (y25 : Nat) (y26 : Nat) (y27 : Nat) (y28 : Nat) (y29 : Nat) (y30 : Nat) (y31 : Nat) (y32 : Nat) (y33 : Nat) (y34 : Nat) (y35 : Nat) (y36 : Nat) (y37 : Nat) (y38 : Nat) (y39 : Nat) (y40 : Nat) (y41 : Nat) (y42 : Nat) (y43 : Nat) (y44 : Nat) (y45 : Nat) (y46 : Nat) (y47 : Int32) (y48 : Nat) (y49 : Nat) (y50 : Int32) (y51 : Int32) (y52 : Int32) (y53 : Int32) (y54 : Int64) (y55 : Int32) (y56 : Nat) (y57 : Nat) (y58 : Nat) (y59 : Nat) (a1 : Int32) (hq : 0 ≤ a1 ∧ a1 ≤ 0) (sz : Nat) : Met l yM_drop WM_drop ({ frames := 1, cells := 0, slots := 0, locals := 22 } : Room) (RW D vwCl [.ref y, .int a1] [(y, .inr (11, [.ref y0, .int y1, .int y2, .int y3, .ref y4, .ref y5, .ref y6, .ref y7, .ref y8, .ref y9, .int y10, .int y11, .int y12, .int y13, .int y14, .long y15, .int y16, .int 0, .ref y18, .ref y19, .ref y20, .ref y21, .ref y22, .ref y23, .ref y24, .ref y25, .ref y26, .ref y27, .ref y28, .ref y29, .ref y30, .ref y31, .ref y32, .ref y33, .ref y34, .ref y35, .ref y36, .ref y37, .ref y38, .ref y39, .ref y40, .ref y41, .ref y42, .ref y43, .ref y44, .ref y45, .ref y46, .int y47, .ref y48, .ref y49, .int y50, .int y51, .int y52, .int y53, .long y54, .int y55, .ref y56, .ref y57, .ref y58, .ref y59]))] (TY cT) sz) (va_Qi (fun (r : Int32) (_ : Nat → Nat) => r = 0 - a1) (BW D vwCl (va_A [(y, .inr (11, [.ref y0, .int y1, .int y2, .int y3, .ref y4, .ref y5, .ref y6, .ref y7, .ref y8, .ref y9, .int y10, .int y11, .int y12, .int y13, .int y14, .long y15, .int y16, .int 0, .ref y18, .ref y19, .ref y20, .ref y21, .ref y22, .ref y23, .ref y24, .ref y25, .ref y26, .ref y27, .ref y28, .ref y29, .ref y30, .ref y31, .ref y32, .ref y33, .ref y34, .ref y35, .ref y36, .ref y37, .ref y38, .ref y39, .ref y40, .ref y41, .ref y42, .ref y43, .ref y44, .ref y45, .ref y46, .int y47, .ref y48, .ref y49, .int y50, .int y51, .int y52, .int y53, .long y54, .int y55, .ref y56, .ref y57, .ref y58, .ref y59]))] sz) (fun u => [(y, .inr (11, [.ref y0, .int 0, .int y2, .int y3, .ref y4, .ref y5, .ref y6, .ref y7, .ref y8, .ref y9, .int y10, .int y11, .int y12, .int y13, .int y14, .long y15, .int y16, .int a1, .ref y18, .ref y19, .ref y20, .ref y21, .ref y22, .ref y23, .ref y24, .ref y25, .ref y26, .ref y27, .ref y28, .ref y29, .ref y30, .ref y31, .ref y32, .ref y33, .ref y34, .ref y35, .ref y36, .ref y37, .ref y38, .ref y39, .ref y40, .ref y41, .ref y42, .ref y43, .ref y44, .ref y45, .ref y46, .int y47, .ref y48, .ref y49, .int y50, .int y51, .int y52, .int y53, .long y54, .int y55, .ref y56, .ref y57, .ref y58, .ref y59]))])) (va_A [(y, .inr (11, [.ref y0, .int y1, .int y2, .int y3, .ref y4, .ref y5, .ref y6, .ref y7, .ref y8, .ref y9, .int y10, .int y11, .int y12, .int y13, .int y14, .long y15, .int y16, .int 0, .ref y18, .ref y19, .ref y20, .ref y21, .ref y22, .ref y23, .ref y24, .ref y25, .ref y26, .ref y27, .ref y28, .ref y29, .ref y30, .ref y31, .ref y32, .ref y33, .ref y34, .ref y35, .ref y36, .ref y37, .ref y38, .ref y39, .ref y40, .ref y41, .ref y42, .ref y43, .ref y44, .ref y45, .ref y46, .int y47, .ref y48, .ref y49, .int y50, .int y51, .int y52, .int y53, .long y54, .int y55, .ref y56, .ref y57, .ref y58, .ref y59]))] sz)) 0 0 (va_A [(y, .inr (11, [.ref y0, .int y1, .int y2, .int y3, .ref y4, .ref y5, .ref y6, .ref y7, .ref y8, .ref y9, .int y10, .int y11, .int y12, .int y13, .int y14, .long y15, .int y16, .int 0, .ref y18, .ref y19, .ref y20, .ref y21, .ref y22, .ref y23, .ref y24, .ref y25, .ref y26, .ref y27, .ref y28, .ref y29, .ref y30, .ref y31, .ref y32, .ref y33, .ref y34, .ref y35, .ref y36, .ref y37, .ref y38, .ref y39, .ref y40, .ref y41, .ref y42, .ref y43, .ref y44, .ref y45, .ref y46, .int y47, .ref y48, .ref y49, .int y50, .int y51, .int y52, .int y53, .long y54, .int y55, .ref y56, .ref y57, .ref y58, .ref y59]))] sz) := by
  refine Met.ofW (cc := cM_drop) (maxL := 3) (ret := (some .int)) (by decide) rfl ?_
  intro p e s m args below meth c s₁ B hml hv
  obtain ⟨rfl, hsz, hZ, hP, hK, hD0⟩ := hv
  have hx := B.exec
  have hb := B.bytes
  have hr := B.returns
  have hts := atoms_spec (ws := WM_drop) B.pre
  have hT : ∀ w ∈ TB, w.before _ s = true := fun w h => hts w (List.mem_cons_of_mem _ h)
  have hown : s.vm.findClass R_M = some m.cls := findClass_of_methodNamed B.named
  have hlocks := B.notSynchronized
  subst hsz
  have hD := hD0.self (sz := s.heap.size)
  generalize hAe : va_A [(y, .inr (11, [.ref y0, .int y1, .int y2, .int y3, .ref y4, .ref y5, .ref y6, .ref y7, .ref y8, .ref y9, .int y10, .int y11, .int y12, .int y13, .int y14, .long y15, .int y16, .int 0, .ref y18, .ref y19, .ref y20, .ref y21, .ref y22, .ref y23, .ref y24, .ref y25, .ref y26, .ref y27, .ref y28, .ref y29, .ref y30, .ref y31, .ref y32, .ref y33, .ref y34, .ref y35, .ref y36, .ref y37, .ref y38, .ref y39, .ref y40, .ref y41, .ref y42, .ref y43, .ref y44, .ref y45, .ref y46, .int y47, .ref y48, .ref y49, .int y50, .int y51, .int y52, .int y53, .long y54, .int y55, .ref y56, .ref y57, .ref y58, .ref y59]))] s.heap.size = A at hD hZ ⊢
  have hA : ∀ q : Nat, s.heap.size ≤ q → A q := fun q h => by rw [← hAe]; exact Or.inr h
  have hS : va_S A s.heap s.heap [] := va_S.rf
  have hl := lv_entry ([.ref y, .int a1]) (n := 3) (Nat.le_of_ble_eq_true rfl)
  rw [lg_entry_eq]
  generalize (lg_sl ([.ref y, .int a1]) ++ List.replicate (3 - (lg_sl ([.ref y, .int a1])).length) Slot.unset).toArray = ls at hl ⊢
  have hl : lv_has ls 3 [(0, .ref y), (1, .int a1)] := hl
  refine lv_aload_n hx hb dM_drop_0 rfl (lv_at hl 0 rfl) ?_
  refine lv_iload_n hx hb dM_drop_1 rfl (lv_at hl 1 rfl) ?_
  refine lv_iconst (v := 0) hx hb dM_drop_2 (by decide) ?_
  refine lv_aload_n hx hb dM_drop_3 rfl (lv_at hl 0 rfl) ?_
  refine va_get (D := D) (ci := 11) (v := .int 0) (C := R_M) (T := T_M) (N := 60) hx hb hT in_M hown hK hP 0 rfl rfl 17 (by decide) (hT _ w1121) (fun _ h9 => h9) rfl dM_drop_4 ?_
  refine ro_i (va_Run.run (va_runS (As := [.int a1, .int 0, .int 0]) (rest := [.ref y]) ⟨hx, hb, hml, hown, hT⟩ (y_in l D cT a1 0 0) ⟨callB_of 3 hT (tb_gd w1297) rfl rfl rfl (hT _ w13) (hT _ w1295) hM_in ⟨Nat.le_of_ble_eq_true rfl, Nat.le_of_ble_eq_true rfl⟩, (hT _ w1296)⟩ (RO.preS hZ hS ((show va_P D vwCl [] _ from fun _ _ h => nomatch h)) hK) rfl rfl hl.1 rfl (lv_room (Nat.le_of_ble_eq_true rfl)) dM_drop_7 ⟨Nat.le_of_ble_eq_true rfl, Nat.le_of_ble_eq_true rfl⟩)) ?_
  refine lv_if_eq (tgt := 17) hx hb dM_drop_10 rfl (fun hj1 => absurd hj1 (by rw [bi_t hq]; decide)) (fun _ => ?_)
  refine lv_iconst (v := 0) hx hb dM_drop_13 (by decide) ?_
  refine lv_goto (tgt := 18) hx hb dM_drop_14 rfl ?_
  refine rw_i (wc := [(y, .inr (11, [.ref y0, .int y1, .int y2, .int y3, .ref y4, .ref y5, .ref y6, .ref y7, .ref y8, .ref y9, .int y10, .int y11, .int y12, .int y13, .int y14, .long y15, .int y16, .int 0, .ref y18, .ref y19, .ref y20, .ref y21, .ref y22, .ref y23, .ref y24, .ref y25, .ref y26, .ref y27, .ref y28, .ref y29, .ref y30, .ref y31, .ref y32, .ref y33, .ref y34, .ref y35, .ref y36, .ref y37, .ref y38, .ref y39, .ref y40, .ref y41, .ref y42, .ref y43, .ref y44, .ref y45, .ref y46, .int y47, .ref y48, .ref y49, .int y50, .int y51, .int y52, .int y53, .long y54, .int y55, .ref y56, .ref y57, .ref y58, .ref y59]))]) (wr := []) hP hD hS hA [0] [] rfl rfl (by decide) (by decide) (va_runV (As := [.int 0]) (rest := []) ⟨hx, hb, hml, hown, hT⟩ (y_refused0 l D cT y y0 y1 y2 y3 y4 y5 y6 y7 y8 y9 y10 y11 y12 y13 y14 y15 y16 0 y18 y19 y20 y21 y22 y23 y24 y25 y26 y27 y28 y29 y30 y31 y32 y33 y34 y35 y36 y37 y38 y39 y40 y41 y42 y43 y44 y45 y46 y47 y48 y49 y50 y51 y52 y53 y54 y55 y56 y57 y58 y59 _) ⟨callB_of 1 hT (tb_gd w1301) rfl rfl rfl (hT _ w13) (hT _ w1298) hM_refused ⟨Nat.le_of_ble_eq_true rfl, Nat.le_of_ble_eq_true rfl⟩, (hT _ w1300), (hT _ wp29)⟩ (RW.preV (ci := 11) (q0 := 0) hZ hS (va_free (wc := [(y, .inr (11, [.ref y0, .int y1, .int y2, .int y3, .ref y4, .ref y5, .ref y6, .ref y7, .ref y8, .ref y9, .int y10, .int y11, .int y12, .int y13, .int y14, .long y15, .int y16, .int 0, .ref y18, .ref y19, .ref y20, .ref y21, .ref y22, .ref y23, .ref y24, .ref y25, .ref y26, .ref y27, .ref y28, .ref y29, .ref y30, .ref y31, .ref y32, .ref y33, .ref y34, .ref y35, .ref y36, .ref y37, .ref y38, .ref y39, .ref y40, .ref y41, .ref y42, .ref y43, .ref y44, .ref y45, .ref y46, .int y47, .ref y48, .ref y49, .int y50, .int y51, .int y52, .int y53, .long y54, .int y55, .ref y56, .ref y57, .ref y58, .ref y59]))]) hD hS hA [0] rfl) (hP.sub (ws' := [(y, .inr (11, [.ref y0, .int y1, .int y2, .int y3, .ref y4, .ref y5, .ref y6, .ref y7, .ref y8, .ref y9, .int y10, .int y11, .int y12, .int y13, .int y14, .long y15, .int y16, .int 0, .ref y18, .ref y19, .ref y20, .ref y21, .ref y22, .ref y23, .ref y24, .ref y25, .ref y26, .ref y27, .ref y28, .ref y29, .ref y30, .ref y31, .ref y32, .ref y33, .ref y34, .ref y35, .ref y36, .ref y37, .ref y38, .ref y39, .ref y40, .ref y41, .ref y42, .ref y43, .ref y44, .ref y45, .ref y46, .int y47, .ref y48, .ref y49, .int y50, .int y51, .int y52, .int y53, .long y54, .int y55, .ref y56, .ref y57, .ref y58, .ref y59]))]) [0] rfl) hK (hD.sub (ws' := [(y, .inr (11, [.ref y0, .int y1, .int y2, .int y3, .ref y4, .ref y5, .ref y6, .ref y7, .ref y8, .ref y9, .int y10, .int y11, .int y12, .int y13, .int y14, .long y15, .int y16, .int 0, .ref y18, .ref y19, .ref y20, .ref y21, .ref y22, .ref y23, .ref y24, .ref y25, .ref y26, .ref y27, .ref y28, .ref y29, .ref y30, .ref y31, .ref y32, .ref y33, .ref y34, .ref y35, .ref y36, .ref y37, .ref y38, .ref y39, .ref y40, .ref y41, .ref y42, .ref y43, .ref y44, .ref y45, .ref y46, .int y47, .ref y48, .ref y49, .int y50, .int y51, .int y52, .int y53, .long y54, .int y55, .ref y56, .ref y57, .ref y58, .ref y59]))]) [0] (by decide) rfl) rfl rfl) rfl rfl hl.1 rfl (lv_room (Nat.le_of_ble_eq_true rfl)) dM_drop_18 ⟨Nat.le_of_ble_eq_true rfl, Nat.le_of_ble_eq_true rfl⟩) (fun ru2 u2 H locs hpu2 hP hD hS => ?_)
  have hP : va_P D vwCl [(y, .inr (11, [.ref y0, .int 0, .int y2, .int y3, .ref y4, .ref y5, .ref y6, .ref y7, .ref y8, .ref y9, .int y10, .int y11, .int y12, .int y13, .int y14, .long y15, .int y16, .int 0, .ref y18, .ref y19, .ref y20, .ref y21, .ref y22, .ref y23, .ref y24, .ref y25, .ref y26, .ref y27, .ref y28, .ref y29, .ref y30, .ref y31, .ref y32, .ref y33, .ref y34, .ref y35, .ref y36, .ref y37, .ref y38, .ref y39, .ref y40, .ref y41, .ref y42, .ref y43, .ref y44, .ref y45, .ref y46, .int y47, .ref y48, .ref y49, .int y50, .int y51, .int y52, .int y53, .long y54, .int y55, .ref y56, .ref y57, .ref y58, .ref y59]))] H := hP
  have hD : va_D A [(y, .inr (11, [.ref y0, .int 0, .int y2, .int y3, .ref y4, .ref y5, .ref y6, .ref y7, .ref y8, .ref y9, .int y10, .int y11, .int y12, .int y13, .int y14, .long y15, .int y16, .int 0, .ref y18, .ref y19, .ref y20, .ref y21, .ref y22, .ref y23, .ref y24, .ref y25, .ref y26, .ref y27, .ref y28, .ref y29, .ref y30, .ref y31, .ref y32, .ref y33, .ref y34, .ref y35, .ref y36, .ref y37, .ref y38, .ref y39, .ref y40, .ref y41, .ref y42, .ref y43, .ref y44, .ref y45, .ref y46, .int y47, .ref y48, .ref y49, .int y50, .int y51, .int y52, .int y53, .long y54, .int y55, .ref y56, .ref y57, .ref y58, .ref y59]))] := hD
  rw [hpu2]
  refine lv_if_eq (tgt := 26) hx hb dM_drop_21 rfl (fun _ => ?_) (fun hj3 => absurd (by decide) hj3)
  refine lv_aload_n hx hb dM_drop_26 rfl (lv_at hl 0 rfl) ?_
  refine va_get (D := D) (ci := 11) (v := .int 0) (C := R_M) (T := T_M) (N := 60) hx hb hT in_M hown hK hP 0 rfl rfl 17 (by decide) (hT _ w1121) (fun _ h9 => h9) rfl dM_drop_27 ?_
  refine lv_iload_n hx hb dM_drop_30 rfl (lv_at hl 1 rfl) ?_
  refine lv_isub hx hb dM_drop_31 ?_
  refine lv_istore_n hx hb dM_drop_32 rfl hl (by decide) rfl (fun ls hl => ?_)
  have hl : lv_has ls 3 [(2, .int (0 - a1)), (0, .ref y), (1, .int a1)] := hl
  refine lv_aload_n hx hb dM_drop_33 rfl (lv_at hl 1 rfl) ?_
  refine lv_iload_n hx hb dM_drop_34 rfl (lv_at hl 2 rfl) ?_
  refine va_put (D := D) (ci := 11) (v := .int a1) (ty := .int) (C := R_M) (T := T_M) (N := 60) hx hb hT in_M ty_M ty_M_ok m_M hown hK hP hD hS 0 rfl rfl 17 (by decide) (hT _ w1121) (fun _ h9 => h9) rfl (by decide +kernel) rfl rfl (Nat.le_of_ble_eq_true rfl) dM_drop_35 (fun H locs hP hD hS => ?_)
  have hP : va_P D vwCl [(y, .inr (11, [.ref y0, .int 0, .int y2, .int y3, .ref y4, .ref y5, .ref y6, .ref y7, .ref y8, .ref y9, .int y10, .int y11, .int y12, .int y13, .int y14, .long y15, .int y16, .int a1, .ref y18, .ref y19, .ref y20, .ref y21, .ref y22, .ref y23, .ref y24, .ref y25, .ref y26, .ref y27, .ref y28, .ref y29, .ref y30, .ref y31, .ref y32, .ref y33, .ref y34, .ref y35, .ref y36, .ref y37, .ref y38, .ref y39, .ref y40, .ref y41, .ref y42, .ref y43, .ref y44, .ref y45, .ref y46, .int y47, .ref y48, .ref y49, .int y50, .int y51, .int y52, .int y53, .long y54, .int y55, .ref y56, .ref y57, .ref y58, .ref y59]))] H := hP
  have hD : va_D A [(y, .inr (11, [.ref y0, .int 0, .int y2, .int y3, .ref y4, .ref y5, .ref y6, .ref y7, .ref y8, .ref y9, .int y10, .int y11, .int y12, .int y13, .int y14, .long y15, .int y16, .int a1, .ref y18, .ref y19, .ref y20, .ref y21, .ref y22, .ref y23, .ref y24, .ref y25, .ref y26, .ref y27, .ref y28, .ref y29, .ref y30, .ref y31, .ref y32, .ref y33, .ref y34, .ref y35, .ref y36, .ref y37, .ref y38, .ref y39, .ref y40, .ref y41, .ref y42, .ref y43, .ref y44, .ref y45, .ref y46, .int y47, .ref y48, .ref y49, .int y50, .int y51, .int y52, .int y53, .long y54, .int y55, .ref y56, .ref y57, .ref y58, .ref y59]))] := hD
  refine lv_iload_n hx hb dM_drop_38 rfl (lv_at hl 0 rfl) ?_
  have hP9 := hP.sub (ws' := [(y, .inr (11, [.ref y0, .int 0, .int y2, .int y3, .ref y4, .ref y5, .ref y6, .ref y7, .ref y8, .ref y9, .int y10, .int y11, .int y12, .int y13, .int y14, .long y15, .int y16, .int a1, .ref y18, .ref y19, .ref y20, .ref y21, .ref y22, .ref y23, .ref y24, .ref y25, .ref y26, .ref y27, .ref y28, .ref y29, .ref y30, .ref y31, .ref y32, .ref y33, .ref y34, .ref y35, .ref y36, .ref y37, .ref y38, .ref y39, .ref y40, .ref y41, .ref y42, .ref y43, .ref y44, .ref y45, .ref y46, .int y47, .ref y48, .ref y49, .int y50, .int y51, .int y52, .int y53, .long y54, .int y55, .ref y56, .ref y57, .ref y58, .ref y59]))]) [0] rfl
  have hD9 := hD.sub (ws' := [(y, .inr (11, [.ref y0, .int 0, .int y2, .int y3, .ref y4, .ref y5, .ref y6, .ref y7, .ref y8, .ref y9, .int y10, .int y11, .int y12, .int y13, .int y14, .long y15, .int y16, .int a1, .ref y18, .ref y19, .ref y20, .ref y21, .ref y22, .ref y23, .ref y24, .ref y25, .ref y26, .ref y27, .ref y28, .ref y29, .ref y30, .ref y31, .ref y32, .ref y33, .ref y34, .ref y35, .ref y36, .ref y37, .ref y38, .ref y39, .ref y40, .ref y41, .ref y42, .ref y43, .ref y44, .ref y45, .ref y46, .int y47, .ref y48, .ref y49, .int y50, .int y51, .int y52, .int y53, .long y54, .int y55, .ref y56, .ref y57, .ref y58, .ref y59]))]) [0] (by decide) rfl
  refine W.widen (k := 0) (n := 0) (Nat.le_of_ble_eq_true rfl) (Nat.le_of_ble_eq_true rfl) ?_
  exact W.iret (v := 0 - a1) hx hb hr (fun t ht hW => ⟨⟨0 - a1, (fun _ => 0), rfl, rfl, by rw [ht]; exact hP9, hD9⟩, hS.F ht⟩) hS.2.2 dM_drop_39
set_option maxHeartbeats 4000000 in
set_option maxRecDepth 100000 in
theorem y_drop_no (l : Launch) (D : va_G) (cT : Nat → ClassId) (y : Nat) (y0 : Nat) (y1 : Int32) (y2 : Int32) (y3 : Int32) (y4 : Nat) (y5 : Nat) (y6 : Nat) (y7 : Nat) (y8 : Nat) (y9 : Nat) (y10 : Int32) (y11 : Int32) (y12 : Int32) (y13 : Int32) (y14 : Int32) (y15 : Int64) (y16 : Int32) (y18 : Nat) (y19 : Nat) (y20 : Nat) (y21 : Nat) (y22 : Nat) (y23 : Nat) (y24 : Nat) (y25 : Nat) (y26 : Nat) (y27 : Nat) (y28 : Nat) (y29 : Nat) (y30 : Nat) (y31 : Nat) (y32 : Nat) (y33 : Nat) (y34 : Nat) (y35 : Nat) (y36 : Nat) (y37 : Nat) (y38 : Nat) (y39 : Nat) (y40 : Nat) (y41 : Nat) (y42 : Nat) (y43 : Nat) (y44 : Nat) (y45 : Nat) (y46 : Nat) (y47 : Int32) (y48 : Nat) (y49 : Nat) (y50 : Int32) (y51 : Int32) (y52 : Int32) (y53 : Int32) (y54 : Int64) (y55 : Int32) (y56 : Nat) (y57 : Nat) (y58 : Nat) (y59 : Nat) (a1 : Int32) (hq : ¬ (0 ≤ a1 ∧ a1 ≤ 0)) (sz : Nat) : Met l yM_drop WM_drop ({ frames := 1, cells := 0, slots := 0, locals := 22 } : Room) (RW D vwCl [.ref y, .int a1] [(y, .inr (11, [.ref y0, .int y1, .int y2, .int y3, .ref y4, .ref y5, .ref y6, .ref y7, .ref y8, .ref y9, .int y10, .int y11, .int y12, .int y13, .int y14, .long y15, .int y16, .int 0, .ref y18, .ref y19, .ref y20, .ref y21, .ref y22, .ref y23, .ref y24, .ref y25, .ref y26, .ref y27, .ref y28, .ref y29, .ref y30, .ref y31, .ref y32, .ref y33, .ref y34, .ref y35, .ref y36, .ref y37, .ref y38, .ref y39, .ref y40, .ref y41, .ref y42, .ref y43, .ref y44, .ref y45, .ref y46, .int y47, .ref y48, .ref y49, .int y50, .int y51, .int y52, .int y53, .long y54, .int y55, .ref y56, .ref y57, .ref y58, .ref y59]))] (TY cT) sz) (va_Qi (fun (r : Int32) (_ : Nat → Nat) => r = 0) (BW D vwCl (va_A [(y, .inr (11, [.ref y0, .int y1, .int y2, .int y3, .ref y4, .ref y5, .ref y6, .ref y7, .ref y8, .ref y9, .int y10, .int y11, .int y12, .int y13, .int y14, .long y15, .int y16, .int 0, .ref y18, .ref y19, .ref y20, .ref y21, .ref y22, .ref y23, .ref y24, .ref y25, .ref y26, .ref y27, .ref y28, .ref y29, .ref y30, .ref y31, .ref y32, .ref y33, .ref y34, .ref y35, .ref y36, .ref y37, .ref y38, .ref y39, .ref y40, .ref y41, .ref y42, .ref y43, .ref y44, .ref y45, .ref y46, .int y47, .ref y48, .ref y49, .int y50, .int y51, .int y52, .int y53, .long y54, .int y55, .ref y56, .ref y57, .ref y58, .ref y59]))] sz) (fun u => [(y, .inr (11, [.ref y0, .int 1, .int y2, .int y3, .ref y4, .ref y5, .ref y6, .ref y7, .ref y8, .ref y9, .int y10, .int y11, .int y12, .int y13, .int y14, .long y15, .int y16, .int 0, .ref y18, .ref y19, .ref y20, .ref y21, .ref y22, .ref y23, .ref y24, .ref y25, .ref y26, .ref y27, .ref y28, .ref y29, .ref y30, .ref y31, .ref y32, .ref y33, .ref y34, .ref y35, .ref y36, .ref y37, .ref y38, .ref y39, .ref y40, .ref y41, .ref y42, .ref y43, .ref y44, .ref y45, .ref y46, .int y47, .ref y48, .ref y49, .int y50, .int y51, .int y52, .int y53, .long y54, .int y55, .ref y56, .ref y57, .ref y58, .ref y59]))])) (va_A [(y, .inr (11, [.ref y0, .int y1, .int y2, .int y3, .ref y4, .ref y5, .ref y6, .ref y7, .ref y8, .ref y9, .int y10, .int y11, .int y12, .int y13, .int y14, .long y15, .int y16, .int 0, .ref y18, .ref y19, .ref y20, .ref y21, .ref y22, .ref y23, .ref y24, .ref y25, .ref y26, .ref y27, .ref y28, .ref y29, .ref y30, .ref y31, .ref y32, .ref y33, .ref y34, .ref y35, .ref y36, .ref y37, .ref y38, .ref y39, .ref y40, .ref y41, .ref y42, .ref y43, .ref y44, .ref y45, .ref y46, .int y47, .ref y48, .ref y49, .int y50, .int y51, .int y52, .int y53, .long y54, .int y55, .ref y56, .ref y57, .ref y58, .ref y59]))] sz)) 0 0 (va_A [(y, .inr (11, [.ref y0, .int y1, .int y2, .int y3, .ref y4, .ref y5, .ref y6, .ref y7, .ref y8, .ref y9, .int y10, .int y11, .int y12, .int y13, .int y14, .long y15, .int y16, .int 0, .ref y18, .ref y19, .ref y20, .ref y21, .ref y22, .ref y23, .ref y24, .ref y25, .ref y26, .ref y27, .ref y28, .ref y29, .ref y30, .ref y31, .ref y32, .ref y33, .ref y34, .ref y35, .ref y36, .ref y37, .ref y38, .ref y39, .ref y40, .ref y41, .ref y42, .ref y43, .ref y44, .ref y45, .ref y46, .int y47, .ref y48, .ref y49, .int y50, .int y51, .int y52, .int y53, .long y54, .int y55, .ref y56, .ref y57, .ref y58, .ref y59]))] sz) := by
  refine Met.ofW (cc := cM_drop) (maxL := 3) (ret := (some .int)) (by decide) rfl ?_
  intro p e s m args below meth c s₁ B hml hv
  obtain ⟨rfl, hsz, hZ, hP, hK, hD0⟩ := hv
  have hx := B.exec
  have hb := B.bytes
  have hr := B.returns
  have hts := atoms_spec (ws := WM_drop) B.pre
  have hT : ∀ w ∈ TB, w.before _ s = true := fun w h => hts w (List.mem_cons_of_mem _ h)
  have hown : s.vm.findClass R_M = some m.cls := findClass_of_methodNamed B.named
  have hlocks := B.notSynchronized
  subst hsz
  have hD := hD0.self (sz := s.heap.size)
  generalize hAe : va_A [(y, .inr (11, [.ref y0, .int y1, .int y2, .int y3, .ref y4, .ref y5, .ref y6, .ref y7, .ref y8, .ref y9, .int y10, .int y11, .int y12, .int y13, .int y14, .long y15, .int y16, .int 0, .ref y18, .ref y19, .ref y20, .ref y21, .ref y22, .ref y23, .ref y24, .ref y25, .ref y26, .ref y27, .ref y28, .ref y29, .ref y30, .ref y31, .ref y32, .ref y33, .ref y34, .ref y35, .ref y36, .ref y37, .ref y38, .ref y39, .ref y40, .ref y41, .ref y42, .ref y43, .ref y44, .ref y45, .ref y46, .int y47, .ref y48, .ref y49, .int y50, .int y51, .int y52, .int y53, .long y54, .int y55, .ref y56, .ref y57, .ref y58, .ref y59]))] s.heap.size = A at hD hZ ⊢
  have hA : ∀ q : Nat, s.heap.size ≤ q → A q := fun q h => by rw [← hAe]; exact Or.inr h
  have hS : va_S A s.heap s.heap [] := va_S.rf
  have hl := lv_entry ([.ref y, .int a1]) (n := 3) (Nat.le_of_ble_eq_true rfl)
  rw [lg_entry_eq]
  generalize (lg_sl ([.ref y, .int a1]) ++ List.replicate (3 - (lg_sl ([.ref y, .int a1])).length) Slot.unset).toArray = ls at hl ⊢
  have hl : lv_has ls 3 [(0, .ref y), (1, .int a1)] := hl
  refine lv_aload_n hx hb dM_drop_0 rfl (lv_at hl 0 rfl) ?_
  refine lv_iload_n hx hb dM_drop_1 rfl (lv_at hl 1 rfl) ?_
  refine lv_iconst (v := 0) hx hb dM_drop_2 (by decide) ?_
  refine lv_aload_n hx hb dM_drop_3 rfl (lv_at hl 0 rfl) ?_
  refine va_get (D := D) (ci := 11) (v := .int 0) (C := R_M) (T := T_M) (N := 60) hx hb hT in_M hown hK hP 0 rfl rfl 17 (by decide) (hT _ w1121) (fun _ h9 => h9) rfl dM_drop_4 ?_
  refine ro_i (va_Run.run (va_runS (As := [.int a1, .int 0, .int 0]) (rest := [.ref y]) ⟨hx, hb, hml, hown, hT⟩ (y_in l D cT a1 0 0) ⟨callB_of 3 hT (tb_gd w1297) rfl rfl rfl (hT _ w13) (hT _ w1295) hM_in ⟨Nat.le_of_ble_eq_true rfl, Nat.le_of_ble_eq_true rfl⟩, (hT _ w1296)⟩ (RO.preS hZ hS ((show va_P D vwCl [] _ from fun _ _ h => nomatch h)) hK) rfl rfl hl.1 rfl (lv_room (Nat.le_of_ble_eq_true rfl)) dM_drop_7 ⟨Nat.le_of_ble_eq_true rfl, Nat.le_of_ble_eq_true rfl⟩)) ?_
  refine lv_if_eq (tgt := 17) hx hb dM_drop_10 rfl (fun _ => ?_) (fun hj1 => absurd (bi_f hq) hj1)
  refine lv_iconst (v := 1) hx hb dM_drop_17 (by decide) ?_
  refine rw_i (wc := [(y, .inr (11, [.ref y0, .int y1, .int y2, .int y3, .ref y4, .ref y5, .ref y6, .ref y7, .ref y8, .ref y9, .int y10, .int y11, .int y12, .int y13, .int y14, .long y15, .int y16, .int 0, .ref y18, .ref y19, .ref y20, .ref y21, .ref y22, .ref y23, .ref y24, .ref y25, .ref y26, .ref y27, .ref y28, .ref y29, .ref y30, .ref y31, .ref y32, .ref y33, .ref y34, .ref y35, .ref y36, .ref y37, .ref y38, .ref y39, .ref y40, .ref y41, .ref y42, .ref y43, .ref y44, .ref y45, .ref y46, .int y47, .ref y48, .ref y49, .int y50, .int y51, .int y52, .int y53, .long y54, .int y55, .ref y56, .ref y57, .ref y58, .ref y59]))]) (wr := []) hP hD hS hA [0] [] rfl rfl (by decide) (by decide) (va_runV (As := [.int 1]) (rest := []) ⟨hx, hb, hml, hown, hT⟩ (y_refused1 l D cT y y0 y1 y2 y3 y4 y5 y6 y7 y8 y9 y10 y11 y12 y13 y14 y15 y16 0 y18 y19 y20 y21 y22 y23 y24 y25 y26 y27 y28 y29 y30 y31 y32 y33 y34 y35 y36 y37 y38 y39 y40 y41 y42 y43 y44 y45 y46 y47 y48 y49 y50 y51 y52 y53 y54 y55 y56 y57 y58 y59 _) ⟨callB_of 1 hT (tb_gd w1301) rfl rfl rfl (hT _ w13) (hT _ w1298) hM_refused ⟨Nat.le_of_ble_eq_true rfl, Nat.le_of_ble_eq_true rfl⟩, (hT _ w1300), (hT _ wp29)⟩ (RW.preV (ci := 11) (q0 := 0) hZ hS (va_free (wc := [(y, .inr (11, [.ref y0, .int y1, .int y2, .int y3, .ref y4, .ref y5, .ref y6, .ref y7, .ref y8, .ref y9, .int y10, .int y11, .int y12, .int y13, .int y14, .long y15, .int y16, .int 0, .ref y18, .ref y19, .ref y20, .ref y21, .ref y22, .ref y23, .ref y24, .ref y25, .ref y26, .ref y27, .ref y28, .ref y29, .ref y30, .ref y31, .ref y32, .ref y33, .ref y34, .ref y35, .ref y36, .ref y37, .ref y38, .ref y39, .ref y40, .ref y41, .ref y42, .ref y43, .ref y44, .ref y45, .ref y46, .int y47, .ref y48, .ref y49, .int y50, .int y51, .int y52, .int y53, .long y54, .int y55, .ref y56, .ref y57, .ref y58, .ref y59]))]) hD hS hA [0] rfl) (hP.sub (ws' := [(y, .inr (11, [.ref y0, .int y1, .int y2, .int y3, .ref y4, .ref y5, .ref y6, .ref y7, .ref y8, .ref y9, .int y10, .int y11, .int y12, .int y13, .int y14, .long y15, .int y16, .int 0, .ref y18, .ref y19, .ref y20, .ref y21, .ref y22, .ref y23, .ref y24, .ref y25, .ref y26, .ref y27, .ref y28, .ref y29, .ref y30, .ref y31, .ref y32, .ref y33, .ref y34, .ref y35, .ref y36, .ref y37, .ref y38, .ref y39, .ref y40, .ref y41, .ref y42, .ref y43, .ref y44, .ref y45, .ref y46, .int y47, .ref y48, .ref y49, .int y50, .int y51, .int y52, .int y53, .long y54, .int y55, .ref y56, .ref y57, .ref y58, .ref y59]))]) [0] rfl) hK (hD.sub (ws' := [(y, .inr (11, [.ref y0, .int y1, .int y2, .int y3, .ref y4, .ref y5, .ref y6, .ref y7, .ref y8, .ref y9, .int y10, .int y11, .int y12, .int y13, .int y14, .long y15, .int y16, .int 0, .ref y18, .ref y19, .ref y20, .ref y21, .ref y22, .ref y23, .ref y24, .ref y25, .ref y26, .ref y27, .ref y28, .ref y29, .ref y30, .ref y31, .ref y32, .ref y33, .ref y34, .ref y35, .ref y36, .ref y37, .ref y38, .ref y39, .ref y40, .ref y41, .ref y42, .ref y43, .ref y44, .ref y45, .ref y46, .int y47, .ref y48, .ref y49, .int y50, .int y51, .int y52, .int y53, .long y54, .int y55, .ref y56, .ref y57, .ref y58, .ref y59]))]) [0] (by decide) rfl) rfl rfl) rfl rfl hl.1 rfl (lv_room (Nat.le_of_ble_eq_true rfl)) dM_drop_18 ⟨Nat.le_of_ble_eq_true rfl, Nat.le_of_ble_eq_true rfl⟩) (fun ru2 u2 H locs hpu2 hP hD hS => ?_)
  have hP : va_P D vwCl [(y, .inr (11, [.ref y0, .int 1, .int y2, .int y3, .ref y4, .ref y5, .ref y6, .ref y7, .ref y8, .ref y9, .int y10, .int y11, .int y12, .int y13, .int y14, .long y15, .int y16, .int 0, .ref y18, .ref y19, .ref y20, .ref y21, .ref y22, .ref y23, .ref y24, .ref y25, .ref y26, .ref y27, .ref y28, .ref y29, .ref y30, .ref y31, .ref y32, .ref y33, .ref y34, .ref y35, .ref y36, .ref y37, .ref y38, .ref y39, .ref y40, .ref y41, .ref y42, .ref y43, .ref y44, .ref y45, .ref y46, .int y47, .ref y48, .ref y49, .int y50, .int y51, .int y52, .int y53, .long y54, .int y55, .ref y56, .ref y57, .ref y58, .ref y59]))] H := hP
  have hD : va_D A [(y, .inr (11, [.ref y0, .int 1, .int y2, .int y3, .ref y4, .ref y5, .ref y6, .ref y7, .ref y8, .ref y9, .int y10, .int y11, .int y12, .int y13, .int y14, .long y15, .int y16, .int 0, .ref y18, .ref y19, .ref y20, .ref y21, .ref y22, .ref y23, .ref y24, .ref y25, .ref y26, .ref y27, .ref y28, .ref y29, .ref y30, .ref y31, .ref y32, .ref y33, .ref y34, .ref y35, .ref y36, .ref y37, .ref y38, .ref y39, .ref y40, .ref y41, .ref y42, .ref y43, .ref y44, .ref y45, .ref y46, .int y47, .ref y48, .ref y49, .int y50, .int y51, .int y52, .int y53, .long y54, .int y55, .ref y56, .ref y57, .ref y58, .ref y59]))] := hD
  rw [hpu2]
  refine lv_if_eq (tgt := 26) hx hb dM_drop_21 rfl (fun hj3 => absurd hj3 (by decide)) (fun _ => ?_)
  refine lv_iconst (v := 0) hx hb dM_drop_24 (by decide) ?_
  have hP9 := hP.sub (ws' := [(y, .inr (11, [.ref y0, .int 1, .int y2, .int y3, .ref y4, .ref y5, .ref y6, .ref y7, .ref y8, .ref y9, .int y10, .int y11, .int y12, .int y13, .int y14, .long y15, .int y16, .int 0, .ref y18, .ref y19, .ref y20, .ref y21, .ref y22, .ref y23, .ref y24, .ref y25, .ref y26, .ref y27, .ref y28, .ref y29, .ref y30, .ref y31, .ref y32, .ref y33, .ref y34, .ref y35, .ref y36, .ref y37, .ref y38, .ref y39, .ref y40, .ref y41, .ref y42, .ref y43, .ref y44, .ref y45, .ref y46, .int y47, .ref y48, .ref y49, .int y50, .int y51, .int y52, .int y53, .long y54, .int y55, .ref y56, .ref y57, .ref y58, .ref y59]))]) [0] rfl
  have hD9 := hD.sub (ws' := [(y, .inr (11, [.ref y0, .int 1, .int y2, .int y3, .ref y4, .ref y5, .ref y6, .ref y7, .ref y8, .ref y9, .int y10, .int y11, .int y12, .int y13, .int y14, .long y15, .int y16, .int 0, .ref y18, .ref y19, .ref y20, .ref y21, .ref y22, .ref y23, .ref y24, .ref y25, .ref y26, .ref y27, .ref y28, .ref y29, .ref y30, .ref y31, .ref y32, .ref y33, .ref y34, .ref y35, .ref y36, .ref y37, .ref y38, .ref y39, .ref y40, .ref y41, .ref y42, .ref y43, .ref y44, .ref y45, .ref y46, .int y47, .ref y48, .ref y49, .int y50, .int y51, .int y52, .int y53, .long y54, .int y55, .ref y56, .ref y57, .ref y58, .ref y59]))]) [0] (by decide) rfl
  refine W.widen (k := 0) (n := 0) (Nat.le_of_ble_eq_true rfl) (Nat.le_of_ble_eq_true rfl) ?_
  exact W.iret (v := 0) hx hb hr (fun t ht hW => ⟨⟨0, (fun _ => 0), rfl, rfl, by rw [ht]; exact hP9, hD9⟩, hS.F ht⟩) hS.2.2 dM_drop_25
set_option maxHeartbeats 4000000 in
set_option maxRecDepth 100000 in
theorem y_node_no (l : Launch) (D : va_G) (cT : Nat → ClassId) (y : Nat) (y0 : Nat) (y1 : Int32) (y2 : Int32) (y3 : Int32) (y4 : Nat) (y5 : Nat) (y6 : Nat) (y7 : Nat) (y8 : Nat) (y9 : Nat) (y10 : Int32) (y11 : Int32) (y12 : Int32) (y13 : Int32) (y14 : Int32) (y15 : Int64) (y16 : Int32) (y18 : Nat) (y19 : Nat) (y20 : Nat) (y21 : Nat) (y22 : Nat) (y23 : Nat) (y24 : Nat) (y25 : Nat) (y26 : Nat) (y27 : Nat) (y28 : Nat) (y29 : Nat) (y30 : Nat) (y31 : Nat) (y32 : Nat) (y33 : Nat) (y34 : Nat) (y35 : Nat) (y36 : Nat) (y37 : Nat) (y38 : Nat) (y39 : Nat) (y40 : Nat) (y41 : Nat) (y42 : Nat) (y43 : Nat) (y44 : Nat) (y45 : Nat) (y46 : Nat) (y47 : Int32) (y48 : Nat) (y49 : Nat) (y50 : Int32) (y51 : Int32) (y52 : Int32) (y53 : Int32) (y54 : Int64) (y55 : Int32) (y56 : Nat) (y57 : Nat) (y58 : Nat) (y59 : Nat) (a1 : Int32) (a2 : Int32) (a3 : Int32) (sz : Nat) : Met l yM_node WM_node ({ frames := 3, cells := 0, slots := 0, locals := 65 } : Room) (RW D vwCl [.ref y, .int a1, .int a2, .int a3] [(y, .inr (11, [.ref y0, .int y1, .int y2, .int y3, .ref y4, .ref y5, .ref y6, .ref y7, .ref y8, .ref y9, .int y10, .int y11, .int y12, .int y13, .int y14, .long y15, .int y16, .int 0, .ref y18, .ref y19, .ref y20, .ref y21, .ref y22, .ref y23, .ref y24, .ref y25, .ref y26, .ref y27, .ref y28, .ref y29, .ref y30, .ref y31, .ref y32, .ref y33, .ref y34, .ref y35, .ref y36, .ref y37, .ref y38, .ref y39, .ref y40, .ref y41, .ref y42, .ref y43, .ref y44, .ref y45, .ref y46, .int y47, .ref y48, .ref y49, .int y50, .int y51, .int y52, .int y53, .long y54, .int y55, .ref y56, .ref y57, .ref y58, .ref y59]))] (TY cT) sz) (va_Qi (fun (r : Int32) (_ : Nat → Nat) => r = 0) (BW D vwCl (va_A [(y, .inr (11, [.ref y0, .int y1, .int y2, .int y3, .ref y4, .ref y5, .ref y6, .ref y7, .ref y8, .ref y9, .int y10, .int y11, .int y12, .int y13, .int y14, .long y15, .int y16, .int 0, .ref y18, .ref y19, .ref y20, .ref y21, .ref y22, .ref y23, .ref y24, .ref y25, .ref y26, .ref y27, .ref y28, .ref y29, .ref y30, .ref y31, .ref y32, .ref y33, .ref y34, .ref y35, .ref y36, .ref y37, .ref y38, .ref y39, .ref y40, .ref y41, .ref y42, .ref y43, .ref y44, .ref y45, .ref y46, .int y47, .ref y48, .ref y49, .int y50, .int y51, .int y52, .int y53, .long y54, .int y55, .ref y56, .ref y57, .ref y58, .ref y59]))] sz) (fun u => [(y, .inr (11, [.ref y0, .int 1, .int y2, .int y3, .ref y4, .ref y5, .ref y6, .ref y7, .ref y8, .ref y9, .int y10, .int y11, .int y12, .int y13, .int y14, .long y15, .int y16, .int 0, .ref y18, .ref y19, .ref y20, .ref y21, .ref y22, .ref y23, .ref y24, .ref y25, .ref y26, .ref y27, .ref y28, .ref y29, .ref y30, .ref y31, .ref y32, .ref y33, .ref y34, .ref y35, .ref y36, .ref y37, .ref y38, .ref y39, .ref y40, .ref y41, .ref y42, .ref y43, .ref y44, .ref y45, .ref y46, .int y47, .ref y48, .ref y49, .int y50, .int y51, .int y52, .int y53, .long y54, .int y55, .ref y56, .ref y57, .ref y58, .ref y59]))])) (va_A [(y, .inr (11, [.ref y0, .int y1, .int y2, .int y3, .ref y4, .ref y5, .ref y6, .ref y7, .ref y8, .ref y9, .int y10, .int y11, .int y12, .int y13, .int y14, .long y15, .int y16, .int 0, .ref y18, .ref y19, .ref y20, .ref y21, .ref y22, .ref y23, .ref y24, .ref y25, .ref y26, .ref y27, .ref y28, .ref y29, .ref y30, .ref y31, .ref y32, .ref y33, .ref y34, .ref y35, .ref y36, .ref y37, .ref y38, .ref y39, .ref y40, .ref y41, .ref y42, .ref y43, .ref y44, .ref y45, .ref y46, .int y47, .ref y48, .ref y49, .int y50, .int y51, .int y52, .int y53, .long y54, .int y55, .ref y56, .ref y57, .ref y58, .ref y59]))] sz)) 0 0 (va_A [(y, .inr (11, [.ref y0, .int y1, .int y2, .int y3, .ref y4, .ref y5, .ref y6, .ref y7, .ref y8, .ref y9, .int y10, .int y11, .int y12, .int y13, .int y14, .long y15, .int y16, .int 0, .ref y18, .ref y19, .ref y20, .ref y21, .ref y22, .ref y23, .ref y24, .ref y25, .ref y26, .ref y27, .ref y28, .ref y29, .ref y30, .ref y31, .ref y32, .ref y33, .ref y34, .ref y35, .ref y36, .ref y37, .ref y38, .ref y39, .ref y40, .ref y41, .ref y42, .ref y43, .ref y44, .ref y45, .ref y46, .int y47, .ref y48, .ref y49, .int y50, .int y51, .int y52, .int y53, .long y54, .int y55, .ref y56, .ref y57, .ref y58, .ref y59]))] sz) := by
  refine Met.ofW (cc := cM_node) (maxL := 5) (ret := (some .int)) (by decide) rfl ?_
  intro p e s m args below meth c s₁ B hml hv
  obtain ⟨rfl, hsz, hZ, hP, hK, hD0⟩ := hv
  have hx := B.exec
  have hb := B.bytes
  have hr := B.returns
  have hts := atoms_spec (ws := WM_node) B.pre
  have hT : ∀ w ∈ TB, w.before _ s = true := fun w h => hts w (List.mem_cons_of_mem _ h)
  have hown : s.vm.findClass R_M = some m.cls := findClass_of_methodNamed B.named
  have hlocks := B.notSynchronized
  subst hsz
  have hD := hD0.self (sz := s.heap.size)
  generalize hAe : va_A [(y, .inr (11, [.ref y0, .int y1, .int y2, .int y3, .ref y4, .ref y5, .ref y6, .ref y7, .ref y8, .ref y9, .int y10, .int y11, .int y12, .int y13, .int y14, .long y15, .int y16, .int 0, .ref y18, .ref y19, .ref y20, .ref y21, .ref y22, .ref y23, .ref y24, .ref y25, .ref y26, .ref y27, .ref y28, .ref y29, .ref y30, .ref y31, .ref y32, .ref y33, .ref y34, .ref y35, .ref y36, .ref y37, .ref y38, .ref y39, .ref y40, .ref y41, .ref y42, .ref y43, .ref y44, .ref y45, .ref y46, .int y47, .ref y48, .ref y49, .int y50, .int y51, .int y52, .int y53, .long y54, .int y55, .ref y56, .ref y57, .ref y58, .ref y59]))] s.heap.size = A at hD hZ ⊢
  have hA : ∀ q : Nat, s.heap.size ≤ q → A q := fun q h => by rw [← hAe]; exact Or.inr h
  have hS : va_S A s.heap s.heap [] := va_S.rf
  have hl := lv_entry ([.ref y, .int a1, .int a2, .int a3]) (n := 5) (Nat.le_of_ble_eq_true rfl)
  rw [lg_entry_eq]
  generalize (lg_sl ([.ref y, .int a1, .int a2, .int a3]) ++ List.replicate (5 - (lg_sl ([.ref y, .int a1, .int a2, .int a3])).length) Slot.unset).toArray = ls at hl ⊢
  have hl : lv_has ls 5 [(0, .ref y), (1, .int a1), (2, .int a2), (3, .int a3)] := hl
  refine lv_aload_n hx hb dM_node_0 rfl (lv_at hl 0 rfl) ?_
  refine lv_aload_n hx hb dM_node_1 rfl (lv_at hl 0 rfl) ?_
  refine lv_iload_n hx hb dM_node_2 rfl (lv_at hl 1 rfl) ?_
  refine lv_iload_n hx hb dM_node_3 rfl (lv_at hl 2 rfl) ?_
  refine ro_i (va_Run.run (va_runV (As := [.int a1, .int a2]) (rest := [.ref y]) ⟨hx, hb, hml, hown, hT⟩ (y_noNode1 l D cT y y0 y1 y2 y3 y4 y5 y6 y7 y8 y9 y10 y11 y12 y13 y14 y15 y16 y18 y19 y20 y21 y22 y23 y24 y25 y26 y27 y28 y29 y30 y31 y32 y33 y34 y35 y36 y37 y38 y39 y40 y41 y42 y43 y44 y45 y46 y47 y48 y49 y50 y51 y52 y53 y54 y55 y56 y57 y58 y59 a1 a2) ⟨callB_of 2 hT (tb_gd w1535) rfl rfl rfl (hT _ w13) (hT _ w1532) hM_noNode ⟨Nat.le_of_ble_eq_true rfl, Nat.le_of_ble_eq_true rfl⟩, (hT _ w1534), (hT _ wp60)⟩ (RO.preV (ci := 11) (q0 := 0) hZ hS (hP.sub (ws' := [(y, .inr (11, [.ref y0, .int y1, .int y2, .int y3, .ref y4, .ref y5, .ref y6, .ref y7, .ref y8, .ref y9, .int y10, .int y11, .int y12, .int y13, .int y14, .long y15, .int y16, .int 0, .ref y18, .ref y19, .ref y20, .ref y21, .ref y22, .ref y23, .ref y24, .ref y25, .ref y26, .ref y27, .ref y28, .ref y29, .ref y30, .ref y31, .ref y32, .ref y33, .ref y34, .ref y35, .ref y36, .ref y37, .ref y38, .ref y39, .ref y40, .ref y41, .ref y42, .ref y43, .ref y44, .ref y45, .ref y46, .int y47, .ref y48, .ref y49, .int y50, .int y51, .int y52, .int y53, .long y54, .int y55, .ref y56, .ref y57, .ref y58, .ref y59]))]) [0] rfl) hK rfl rfl) rfl rfl hl.1 rfl (lv_room (Nat.le_of_ble_eq_true rfl)) dM_node_4 ⟨Nat.le_of_ble_eq_true rfl, Nat.le_of_ble_eq_true rfl⟩)) ?_
  refine lv_if_ne (tgt := 20) hx hb dM_node_7 rfl (fun _ => ?_) (fun hj1 => absurd hj1 (by decide))
  refine lv_iconst (v := 1) hx hb dM_node_20 (by decide) ?_
  refine lv_goto (tgt := 25) hx hb dM_node_21 rfl ?_
  refine rw_i (wc := [(y, .inr (11, [.ref y0, .int y1, .int y2, .int y3, .ref y4, .ref y5, .ref y6, .ref y7, .ref y8, .ref y9, .int y10, .int y11, .int y12, .int y13, .int y14, .long y15, .int y16, .int 0, .ref y18, .ref y19, .ref y20, .ref y21, .ref y22, .ref y23, .ref y24, .ref y25, .ref y26, .ref y27, .ref y28, .ref y29, .ref y30, .ref y31, .ref y32, .ref y33, .ref y34, .ref y35, .ref y36, .ref y37, .ref y38, .ref y39, .ref y40, .ref y41, .ref y42, .ref y43, .ref y44, .ref y45, .ref y46, .int y47, .ref y48, .ref y49, .int y50, .int y51, .int y52, .int y53, .long y54, .int y55, .ref y56, .ref y57, .ref y58, .ref y59]))]) (wr := []) hP hD hS hA [0] [] rfl rfl (by decide) (by decide) (va_runV (As := [.int 1]) (rest := []) ⟨hx, hb, hml, hown, hT⟩ (y_refused1 l D cT y y0 y1 y2 y3 y4 y5 y6 y7 y8 y9 y10 y11 y12 y13 y14 y15 y16 0 y18 y19 y20 y21 y22 y23 y24 y25 y26 y27 y28 y29 y30 y31 y32 y33 y34 y35 y36 y37 y38 y39 y40 y41 y42 y43 y44 y45 y46 y47 y48 y49 y50 y51 y52 y53 y54 y55 y56 y57 y58 y59 _) ⟨callB_of 1 hT (tb_gd w1301) rfl rfl rfl (hT _ w13) (hT _ w1298) hM_refused ⟨Nat.le_of_ble_eq_true rfl, Nat.le_of_ble_eq_true rfl⟩, (hT _ w1300), (hT _ wp29)⟩ (RW.preV (ci := 11) (q0 := 0) hZ hS (va_free (wc := [(y, .inr (11, [.ref y0, .int y1, .int y2, .int y3, .ref y4, .ref y5, .ref y6, .ref y7, .ref y8, .ref y9, .int y10, .int y11, .int y12, .int y13, .int y14, .long y15, .int y16, .int 0, .ref y18, .ref y19, .ref y20, .ref y21, .ref y22, .ref y23, .ref y24, .ref y25, .ref y26, .ref y27, .ref y28, .ref y29, .ref y30, .ref y31, .ref y32, .ref y33, .ref y34, .ref y35, .ref y36, .ref y37, .ref y38, .ref y39, .ref y40, .ref y41, .ref y42, .ref y43, .ref y44, .ref y45, .ref y46, .int y47, .ref y48, .ref y49, .int y50, .int y51, .int y52, .int y53, .long y54, .int y55, .ref y56, .ref y57, .ref y58, .ref y59]))]) hD hS hA [0] rfl) (hP.sub (ws' := [(y, .inr (11, [.ref y0, .int y1, .int y2, .int y3, .ref y4, .ref y5, .ref y6, .ref y7, .ref y8, .ref y9, .int y10, .int y11, .int y12, .int y13, .int y14, .long y15, .int y16, .int 0, .ref y18, .ref y19, .ref y20, .ref y21, .ref y22, .ref y23, .ref y24, .ref y25, .ref y26, .ref y27, .ref y28, .ref y29, .ref y30, .ref y31, .ref y32, .ref y33, .ref y34, .ref y35, .ref y36, .ref y37, .ref y38, .ref y39, .ref y40, .ref y41, .ref y42, .ref y43, .ref y44, .ref y45, .ref y46, .int y47, .ref y48, .ref y49, .int y50, .int y51, .int y52, .int y53, .long y54, .int y55, .ref y56, .ref y57, .ref y58, .ref y59]))]) [0] rfl) hK (hD.sub (ws' := [(y, .inr (11, [.ref y0, .int y1, .int y2, .int y3, .ref y4, .ref y5, .ref y6, .ref y7, .ref y8, .ref y9, .int y10, .int y11, .int y12, .int y13, .int y14, .long y15, .int y16, .int 0, .ref y18, .ref y19, .ref y20, .ref y21, .ref y22, .ref y23, .ref y24, .ref y25, .ref y26, .ref y27, .ref y28, .ref y29, .ref y30, .ref y31, .ref y32, .ref y33, .ref y34, .ref y35, .ref y36, .ref y37, .ref y38, .ref y39, .ref y40, .ref y41, .ref y42, .ref y43, .ref y44, .ref y45, .ref y46, .int y47, .ref y48, .ref y49, .int y50, .int y51, .int y52, .int y53, .long y54, .int y55, .ref y56, .ref y57, .ref y58, .ref y59]))]) [0] (by decide) rfl) rfl rfl) rfl rfl hl.1 rfl (lv_room (Nat.le_of_ble_eq_true rfl)) dM_node_25 ⟨Nat.le_of_ble_eq_true rfl, Nat.le_of_ble_eq_true rfl⟩) (fun ru2 u2 H locs hpu2 hP hD hS => ?_)
  have hP : va_P D vwCl [(y, .inr (11, [.ref y0, .int 1, .int y2, .int y3, .ref y4, .ref y5, .ref y6, .ref y7, .ref y8, .ref y9, .int y10, .int y11, .int y12, .int y13, .int y14, .long y15, .int y16, .int 0, .ref y18, .ref y19, .ref y20, .ref y21, .ref y22, .ref y23, .ref y24, .ref y25, .ref y26, .ref y27, .ref y28, .ref y29, .ref y30, .ref y31, .ref y32, .ref y33, .ref y34, .ref y35, .ref y36, .ref y37, .ref y38, .ref y39, .ref y40, .ref y41, .ref y42, .ref y43, .ref y44, .ref y45, .ref y46, .int y47, .ref y48, .ref y49, .int y50, .int y51, .int y52, .int y53, .long y54, .int y55, .ref y56, .ref y57, .ref y58, .ref y59]))] H := hP
  have hD : va_D A [(y, .inr (11, [.ref y0, .int 1, .int y2, .int y3, .ref y4, .ref y5, .ref y6, .ref y7, .ref y8, .ref y9, .int y10, .int y11, .int y12, .int y13, .int y14, .long y15, .int y16, .int 0, .ref y18, .ref y19, .ref y20, .ref y21, .ref y22, .ref y23, .ref y24, .ref y25, .ref y26, .ref y27, .ref y28, .ref y29, .ref y30, .ref y31, .ref y32, .ref y33, .ref y34, .ref y35, .ref y36, .ref y37, .ref y38, .ref y39, .ref y40, .ref y41, .ref y42, .ref y43, .ref y44, .ref y45, .ref y46, .int y47, .ref y48, .ref y49, .int y50, .int y51, .int y52, .int y53, .long y54, .int y55, .ref y56, .ref y57, .ref y58, .ref y59]))] := hD
  rw [hpu2]
  refine lv_if_eq (tgt := 33) hx hb dM_node_28 rfl (fun hj3 => absurd hj3 (by decide)) (fun _ => ?_)
  refine lv_iconst (v := 0) hx hb dM_node_31 (by decide) ?_
  have hP9 := hP.sub (ws' := [(y, .inr (11, [.ref y0, .int 1, .int y2, .int y3, .ref y4, .ref y5, .ref y6, .ref y7, .ref y8, .ref y9, .int y10, .int y11, .int y12, .int y13, .int y14, .long y15, .int y16, .int 0, .ref y18, .ref y19, .ref y20, .ref y21, .ref y22, .ref y23, .ref y24, .ref y25, .ref y26, .ref y27, .ref y28, .ref y29, .ref y30, .ref y31, .ref y32, .ref y33, .ref y34, .ref y35, .ref y36, .ref y37, .ref y38, .ref y39, .ref y40, .ref y41, .ref y42, .ref y43, .ref y44, .ref y45, .ref y46, .int y47, .ref y48, .ref y49, .int y50, .int y51, .int y52, .int y53, .long y54, .int y55, .ref y56, .ref y57, .ref y58, .ref y59]))]) [0] rfl
  have hD9 := hD.sub (ws' := [(y, .inr (11, [.ref y0, .int 1, .int y2, .int y3, .ref y4, .ref y5, .ref y6, .ref y7, .ref y8, .ref y9, .int y10, .int y11, .int y12, .int y13, .int y14, .long y15, .int y16, .int 0, .ref y18, .ref y19, .ref y20, .ref y21, .ref y22, .ref y23, .ref y24, .ref y25, .ref y26, .ref y27, .ref y28, .ref y29, .ref y30, .ref y31, .ref y32, .ref y33, .ref y34, .ref y35, .ref y36, .ref y37, .ref y38, .ref y39, .ref y40, .ref y41, .ref y42, .ref y43, .ref y44, .ref y45, .ref y46, .int y47, .ref y48, .ref y49, .int y50, .int y51, .int y52, .int y53, .long y54, .int y55, .ref y56, .ref y57, .ref y58, .ref y59]))]) [0] (by decide) rfl
  refine W.widen (k := 0) (n := 0) (Nat.le_of_ble_eq_true rfl) (Nat.le_of_ble_eq_true rfl) ?_
  exact W.iret (v := 0) hx hb hr (fun t ht hW => ⟨⟨0, (fun _ => 0), rfl, rfl, by rw [ht]; exact hP9, hD9⟩, hS.F ht⟩) hS.2.2 dM_node_32
set_option maxHeartbeats 4000000 in
set_option maxRecDepth 100000 in
theorem y_nodes_no (l : Launch) (D : va_G) (cT : Nat → ClassId) (y : Nat) (y0 : Nat) (y1 : Int32) (y2 : Int32) (y3 : Int32) (y4 : Nat) (y5 : Nat) (y6 : Nat) (y7 : Nat) (y8 : Nat) (y9 : Nat) (y10 : Int32) (y11 : Int32) (y12 : Int32) (y13 : Int32) (y14 : Int32) (y15 : Int64) (y16 : Int32) (y18 : Nat) (y19 : Nat) (y20 : Nat) (y21 : Nat) (y22 : Nat) (y23 : Nat) (y24 : Nat) (y25 : Nat) (y26 : Nat) (y27 : Nat) (y28 : Nat) (y29 : Nat) (y30 : Nat) (y31 : Nat) (y32 : Nat) (y33 : Nat) (y34 : Nat) (y35 : Nat) (y36 : Nat) (y37 : Nat) (y38 : Nat) (y39 : Nat) (y40 : Nat) (y41 : Nat) (y42 : Nat) (y43 : Nat) (y44 : Nat) (y45 : Nat) (y46 : Nat) (y47 : Int32) (y48 : Nat) (y49 : Nat) (y50 : Int32) (y51 : Int32) (y52 : Int32) (y53 : Int32) (y54 : Int64) (y55 : Int32) (y56 : Nat) (y57 : Nat) (y58 : Nat) (y59 : Nat) (a1 : Int32) (sz : Nat) : Met l yM_nodes WM_nodes ({ frames := 2, cells := 0, slots := 0, locals := 43 } : Room) (RW D vwCl [.ref y, .int a1] [(y, .inr (11, [.ref y0, .int y1, .int y2, .int y3, .ref y4, .ref y5, .ref y6, .ref y7, .ref y8, .ref y9, .int y10, .int y11, .int y12, .int y13, .int y14, .long y15, .int y16, .int 0, .ref y18, .ref y19, .ref y20, .ref y21, .ref y22, .ref y23, .ref y24, .ref y25, .ref y26, .ref y27, .ref y28, .ref y29, .ref y30, .ref y31, .ref y32, .ref y33, .ref y34, .ref y35, .ref y36, .ref y37, .ref y38, .ref y39, .ref y40, .ref y41, .ref y42, .ref y43, .ref y44, .ref y45, .ref y46, .int y47, .ref y48, .ref y49, .int y50, .int y51, .int y52, .int y53, .long y54, .int y55, .ref y56, .ref y57, .ref y58, .ref y59]))] (TY cT) sz) (va_Qi (fun (r : Int32) (_ : Nat → Nat) => r = 0) (BW D vwCl (va_A [(y, .inr (11, [.ref y0, .int y1, .int y2, .int y3, .ref y4, .ref y5, .ref y6, .ref y7, .ref y8, .ref y9, .int y10, .int y11, .int y12, .int y13, .int y14, .long y15, .int y16, .int 0, .ref y18, .ref y19, .ref y20, .ref y21, .ref y22, .ref y23, .ref y24, .ref y25, .ref y26, .ref y27, .ref y28, .ref y29, .ref y30, .ref y31, .ref y32, .ref y33, .ref y34, .ref y35, .ref y36, .ref y37, .ref y38, .ref y39, .ref y40, .ref y41, .ref y42, .ref y43, .ref y44, .ref y45, .ref y46, .int y47, .ref y48, .ref y49, .int y50, .int y51, .int y52, .int y53, .long y54, .int y55, .ref y56, .ref y57, .ref y58, .ref y59]))] sz) (fun u => [(y, .inr (11, [.ref y0, .int 1, .int y2, .int y3, .ref y4, .ref y5, .ref y6, .ref y7, .ref y8, .ref y9, .int y10, .int y11, .int y12, .int y13, .int y14, .long y15, .int y16, .int 0, .ref y18, .ref y19, .ref y20, .ref y21, .ref y22, .ref y23, .ref y24, .ref y25, .ref y26, .ref y27, .ref y28, .ref y29, .ref y30, .ref y31, .ref y32, .ref y33, .ref y34, .ref y35, .ref y36, .ref y37, .ref y38, .ref y39, .ref y40, .ref y41, .ref y42, .ref y43, .ref y44, .ref y45, .ref y46, .int y47, .ref y48, .ref y49, .int y50, .int y51, .int y52, .int y53, .long y54, .int y55, .ref y56, .ref y57, .ref y58, .ref y59]))])) (va_A [(y, .inr (11, [.ref y0, .int y1, .int y2, .int y3, .ref y4, .ref y5, .ref y6, .ref y7, .ref y8, .ref y9, .int y10, .int y11, .int y12, .int y13, .int y14, .long y15, .int y16, .int 0, .ref y18, .ref y19, .ref y20, .ref y21, .ref y22, .ref y23, .ref y24, .ref y25, .ref y26, .ref y27, .ref y28, .ref y29, .ref y30, .ref y31, .ref y32, .ref y33, .ref y34, .ref y35, .ref y36, .ref y37, .ref y38, .ref y39, .ref y40, .ref y41, .ref y42, .ref y43, .ref y44, .ref y45, .ref y46, .int y47, .ref y48, .ref y49, .int y50, .int y51, .int y52, .int y53, .long y54, .int y55, .ref y56, .ref y57, .ref y58, .ref y59]))] sz)) 0 0 (va_A [(y, .inr (11, [.ref y0, .int y1, .int y2, .int y3, .ref y4, .ref y5, .ref y6, .ref y7, .ref y8, .ref y9, .int y10, .int y11, .int y12, .int y13, .int y14, .long y15, .int y16, .int 0, .ref y18, .ref y19, .ref y20, .ref y21, .ref y22, .ref y23, .ref y24, .ref y25, .ref y26, .ref y27, .ref y28, .ref y29, .ref y30, .ref y31, .ref y32, .ref y33, .ref y34, .ref y35, .ref y36, .ref y37, .ref y38, .ref y39, .ref y40, .ref y41, .ref y42, .ref y43, .ref y44, .ref y45, .ref y46, .int y47, .ref y48, .ref y49, .int y50, .int y51, .int y52, .int y53, .long y54, .int y55, .ref y56, .ref y57, .ref y58, .ref y59]))] sz) := by
  refine Met.ofW (cc := cM_nodes) (maxL := 2) (ret := (some .int)) (by decide) rfl ?_
  intro p e s m args below meth c s₁ B hml hv
  obtain ⟨rfl, hsz, hZ, hP, hK, hD0⟩ := hv
  have hx := B.exec
  have hb := B.bytes
  have hr := B.returns
  have hts := atoms_spec (ws := WM_nodes) B.pre
  have hT : ∀ w ∈ TB, w.before _ s = true := fun w h => hts w (List.mem_cons_of_mem _ h)
  have hown : s.vm.findClass R_M = some m.cls := findClass_of_methodNamed B.named
  have hlocks := B.notSynchronized
  subst hsz
  have hD := hD0.self (sz := s.heap.size)
  generalize hAe : va_A [(y, .inr (11, [.ref y0, .int y1, .int y2, .int y3, .ref y4, .ref y5, .ref y6, .ref y7, .ref y8, .ref y9, .int y10, .int y11, .int y12, .int y13, .int y14, .long y15, .int y16, .int 0, .ref y18, .ref y19, .ref y20, .ref y21, .ref y22, .ref y23, .ref y24, .ref y25, .ref y26, .ref y27, .ref y28, .ref y29, .ref y30, .ref y31, .ref y32, .ref y33, .ref y34, .ref y35, .ref y36, .ref y37, .ref y38, .ref y39, .ref y40, .ref y41, .ref y42, .ref y43, .ref y44, .ref y45, .ref y46, .int y47, .ref y48, .ref y49, .int y50, .int y51, .int y52, .int y53, .long y54, .int y55, .ref y56, .ref y57, .ref y58, .ref y59]))] s.heap.size = A at hD hZ ⊢
  have hA : ∀ q : Nat, s.heap.size ≤ q → A q := fun q h => by rw [← hAe]; exact Or.inr h
  have hS : va_S A s.heap s.heap [] := va_S.rf
  have hl := lv_entry ([.ref y, .int a1]) (n := 2) (Nat.le_of_ble_eq_true rfl)
  rw [lg_entry_eq]
  generalize (lg_sl ([.ref y, .int a1]) ++ List.replicate (2 - (lg_sl ([.ref y, .int a1])).length) Slot.unset).toArray = ls at hl ⊢
  have hl : lv_has ls 2 [(0, .ref y), (1, .int a1)] := hl
  refine lv_aload_n hx hb dM_nodes_0 rfl (lv_at hl 0 rfl) ?_
  refine lv_aload_n hx hb dM_nodes_1 rfl (lv_at hl 0 rfl) ?_
  refine lv_iload_n hx hb dM_nodes_2 rfl (lv_at hl 1 rfl) ?_
  refine ro_i (va_Run.run (va_runV (As := [.int a1]) (rest := [.ref y]) ⟨hx, hb, hml, hown, hT⟩ (y_noTree1 l D cT y y0 y1 y2 y3 y4 y5 y6 y7 y8 y9 y10 y11 y12 y13 y14 y15 y16 y18 y19 y20 y21 y22 y23 y24 y25 y26 y27 y28 y29 y30 y31 y32 y33 y34 y35 y36 y37 y38 y39 y40 y41 y42 y43 y44 y45 y46 y47 y48 y49 y50 y51 y52 y53 y54 y55 y56 y57 y58 y59 a1 (fun q => absurd (Int32.le_trans q.1 q.2) (by decide))) ⟨callB_of 1 hT (tb_gd w1539) rfl rfl rfl (hT _ w13) (hT _ w1536) hM_noTree ⟨Nat.le_of_ble_eq_true rfl, Nat.le_of_ble_eq_true rfl⟩, (hT _ w1538), (hT _ wp61)⟩ (RO.preV (ci := 11) (q0 := 0) hZ hS (hP.sub (ws' := [(y, .inr (11, [.ref y0, .int y1, .int y2, .int y3, .ref y4, .ref y5, .ref y6, .ref y7, .ref y8, .ref y9, .int y10, .int y11, .int y12, .int y13, .int y14, .long y15, .int y16, .int 0, .ref y18, .ref y19, .ref y20, .ref y21, .ref y22, .ref y23, .ref y24, .ref y25, .ref y26, .ref y27, .ref y28, .ref y29, .ref y30, .ref y31, .ref y32, .ref y33, .ref y34, .ref y35, .ref y36, .ref y37, .ref y38, .ref y39, .ref y40, .ref y41, .ref y42, .ref y43, .ref y44, .ref y45, .ref y46, .int y47, .ref y48, .ref y49, .int y50, .int y51, .int y52, .int y53, .long y54, .int y55, .ref y56, .ref y57, .ref y58, .ref y59]))]) [0] rfl) hK rfl rfl) rfl rfl hl.1 rfl (lv_room (Nat.le_of_ble_eq_true rfl)) dM_nodes_3 ⟨Nat.le_of_ble_eq_true rfl, Nat.le_of_ble_eq_true rfl⟩)) ?_
  refine lv_if_eq (tgt := 13) hx hb dM_nodes_6 rfl (fun hj1 => absurd hj1 (by decide)) (fun _ => ?_)
  refine lv_iconst (v := 1) hx hb dM_nodes_9 (by decide) ?_
  refine lv_goto (tgt := 14) hx hb dM_nodes_10 rfl ?_
  refine rw_i (wc := [(y, .inr (11, [.ref y0, .int y1, .int y2, .int y3, .ref y4, .ref y5, .ref y6, .ref y7, .ref y8, .ref y9, .int y10, .int y11, .int y12, .int y13, .int y14, .long y15, .int y16, .int 0, .ref y18, .ref y19, .ref y20, .ref y21, .ref y22, .ref y23, .ref y24, .ref y25, .ref y26, .ref y27, .ref y28, .ref y29, .ref y30, .ref y31, .ref y32, .ref y33, .ref y34, .ref y35, .ref y36, .ref y37, .ref y38, .ref y39, .ref y40, .ref y41, .ref y42, .ref y43, .ref y44, .ref y45, .ref y46, .int y47, .ref y48, .ref y49, .int y50, .int y51, .int y52, .int y53, .long y54, .int y55, .ref y56, .ref y57, .ref y58, .ref y59]))]) (wr := []) hP hD hS hA [0] [] rfl rfl (by decide) (by decide) (va_runV (As := [.int 1]) (rest := []) ⟨hx, hb, hml, hown, hT⟩ (y_refused1 l D cT y y0 y1 y2 y3 y4 y5 y6 y7 y8 y9 y10 y11 y12 y13 y14 y15 y16 0 y18 y19 y20 y21 y22 y23 y24 y25 y26 y27 y28 y29 y30 y31 y32 y33 y34 y35 y36 y37 y38 y39 y40 y41 y42 y43 y44 y45 y46 y47 y48 y49 y50 y51 y52 y53 y54 y55 y56 y57 y58 y59 _) ⟨callB_of 1 hT (tb_gd w1301) rfl rfl rfl (hT _ w13) (hT _ w1298) hM_refused ⟨Nat.le_of_ble_eq_true rfl, Nat.le_of_ble_eq_true rfl⟩, (hT _ w1300), (hT _ wp29)⟩ (RW.preV (ci := 11) (q0 := 0) hZ hS (va_free (wc := [(y, .inr (11, [.ref y0, .int y1, .int y2, .int y3, .ref y4, .ref y5, .ref y6, .ref y7, .ref y8, .ref y9, .int y10, .int y11, .int y12, .int y13, .int y14, .long y15, .int y16, .int 0, .ref y18, .ref y19, .ref y20, .ref y21, .ref y22, .ref y23, .ref y24, .ref y25, .ref y26, .ref y27, .ref y28, .ref y29, .ref y30, .ref y31, .ref y32, .ref y33, .ref y34, .ref y35, .ref y36, .ref y37, .ref y38, .ref y39, .ref y40, .ref y41, .ref y42, .ref y43, .ref y44, .ref y45, .ref y46, .int y47, .ref y48, .ref y49, .int y50, .int y51, .int y52, .int y53, .long y54, .int y55, .ref y56, .ref y57, .ref y58, .ref y59]))]) hD hS hA [0] rfl) (hP.sub (ws' := [(y, .inr (11, [.ref y0, .int y1, .int y2, .int y3, .ref y4, .ref y5, .ref y6, .ref y7, .ref y8, .ref y9, .int y10, .int y11, .int y12, .int y13, .int y14, .long y15, .int y16, .int 0, .ref y18, .ref y19, .ref y20, .ref y21, .ref y22, .ref y23, .ref y24, .ref y25, .ref y26, .ref y27, .ref y28, .ref y29, .ref y30, .ref y31, .ref y32, .ref y33, .ref y34, .ref y35, .ref y36, .ref y37, .ref y38, .ref y39, .ref y40, .ref y41, .ref y42, .ref y43, .ref y44, .ref y45, .ref y46, .int y47, .ref y48, .ref y49, .int y50, .int y51, .int y52, .int y53, .long y54, .int y55, .ref y56, .ref y57, .ref y58, .ref y59]))]) [0] rfl) hK (hD.sub (ws' := [(y, .inr (11, [.ref y0, .int y1, .int y2, .int y3, .ref y4, .ref y5, .ref y6, .ref y7, .ref y8, .ref y9, .int y10, .int y11, .int y12, .int y13, .int y14, .long y15, .int y16, .int 0, .ref y18, .ref y19, .ref y20, .ref y21, .ref y22, .ref y23, .ref y24, .ref y25, .ref y26, .ref y27, .ref y28, .ref y29, .ref y30, .ref y31, .ref y32, .ref y33, .ref y34, .ref y35, .ref y36, .ref y37, .ref y38, .ref y39, .ref y40, .ref y41, .ref y42, .ref y43, .ref y44, .ref y45, .ref y46, .int y47, .ref y48, .ref y49, .int y50, .int y51, .int y52, .int y53, .long y54, .int y55, .ref y56, .ref y57, .ref y58, .ref y59]))]) [0] (by decide) rfl) rfl rfl) rfl rfl hl.1 rfl (lv_room (Nat.le_of_ble_eq_true rfl)) dM_nodes_14 ⟨Nat.le_of_ble_eq_true rfl, Nat.le_of_ble_eq_true rfl⟩) (fun ru2 u2 H locs hpu2 hP hD hS => ?_)
  have hP : va_P D vwCl [(y, .inr (11, [.ref y0, .int 1, .int y2, .int y3, .ref y4, .ref y5, .ref y6, .ref y7, .ref y8, .ref y9, .int y10, .int y11, .int y12, .int y13, .int y14, .long y15, .int y16, .int 0, .ref y18, .ref y19, .ref y20, .ref y21, .ref y22, .ref y23, .ref y24, .ref y25, .ref y26, .ref y27, .ref y28, .ref y29, .ref y30, .ref y31, .ref y32, .ref y33, .ref y34, .ref y35, .ref y36, .ref y37, .ref y38, .ref y39, .ref y40, .ref y41, .ref y42, .ref y43, .ref y44, .ref y45, .ref y46, .int y47, .ref y48, .ref y49, .int y50, .int y51, .int y52, .int y53, .long y54, .int y55, .ref y56, .ref y57, .ref y58, .ref y59]))] H := hP
  have hD : va_D A [(y, .inr (11, [.ref y0, .int 1, .int y2, .int y3, .ref y4, .ref y5, .ref y6, .ref y7, .ref y8, .ref y9, .int y10, .int y11, .int y12, .int y13, .int y14, .long y15, .int y16, .int 0, .ref y18, .ref y19, .ref y20, .ref y21, .ref y22, .ref y23, .ref y24, .ref y25, .ref y26, .ref y27, .ref y28, .ref y29, .ref y30, .ref y31, .ref y32, .ref y33, .ref y34, .ref y35, .ref y36, .ref y37, .ref y38, .ref y39, .ref y40, .ref y41, .ref y42, .ref y43, .ref y44, .ref y45, .ref y46, .int y47, .ref y48, .ref y49, .int y50, .int y51, .int y52, .int y53, .long y54, .int y55, .ref y56, .ref y57, .ref y58, .ref y59]))] := hD
  rw [hpu2]
  refine lv_if_eq (tgt := 24) hx hb dM_nodes_17 rfl (fun hj3 => absurd hj3 (by decide)) (fun _ => ?_)
  refine lv_iconst (v := 0) hx hb dM_nodes_20 (by decide) ?_
  refine lv_goto (tgt := 30) hx hb dM_nodes_21 rfl ?_
  have hP9 := hP.sub (ws' := [(y, .inr (11, [.ref y0, .int 1, .int y2, .int y3, .ref y4, .ref y5, .ref y6, .ref y7, .ref y8, .ref y9, .int y10, .int y11, .int y12, .int y13, .int y14, .long y15, .int y16, .int 0, .ref y18, .ref y19, .ref y20, .ref y21, .ref y22, .ref y23, .ref y24, .ref y25, .ref y26, .ref y27, .ref y28, .ref y29, .ref y30, .ref y31, .ref y32, .ref y33, .ref y34, .ref y35, .ref y36, .ref y37, .ref y38, .ref y39, .ref y40, .ref y41, .ref y42, .ref y43, .ref y44, .ref y45, .ref y46, .int y47, .ref y48, .ref y49, .int y50, .int y51, .int y52, .int y53, .long y54, .int y55, .ref y56, .ref y57, .ref y58, .ref y59]))]) [0] rfl
  have hD9 := hD.sub (ws' := [(y, .inr (11, [.ref y0, .int 1, .int y2, .int y3, .ref y4, .ref y5, .ref y6, .ref y7, .ref y8, .ref y9, .int y10, .int y11, .int y12, .int y13, .int y14, .long y15, .int y16, .int 0, .ref y18, .ref y19, .ref y20, .ref y21, .ref y22, .ref y23, .ref y24, .ref y25, .ref y26, .ref y27, .ref y28, .ref y29, .ref y30, .ref y31, .ref y32, .ref y33, .ref y34, .ref y35, .ref y36, .ref y37, .ref y38, .ref y39, .ref y40, .ref y41, .ref y42, .ref y43, .ref y44, .ref y45, .ref y46, .int y47, .ref y48, .ref y49, .int y50, .int y51, .int y52, .int y53, .long y54, .int y55, .ref y56, .ref y57, .ref y58, .ref y59]))]) [0] (by decide) rfl
  refine W.widen (k := 0) (n := 0) (Nat.le_of_ble_eq_true rfl) (Nat.le_of_ble_eq_true rfl) ?_
  exact W.iret (v := 0) hx hb hr (fun t ht hW => ⟨⟨0, (fun _ => 0), rfl, rfl, by rw [ht]; exact hP9, hD9⟩, hS.F ht⟩) hS.2.2 dM_nodes_30
set_option maxHeartbeats 4000000 in
set_option maxRecDepth 100000 in
theorem y_tell_no (l : Launch) (D : va_G) (cT : Nat → ClassId) (y : Nat) (y0 : Nat) (y1 : Int32) (y2 : Int32) (y3 : Int32) (y4 : Nat) (y5 : Nat) (y6 : Nat) (y7 : Nat) (y8 : Nat) (y9 : Nat) (y10 : Int32) (y11 : Int32) (y12 : Int32) (y13 : Int32) (y14 : Int32) (y15 : Int64) (y16 : Int32) (y18 : Nat) (y19 : Nat) (y20 : Nat) (y21 : Nat) (y22 : Nat) (y23 : Nat) (y24 : Nat) (y25 : Nat) (y26 : Nat) (y27 : Nat) (y28 : Nat) (y29 : Nat) (y30 : Nat) (y31 : Nat) (y32 : Nat) (y33 : Nat) (y34 : Nat) (y35 : Nat) (y36 : Nat) (y37 : Nat) (y38 : Nat) (y39 : Nat) (y40 : Nat) (y41 : Nat) (y42 : Nat) (y43 : Nat) (y44 : Nat) (y45 : Nat) (y46 : Nat) (y47 : Int32) (y48 : Nat) (y49 : Nat) (y50 : Int32) (y51 : Int32) (y52 : Int32) (y53 : Int32) (y54 : Int64) (y55 : Int32) (y56 : Nat) (y57 : Nat) (y58 : Nat) (y59 : Nat) (a1 : Int32) (a2 : Int32) (sz : Nat) : Met l yM_tell WM_tell ({ frames := 3, cells := 0, slots := 0, locals := 65 } : Room) (RW D vwCl [.ref y, .int a1, .int a2] [(y, .inr (11, [.ref y0, .int y1, .int y2, .int y3, .ref y4, .ref y5, .ref y6, .ref y7, .ref y8, .ref y9, .int y10, .int y11, .int y12, .int y13, .int y14, .long y15, .int y16, .int 0, .ref y18, .ref y19, .ref y20, .ref y21, .ref y22, .ref y23, .ref y24, .ref y25, .ref y26, .ref y27, .ref y28, .ref y29, .ref y30, .ref y31, .ref y32, .ref y33, .ref y34, .ref y35, .ref y36, .ref y37, .ref y38, .ref y39, .ref y40, .ref y41, .ref y42, .ref y43, .ref y44, .ref y45, .ref y46, .int y47, .ref y48, .ref y49, .int y50, .int y51, .int y52, .int y53, .long y54, .int y55, .ref y56, .ref y57, .ref y58, .ref y59]))] (TY cT) sz) (va_Qi (fun (r : Int32) (_ : Nat → Nat) => r = 0) (BW D vwCl (va_A [(y, .inr (11, [.ref y0, .int y1, .int y2, .int y3, .ref y4, .ref y5, .ref y6, .ref y7, .ref y8, .ref y9, .int y10, .int y11, .int y12, .int y13, .int y14, .long y15, .int y16, .int 0, .ref y18, .ref y19, .ref y20, .ref y21, .ref y22, .ref y23, .ref y24, .ref y25, .ref y26, .ref y27, .ref y28, .ref y29, .ref y30, .ref y31, .ref y32, .ref y33, .ref y34, .ref y35, .ref y36, .ref y37, .ref y38, .ref y39, .ref y40, .ref y41, .ref y42, .ref y43, .ref y44, .ref y45, .ref y46, .int y47, .ref y48, .ref y49, .int y50, .int y51, .int y52, .int y53, .long y54, .int y55, .ref y56, .ref y57, .ref y58, .ref y59]))] sz) (fun u => [(y, .inr (11, [.ref y0, .int 1, .int y2, .int y3, .ref y4, .ref y5, .ref y6, .ref y7, .ref y8, .ref y9, .int y10, .int y11, .int y12, .int y13, .int y14, .long y15, .int y16, .int 0, .ref y18, .ref y19, .ref y20, .ref y21, .ref y22, .ref y23, .ref y24, .ref y25, .ref y26, .ref y27, .ref y28, .ref y29, .ref y30, .ref y31, .ref y32, .ref y33, .ref y34, .ref y35, .ref y36, .ref y37, .ref y38, .ref y39, .ref y40, .ref y41, .ref y42, .ref y43, .ref y44, .ref y45, .ref y46, .int y47, .ref y48, .ref y49, .int y50, .int y51, .int y52, .int y53, .long y54, .int y55, .ref y56, .ref y57, .ref y58, .ref y59]))])) (va_A [(y, .inr (11, [.ref y0, .int y1, .int y2, .int y3, .ref y4, .ref y5, .ref y6, .ref y7, .ref y8, .ref y9, .int y10, .int y11, .int y12, .int y13, .int y14, .long y15, .int y16, .int 0, .ref y18, .ref y19, .ref y20, .ref y21, .ref y22, .ref y23, .ref y24, .ref y25, .ref y26, .ref y27, .ref y28, .ref y29, .ref y30, .ref y31, .ref y32, .ref y33, .ref y34, .ref y35, .ref y36, .ref y37, .ref y38, .ref y39, .ref y40, .ref y41, .ref y42, .ref y43, .ref y44, .ref y45, .ref y46, .int y47, .ref y48, .ref y49, .int y50, .int y51, .int y52, .int y53, .long y54, .int y55, .ref y56, .ref y57, .ref y58, .ref y59]))] sz)) 0 0 (va_A [(y, .inr (11, [.ref y0, .int y1, .int y2, .int y3, .ref y4, .ref y5, .ref y6, .ref y7, .ref y8, .ref y9, .int y10, .int y11, .int y12, .int y13, .int y14, .long y15, .int y16, .int 0, .ref y18, .ref y19, .ref y20, .ref y21, .ref y22, .ref y23, .ref y24, .ref y25, .ref y26, .ref y27, .ref y28, .ref y29, .ref y30, .ref y31, .ref y32, .ref y33, .ref y34, .ref y35, .ref y36, .ref y37, .ref y38, .ref y39, .ref y40, .ref y41, .ref y42, .ref y43, .ref y44, .ref y45, .ref y46, .int y47, .ref y48, .ref y49, .int y50, .int y51, .int y52, .int y53, .long y54, .int y55, .ref y56, .ref y57, .ref y58, .ref y59]))] sz) := by
  refine Met.ofW (cc := cM_tell) (maxL := 3) (ret := (some .int)) (by decide) rfl ?_
  intro p e s m args below meth c s₁ B hml hv
  obtain ⟨rfl, hsz, hZ, hP, hK, hD0⟩ := hv
  have hx := B.exec
  have hb := B.bytes
  have hr := B.returns
  have hts := atoms_spec (ws := WM_tell) B.pre
  have hT : ∀ w ∈ TB, w.before _ s = true := fun w h => hts w (List.mem_cons_of_mem _ h)
  have hown : s.vm.findClass R_M = some m.cls := findClass_of_methodNamed B.named
  have hlocks := B.notSynchronized
  subst hsz
  have hD := hD0.self (sz := s.heap.size)
  generalize hAe : va_A [(y, .inr (11, [.ref y0, .int y1, .int y2, .int y3, .ref y4, .ref y5, .ref y6, .ref y7, .ref y8, .ref y9, .int y10, .int y11, .int y12, .int y13, .int y14, .long y15, .int y16, .int 0, .ref y18, .ref y19, .ref y20, .ref y21, .ref y22, .ref y23, .ref y24, .ref y25, .ref y26, .ref y27, .ref y28, .ref y29, .ref y30, .ref y31, .ref y32, .ref y33, .ref y34, .ref y35, .ref y36, .ref y37, .ref y38, .ref y39, .ref y40, .ref y41, .ref y42, .ref y43, .ref y44, .ref y45, .ref y46, .int y47, .ref y48, .ref y49, .int y50, .int y51, .int y52, .int y53, .long y54, .int y55, .ref y56, .ref y57, .ref y58, .ref y59]))] s.heap.size = A at hD hZ ⊢
  have hA : ∀ q : Nat, s.heap.size ≤ q → A q := fun q h => by rw [← hAe]; exact Or.inr h
  have hS : va_S A s.heap s.heap [] := va_S.rf
  have hl := lv_entry ([.ref y, .int a1, .int a2]) (n := 3) (Nat.le_of_ble_eq_true rfl)
  rw [lg_entry_eq]
  generalize (lg_sl ([.ref y, .int a1, .int a2]) ++ List.replicate (3 - (lg_sl ([.ref y, .int a1, .int a2])).length) Slot.unset).toArray = ls at hl ⊢
  have hl : lv_has ls 3 [(0, .ref y), (1, .int a1), (2, .int a2)] := hl
  refine lv_aload_n hx hb dM_tell_0 rfl (lv_at hl 0 rfl) ?_
  refine lv_aload_n hx hb dM_tell_1 rfl (lv_at hl 0 rfl) ?_
  refine lv_iload_n hx hb dM_tell_2 rfl (lv_at hl 1 rfl) ?_
  refine lv_iload_n hx hb dM_tell_3 rfl (lv_at hl 2 rfl) ?_
  refine ro_i (va_Run.run (va_runV (As := [.int a1, .int a2]) (rest := [.ref y]) ⟨hx, hb, hml, hown, hT⟩ (y_noNode1 l D cT y y0 y1 y2 y3 y4 y5 y6 y7 y8 y9 y10 y11 y12 y13 y14 y15 y16 y18 y19 y20 y21 y22 y23 y24 y25 y26 y27 y28 y29 y30 y31 y32 y33 y34 y35 y36 y37 y38 y39 y40 y41 y42 y43 y44 y45 y46 y47 y48 y49 y50 y51 y52 y53 y54 y55 y56 y57 y58 y59 a1 a2) ⟨callB_of 2 hT (tb_gd w1535) rfl rfl rfl (hT _ w13) (hT _ w1532) hM_noNode ⟨Nat.le_of_ble_eq_true rfl, Nat.le_of_ble_eq_true rfl⟩, (hT _ w1534), (hT _ wp60)⟩ (RO.preV (ci := 11) (q0 := 0) hZ hS (hP.sub (ws' := [(y, .inr (11, [.ref y0, .int y1, .int y2, .int y3, .ref y4, .ref y5, .ref y6, .ref y7, .ref y8, .ref y9, .int y10, .int y11, .int y12, .int y13, .int y14, .long y15, .int y16, .int 0, .ref y18, .ref y19, .ref y20, .ref y21, .ref y22, .ref y23, .ref y24, .ref y25, .ref y26, .ref y27, .ref y28, .ref y29, .ref y30, .ref y31, .ref y32, .ref y33, .ref y34, .ref y35, .ref y36, .ref y37, .ref y38, .ref y39, .ref y40, .ref y41, .ref y42, .ref y43, .ref y44, .ref y45, .ref y46, .int y47, .ref y48, .ref y49, .int y50, .int y51, .int y52, .int y53, .long y54, .int y55, .ref y56, .ref y57, .ref y58, .ref y59]))]) [0] rfl) hK rfl rfl) rfl rfl hl.1 rfl (lv_room (Nat.le_of_ble_eq_true rfl)) dM_tell_4 ⟨Nat.le_of_ble_eq_true rfl, Nat.le_of_ble_eq_true rfl⟩)) ?_
  refine lv_if_eq (tgt := 14) hx hb dM_tell_7 rfl (fun hj1 => absurd hj1 (by decide)) (fun _ => ?_)
  refine lv_iconst (v := 1) hx hb dM_tell_10 (by decide) ?_
  refine lv_goto (tgt := 15) hx hb dM_tell_11 rfl ?_
  refine rw_i (wc := [(y, .inr (11, [.ref y0, .int y1, .int y2, .int y3, .ref y4, .ref y5, .ref y6, .ref y7, .ref y8, .ref y9, .int y10, .int y11, .int y12, .int y13, .int y14, .long y15, .int y16, .int 0, .ref y18, .ref y19, .ref y20, .ref y21, .ref y22, .ref y23, .ref y24, .ref y25, .ref y26, .ref y27, .ref y28, .ref y29, .ref y30, .ref y31, .ref y32, .ref y33, .ref y34, .ref y35, .ref y36, .ref y37, .ref y38, .ref y39, .ref y40, .ref y41, .ref y42, .ref y43, .ref y44, .ref y45, .ref y46, .int y47, .ref y48, .ref y49, .int y50, .int y51, .int y52, .int y53, .long y54, .int y55, .ref y56, .ref y57, .ref y58, .ref y59]))]) (wr := []) hP hD hS hA [0] [] rfl rfl (by decide) (by decide) (va_runV (As := [.int 1]) (rest := []) ⟨hx, hb, hml, hown, hT⟩ (y_refused1 l D cT y y0 y1 y2 y3 y4 y5 y6 y7 y8 y9 y10 y11 y12 y13 y14 y15 y16 0 y18 y19 y20 y21 y22 y23 y24 y25 y26 y27 y28 y29 y30 y31 y32 y33 y34 y35 y36 y37 y38 y39 y40 y41 y42 y43 y44 y45 y46 y47 y48 y49 y50 y51 y52 y53 y54 y55 y56 y57 y58 y59 _) ⟨callB_of 1 hT (tb_gd w1301) rfl rfl rfl (hT _ w13) (hT _ w1298) hM_refused ⟨Nat.le_of_ble_eq_true rfl, Nat.le_of_ble_eq_true rfl⟩, (hT _ w1300), (hT _ wp29)⟩ (RW.preV (ci := 11) (q0 := 0) hZ hS (va_free (wc := [(y, .inr (11, [.ref y0, .int y1, .int y2, .int y3, .ref y4, .ref y5, .ref y6, .ref y7, .ref y8, .ref y9, .int y10, .int y11, .int y12, .int y13, .int y14, .long y15, .int y16, .int 0, .ref y18, .ref y19, .ref y20, .ref y21, .ref y22, .ref y23, .ref y24, .ref y25, .ref y26, .ref y27, .ref y28, .ref y29, .ref y30, .ref y31, .ref y32, .ref y33, .ref y34, .ref y35, .ref y36, .ref y37, .ref y38, .ref y39, .ref y40, .ref y41, .ref y42, .ref y43, .ref y44, .ref y45, .ref y46, .int y47, .ref y48, .ref y49, .int y50, .int y51, .int y52, .int y53, .long y54, .int y55, .ref y56, .ref y57, .ref y58, .ref y59]))]) hD hS hA [0] rfl) (hP.sub (ws' := [(y, .inr (11, [.ref y0, .int y1, .int y2, .int y3, .ref y4, .ref y5, .ref y6, .ref y7, .ref y8, .ref y9, .int y10, .int y11, .int y12, .int y13, .int y14, .long y15, .int y16, .int 0, .ref y18, .ref y19, .ref y20, .ref y21, .ref y22, .ref y23, .ref y24, .ref y25, .ref y26, .ref y27, .ref y28, .ref y29, .ref y30, .ref y31, .ref y32, .ref y33, .ref y34, .ref y35, .ref y36, .ref y37, .ref y38, .ref y39, .ref y40, .ref y41, .ref y42, .ref y43, .ref y44, .ref y45, .ref y46, .int y47, .ref y48, .ref y49, .int y50, .int y51, .int y52, .int y53, .long y54, .int y55, .ref y56, .ref y57, .ref y58, .ref y59]))]) [0] rfl) hK (hD.sub (ws' := [(y, .inr (11, [.ref y0, .int y1, .int y2, .int y3, .ref y4, .ref y5, .ref y6, .ref y7, .ref y8, .ref y9, .int y10, .int y11, .int y12, .int y13, .int y14, .long y15, .int y16, .int 0, .ref y18, .ref y19, .ref y20, .ref y21, .ref y22, .ref y23, .ref y24, .ref y25, .ref y26, .ref y27, .ref y28, .ref y29, .ref y30, .ref y31, .ref y32, .ref y33, .ref y34, .ref y35, .ref y36, .ref y37, .ref y38, .ref y39, .ref y40, .ref y41, .ref y42, .ref y43, .ref y44, .ref y45, .ref y46, .int y47, .ref y48, .ref y49, .int y50, .int y51, .int y52, .int y53, .long y54, .int y55, .ref y56, .ref y57, .ref y58, .ref y59]))]) [0] (by decide) rfl) rfl rfl) rfl rfl hl.1 rfl (lv_room (Nat.le_of_ble_eq_true rfl)) dM_tell_15 ⟨Nat.le_of_ble_eq_true rfl, Nat.le_of_ble_eq_true rfl⟩) (fun ru2 u2 H locs hpu2 hP hD hS => ?_)
  have hP : va_P D vwCl [(y, .inr (11, [.ref y0, .int 1, .int y2, .int y3, .ref y4, .ref y5, .ref y6, .ref y7, .ref y8, .ref y9, .int y10, .int y11, .int y12, .int y13, .int y14, .long y15, .int y16, .int 0, .ref y18, .ref y19, .ref y20, .ref y21, .ref y22, .ref y23, .ref y24, .ref y25, .ref y26, .ref y27, .ref y28, .ref y29, .ref y30, .ref y31, .ref y32, .ref y33, .ref y34, .ref y35, .ref y36, .ref y37, .ref y38, .ref y39, .ref y40, .ref y41, .ref y42, .ref y43, .ref y44, .ref y45, .ref y46, .int y47, .ref y48, .ref y49, .int y50, .int y51, .int y52, .int y53, .long y54, .int y55, .ref y56, .ref y57, .ref y58, .ref y59]))] H := hP
  have hD : va_D A [(y, .inr (11, [.ref y0, .int 1, .int y2, .int y3, .ref y4, .ref y5, .ref y6, .ref y7, .ref y8, .ref y9, .int y10, .int y11, .int y12, .int y13, .int y14, .long y15, .int y16, .int 0, .ref y18, .ref y19, .ref y20, .ref y21, .ref y22, .ref y23, .ref y24, .ref y25, .ref y26, .ref y27, .ref y28, .ref y29, .ref y30, .ref y31, .ref y32, .ref y33, .ref y34, .ref y35, .ref y36, .ref y37, .ref y38, .ref y39, .ref y40, .ref y41, .ref y42, .ref y43, .ref y44, .ref y45, .ref y46, .int y47, .ref y48, .ref y49, .int y50, .int y51, .int y52, .int y53, .long y54, .int y55, .ref y56, .ref y57, .ref y58, .ref y59]))] := hD
  rw [hpu2]
  refine lv_if_eq (tgt := 23) hx hb dM_tell_18 rfl (fun hj3 => absurd hj3 (by decide)) (fun _ => ?_)
  refine lv_iconst (v := 0) hx hb dM_tell_21 (by decide) ?_
  have hP9 := hP.sub (ws' := [(y, .inr (11, [.ref y0, .int 1, .int y2, .int y3, .ref y4, .ref y5, .ref y6, .ref y7, .ref y8, .ref y9, .int y10, .int y11, .int y12, .int y13, .int y14, .long y15, .int y16, .int 0, .ref y18, .ref y19, .ref y20, .ref y21, .ref y22, .ref y23, .ref y24, .ref y25, .ref y26, .ref y27, .ref y28, .ref y29, .ref y30, .ref y31, .ref y32, .ref y33, .ref y34, .ref y35, .ref y36, .ref y37, .ref y38, .ref y39, .ref y40, .ref y41, .ref y42, .ref y43, .ref y44, .ref y45, .ref y46, .int y47, .ref y48, .ref y49, .int y50, .int y51, .int y52, .int y53, .long y54, .int y55, .ref y56, .ref y57, .ref y58, .ref y59]))]) [0] rfl
  have hD9 := hD.sub (ws' := [(y, .inr (11, [.ref y0, .int 1, .int y2, .int y3, .ref y4, .ref y5, .ref y6, .ref y7, .ref y8, .ref y9, .int y10, .int y11, .int y12, .int y13, .int y14, .long y15, .int y16, .int 0, .ref y18, .ref y19, .ref y20, .ref y21, .ref y22, .ref y23, .ref y24, .ref y25, .ref y26, .ref y27, .ref y28, .ref y29, .ref y30, .ref y31, .ref y32, .ref y33, .ref y34, .ref y35, .ref y36, .ref y37, .ref y38, .ref y39, .ref y40, .ref y41, .ref y42, .ref y43, .ref y44, .ref y45, .ref y46, .int y47, .ref y48, .ref y49, .int y50, .int y51, .int y52, .int y53, .long y54, .int y55, .ref y56, .ref y57, .ref y58, .ref y59]))]) [0] (by decide) rfl
  refine W.widen (k := 0) (n := 0) (Nat.le_of_ble_eq_true rfl) (Nat.le_of_ble_eq_true rfl) ?_
  exact W.iret (v := 0) hx hb hr (fun t ht hW => ⟨⟨0, (fun _ => 0), rfl, rfl, by rw [ht]; exact hP9, hD9⟩, hS.F ht⟩) hS.2.2 dM_tell_22
set_option maxHeartbeats 4000000 in
set_option maxRecDepth 100000 in
theorem y_residual_no (l : Launch) (D : va_G) (cT : Nat → ClassId) (y : Nat) (y0 : Nat) (y1 : Int32) (y2 : Int32) (y4 : Nat) (y5 : Nat) (y6 : Nat) (y7 : Nat) (y8 : Nat) (y9 : Nat) (y10 : Int32) (y11 : Int32) (y12 : Int32) (y13 : Int32) (y14 : Int32) (y15 : Int64) (y16 : Int32) (y17 : Int32) (y18 : Nat) (y19 : Nat) (y20 : Nat) (y21 : Nat) (y22 : Nat) (y23 : Nat) (y24 : Nat) (y25 : Nat) (y26 : Nat) (y27 : Nat) (y28 : Nat) (y29 : Nat) (y30 : Nat) (y31 : Nat) (y32 : Nat) (y33 : Nat) (y34 : Nat) (y35 : Nat) (y36 : Nat) (y37 : Nat) (y38 : Nat) (y39 : Nat) (y40 : Nat) (y41 : Nat) (y42 : Nat) (y43 : Nat) (y44 : Nat) (y45 : Nat) (y46 : Nat) (y47 : Int32) (y48 : Nat) (y49 : Nat) (y50 : Int32) (y51 : Int32) (y52 : Int32) (y53 : Int32) (y54 : Int64) (y55 : Int32) (y56 : Nat) (y57 : Nat) (y58 : Nat) (y59 : Nat) (a1 : Int32) (a2 : Int32) (sz : Nat) : Met l yM_residual WM_residual ({ frames := 2, cells := 0, slots := 0, locals := 43 } : Room) (RW D vwCl [.ref y, .int a1, .int a2] [(y, .inr (11, [.ref y0, .int y1, .int y2, .int 0, .ref y4, .ref y5, .ref y6, .ref y7, .ref y8, .ref y9, .int y10, .int y11, .int y12, .int y13, .int y14, .long y15, .int y16, .int y17, .ref y18, .ref y19, .ref y20, .ref y21, .ref y22, .ref y23, .ref y24, .ref y25, .ref y26, .ref y27, .ref y28, .ref y29, .ref y30, .ref y31, .ref y32, .ref y33, .ref y34, .ref y35, .ref y36, .ref y37, .ref y38, .ref y39, .ref y40, .ref y41, .ref y42, .ref y43, .ref y44, .ref y45, .ref y46, .int y47, .ref y48, .ref y49, .int y50, .int y51, .int y52, .int y53, .long y54, .int y55, .ref y56, .ref y57, .ref y58, .ref y59]))] (TY cT) sz) (va_Qi (fun (r : Int32) (_ : Nat → Nat) => r = 0) (BW D vwCl (va_A [(y, .inr (11, [.ref y0, .int y1, .int y2, .int 0, .ref y4, .ref y5, .ref y6, .ref y7, .ref y8, .ref y9, .int y10, .int y11, .int y12, .int y13, .int y14, .long y15, .int y16, .int y17, .ref y18, .ref y19, .ref y20, .ref y21, .ref y22, .ref y23, .ref y24, .ref y25, .ref y26, .ref y27, .ref y28, .ref y29, .ref y30, .ref y31, .ref y32, .ref y33, .ref y34, .ref y35, .ref y36, .ref y37, .ref y38, .ref y39, .ref y40, .ref y41, .ref y42, .ref y43, .ref y44, .ref y45, .ref y46, .int y47, .ref y48, .ref y49, .int y50, .int y51, .int y52, .int y53, .long y54, .int y55, .ref y56, .ref y57, .ref y58, .ref y59]))] sz) (fun u => [(y, .inr (11, [.ref y0, .int 1, .int y2, .int 0, .ref y4, .ref y5, .ref y6, .ref y7, .ref y8, .ref y9, .int y10, .int y11, .int y12, .int y13, .int y14, .long y15, .int y16, .int y17, .ref y18, .ref y19, .ref y20, .ref y21, .ref y22, .ref y23, .ref y24, .ref y25, .ref y26, .ref y27, .ref y28, .ref y29, .ref y30, .ref y31, .ref y32, .ref y33, .ref y34, .ref y35, .ref y36, .ref y37, .ref y38, .ref y39, .ref y40, .ref y41, .ref y42, .ref y43, .ref y44, .ref y45, .ref y46, .int y47, .ref y48, .ref y49, .int y50, .int y51, .int y52, .int y53, .long y54, .int y55, .ref y56, .ref y57, .ref y58, .ref y59]))])) (va_A [(y, .inr (11, [.ref y0, .int y1, .int y2, .int 0, .ref y4, .ref y5, .ref y6, .ref y7, .ref y8, .ref y9, .int y10, .int y11, .int y12, .int y13, .int y14, .long y15, .int y16, .int y17, .ref y18, .ref y19, .ref y20, .ref y21, .ref y22, .ref y23, .ref y24, .ref y25, .ref y26, .ref y27, .ref y28, .ref y29, .ref y30, .ref y31, .ref y32, .ref y33, .ref y34, .ref y35, .ref y36, .ref y37, .ref y38, .ref y39, .ref y40, .ref y41, .ref y42, .ref y43, .ref y44, .ref y45, .ref y46, .int y47, .ref y48, .ref y49, .int y50, .int y51, .int y52, .int y53, .long y54, .int y55, .ref y56, .ref y57, .ref y58, .ref y59]))] sz)) 0 0 (va_A [(y, .inr (11, [.ref y0, .int y1, .int y2, .int 0, .ref y4, .ref y5, .ref y6, .ref y7, .ref y8, .ref y9, .int y10, .int y11, .int y12, .int y13, .int y14, .long y15, .int y16, .int y17, .ref y18, .ref y19, .ref y20, .ref y21, .ref y22, .ref y23, .ref y24, .ref y25, .ref y26, .ref y27, .ref y28, .ref y29, .ref y30, .ref y31, .ref y32, .ref y33, .ref y34, .ref y35, .ref y36, .ref y37, .ref y38, .ref y39, .ref y40, .ref y41, .ref y42, .ref y43, .ref y44, .ref y45, .ref y46, .int y47, .ref y48, .ref y49, .int y50, .int y51, .int y52, .int y53, .long y54, .int y55, .ref y56, .ref y57, .ref y58, .ref y59]))] sz) := by
  refine Met.ofW (cc := cM_residual) (maxL := 3) (ret := (some .int)) (by decide) rfl ?_
  intro p e s m args below meth c s₁ B hml hv
  obtain ⟨rfl, hsz, hZ, hP, hK, hD0⟩ := hv
  have hx := B.exec
  have hb := B.bytes
  have hr := B.returns
  have hts := atoms_spec (ws := WM_residual) B.pre
  have hT : ∀ w ∈ TB, w.before _ s = true := fun w h => hts w (List.mem_cons_of_mem _ h)
  have hown : s.vm.findClass R_M = some m.cls := findClass_of_methodNamed B.named
  have hlocks := B.notSynchronized
  subst hsz
  have hD := hD0.self (sz := s.heap.size)
  generalize hAe : va_A [(y, .inr (11, [.ref y0, .int y1, .int y2, .int 0, .ref y4, .ref y5, .ref y6, .ref y7, .ref y8, .ref y9, .int y10, .int y11, .int y12, .int y13, .int y14, .long y15, .int y16, .int y17, .ref y18, .ref y19, .ref y20, .ref y21, .ref y22, .ref y23, .ref y24, .ref y25, .ref y26, .ref y27, .ref y28, .ref y29, .ref y30, .ref y31, .ref y32, .ref y33, .ref y34, .ref y35, .ref y36, .ref y37, .ref y38, .ref y39, .ref y40, .ref y41, .ref y42, .ref y43, .ref y44, .ref y45, .ref y46, .int y47, .ref y48, .ref y49, .int y50, .int y51, .int y52, .int y53, .long y54, .int y55, .ref y56, .ref y57, .ref y58, .ref y59]))] s.heap.size = A at hD hZ ⊢
  have hA : ∀ q : Nat, s.heap.size ≤ q → A q := fun q h => by rw [← hAe]; exact Or.inr h
  have hS : va_S A s.heap s.heap [] := va_S.rf
  have hl := lv_entry ([.ref y, .int a1, .int a2]) (n := 3) (Nat.le_of_ble_eq_true rfl)
  rw [lg_entry_eq]
  generalize (lg_sl ([.ref y, .int a1, .int a2]) ++ List.replicate (3 - (lg_sl ([.ref y, .int a1, .int a2])).length) Slot.unset).toArray = ls at hl ⊢
  have hl : lv_has ls 3 [(0, .ref y), (1, .int a1), (2, .int a2)] := hl
  refine lv_aload_n hx hb dM_residual_0 rfl (lv_at hl 0 rfl) ?_
  refine lv_aload_n hx hb dM_residual_1 rfl (lv_at hl 0 rfl) ?_
  refine lv_iload_n hx hb dM_residual_2 rfl (lv_at hl 1 rfl) ?_
  refine ro_i (va_Run.run (va_runV (As := [.int a1]) (rest := [.ref y]) ⟨hx, hb, hml, hown, hT⟩ (y_noRow1 l D cT y y0 y1 y2 y4 y5 y6 y7 y8 y9 y10 y11 y12 y13 y14 y15 y16 y17 y18 y19 y20 y21 y22 y23 y24 y25 y26 y27 y28 y29 y30 y31 y32 y33 y34 y35 y36 y37 y38 y39 y40 y41 y42 y43 y44 y45 y46 y47 y48 y49 y50 y51 y52 y53 y54 y55 y56 y57 y58 y59 a1 (fun q => absurd (Int32.le_trans q.1 q.2) (by decide))) ⟨callB_of 1 hT (tb_gd w1313) rfl rfl rfl (hT _ w13) (hT _ w1310) hM_noRow ⟨Nat.le_of_ble_eq_true rfl, Nat.le_of_ble_eq_true rfl⟩, (hT _ w1312), (hT _ wp30)⟩ (RO.preV (ci := 11) (q0 := 0) hZ hS (hP.sub (ws' := [(y, .inr (11, [.ref y0, .int y1, .int y2, .int 0, .ref y4, .ref y5, .ref y6, .ref y7, .ref y8, .ref y9, .int y10, .int y11, .int y12, .int y13, .int y14, .long y15, .int y16, .int y17, .ref y18, .ref y19, .ref y20, .ref y21, .ref y22, .ref y23, .ref y24, .ref y25, .ref y26, .ref y27, .ref y28, .ref y29, .ref y30, .ref y31, .ref y32, .ref y33, .ref y34, .ref y35, .ref y36, .ref y37, .ref y38, .ref y39, .ref y40, .ref y41, .ref y42, .ref y43, .ref y44, .ref y45, .ref y46, .int y47, .ref y48, .ref y49, .int y50, .int y51, .int y52, .int y53, .long y54, .int y55, .ref y56, .ref y57, .ref y58, .ref y59]))]) [0] rfl) hK rfl rfl) rfl rfl hl.1 rfl (lv_room (Nat.le_of_ble_eq_true rfl)) dM_residual_3 ⟨Nat.le_of_ble_eq_true rfl, Nat.le_of_ble_eq_true rfl⟩)) ?_
  refine lv_if_ne (tgt := 21) hx hb dM_residual_6 rfl (fun _ => ?_) (fun hj1 => absurd hj1 (by decide))
  refine lv_iconst (v := 1) hx hb dM_residual_21 (by decide) ?_
  refine lv_goto (tgt := 26) hx hb dM_residual_22 rfl ?_
  refine rw_i (wc := [(y, .inr (11, [.ref y0, .int y1, .int y2, .int 0, .ref y4, .ref y5, .ref y6, .ref y7, .ref y8, .ref y9, .int y10, .int y11, .int y12, .int y13, .int y14, .long y15, .int y16, .int y17, .ref y18, .ref y19, .ref y20, .ref y21, .ref y22, .ref y23, .ref y24, .ref y25, .ref y26, .ref y27, .ref y28, .ref y29, .ref y30, .ref y31, .ref y32, .ref y33, .ref y34, .ref y35, .ref y36, .ref y37, .ref y38, .ref y39, .ref y40, .ref y41, .ref y42, .ref y43, .ref y44, .ref y45, .ref y46, .int y47, .ref y48, .ref y49, .int y50, .int y51, .int y52, .int y53, .long y54, .int y55, .ref y56, .ref y57, .ref y58, .ref y59]))]) (wr := []) hP hD hS hA [0] [] rfl rfl (by decide) (by decide) (va_runV (As := [.int 1]) (rest := []) ⟨hx, hb, hml, hown, hT⟩ (y_refused1 l D cT y y0 y1 y2 0 y4 y5 y6 y7 y8 y9 y10 y11 y12 y13 y14 y15 y16 y17 y18 y19 y20 y21 y22 y23 y24 y25 y26 y27 y28 y29 y30 y31 y32 y33 y34 y35 y36 y37 y38 y39 y40 y41 y42 y43 y44 y45 y46 y47 y48 y49 y50 y51 y52 y53 y54 y55 y56 y57 y58 y59 _) ⟨callB_of 1 hT (tb_gd w1301) rfl rfl rfl (hT _ w13) (hT _ w1298) hM_refused ⟨Nat.le_of_ble_eq_true rfl, Nat.le_of_ble_eq_true rfl⟩, (hT _ w1300), (hT _ wp29)⟩ (RW.preV (ci := 11) (q0 := 0) hZ hS (va_free (wc := [(y, .inr (11, [.ref y0, .int y1, .int y2, .int 0, .ref y4, .ref y5, .ref y6, .ref y7, .ref y8, .ref y9, .int y10, .int y11, .int y12, .int y13, .int y14, .long y15, .int y16, .int y17, .ref y18, .ref y19, .ref y20, .ref y21, .ref y22, .ref y23, .ref y24, .ref y25, .ref y26, .ref y27, .ref y28, .ref y29, .ref y30, .ref y31, .ref y32, .ref y33, .ref y34, .ref y35, .ref y36, .ref y37, .ref y38, .ref y39, .ref y40, .ref y41, .ref y42, .ref y43, .ref y44, .ref y45, .ref y46, .int y47, .ref y48, .ref y49, .int y50, .int y51, .int y52, .int y53, .long y54, .int y55, .ref y56, .ref y57, .ref y58, .ref y59]))]) hD hS hA [0] rfl) (hP.sub (ws' := [(y, .inr (11, [.ref y0, .int y1, .int y2, .int 0, .ref y4, .ref y5, .ref y6, .ref y7, .ref y8, .ref y9, .int y10, .int y11, .int y12, .int y13, .int y14, .long y15, .int y16, .int y17, .ref y18, .ref y19, .ref y20, .ref y21, .ref y22, .ref y23, .ref y24, .ref y25, .ref y26, .ref y27, .ref y28, .ref y29, .ref y30, .ref y31, .ref y32, .ref y33, .ref y34, .ref y35, .ref y36, .ref y37, .ref y38, .ref y39, .ref y40, .ref y41, .ref y42, .ref y43, .ref y44, .ref y45, .ref y46, .int y47, .ref y48, .ref y49, .int y50, .int y51, .int y52, .int y53, .long y54, .int y55, .ref y56, .ref y57, .ref y58, .ref y59]))]) [0] rfl) hK (hD.sub (ws' := [(y, .inr (11, [.ref y0, .int y1, .int y2, .int 0, .ref y4, .ref y5, .ref y6, .ref y7, .ref y8, .ref y9, .int y10, .int y11, .int y12, .int y13, .int y14, .long y15, .int y16, .int y17, .ref y18, .ref y19, .ref y20, .ref y21, .ref y22, .ref y23, .ref y24, .ref y25, .ref y26, .ref y27, .ref y28, .ref y29, .ref y30, .ref y31, .ref y32, .ref y33, .ref y34, .ref y35, .ref y36, .ref y37, .ref y38, .ref y39, .ref y40, .ref y41, .ref y42, .ref y43, .ref y44, .ref y45, .ref y46, .int y47, .ref y48, .ref y49, .int y50, .int y51, .int y52, .int y53, .long y54, .int y55, .ref y56, .ref y57, .ref y58, .ref y59]))]) [0] (by decide) rfl) rfl rfl) rfl rfl hl.1 rfl (lv_room (Nat.le_of_ble_eq_true rfl)) dM_residual_26 ⟨Nat.le_of_ble_eq_true rfl, Nat.le_of_ble_eq_true rfl⟩) (fun ru2 u2 H locs hpu2 hP hD hS => ?_)
  have hP : va_P D vwCl [(y, .inr (11, [.ref y0, .int 1, .int y2, .int 0, .ref y4, .ref y5, .ref y6, .ref y7, .ref y8, .ref y9, .int y10, .int y11, .int y12, .int y13, .int y14, .long y15, .int y16, .int y17, .ref y18, .ref y19, .ref y20, .ref y21, .ref y22, .ref y23, .ref y24, .ref y25, .ref y26, .ref y27, .ref y28, .ref y29, .ref y30, .ref y31, .ref y32, .ref y33, .ref y34, .ref y35, .ref y36, .ref y37, .ref y38, .ref y39, .ref y40, .ref y41, .ref y42, .ref y43, .ref y44, .ref y45, .ref y46, .int y47, .ref y48, .ref y49, .int y50, .int y51, .int y52, .int y53, .long y54, .int y55, .ref y56, .ref y57, .ref y58, .ref y59]))] H := hP
  have hD : va_D A [(y, .inr (11, [.ref y0, .int 1, .int y2, .int 0, .ref y4, .ref y5, .ref y6, .ref y7, .ref y8, .ref y9, .int y10, .int y11, .int y12, .int y13, .int y14, .long y15, .int y16, .int y17, .ref y18, .ref y19, .ref y20, .ref y21, .ref y22, .ref y23, .ref y24, .ref y25, .ref y26, .ref y27, .ref y28, .ref y29, .ref y30, .ref y31, .ref y32, .ref y33, .ref y34, .ref y35, .ref y36, .ref y37, .ref y38, .ref y39, .ref y40, .ref y41, .ref y42, .ref y43, .ref y44, .ref y45, .ref y46, .int y47, .ref y48, .ref y49, .int y50, .int y51, .int y52, .int y53, .long y54, .int y55, .ref y56, .ref y57, .ref y58, .ref y59]))] := hD
  rw [hpu2]
  refine lv_if_eq (tgt := 34) hx hb dM_residual_29 rfl (fun hj3 => absurd hj3 (by decide)) (fun _ => ?_)
  refine lv_iconst (v := 0) hx hb dM_residual_32 (by decide) ?_
  have hP9 := hP.sub (ws' := [(y, .inr (11, [.ref y0, .int 1, .int y2, .int 0, .ref y4, .ref y5, .ref y6, .ref y7, .ref y8, .ref y9, .int y10, .int y11, .int y12, .int y13, .int y14, .long y15, .int y16, .int y17, .ref y18, .ref y19, .ref y20, .ref y21, .ref y22, .ref y23, .ref y24, .ref y25, .ref y26, .ref y27, .ref y28, .ref y29, .ref y30, .ref y31, .ref y32, .ref y33, .ref y34, .ref y35, .ref y36, .ref y37, .ref y38, .ref y39, .ref y40, .ref y41, .ref y42, .ref y43, .ref y44, .ref y45, .ref y46, .int y47, .ref y48, .ref y49, .int y50, .int y51, .int y52, .int y53, .long y54, .int y55, .ref y56, .ref y57, .ref y58, .ref y59]))]) [0] rfl
  have hD9 := hD.sub (ws' := [(y, .inr (11, [.ref y0, .int 1, .int y2, .int 0, .ref y4, .ref y5, .ref y6, .ref y7, .ref y8, .ref y9, .int y10, .int y11, .int y12, .int y13, .int y14, .long y15, .int y16, .int y17, .ref y18, .ref y19, .ref y20, .ref y21, .ref y22, .ref y23, .ref y24, .ref y25, .ref y26, .ref y27, .ref y28, .ref y29, .ref y30, .ref y31, .ref y32, .ref y33, .ref y34, .ref y35, .ref y36, .ref y37, .ref y38, .ref y39, .ref y40, .ref y41, .ref y42, .ref y43, .ref y44, .ref y45, .ref y46, .int y47, .ref y48, .ref y49, .int y50, .int y51, .int y52, .int y53, .long y54, .int y55, .ref y56, .ref y57, .ref y58, .ref y59]))]) [0] (by decide) rfl
  refine W.widen (k := 0) (n := 0) (Nat.le_of_ble_eq_true rfl) (Nat.le_of_ble_eq_true rfl) ?_
  exact W.iret (v := 0) hx hb hr (fun t ht hW => ⟨⟨0, (fun _ => 0), rfl, rfl, by rw [ht]; exact hP9, hD9⟩, hS.F ht⟩) hS.2.2 dM_residual_33
set_option maxHeartbeats 4000000 in
set_option maxRecDepth 100000 in
theorem y_uses_no (l : Launch) (D : va_G) (cT : Nat → ClassId) (y : Nat) (y0 : Nat) (y1 : Int32) (y3 : Int32) (y4 : Nat) (y5 : Nat) (y6 : Nat) (y7 : Nat) (y8 : Nat) (y9 : Nat) (y10 : Int32) (y11 : Int32) (y12 : Int32) (y13 : Int32) (y14 : Int32) (y15 : Int64) (y16 : Int32) (y17 : Int32) (y18 : Nat) (y19 : Nat) (y20 : Nat) (y21 : Nat) (y22 : Nat) (y23 : Nat) (y24 : Nat) (y25 : Nat) (y26 : Nat) (y27 : Nat) (y28 : Nat) (y29 : Nat) (y30 : Nat) (y31 : Nat) (y32 : Nat) (y33 : Nat) (y34 : Nat) (y35 : Nat) (y36 : Nat) (y37 : Nat) (y38 : Nat) (y39 : Nat) (y40 : Nat) (y41 : Nat) (y42 : Nat) (y43 : Nat) (y44 : Nat) (y45 : Nat) (y46 : Nat) (y47 : Int32) (y48 : Nat) (y49 : Nat) (y50 : Int32) (y51 : Int32) (y52 : Int32) (y53 : Int32) (y54 : Int64) (y55 : Int32) (y56 : Nat) (y57 : Nat) (y58 : Nat) (y59 : Nat) (a1 : Int32) (hq : ¬ (0 ≤ a1 ∧ a1 ≤ 0)) (sz : Nat) : Met l yM_uses WM_uses ({ frames := 2, cells := 0, slots := 0, locals := 43 } : Room) (RW D vwCl [.ref y, .int a1] [(y, .inr (11, [.ref y0, .int y1, .int 1, .int y3, .ref y4, .ref y5, .ref y6, .ref y7, .ref y8, .ref y9, .int y10, .int y11, .int y12, .int y13, .int y14, .long y15, .int y16, .int y17, .ref y18, .ref y19, .ref y20, .ref y21, .ref y22, .ref y23, .ref y24, .ref y25, .ref y26, .ref y27, .ref y28, .ref y29, .ref y30, .ref y31, .ref y32, .ref y33, .ref y34, .ref y35, .ref y36, .ref y37, .ref y38, .ref y39, .ref y40, .ref y41, .ref y42, .ref y43, .ref y44, .ref y45, .ref y46, .int y47, .ref y48, .ref y49, .int y50, .int y51, .int y52, .int y53, .long y54, .int y55, .ref y56, .ref y57, .ref y58, .ref y59]))] (TY cT) sz) (va_Qi (fun (r : Int32) (_ : Nat → Nat) => r = 0) (BW D vwCl (va_A [(y, .inr (11, [.ref y0, .int y1, .int 1, .int y3, .ref y4, .ref y5, .ref y6, .ref y7, .ref y8, .ref y9, .int y10, .int y11, .int y12, .int y13, .int y14, .long y15, .int y16, .int y17, .ref y18, .ref y19, .ref y20, .ref y21, .ref y22, .ref y23, .ref y24, .ref y25, .ref y26, .ref y27, .ref y28, .ref y29, .ref y30, .ref y31, .ref y32, .ref y33, .ref y34, .ref y35, .ref y36, .ref y37, .ref y38, .ref y39, .ref y40, .ref y41, .ref y42, .ref y43, .ref y44, .ref y45, .ref y46, .int y47, .ref y48, .ref y49, .int y50, .int y51, .int y52, .int y53, .long y54, .int y55, .ref y56, .ref y57, .ref y58, .ref y59]))] sz) (fun u => [(y, .inr (11, [.ref y0, .int 1, .int 1, .int y3, .ref y4, .ref y5, .ref y6, .ref y7, .ref y8, .ref y9, .int y10, .int y11, .int y12, .int y13, .int y14, .long y15, .int y16, .int y17, .ref y18, .ref y19, .ref y20, .ref y21, .ref y22, .ref y23, .ref y24, .ref y25, .ref y26, .ref y27, .ref y28, .ref y29, .ref y30, .ref y31, .ref y32, .ref y33, .ref y34, .ref y35, .ref y36, .ref y37, .ref y38, .ref y39, .ref y40, .ref y41, .ref y42, .ref y43, .ref y44, .ref y45, .ref y46, .int y47, .ref y48, .ref y49, .int y50, .int y51, .int y52, .int y53, .long y54, .int y55, .ref y56, .ref y57, .ref y58, .ref y59]))])) (va_A [(y, .inr (11, [.ref y0, .int y1, .int 1, .int y3, .ref y4, .ref y5, .ref y6, .ref y7, .ref y8, .ref y9, .int y10, .int y11, .int y12, .int y13, .int y14, .long y15, .int y16, .int y17, .ref y18, .ref y19, .ref y20, .ref y21, .ref y22, .ref y23, .ref y24, .ref y25, .ref y26, .ref y27, .ref y28, .ref y29, .ref y30, .ref y31, .ref y32, .ref y33, .ref y34, .ref y35, .ref y36, .ref y37, .ref y38, .ref y39, .ref y40, .ref y41, .ref y42, .ref y43, .ref y44, .ref y45, .ref y46, .int y47, .ref y48, .ref y49, .int y50, .int y51, .int y52, .int y53, .long y54, .int y55, .ref y56, .ref y57, .ref y58, .ref y59]))] sz)) 0 0 (va_A [(y, .inr (11, [.ref y0, .int y1, .int 1, .int y3, .ref y4, .ref y5, .ref y6, .ref y7, .ref y8, .ref y9, .int y10, .int y11, .int y12, .int y13, .int y14, .long y15, .int y16, .int y17, .ref y18, .ref y19, .ref y20, .ref y21, .ref y22, .ref y23, .ref y24, .ref y25, .ref y26, .ref y27, .ref y28, .ref y29, .ref y30, .ref y31, .ref y32, .ref y33, .ref y34, .ref y35, .ref y36, .ref y37, .ref y38, .ref y39, .ref y40, .ref y41, .ref y42, .ref y43, .ref y44, .ref y45, .ref y46, .int y47, .ref y48, .ref y49, .int y50, .int y51, .int y52, .int y53, .long y54, .int y55, .ref y56, .ref y57, .ref y58, .ref y59]))] sz) := by
  refine Met.ofW (cc := cM_uses) (maxL := 5) (ret := (some .int)) (by decide) rfl ?_
  intro p e s m args below meth c s₁ B hml hv
  obtain ⟨rfl, hsz, hZ, hP, hK, hD0⟩ := hv
  have hx := B.exec
  have hb := B.bytes
  have hr := B.returns
  have hts := atoms_spec (ws := WM_uses) B.pre
  have hT : ∀ w ∈ TB, w.before _ s = true := fun w h => hts w (List.mem_cons_of_mem _ h)
  have hown : s.vm.findClass R_M = some m.cls := findClass_of_methodNamed B.named
  have hlocks := B.notSynchronized
  subst hsz
  have hD := hD0.self (sz := s.heap.size)
  generalize hAe : va_A [(y, .inr (11, [.ref y0, .int y1, .int 1, .int y3, .ref y4, .ref y5, .ref y6, .ref y7, .ref y8, .ref y9, .int y10, .int y11, .int y12, .int y13, .int y14, .long y15, .int y16, .int y17, .ref y18, .ref y19, .ref y20, .ref y21, .ref y22, .ref y23, .ref y24, .ref y25, .ref y26, .ref y27, .ref y28, .ref y29, .ref y30, .ref y31, .ref y32, .ref y33, .ref y34, .ref y35, .ref y36, .ref y37, .ref y38, .ref y39, .ref y40, .ref y41, .ref y42, .ref y43, .ref y44, .ref y45, .ref y46, .int y47, .ref y48, .ref y49, .int y50, .int y51, .int y52, .int y53, .long y54, .int y55, .ref y56, .ref y57, .ref y58, .ref y59]))] s.heap.size = A at hD hZ ⊢
  have hA : ∀ q : Nat, s.heap.size ≤ q → A q := fun q h => by rw [← hAe]; exact Or.inr h
  have hS : va_S A s.heap s.heap [] := va_S.rf
  have hl := lv_entry ([.ref y, .int a1]) (n := 5) (Nat.le_of_ble_eq_true rfl)
  rw [lg_entry_eq]
  generalize (lg_sl ([.ref y, .int a1]) ++ List.replicate (5 - (lg_sl ([.ref y, .int a1])).length) Slot.unset).toArray = ls at hl ⊢
  have hl : lv_has ls 5 [(0, .ref y), (1, .int a1)] := hl
  refine lv_aload_n hx hb dM_uses_0 rfl (lv_at hl 0 rfl) ?_
  refine lv_aload_n hx hb dM_uses_1 rfl (lv_at hl 0 rfl) ?_
  refine lv_iload_n hx hb dM_uses_2 rfl (lv_at hl 1 rfl) ?_
  refine ro_i (va_Run.run (va_runV (As := [.int a1]) (rest := [.ref y]) ⟨hx, hb, hml, hown, hT⟩ (y_noColumn1 l D cT y y0 y1 y3 y4 y5 y6 y7 y8 y9 y10 y11 y12 y13 y14 y15 y16 y17 y18 y19 y20 y21 y22 y23 y24 y25 y26 y27 y28 y29 y30 y31 y32 y33 y34 y35 y36 y37 y38 y39 y40 y41 y42 y43 y44 y45 y46 y47 y48 y49 y50 y51 y52 y53 y54 y55 y56 y57 y58 y59 a1 hq) ⟨callB_of 1 hT (tb_gd w1317) rfl rfl rfl (hT _ w13) (hT _ w1314) hM_noColumn ⟨Nat.le_of_ble_eq_true rfl, Nat.le_of_ble_eq_true rfl⟩, (hT _ w1316), (hT _ wp31)⟩ (RO.preV (ci := 11) (q0 := 0) hZ hS (hP.sub (ws' := [(y, .inr (11, [.ref y0, .int y1, .int 1, .int y3, .ref y4, .ref y5, .ref y6, .ref y7, .ref y8, .ref y9, .int y10, .int y11, .int y12, .int y13, .int y14, .long y15, .int y16, .int y17, .ref y18, .ref y19, .ref y20, .ref y21, .ref y22, .ref y23, .ref y24, .ref y25, .ref y26, .ref y27, .ref y28, .ref y29, .ref y30, .ref y31, .ref y32, .ref y33, .ref y34, .ref y35, .ref y36, .ref y37, .ref y38, .ref y39, .ref y40, .ref y41, .ref y42, .ref y43, .ref y44, .ref y45, .ref y46, .int y47, .ref y48, .ref y49, .int y50, .int y51, .int y52, .int y53, .long y54, .int y55, .ref y56, .ref y57, .ref y58, .ref y59]))]) [0] rfl) hK rfl rfl) rfl rfl hl.1 rfl (lv_room (Nat.le_of_ble_eq_true rfl)) dM_uses_3 ⟨Nat.le_of_ble_eq_true rfl, Nat.le_of_ble_eq_true rfl⟩)) ?_
  refine lv_if_eq (tgt := 13) hx hb dM_uses_6 rfl (fun hj1 => absurd hj1 (by decide)) (fun _ => ?_)
  refine lv_iconst (v := 1) hx hb dM_uses_9 (by decide) ?_
  refine lv_goto (tgt := 14) hx hb dM_uses_10 rfl ?_
  refine rw_i (wc := [(y, .inr (11, [.ref y0, .int y1, .int 1, .int y3, .ref y4, .ref y5, .ref y6, .ref y7, .ref y8, .ref y9, .int y10, .int y11, .int y12, .int y13, .int y14, .long y15, .int y16, .int y17, .ref y18, .ref y19, .ref y20, .ref y21, .ref y22, .ref y23, .ref y24, .ref y25, .ref y26, .ref y27, .ref y28, .ref y29, .ref y30, .ref y31, .ref y32, .ref y33, .ref y34, .ref y35, .ref y36, .ref y37, .ref y38, .ref y39, .ref y40, .ref y41, .ref y42, .ref y43, .ref y44, .ref y45, .ref y46, .int y47, .ref y48, .ref y49, .int y50, .int y51, .int y52, .int y53, .long y54, .int y55, .ref y56, .ref y57, .ref y58, .ref y59]))]) (wr := []) hP hD hS hA [0] [] rfl rfl (by decide) (by decide) (va_runV (As := [.int 1]) (rest := []) ⟨hx, hb, hml, hown, hT⟩ (y_refused1 l D cT y y0 y1 1 y3 y4 y5 y6 y7 y8 y9 y10 y11 y12 y13 y14 y15 y16 y17 y18 y19 y20 y21 y22 y23 y24 y25 y26 y27 y28 y29 y30 y31 y32 y33 y34 y35 y36 y37 y38 y39 y40 y41 y42 y43 y44 y45 y46 y47 y48 y49 y50 y51 y52 y53 y54 y55 y56 y57 y58 y59 _) ⟨callB_of 1 hT (tb_gd w1301) rfl rfl rfl (hT _ w13) (hT _ w1298) hM_refused ⟨Nat.le_of_ble_eq_true rfl, Nat.le_of_ble_eq_true rfl⟩, (hT _ w1300), (hT _ wp29)⟩ (RW.preV (ci := 11) (q0 := 0) hZ hS (va_free (wc := [(y, .inr (11, [.ref y0, .int y1, .int 1, .int y3, .ref y4, .ref y5, .ref y6, .ref y7, .ref y8, .ref y9, .int y10, .int y11, .int y12, .int y13, .int y14, .long y15, .int y16, .int y17, .ref y18, .ref y19, .ref y20, .ref y21, .ref y22, .ref y23, .ref y24, .ref y25, .ref y26, .ref y27, .ref y28, .ref y29, .ref y30, .ref y31, .ref y32, .ref y33, .ref y34, .ref y35, .ref y36, .ref y37, .ref y38, .ref y39, .ref y40, .ref y41, .ref y42, .ref y43, .ref y44, .ref y45, .ref y46, .int y47, .ref y48, .ref y49, .int y50, .int y51, .int y52, .int y53, .long y54, .int y55, .ref y56, .ref y57, .ref y58, .ref y59]))]) hD hS hA [0] rfl) (hP.sub (ws' := [(y, .inr (11, [.ref y0, .int y1, .int 1, .int y3, .ref y4, .ref y5, .ref y6, .ref y7, .ref y8, .ref y9, .int y10, .int y11, .int y12, .int y13, .int y14, .long y15, .int y16, .int y17, .ref y18, .ref y19, .ref y20, .ref y21, .ref y22, .ref y23, .ref y24, .ref y25, .ref y26, .ref y27, .ref y28, .ref y29, .ref y30, .ref y31, .ref y32, .ref y33, .ref y34, .ref y35, .ref y36, .ref y37, .ref y38, .ref y39, .ref y40, .ref y41, .ref y42, .ref y43, .ref y44, .ref y45, .ref y46, .int y47, .ref y48, .ref y49, .int y50, .int y51, .int y52, .int y53, .long y54, .int y55, .ref y56, .ref y57, .ref y58, .ref y59]))]) [0] rfl) hK (hD.sub (ws' := [(y, .inr (11, [.ref y0, .int y1, .int 1, .int y3, .ref y4, .ref y5, .ref y6, .ref y7, .ref y8, .ref y9, .int y10, .int y11, .int y12, .int y13, .int y14, .long y15, .int y16, .int y17, .ref y18, .ref y19, .ref y20, .ref y21, .ref y22, .ref y23, .ref y24, .ref y25, .ref y26, .ref y27, .ref y28, .ref y29, .ref y30, .ref y31, .ref y32, .ref y33, .ref y34, .ref y35, .ref y36, .ref y37, .ref y38, .ref y39, .ref y40, .ref y41, .ref y42, .ref y43, .ref y44, .ref y45, .ref y46, .int y47, .ref y48, .ref y49, .int y50, .int y51, .int y52, .int y53, .long y54, .int y55, .ref y56, .ref y57, .ref y58, .ref y59]))]) [0] (by decide) rfl) rfl rfl) rfl rfl hl.1 rfl (lv_room (Nat.le_of_ble_eq_true rfl)) dM_uses_14 ⟨Nat.le_of_ble_eq_true rfl, Nat.le_of_ble_eq_true rfl⟩) (fun ru2 u2 H locs hpu2 hP hD hS => ?_)
  have hP : va_P D vwCl [(y, .inr (11, [.ref y0, .int 1, .int 1, .int y3, .ref y4, .ref y5, .ref y6, .ref y7, .ref y8, .ref y9, .int y10, .int y11, .int y12, .int y13, .int y14, .long y15, .int y16, .int y17, .ref y18, .ref y19, .ref y20, .ref y21, .ref y22, .ref y23, .ref y24, .ref y25, .ref y26, .ref y27, .ref y28, .ref y29, .ref y30, .ref y31, .ref y32, .ref y33, .ref y34, .ref y35, .ref y36, .ref y37, .ref y38, .ref y39, .ref y40, .ref y41, .ref y42, .ref y43, .ref y44, .ref y45, .ref y46, .int y47, .ref y48, .ref y49, .int y50, .int y51, .int y52, .int y53, .long y54, .int y55, .ref y56, .ref y57, .ref y58, .ref y59]))] H := hP
  have hD : va_D A [(y, .inr (11, [.ref y0, .int 1, .int 1, .int y3, .ref y4, .ref y5, .ref y6, .ref y7, .ref y8, .ref y9, .int y10, .int y11, .int y12, .int y13, .int y14, .long y15, .int y16, .int y17, .ref y18, .ref y19, .ref y20, .ref y21, .ref y22, .ref y23, .ref y24, .ref y25, .ref y26, .ref y27, .ref y28, .ref y29, .ref y30, .ref y31, .ref y32, .ref y33, .ref y34, .ref y35, .ref y36, .ref y37, .ref y38, .ref y39, .ref y40, .ref y41, .ref y42, .ref y43, .ref y44, .ref y45, .ref y46, .int y47, .ref y48, .ref y49, .int y50, .int y51, .int y52, .int y53, .long y54, .int y55, .ref y56, .ref y57, .ref y58, .ref y59]))] := hD
  rw [hpu2]
  refine lv_if_eq (tgt := 22) hx hb dM_uses_17 rfl (fun hj3 => absurd hj3 (by decide)) (fun _ => ?_)
  refine lv_iconst (v := 0) hx hb dM_uses_20 (by decide) ?_
  have hP9 := hP.sub (ws' := [(y, .inr (11, [.ref y0, .int 1, .int 1, .int y3, .ref y4, .ref y5, .ref y6, .ref y7, .ref y8, .ref y9, .int y10, .int y11, .int y12, .int y13, .int y14, .long y15, .int y16, .int y17, .ref y18, .ref y19, .ref y20, .ref y21, .ref y22, .ref y23, .ref y24, .ref y25, .ref y26, .ref y27, .ref y28, .ref y29, .ref y30, .ref y31, .ref y32, .ref y33, .ref y34, .ref y35, .ref y36, .ref y37, .ref y38, .ref y39, .ref y40, .ref y41, .ref y42, .ref y43, .ref y44, .ref y45, .ref y46, .int y47, .ref y48, .ref y49, .int y50, .int y51, .int y52, .int y53, .long y54, .int y55, .ref y56, .ref y57, .ref y58, .ref y59]))]) [0] rfl
  have hD9 := hD.sub (ws' := [(y, .inr (11, [.ref y0, .int 1, .int 1, .int y3, .ref y4, .ref y5, .ref y6, .ref y7, .ref y8, .ref y9, .int y10, .int y11, .int y12, .int y13, .int y14, .long y15, .int y16, .int y17, .ref y18, .ref y19, .ref y20, .ref y21, .ref y22, .ref y23, .ref y24, .ref y25, .ref y26, .ref y27, .ref y28, .ref y29, .ref y30, .ref y31, .ref y32, .ref y33, .ref y34, .ref y35, .ref y36, .ref y37, .ref y38, .ref y39, .ref y40, .ref y41, .ref y42, .ref y43, .ref y44, .ref y45, .ref y46, .int y47, .ref y48, .ref y49, .int y50, .int y51, .int y52, .int y53, .long y54, .int y55, .ref y56, .ref y57, .ref y58, .ref y59]))]) [0] (by decide) rfl
  refine W.widen (k := 0) (n := 0) (Nat.le_of_ble_eq_true rfl) (Nat.le_of_ble_eq_true rfl) ?_
  exact W.iret (v := 0) hx hb hr (fun t ht hW => ⟨⟨0, (fun _ => 0), rfl, rfl, by rw [ht]; exact hP9, hD9⟩, hS.F ht⟩) hS.2.2 dM_uses_21
set_option maxHeartbeats 4000000 in
set_option maxRecDepth 100000 in
theorem y_uses_ok (l : Launch) (D : va_G) (cT : Nat → ClassId) (y : Nat) (y0 : Nat) (y1 : Int32) (y3 : Int32) (y4 : Nat) (y5 : Nat) (y6 : Nat) (y7 : Nat) (y8 : Nat) (y9 : Nat) (y10 : Int32) (y11 : Int32) (y12 : Int32) (y13 : Int32) (y14 : Int32) (y15 : Int64) (y16 : Int32) (y18 : Nat) (y19 : Nat) (y20 : Nat) (y21 : Nat) (y22 : Nat) (y23 : Nat) (y24 : Nat) (y25 : Nat) (y26 : Nat) (y27 : Nat) (y28 : Nat) (y29 : Nat) (y30 : Nat) (y31 : Nat) (y32 : Nat) (y33 : Nat) (y34 : Nat) (y35 : Nat) (y36 : Nat) (y37 : Nat) (y38 : Nat) (y39 : Nat) (y40 : Nat) (y41 : Nat) (y42 : Nat) (y43 : Nat) (y44 : Nat) (y45 : Nat) (y46 : Nat) (y47 : Int32) (y48 : Nat) (y49 : Nat) (y50 : Int32) (y51 : Int32) (y52 : Int32) (y53 : Int32) (y54 : Int64) (y55 : Int32) (y56 : Nat) (y57 : Nat) (y58 : Nat) (y59 : Nat) (sz : Nat) : Met l yM_uses WM_uses ({ frames := 2, cells := 0, slots := 0, locals := 43 } : Room) (RW D vwCl [.ref y, .int 0] [(y, .inr (11, [.ref y0, .int y1, .int 1, .int y3, .ref y4, .ref y5, .ref y6, .ref y7, .ref y8, .ref y9, .int y10, .int y11, .int y12, .int y13, .int y14, .long y15, .int y16, .int 0, .ref y18, .ref y19, .ref y20, .ref y21, .ref y22, .ref y23, .ref y24, .ref y25, .ref y26, .ref y27, .ref y28, .ref y29, .ref y30, .ref y31, .ref y32, .ref y33, .ref y34, .ref y35, .ref y36, .ref y37, .ref y38, .ref y39, .ref y40, .ref y41, .ref y42, .ref y43, .ref y44, .ref y45, .ref y46, .int y47, .ref y48, .ref y49, .int y50, .int y51, .int y52, .int y53, .long y54, .int y55, .ref y56, .ref y57, .ref y58, .ref y59]))] (TY cT) sz) (va_Qi (fun (r : Int32) (_ : Nat → Nat) => r = 0) (BW D vwCl (va_A [(y, .inr (11, [.ref y0, .int y1, .int 1, .int y3, .ref y4, .ref y5, .ref y6, .ref y7, .ref y8, .ref y9, .int y10, .int y11, .int y12, .int y13, .int y14, .long y15, .int y16, .int 0, .ref y18, .ref y19, .ref y20, .ref y21, .ref y22, .ref y23, .ref y24, .ref y25, .ref y26, .ref y27, .ref y28, .ref y29, .ref y30, .ref y31, .ref y32, .ref y33, .ref y34, .ref y35, .ref y36, .ref y37, .ref y38, .ref y39, .ref y40, .ref y41, .ref y42, .ref y43, .ref y44, .ref y45, .ref y46, .int y47, .ref y48, .ref y49, .int y50, .int y51, .int y52, .int y53, .long y54, .int y55, .ref y56, .ref y57, .ref y58, .ref y59]))] sz) (fun u => [(y, .inr (11, [.ref y0, .int 0, .int 1, .int y3, .ref y4, .ref y5, .ref y6, .ref y7, .ref y8, .ref y9, .int y10, .int y11, .int y12, .int y13, .int y14, .long y15, .int y16, .int 0, .ref y18, .ref y19, .ref y20, .ref y21, .ref y22, .ref y23, .ref y24, .ref y25, .ref y26, .ref y27, .ref y28, .ref y29, .ref y30, .ref y31, .ref y32, .ref y33, .ref y34, .ref y35, .ref y36, .ref y37, .ref y38, .ref y39, .ref y40, .ref y41, .ref y42, .ref y43, .ref y44, .ref y45, .ref y46, .int y47, .ref y48, .ref y49, .int y50, .int y51, .int y52, .int y53, .long y54, .int y55, .ref y56, .ref y57, .ref y58, .ref y59]))])) (va_A [(y, .inr (11, [.ref y0, .int y1, .int 1, .int y3, .ref y4, .ref y5, .ref y6, .ref y7, .ref y8, .ref y9, .int y10, .int y11, .int y12, .int y13, .int y14, .long y15, .int y16, .int 0, .ref y18, .ref y19, .ref y20, .ref y21, .ref y22, .ref y23, .ref y24, .ref y25, .ref y26, .ref y27, .ref y28, .ref y29, .ref y30, .ref y31, .ref y32, .ref y33, .ref y34, .ref y35, .ref y36, .ref y37, .ref y38, .ref y39, .ref y40, .ref y41, .ref y42, .ref y43, .ref y44, .ref y45, .ref y46, .int y47, .ref y48, .ref y49, .int y50, .int y51, .int y52, .int y53, .long y54, .int y55, .ref y56, .ref y57, .ref y58, .ref y59]))] sz)) 0 0 (va_A [(y, .inr (11, [.ref y0, .int y1, .int 1, .int y3, .ref y4, .ref y5, .ref y6, .ref y7, .ref y8, .ref y9, .int y10, .int y11, .int y12, .int y13, .int y14, .long y15, .int y16, .int 0, .ref y18, .ref y19, .ref y20, .ref y21, .ref y22, .ref y23, .ref y24, .ref y25, .ref y26, .ref y27, .ref y28, .ref y29, .ref y30, .ref y31, .ref y32, .ref y33, .ref y34, .ref y35, .ref y36, .ref y37, .ref y38, .ref y39, .ref y40, .ref y41, .ref y42, .ref y43, .ref y44, .ref y45, .ref y46, .int y47, .ref y48, .ref y49, .int y50, .int y51, .int y52, .int y53, .long y54, .int y55, .ref y56, .ref y57, .ref y58, .ref y59]))] sz) := by
  refine Met.ofW (cc := cM_uses) (maxL := 5) (ret := (some .int)) (by decide) rfl ?_
  intro p e s m args below meth c s₁ B hml hv
  obtain ⟨rfl, hsz, hZ, hP, hK, hD0⟩ := hv
  have hx := B.exec
  have hb := B.bytes
  have hr := B.returns
  have hts := atoms_spec (ws := WM_uses) B.pre
  have hT : ∀ w ∈ TB, w.before _ s = true := fun w h => hts w (List.mem_cons_of_mem _ h)
  have hown : s.vm.findClass R_M = some m.cls := findClass_of_methodNamed B.named
  have hlocks := B.notSynchronized
  subst hsz
  have hD := hD0.self (sz := s.heap.size)
  generalize hAe : va_A [(y, .inr (11, [.ref y0, .int y1, .int 1, .int y3, .ref y4, .ref y5, .ref y6, .ref y7, .ref y8, .ref y9, .int y10, .int y11, .int y12, .int y13, .int y14, .long y15, .int y16, .int 0, .ref y18, .ref y19, .ref y20, .ref y21, .ref y22, .ref y23, .ref y24, .ref y25, .ref y26, .ref y27, .ref y28, .ref y29, .ref y30, .ref y31, .ref y32, .ref y33, .ref y34, .ref y35, .ref y36, .ref y37, .ref y38, .ref y39, .ref y40, .ref y41, .ref y42, .ref y43, .ref y44, .ref y45, .ref y46, .int y47, .ref y48, .ref y49, .int y50, .int y51, .int y52, .int y53, .long y54, .int y55, .ref y56, .ref y57, .ref y58, .ref y59]))] s.heap.size = A at hD hZ ⊢
  have hA : ∀ q : Nat, s.heap.size ≤ q → A q := fun q h => by rw [← hAe]; exact Or.inr h
  have hS : va_S A s.heap s.heap [] := va_S.rf
  have hl := lv_entry ([.ref y, .int 0]) (n := 5) (Nat.le_of_ble_eq_true rfl)
  rw [lg_entry_eq]
  generalize (lg_sl ([.ref y, .int 0]) ++ List.replicate (5 - (lg_sl ([.ref y, .int 0])).length) Slot.unset).toArray = ls at hl ⊢
  have hl : lv_has ls 5 [(0, .ref y), (1, .int 0)] := hl
  refine lv_aload_n hx hb dM_uses_0 rfl (lv_at hl 0 rfl) ?_
  refine lv_aload_n hx hb dM_uses_1 rfl (lv_at hl 0 rfl) ?_
  refine lv_iload_n hx hb dM_uses_2 rfl (lv_at hl 1 rfl) ?_
  refine ro_i (va_Run.run (va_runV (As := [.int 0]) (rest := [.ref y]) ⟨hx, hb, hml, hown, hT⟩ (y_noColumn0 l D cT y y0 y1 y3 y4 y5 y6 y7 y8 y9 y10 y11 y12 y13 y14 y15 y16 0 y18 y19 y20 y21 y22 y23 y24 y25 y26 y27 y28 y29 y30 y31 y32 y33 y34 y35 y36 y37 y38 y39 y40 y41 y42 y43 y44 y45 y46 y47 y48 y49 y50 y51 y52 y53 y54 y55 y56 y57 y58 y59 0 (by decide)) ⟨callB_of 1 hT (tb_gd w1317) rfl rfl rfl (hT _ w13) (hT _ w1314) hM_noColumn ⟨Nat.le_of_ble_eq_true rfl, Nat.le_of_ble_eq_true rfl⟩, (hT _ w1316), (hT _ wp31)⟩ (RO.preV (ci := 11) (q0 := 0) hZ hS (hP.sub (ws' := [(y, .inr (11, [.ref y0, .int y1, .int 1, .int y3, .ref y4, .ref y5, .ref y6, .ref y7, .ref y8, .ref y9, .int y10, .int y11, .int y12, .int y13, .int y14, .long y15, .int y16, .int 0, .ref y18, .ref y19, .ref y20, .ref y21, .ref y22, .ref y23, .ref y24, .ref y25, .ref y26, .ref y27, .ref y28, .ref y29, .ref y30, .ref y31, .ref y32, .ref y33, .ref y34, .ref y35, .ref y36, .ref y37, .ref y38, .ref y39, .ref y40, .ref y41, .ref y42, .ref y43, .ref y44, .ref y45, .ref y46, .int y47, .ref y48, .ref y49, .int y50, .int y51, .int y52, .int y53, .long y54, .int y55, .ref y56, .ref y57, .ref y58, .ref y59]))]) [0] rfl) hK rfl rfl) rfl rfl hl.1 rfl (lv_room (Nat.le_of_ble_eq_true rfl)) dM_uses_3 ⟨Nat.le_of_ble_eq_true rfl, Nat.le_of_ble_eq_true rfl⟩)) ?_
  refine lv_if_eq (tgt := 13) hx hb dM_uses_6 rfl (fun _ => ?_) (fun hj1 => absurd (by decide) hj1)
  refine lv_iconst (v := 0) hx hb dM_uses_13 (by decide) ?_
  refine rw_i (wc := [(y, .inr (11, [.ref y0, .int y1, .int 1, .int y3, .ref y4, .ref y5, .ref y6, .ref y7, .ref y8, .ref y9, .int y10, .int y11, .int y12, .int y13, .int y14, .long y15, .int y16, .int 0, .ref y18, .ref y19, .ref y20, .ref y21, .ref y22, .ref y23, .ref y24, .ref y25, .ref y26, .ref y27, .ref y28, .ref y29, .ref y30, .ref y31, .ref y32, .ref y33, .ref y34, .ref y35, .ref y36, .ref y37, .ref y38, .ref y39, .ref y40, .ref y41, .ref y42, .ref y43, .ref y44, .ref y45, .ref y46, .int y47, .ref y48, .ref y49, .int y50, .int y51, .int y52, .int y53, .long y54, .int y55, .ref y56, .ref y57, .ref y58, .ref y59]))]) (wr := []) hP hD hS hA [0] [] rfl rfl (by decide) (by decide) (va_runV (As := [.int 0]) (rest := []) ⟨hx, hb, hml, hown, hT⟩ (y_refused0 l D cT y y0 y1 1 y3 y4 y5 y6 y7 y8 y9 y10 y11 y12 y13 y14 y15 y16 0 y18 y19 y20 y21 y22 y23 y24 y25 y26 y27 y28 y29 y30 y31 y32 y33 y34 y35 y36 y37 y38 y39 y40 y41 y42 y43 y44 y45 y46 y47 y48 y49 y50 y51 y52 y53 y54 y55 y56 y57 y58 y59 _) ⟨callB_of 1 hT (tb_gd w1301) rfl rfl rfl (hT _ w13) (hT _ w1298) hM_refused ⟨Nat.le_of_ble_eq_true rfl, Nat.le_of_ble_eq_true rfl⟩, (hT _ w1300), (hT _ wp29)⟩ (RW.preV (ci := 11) (q0 := 0) hZ hS (va_free (wc := [(y, .inr (11, [.ref y0, .int y1, .int 1, .int y3, .ref y4, .ref y5, .ref y6, .ref y7, .ref y8, .ref y9, .int y10, .int y11, .int y12, .int y13, .int y14, .long y15, .int y16, .int 0, .ref y18, .ref y19, .ref y20, .ref y21, .ref y22, .ref y23, .ref y24, .ref y25, .ref y26, .ref y27, .ref y28, .ref y29, .ref y30, .ref y31, .ref y32, .ref y33, .ref y34, .ref y35, .ref y36, .ref y37, .ref y38, .ref y39, .ref y40, .ref y41, .ref y42, .ref y43, .ref y44, .ref y45, .ref y46, .int y47, .ref y48, .ref y49, .int y50, .int y51, .int y52, .int y53, .long y54, .int y55, .ref y56, .ref y57, .ref y58, .ref y59]))]) hD hS hA [0] rfl) (hP.sub (ws' := [(y, .inr (11, [.ref y0, .int y1, .int 1, .int y3, .ref y4, .ref y5, .ref y6, .ref y7, .ref y8, .ref y9, .int y10, .int y11, .int y12, .int y13, .int y14, .long y15, .int y16, .int 0, .ref y18, .ref y19, .ref y20, .ref y21, .ref y22, .ref y23, .ref y24, .ref y25, .ref y26, .ref y27, .ref y28, .ref y29, .ref y30, .ref y31, .ref y32, .ref y33, .ref y34, .ref y35, .ref y36, .ref y37, .ref y38, .ref y39, .ref y40, .ref y41, .ref y42, .ref y43, .ref y44, .ref y45, .ref y46, .int y47, .ref y48, .ref y49, .int y50, .int y51, .int y52, .int y53, .long y54, .int y55, .ref y56, .ref y57, .ref y58, .ref y59]))]) [0] rfl) hK (hD.sub (ws' := [(y, .inr (11, [.ref y0, .int y1, .int 1, .int y3, .ref y4, .ref y5, .ref y6, .ref y7, .ref y8, .ref y9, .int y10, .int y11, .int y12, .int y13, .int y14, .long y15, .int y16, .int 0, .ref y18, .ref y19, .ref y20, .ref y21, .ref y22, .ref y23, .ref y24, .ref y25, .ref y26, .ref y27, .ref y28, .ref y29, .ref y30, .ref y31, .ref y32, .ref y33, .ref y34, .ref y35, .ref y36, .ref y37, .ref y38, .ref y39, .ref y40, .ref y41, .ref y42, .ref y43, .ref y44, .ref y45, .ref y46, .int y47, .ref y48, .ref y49, .int y50, .int y51, .int y52, .int y53, .long y54, .int y55, .ref y56, .ref y57, .ref y58, .ref y59]))]) [0] (by decide) rfl) rfl rfl) rfl rfl hl.1 rfl (lv_room (Nat.le_of_ble_eq_true rfl)) dM_uses_14 ⟨Nat.le_of_ble_eq_true rfl, Nat.le_of_ble_eq_true rfl⟩) (fun ru2 u2 H locs hpu2 hP hD hS => ?_)
  have hP : va_P D vwCl [(y, .inr (11, [.ref y0, .int 0, .int 1, .int y3, .ref y4, .ref y5, .ref y6, .ref y7, .ref y8, .ref y9, .int y10, .int y11, .int y12, .int y13, .int y14, .long y15, .int y16, .int 0, .ref y18, .ref y19, .ref y20, .ref y21, .ref y22, .ref y23, .ref y24, .ref y25, .ref y26, .ref y27, .ref y28, .ref y29, .ref y30, .ref y31, .ref y32, .ref y33, .ref y34, .ref y35, .ref y36, .ref y37, .ref y38, .ref y39, .ref y40, .ref y41, .ref y42, .ref y43, .ref y44, .ref y45, .ref y46, .int y47, .ref y48, .ref y49, .int y50, .int y51, .int y52, .int y53, .long y54, .int y55, .ref y56, .ref y57, .ref y58, .ref y59]))] H := hP
  have hD : va_D A [(y, .inr (11, [.ref y0, .int 0, .int 1, .int y3, .ref y4, .ref y5, .ref y6, .ref y7, .ref y8, .ref y9, .int y10, .int y11, .int y12, .int y13, .int y14, .long y15, .int y16, .int 0, .ref y18, .ref y19, .ref y20, .ref y21, .ref y22, .ref y23, .ref y24, .ref y25, .ref y26, .ref y27, .ref y28, .ref y29, .ref y30, .ref y31, .ref y32, .ref y33, .ref y34, .ref y35, .ref y36, .ref y37, .ref y38, .ref y39, .ref y40, .ref y41, .ref y42, .ref y43, .ref y44, .ref y45, .ref y46, .int y47, .ref y48, .ref y49, .int y50, .int y51, .int y52, .int y53, .long y54, .int y55, .ref y56, .ref y57, .ref y58, .ref y59]))] := hD
  rw [hpu2]
  refine lv_if_eq (tgt := 22) hx hb dM_uses_17 rfl (fun _ => ?_) (fun hj3 => absurd (by decide) hj3)
  refine lv_iconst (v := 0) hx hb dM_uses_22 (by decide) ?_
  refine lv_istore_n hx hb dM_uses_23 rfl hl (by decide) rfl (fun ls hl => ?_)
  have hl : lv_has ls 5 [(2, .int 0), (0, .ref y), (1, .int 0)] := hl
  refine lv_iconst (v := 0) hx hb dM_uses_24 (by decide) ?_
  refine lv_istore_n hx hb dM_uses_25 rfl hl (by decide) rfl (fun ls hl => ?_)
  have hl : lv_has ls 5 [(3, .int 0), (2, .int 0), (0, .ref y), (1, .int 0)] := hl
  refine lv_iload_n hx hb dM_uses_26 rfl (lv_at hl 0 rfl) ?_
  refine lv_aload_n hx hb dM_uses_27 rfl (lv_at hl 2 rfl) ?_
  refine va_get (D := D) (ci := 11) (v := .int 0) (C := R_M) (T := T_M) (N := 60) hx hb hT in_M hown hK hP 0 rfl rfl 17 (by decide) (hT _ w1121) (fun _ h9 => h9) rfl dM_uses_28 ?_
  refine lv_icmp_ge (tgt := 84) hx hb dM_uses_31 rfl (fun _ => ?_) (fun hj4 => absurd (by decide) hj4)
  refine lv_iload_n hx hb dM_uses_84 rfl (lv_at hl 1 rfl) ?_
  have hP9 := hP.sub (ws' := [(y, .inr (11, [.ref y0, .int 0, .int 1, .int y3, .ref y4, .ref y5, .ref y6, .ref y7, .ref y8, .ref y9, .int y10, .int y11, .int y12, .int y13, .int y14, .long y15, .int y16, .int 0, .ref y18, .ref y19, .ref y20, .ref y21, .ref y22, .ref y23, .ref y24, .ref y25, .ref y26, .ref y27, .ref y28, .ref y29, .ref y30, .ref y31, .ref y32, .ref y33, .ref y34, .ref y35, .ref y36, .ref y37, .ref y38, .ref y39, .ref y40, .ref y41, .ref y42, .ref y43, .ref y44, .ref y45, .ref y46, .int y47, .ref y48, .ref y49, .int y50, .int y51, .int y52, .int y53, .long y54, .int y55, .ref y56, .ref y57, .ref y58, .ref y59]))]) [0] rfl
  have hD9 := hD.sub (ws' := [(y, .inr (11, [.ref y0, .int 0, .int 1, .int y3, .ref y4, .ref y5, .ref y6, .ref y7, .ref y8, .ref y9, .int y10, .int y11, .int y12, .int y13, .int y14, .long y15, .int y16, .int 0, .ref y18, .ref y19, .ref y20, .ref y21, .ref y22, .ref y23, .ref y24, .ref y25, .ref y26, .ref y27, .ref y28, .ref y29, .ref y30, .ref y31, .ref y32, .ref y33, .ref y34, .ref y35, .ref y36, .ref y37, .ref y38, .ref y39, .ref y40, .ref y41, .ref y42, .ref y43, .ref y44, .ref y45, .ref y46, .int y47, .ref y48, .ref y49, .int y50, .int y51, .int y52, .int y53, .long y54, .int y55, .ref y56, .ref y57, .ref y58, .ref y59]))]) [0] (by decide) rfl
  refine W.widen (k := 0) (n := 0) (Nat.le_of_ble_eq_true rfl) (Nat.le_of_ble_eq_true rfl) ?_
  exact W.iret (v := 0) hx hb hr (fun t ht hW => ⟨⟨0, (fun _ => 0), rfl, rfl, by rw [ht]; exact hP9, hD9⟩, hS.F ht⟩) hS.2.2 dM_uses_85
set_option maxHeartbeats 4000000 in
set_option maxRecDepth 100000 in
theorem y_ask_noc (l : Launch) (D : va_G) (cT : Nat → ClassId) (y : Nat) (y0 : Nat) (y1 : Int32) (y3 : Int32) (y4 : Nat) (y5 : Nat) (y6 : Nat) (y7 : Nat) (y8 : Nat) (y9 : Nat) (y10 : Int32) (y11 : Int32) (y12 : Int32) (y13 : Int32) (y14 : Int32) (y15 : Int64) (y16 : Int32) (y17 : Int32) (y18 : Nat) (y19 : Nat) (y20 : Nat) (y21 : Nat) (y22 : Nat) (y23 : Nat) (y24 : Nat) (y25 : Nat) (y26 : Nat) (y27 : Nat) (y28 : Nat) (y29 : Nat) (y30 : Nat) (y31 : Nat) (y32 : Nat) (y33 : Nat) (y34 : Nat) (y35 : Nat) (y36 : Nat) (y37 : Nat) (y38 : Nat) (y39 : Nat) (y40 : Nat) (y41 : Nat) (y42 : Nat) (y43 : Nat) (y44 : Nat) (y45 : Nat) (y46 : Nat) (y47 : Int32) (y48 : Nat) (y49 : Nat) (y50 : Int32) (y51 : Int32) (y52 : Int32) (y53 : Int32) (y54 : Int64) (y55 : Int32) (y56 : Nat) (y57 : Nat) (y58 : Nat) (y59 : Nat) (a1 : Int32) (a2 : Int32) (hq : ¬ (0 ≤ a1 ∧ a1 ≤ 0)) (sz : Nat) : Met l yM_ask WM_ask ({ frames := 2, cells := 0, slots := 0, locals := 43 } : Room) (RW D vwCl [.ref y, .int a1, .int a2] [(y, .inr (11, [.ref y0, .int y1, .int 1, .int y3, .ref y4, .ref y5, .ref y6, .ref y7, .ref y8, .ref y9, .int y10, .int y11, .int y12, .int y13, .int y14, .long y15, .int y16, .int y17, .ref y18, .ref y19, .ref y20, .ref y21, .ref y22, .ref y23, .ref y24, .ref y25, .ref y26, .ref y27, .ref y28, .ref y29, .ref y30, .ref y31, .ref y32, .ref y33, .ref y34, .ref y35, .ref y36, .ref y37, .ref y38, .ref y39, .ref y40, .ref y41, .ref y42, .ref y43, .ref y44, .ref y45, .ref y46, .int y47, .ref y48, .ref y49, .int y50, .int y51, .int y52, .int y53, .long y54, .int y55, .ref y56, .ref y57, .ref y58, .ref y59]))] (TY cT) sz) (va_Qi (fun (r : Int32) (_ : Nat → Nat) => r = 0) (BW D vwCl (va_A [(y, .inr (11, [.ref y0, .int y1, .int 1, .int y3, .ref y4, .ref y5, .ref y6, .ref y7, .ref y8, .ref y9, .int y10, .int y11, .int y12, .int y13, .int y14, .long y15, .int y16, .int y17, .ref y18, .ref y19, .ref y20, .ref y21, .ref y22, .ref y23, .ref y24, .ref y25, .ref y26, .ref y27, .ref y28, .ref y29, .ref y30, .ref y31, .ref y32, .ref y33, .ref y34, .ref y35, .ref y36, .ref y37, .ref y38, .ref y39, .ref y40, .ref y41, .ref y42, .ref y43, .ref y44, .ref y45, .ref y46, .int y47, .ref y48, .ref y49, .int y50, .int y51, .int y52, .int y53, .long y54, .int y55, .ref y56, .ref y57, .ref y58, .ref y59]))] sz) (fun u => [(y, .inr (11, [.ref y0, .int 1, .int 1, .int y3, .ref y4, .ref y5, .ref y6, .ref y7, .ref y8, .ref y9, .int y10, .int y11, .int y12, .int y13, .int y14, .long y15, .int y16, .int y17, .ref y18, .ref y19, .ref y20, .ref y21, .ref y22, .ref y23, .ref y24, .ref y25, .ref y26, .ref y27, .ref y28, .ref y29, .ref y30, .ref y31, .ref y32, .ref y33, .ref y34, .ref y35, .ref y36, .ref y37, .ref y38, .ref y39, .ref y40, .ref y41, .ref y42, .ref y43, .ref y44, .ref y45, .ref y46, .int y47, .ref y48, .ref y49, .int y50, .int y51, .int y52, .int y53, .long y54, .int y55, .ref y56, .ref y57, .ref y58, .ref y59]))])) (va_A [(y, .inr (11, [.ref y0, .int y1, .int 1, .int y3, .ref y4, .ref y5, .ref y6, .ref y7, .ref y8, .ref y9, .int y10, .int y11, .int y12, .int y13, .int y14, .long y15, .int y16, .int y17, .ref y18, .ref y19, .ref y20, .ref y21, .ref y22, .ref y23, .ref y24, .ref y25, .ref y26, .ref y27, .ref y28, .ref y29, .ref y30, .ref y31, .ref y32, .ref y33, .ref y34, .ref y35, .ref y36, .ref y37, .ref y38, .ref y39, .ref y40, .ref y41, .ref y42, .ref y43, .ref y44, .ref y45, .ref y46, .int y47, .ref y48, .ref y49, .int y50, .int y51, .int y52, .int y53, .long y54, .int y55, .ref y56, .ref y57, .ref y58, .ref y59]))] sz)) 0 0 (va_A [(y, .inr (11, [.ref y0, .int y1, .int 1, .int y3, .ref y4, .ref y5, .ref y6, .ref y7, .ref y8, .ref y9, .int y10, .int y11, .int y12, .int y13, .int y14, .long y15, .int y16, .int y17, .ref y18, .ref y19, .ref y20, .ref y21, .ref y22, .ref y23, .ref y24, .ref y25, .ref y26, .ref y27, .ref y28, .ref y29, .ref y30, .ref y31, .ref y32, .ref y33, .ref y34, .ref y35, .ref y36, .ref y37, .ref y38, .ref y39, .ref y40, .ref y41, .ref y42, .ref y43, .ref y44, .ref y45, .ref y46, .int y47, .ref y48, .ref y49, .int y50, .int y51, .int y52, .int y53, .long y54, .int y55, .ref y56, .ref y57, .ref y58, .ref y59]))] sz) := by
  refine Met.ofW (cc := cM_ask) (maxL := 4) (ret := (some .int)) (by decide) rfl ?_
  intro p e s m args below meth c s₁ B hml hv
  obtain ⟨rfl, hsz, hZ, hP, hK, hD0⟩ := hv
  have hx := B.exec
  have hb := B.bytes
  have hr := B.returns
  have hts := atoms_spec (ws := WM_ask) B.pre
  have hT : ∀ w ∈ TB, w.before _ s = true := fun w h => hts w (List.mem_cons_of_mem _ h)
  have hown : s.vm.findClass R_M = some m.cls := findClass_of_methodNamed B.named
  have hlocks := B.notSynchronized
  subst hsz
  have hD := hD0.self (sz := s.heap.size)
  generalize hAe : va_A [(y, .inr (11, [.ref y0, .int y1, .int 1, .int y3, .ref y4, .ref y5, .ref y6, .ref y7, .ref y8, .ref y9, .int y10, .int y11, .int y12, .int y13, .int y14, .long y15, .int y16, .int y17, .ref y18, .ref y19, .ref y20, .ref y21, .ref y22, .ref y23, .ref y24, .ref y25, .ref y26, .ref y27, .ref y28, .ref y29, .ref y30, .ref y31, .ref y32, .ref y33, .ref y34, .ref y35, .ref y36, .ref y37, .ref y38, .ref y39, .ref y40, .ref y41, .ref y42, .ref y43, .ref y44, .ref y45, .ref y46, .int y47, .ref y48, .ref y49, .int y50, .int y51, .int y52, .int y53, .long y54, .int y55, .ref y56, .ref y57, .ref y58, .ref y59]))] s.heap.size = A at hD hZ ⊢
  have hA : ∀ q : Nat, s.heap.size ≤ q → A q := fun q h => by rw [← hAe]; exact Or.inr h
  have hS : va_S A s.heap s.heap [] := va_S.rf
  have hl := lv_entry ([.ref y, .int a1, .int a2]) (n := 4) (Nat.le_of_ble_eq_true rfl)
  rw [lg_entry_eq]
  generalize (lg_sl ([.ref y, .int a1, .int a2]) ++ List.replicate (4 - (lg_sl ([.ref y, .int a1, .int a2])).length) Slot.unset).toArray = ls at hl ⊢
  have hl : lv_has ls 4 [(0, .ref y), (1, .int a1), (2, .int a2)] := hl
  refine lv_aload_n hx hb dM_ask_0 rfl (lv_at hl 0 rfl) ?_
  refine lv_aload_n hx hb dM_ask_1 rfl (lv_at hl 0 rfl) ?_
  refine lv_iload_n hx hb dM_ask_2 rfl (lv_at hl 1 rfl) ?_
  refine ro_i (va_Run.run (va_runV (As := [.int a1]) (rest := [.ref y]) ⟨hx, hb, hml, hown, hT⟩ (y_noColumn1 l D cT y y0 y1 y3 y4 y5 y6 y7 y8 y9 y10 y11 y12 y13 y14 y15 y16 y17 y18 y19 y20 y21 y22 y23 y24 y25 y26 y27 y28 y29 y30 y31 y32 y33 y34 y35 y36 y37 y38 y39 y40 y41 y42 y43 y44 y45 y46 y47 y48 y49 y50 y51 y52 y53 y54 y55 y56 y57 y58 y59 a1 hq) ⟨callB_of 1 hT (tb_gd w1317) rfl rfl rfl (hT _ w13) (hT _ w1314) hM_noColumn ⟨Nat.le_of_ble_eq_true rfl, Nat.le_of_ble_eq_true rfl⟩, (hT _ w1316), (hT _ wp31)⟩ (RO.preV (ci := 11) (q0 := 0) hZ hS (hP.sub (ws' := [(y, .inr (11, [.ref y0, .int y1, .int 1, .int y3, .ref y4, .ref y5, .ref y6, .ref y7, .ref y8, .ref y9, .int y10, .int y11, .int y12, .int y13, .int y14, .long y15, .int y16, .int y17, .ref y18, .ref y19, .ref y20, .ref y21, .ref y22, .ref y23, .ref y24, .ref y25, .ref y26, .ref y27, .ref y28, .ref y29, .ref y30, .ref y31, .ref y32, .ref y33, .ref y34, .ref y35, .ref y36, .ref y37, .ref y38, .ref y39, .ref y40, .ref y41, .ref y42, .ref y43, .ref y44, .ref y45, .ref y46, .int y47, .ref y48, .ref y49, .int y50, .int y51, .int y52, .int y53, .long y54, .int y55, .ref y56, .ref y57, .ref y58, .ref y59]))]) [0] rfl) hK rfl rfl) rfl rfl hl.1 rfl (lv_room (Nat.le_of_ble_eq_true rfl)) dM_ask_3 ⟨Nat.le_of_ble_eq_true rfl, Nat.le_of_ble_eq_true rfl⟩)) ?_
  refine lv_if_ne (tgt := 22) hx hb dM_ask_6 rfl (fun _ => ?_) (fun hj1 => absurd hj1 (by decide))
  refine lv_iconst (v := 1) hx hb dM_ask_22 (by decide) ?_
  refine lv_goto (tgt := 27) hx hb dM_ask_23 rfl ?_
  refine rw_i (wc := [(y, .inr (11, [.ref y0, .int y1, .int 1, .int y3, .ref y4, .ref y5, .ref y6, .ref y7, .ref y8, .ref y9, .int y10, .int y11, .int y12, .int y13, .int y14, .long y15, .int y16, .int y17, .ref y18, .ref y19, .ref y20, .ref y21, .ref y22, .ref y23, .ref y24, .ref y25, .ref y26, .ref y27, .ref y28, .ref y29, .ref y30, .ref y31, .ref y32, .ref y33, .ref y34, .ref y35, .ref y36, .ref y37, .ref y38, .ref y39, .ref y40, .ref y41, .ref y42, .ref y43, .ref y44, .ref y45, .ref y46, .int y47, .ref y48, .ref y49, .int y50, .int y51, .int y52, .int y53, .long y54, .int y55, .ref y56, .ref y57, .ref y58, .ref y59]))]) (wr := []) hP hD hS hA [0] [] rfl rfl (by decide) (by decide) (va_runV (As := [.int 1]) (rest := []) ⟨hx, hb, hml, hown, hT⟩ (y_refused1 l D cT y y0 y1 1 y3 y4 y5 y6 y7 y8 y9 y10 y11 y12 y13 y14 y15 y16 y17 y18 y19 y20 y21 y22 y23 y24 y25 y26 y27 y28 y29 y30 y31 y32 y33 y34 y35 y36 y37 y38 y39 y40 y41 y42 y43 y44 y45 y46 y47 y48 y49 y50 y51 y52 y53 y54 y55 y56 y57 y58 y59 _) ⟨callB_of 1 hT (tb_gd w1301) rfl rfl rfl (hT _ w13) (hT _ w1298) hM_refused ⟨Nat.le_of_ble_eq_true rfl, Nat.le_of_ble_eq_true rfl⟩, (hT _ w1300), (hT _ wp29)⟩ (RW.preV (ci := 11) (q0 := 0) hZ hS (va_free (wc := [(y, .inr (11, [.ref y0, .int y1, .int 1, .int y3, .ref y4, .ref y5, .ref y6, .ref y7, .ref y8, .ref y9, .int y10, .int y11, .int y12, .int y13, .int y14, .long y15, .int y16, .int y17, .ref y18, .ref y19, .ref y20, .ref y21, .ref y22, .ref y23, .ref y24, .ref y25, .ref y26, .ref y27, .ref y28, .ref y29, .ref y30, .ref y31, .ref y32, .ref y33, .ref y34, .ref y35, .ref y36, .ref y37, .ref y38, .ref y39, .ref y40, .ref y41, .ref y42, .ref y43, .ref y44, .ref y45, .ref y46, .int y47, .ref y48, .ref y49, .int y50, .int y51, .int y52, .int y53, .long y54, .int y55, .ref y56, .ref y57, .ref y58, .ref y59]))]) hD hS hA [0] rfl) (hP.sub (ws' := [(y, .inr (11, [.ref y0, .int y1, .int 1, .int y3, .ref y4, .ref y5, .ref y6, .ref y7, .ref y8, .ref y9, .int y10, .int y11, .int y12, .int y13, .int y14, .long y15, .int y16, .int y17, .ref y18, .ref y19, .ref y20, .ref y21, .ref y22, .ref y23, .ref y24, .ref y25, .ref y26, .ref y27, .ref y28, .ref y29, .ref y30, .ref y31, .ref y32, .ref y33, .ref y34, .ref y35, .ref y36, .ref y37, .ref y38, .ref y39, .ref y40, .ref y41, .ref y42, .ref y43, .ref y44, .ref y45, .ref y46, .int y47, .ref y48, .ref y49, .int y50, .int y51, .int y52, .int y53, .long y54, .int y55, .ref y56, .ref y57, .ref y58, .ref y59]))]) [0] rfl) hK (hD.sub (ws' := [(y, .inr (11, [.ref y0, .int y1, .int 1, .int y3, .ref y4, .ref y5, .ref y6, .ref y7, .ref y8, .ref y9, .int y10, .int y11, .int y12, .int y13, .int y14, .long y15, .int y16, .int y17, .ref y18, .ref y19, .ref y20, .ref y21, .ref y22, .ref y23, .ref y24, .ref y25, .ref y26, .ref y27, .ref y28, .ref y29, .ref y30, .ref y31, .ref y32, .ref y33, .ref y34, .ref y35, .ref y36, .ref y37, .ref y38, .ref y39, .ref y40, .ref y41, .ref y42, .ref y43, .ref y44, .ref y45, .ref y46, .int y47, .ref y48, .ref y49, .int y50, .int y51, .int y52, .int y53, .long y54, .int y55, .ref y56, .ref y57, .ref y58, .ref y59]))]) [0] (by decide) rfl) rfl rfl) rfl rfl hl.1 rfl (lv_room (Nat.le_of_ble_eq_true rfl)) dM_ask_27 ⟨Nat.le_of_ble_eq_true rfl, Nat.le_of_ble_eq_true rfl⟩) (fun ru2 u2 H locs hpu2 hP hD hS => ?_)
  have hP : va_P D vwCl [(y, .inr (11, [.ref y0, .int 1, .int 1, .int y3, .ref y4, .ref y5, .ref y6, .ref y7, .ref y8, .ref y9, .int y10, .int y11, .int y12, .int y13, .int y14, .long y15, .int y16, .int y17, .ref y18, .ref y19, .ref y20, .ref y21, .ref y22, .ref y23, .ref y24, .ref y25, .ref y26, .ref y27, .ref y28, .ref y29, .ref y30, .ref y31, .ref y32, .ref y33, .ref y34, .ref y35, .ref y36, .ref y37, .ref y38, .ref y39, .ref y40, .ref y41, .ref y42, .ref y43, .ref y44, .ref y45, .ref y46, .int y47, .ref y48, .ref y49, .int y50, .int y51, .int y52, .int y53, .long y54, .int y55, .ref y56, .ref y57, .ref y58, .ref y59]))] H := hP
  have hD : va_D A [(y, .inr (11, [.ref y0, .int 1, .int 1, .int y3, .ref y4, .ref y5, .ref y6, .ref y7, .ref y8, .ref y9, .int y10, .int y11, .int y12, .int y13, .int y14, .long y15, .int y16, .int y17, .ref y18, .ref y19, .ref y20, .ref y21, .ref y22, .ref y23, .ref y24, .ref y25, .ref y26, .ref y27, .ref y28, .ref y29, .ref y30, .ref y31, .ref y32, .ref y33, .ref y34, .ref y35, .ref y36, .ref y37, .ref y38, .ref y39, .ref y40, .ref y41, .ref y42, .ref y43, .ref y44, .ref y45, .ref y46, .int y47, .ref y48, .ref y49, .int y50, .int y51, .int y52, .int y53, .long y54, .int y55, .ref y56, .ref y57, .ref y58, .ref y59]))] := hD
  rw [hpu2]
  refine lv_if_eq (tgt := 35) hx hb dM_ask_30 rfl (fun hj3 => absurd hj3 (by decide)) (fun _ => ?_)
  refine lv_iconst (v := 0) hx hb dM_ask_33 (by decide) ?_
  have hP9 := hP.sub (ws' := [(y, .inr (11, [.ref y0, .int 1, .int 1, .int y3, .ref y4, .ref y5, .ref y6, .ref y7, .ref y8, .ref y9, .int y10, .int y11, .int y12, .int y13, .int y14, .long y15, .int y16, .int y17, .ref y18, .ref y19, .ref y20, .ref y21, .ref y22, .ref y23, .ref y24, .ref y25, .ref y26, .ref y27, .ref y28, .ref y29, .ref y30, .ref y31, .ref y32, .ref y33, .ref y34, .ref y35, .ref y36, .ref y37, .ref y38, .ref y39, .ref y40, .ref y41, .ref y42, .ref y43, .ref y44, .ref y45, .ref y46, .int y47, .ref y48, .ref y49, .int y50, .int y51, .int y52, .int y53, .long y54, .int y55, .ref y56, .ref y57, .ref y58, .ref y59]))]) [0] rfl
  have hD9 := hD.sub (ws' := [(y, .inr (11, [.ref y0, .int 1, .int 1, .int y3, .ref y4, .ref y5, .ref y6, .ref y7, .ref y8, .ref y9, .int y10, .int y11, .int y12, .int y13, .int y14, .long y15, .int y16, .int y17, .ref y18, .ref y19, .ref y20, .ref y21, .ref y22, .ref y23, .ref y24, .ref y25, .ref y26, .ref y27, .ref y28, .ref y29, .ref y30, .ref y31, .ref y32, .ref y33, .ref y34, .ref y35, .ref y36, .ref y37, .ref y38, .ref y39, .ref y40, .ref y41, .ref y42, .ref y43, .ref y44, .ref y45, .ref y46, .int y47, .ref y48, .ref y49, .int y50, .int y51, .int y52, .int y53, .long y54, .int y55, .ref y56, .ref y57, .ref y58, .ref y59]))]) [0] (by decide) rfl
  refine W.widen (k := 0) (n := 0) (Nat.le_of_ble_eq_true rfl) (Nat.le_of_ble_eq_true rfl) ?_
  exact W.iret (v := 0) hx hb hr (fun t ht hW => ⟨⟨0, (fun _ => 0), rfl, rfl, by rw [ht]; exact hP9, hD9⟩, hS.F ht⟩) hS.2.2 dM_ask_34
set_option maxHeartbeats 4000000 in
set_option maxRecDepth 100000 in
theorem y_ask_no0 (l : Launch) (D : va_G) (cT : Nat → ClassId) (y : Nat) (y0 : Nat) (y1 : Int32) (y3 : Int32) (y4 : Nat) (y5 : Nat) (y6 : Nat) (y7 : Nat) (y8 : Nat) (y9 : Nat) (y10 : Int32) (y11 : Int32) (y12 : Int32) (y13 : Int32) (y14 : Int32) (y15 : Int64) (y16 : Int32) (y17 : Int32) (y18 : Nat) (y19 : Nat) (y20 : Nat) (y21 : Nat) (y22 : Nat) (y23 : Nat) (y24 : Nat) (y25 : Nat) (y26 : Nat) (y27 : Nat) (y28 : Nat) (y29 : Nat) (y30 : Nat) (y31 : Nat) (y32 : Nat) (y33 : Nat) (y34 : Nat) (y35 : Nat) (y36 : Nat) (y37 : Nat) (y38 : Nat) (y39 : Nat) (y40 : Nat) (y41 : Nat) (y42 : Nat) (y43 : Nat) (y44 : Nat) (y45 : Nat) (y46 : Nat) (y47 : Int32) (y48 : Nat) (y49 : Nat) (y50 : Int32) (y51 : Int32) (y52 : Int32) (y53 : Int32) (y54 : Int64) (y55 : Int32) (y56 : Nat) (y57 : Nat) (y58 : Nat) (y59 : Nat) (a2 : Int32) (h1 : ¬ (a2 = (-2147483648))) (hq : ¬ ((-1000000) ≤ a2 ∧ a2 ≤ 1000000)) (sz : Nat) : Met l yM_ask WM_ask ({ frames := 2, cells := 0, slots := 0, locals := 43 } : Room) (RW D vwCl [.ref y, .int 0, .int a2] [(y, .inr (11, [.ref y0, .int y1, .int 1, .int y3, .ref y4, .ref y5, .ref y6, .ref y7, .ref y8, .ref y9, .int y10, .int y11, .int y12, .int y13, .int y14, .long y15, .int y16, .int y17, .ref y18, .ref y19, .ref y20, .ref y21, .ref y22, .ref y23, .ref y24, .ref y25, .ref y26, .ref y27, .ref y28, .ref y29, .ref y30, .ref y31, .ref y32, .ref y33, .ref y34, .ref y35, .ref y36, .ref y37, .ref y38, .ref y39, .ref y40, .ref y41, .ref y42, .ref y43, .ref y44, .ref y45, .ref y46, .int y47, .ref y48, .ref y49, .int y50, .int y51, .int y52, .int y53, .long y54, .int y55, .ref y56, .ref y57, .ref y58, .ref y59]))] (TY cT) sz) (va_Qi (fun (r : Int32) (_ : Nat → Nat) => r = 0) (BW D vwCl (va_A [(y, .inr (11, [.ref y0, .int y1, .int 1, .int y3, .ref y4, .ref y5, .ref y6, .ref y7, .ref y8, .ref y9, .int y10, .int y11, .int y12, .int y13, .int y14, .long y15, .int y16, .int y17, .ref y18, .ref y19, .ref y20, .ref y21, .ref y22, .ref y23, .ref y24, .ref y25, .ref y26, .ref y27, .ref y28, .ref y29, .ref y30, .ref y31, .ref y32, .ref y33, .ref y34, .ref y35, .ref y36, .ref y37, .ref y38, .ref y39, .ref y40, .ref y41, .ref y42, .ref y43, .ref y44, .ref y45, .ref y46, .int y47, .ref y48, .ref y49, .int y50, .int y51, .int y52, .int y53, .long y54, .int y55, .ref y56, .ref y57, .ref y58, .ref y59]))] sz) (fun u => [(y, .inr (11, [.ref y0, .int 1, .int 1, .int y3, .ref y4, .ref y5, .ref y6, .ref y7, .ref y8, .ref y9, .int y10, .int y11, .int y12, .int y13, .int y14, .long y15, .int y16, .int y17, .ref y18, .ref y19, .ref y20, .ref y21, .ref y22, .ref y23, .ref y24, .ref y25, .ref y26, .ref y27, .ref y28, .ref y29, .ref y30, .ref y31, .ref y32, .ref y33, .ref y34, .ref y35, .ref y36, .ref y37, .ref y38, .ref y39, .ref y40, .ref y41, .ref y42, .ref y43, .ref y44, .ref y45, .ref y46, .int y47, .ref y48, .ref y49, .int y50, .int y51, .int y52, .int y53, .long y54, .int y55, .ref y56, .ref y57, .ref y58, .ref y59]))])) (va_A [(y, .inr (11, [.ref y0, .int y1, .int 1, .int y3, .ref y4, .ref y5, .ref y6, .ref y7, .ref y8, .ref y9, .int y10, .int y11, .int y12, .int y13, .int y14, .long y15, .int y16, .int y17, .ref y18, .ref y19, .ref y20, .ref y21, .ref y22, .ref y23, .ref y24, .ref y25, .ref y26, .ref y27, .ref y28, .ref y29, .ref y30, .ref y31, .ref y32, .ref y33, .ref y34, .ref y35, .ref y36, .ref y37, .ref y38, .ref y39, .ref y40, .ref y41, .ref y42, .ref y43, .ref y44, .ref y45, .ref y46, .int y47, .ref y48, .ref y49, .int y50, .int y51, .int y52, .int y53, .long y54, .int y55, .ref y56, .ref y57, .ref y58, .ref y59]))] sz)) 0 0 (va_A [(y, .inr (11, [.ref y0, .int y1, .int 1, .int y3, .ref y4, .ref y5, .ref y6, .ref y7, .ref y8, .ref y9, .int y10, .int y11, .int y12, .int y13, .int y14, .long y15, .int y16, .int y17, .ref y18, .ref y19, .ref y20, .ref y21, .ref y22, .ref y23, .ref y24, .ref y25, .ref y26, .ref y27, .ref y28, .ref y29, .ref y30, .ref y31, .ref y32, .ref y33, .ref y34, .ref y35, .ref y36, .ref y37, .ref y38, .ref y39, .ref y40, .ref y41, .ref y42, .ref y43, .ref y44, .ref y45, .ref y46, .int y47, .ref y48, .ref y49, .int y50, .int y51, .int y52, .int y53, .long y54, .int y55, .ref y56, .ref y57, .ref y58, .ref y59]))] sz) := by
  refine Met.ofW (cc := cM_ask) (maxL := 4) (ret := (some .int)) (by decide) rfl ?_
  intro p e s m args below meth c s₁ B hml hv
  obtain ⟨rfl, hsz, hZ, hP, hK, hD0⟩ := hv
  have hx := B.exec
  have hb := B.bytes
  have hr := B.returns
  have hts := atoms_spec (ws := WM_ask) B.pre
  have hT : ∀ w ∈ TB, w.before _ s = true := fun w h => hts w (List.mem_cons_of_mem _ h)
  have hown : s.vm.findClass R_M = some m.cls := findClass_of_methodNamed B.named
  have hlocks := B.notSynchronized
  subst hsz
  have hD := hD0.self (sz := s.heap.size)
  generalize hAe : va_A [(y, .inr (11, [.ref y0, .int y1, .int 1, .int y3, .ref y4, .ref y5, .ref y6, .ref y7, .ref y8, .ref y9, .int y10, .int y11, .int y12, .int y13, .int y14, .long y15, .int y16, .int y17, .ref y18, .ref y19, .ref y20, .ref y21, .ref y22, .ref y23, .ref y24, .ref y25, .ref y26, .ref y27, .ref y28, .ref y29, .ref y30, .ref y31, .ref y32, .ref y33, .ref y34, .ref y35, .ref y36, .ref y37, .ref y38, .ref y39, .ref y40, .ref y41, .ref y42, .ref y43, .ref y44, .ref y45, .ref y46, .int y47, .ref y48, .ref y49, .int y50, .int y51, .int y52, .int y53, .long y54, .int y55, .ref y56, .ref y57, .ref y58, .ref y59]))] s.heap.size = A at hD hZ ⊢
  have hA : ∀ q : Nat, s.heap.size ≤ q → A q := fun q h => by rw [← hAe]; exact Or.inr h
  have hS : va_S A s.heap s.heap [] := va_S.rf
  have hl := lv_entry ([.ref y, .int 0, .int a2]) (n := 4) (Nat.le_of_ble_eq_true rfl)
  rw [lg_entry_eq]
  generalize (lg_sl ([.ref y, .int 0, .int a2]) ++ List.replicate (4 - (lg_sl ([.ref y, .int 0, .int a2])).length) Slot.unset).toArray = ls at hl ⊢
  have hl : lv_has ls 4 [(0, .ref y), (1, .int 0), (2, .int a2)] := hl
  refine lv_aload_n hx hb dM_ask_0 rfl (lv_at hl 0 rfl) ?_
  refine lv_aload_n hx hb dM_ask_1 rfl (lv_at hl 0 rfl) ?_
  refine lv_iload_n hx hb dM_ask_2 rfl (lv_at hl 1 rfl) ?_
  refine ro_i (va_Run.run (va_runV (As := [.int 0]) (rest := [.ref y]) ⟨hx, hb, hml, hown, hT⟩ (y_noColumn0 l D cT y y0 y1 y3 y4 y5 y6 y7 y8 y9 y10 y11 y12 y13 y14 y15 y16 y17 y18 y19 y20 y21 y22 y23 y24 y25 y26 y27 y28 y29 y30 y31 y32 y33 y34 y35 y36 y37 y38 y39 y40 y41 y42 y43 y44 y45 y46 y47 y48 y49 y50 y51 y52 y53 y54 y55 y56 y57 y58 y59 0 (by decide)) ⟨callB_of 1 hT (tb_gd w1317) rfl rfl rfl (hT _ w13) (hT _ w1314) hM_noColumn ⟨Nat.le_of_ble_eq_true rfl, Nat.le_of_ble_eq_true rfl⟩, (hT _ w1316), (hT _ wp31)⟩ (RO.preV (ci := 11) (q0 := 0) hZ hS (hP.sub (ws' := [(y, .inr (11, [.ref y0, .int y1, .int 1, .int y3, .ref y4, .ref y5, .ref y6, .ref y7, .ref y8, .ref y9, .int y10, .int y11, .int y12, .int y13, .int y14, .long y15, .int y16, .int y17, .ref y18, .ref y19, .ref y20, .ref y21, .ref y22, .ref y23, .ref y24, .ref y25, .ref y26, .ref y27, .ref y28, .ref y29, .ref y30, .ref y31, .ref y32, .ref y33, .ref y34, .ref y35, .ref y36, .ref y37, .ref y38, .ref y39, .ref y40, .ref y41, .ref y42, .ref y43, .ref y44, .ref y45, .ref y46, .int y47, .ref y48, .ref y49, .int y50, .int y51, .int y52, .int y53, .long y54, .int y55, .ref y56, .ref y57, .ref y58, .ref y59]))]) [0] rfl) hK rfl rfl) rfl rfl hl.1 rfl (lv_room (Nat.le_of_ble_eq_true rfl)) dM_ask_3 ⟨Nat.le_of_ble_eq_true rfl, Nat.le_of_ble_eq_true rfl⟩)) ?_
  refine lv_if_ne (tgt := 22) hx hb dM_ask_6 rfl (fun hj1 => absurd (by decide) hj1) (fun _ => ?_)
  refine lv_iload_n hx hb dM_ask_9 rfl (lv_at hl 2 rfl) ?_
  refine lv_ldc (v := (-2147483648)) hx hb hown (hT _ w1103) dM_ask_10 ?_
  refine lv_icmp_eq (tgt := 26) hx hb dM_ask_12 rfl (fun hj2 => absurd hj2 h1) (fun _ => ?_)
  refine lv_iload_n hx hb dM_ask_15 rfl (lv_at hl 2 rfl) ?_
  refine ro_i (va_Run.run (va_runS (As := [.int a2]) (rest := [.ref y]) ⟨hx, hb, hml, hown, hT⟩ (y_isNumber l D cT a2) ⟨callB_of 1 hT (tb_gd w1324) rfl rfl rfl (hT _ w13) (hT _ w1322) hM_isNumber ⟨Nat.le_of_ble_eq_true rfl, Nat.le_of_ble_eq_true rfl⟩, (hT _ w1323)⟩ (RO.preS hZ hS ((show va_P D vwCl [] _ from fun _ _ h => nomatch h)) hK) rfl rfl hl.1 rfl (lv_room (Nat.le_of_ble_eq_true rfl)) dM_ask_16 ⟨Nat.le_of_ble_eq_true rfl, Nat.le_of_ble_eq_true rfl⟩)) ?_
  refine lv_if_ne (tgt := 26) hx hb dM_ask_19 rfl (fun hj3 => absurd (bi_f hq) hj3) (fun _ => ?_)
  refine lv_iconst (v := 1) hx hb dM_ask_22 (by decide) ?_
  refine lv_goto (tgt := 27) hx hb dM_ask_23 rfl ?_
  refine rw_i (wc := [(y, .inr (11, [.ref y0, .int y1, .int 1, .int y3, .ref y4, .ref y5, .ref y6, .ref y7, .ref y8, .ref y9, .int y10, .int y11, .int y12, .int y13, .int y14, .long y15, .int y16, .int y17, .ref y18, .ref y19, .ref y20, .ref y21, .ref y22, .ref y23, .ref y24, .ref y25, .ref y26, .ref y27, .ref y28, .ref y29, .ref y30, .ref y31, .ref y32, .ref y33, .ref y34, .ref y35, .ref y36, .ref y37, .ref y38, .ref y39, .ref y40, .ref y41, .ref y42, .ref y43, .ref y44, .ref y45, .ref y46, .int y47, .ref y48, .ref y49, .int y50, .int y51, .int y52, .int y53, .long y54, .int y55, .ref y56, .ref y57, .ref y58, .ref y59]))]) (wr := []) hP hD hS hA [0] [] rfl rfl (by decide) (by decide) (va_runV (As := [.int 1]) (rest := []) ⟨hx, hb, hml, hown, hT⟩ (y_refused1 l D cT y y0 y1 1 y3 y4 y5 y6 y7 y8 y9 y10 y11 y12 y13 y14 y15 y16 y17 y18 y19 y20 y21 y22 y23 y24 y25 y26 y27 y28 y29 y30 y31 y32 y33 y34 y35 y36 y37 y38 y39 y40 y41 y42 y43 y44 y45 y46 y47 y48 y49 y50 y51 y52 y53 y54 y55 y56 y57 y58 y59 _) ⟨callB_of 1 hT (tb_gd w1301) rfl rfl rfl (hT _ w13) (hT _ w1298) hM_refused ⟨Nat.le_of_ble_eq_true rfl, Nat.le_of_ble_eq_true rfl⟩, (hT _ w1300), (hT _ wp29)⟩ (RW.preV (ci := 11) (q0 := 0) hZ hS (va_free (wc := [(y, .inr (11, [.ref y0, .int y1, .int 1, .int y3, .ref y4, .ref y5, .ref y6, .ref y7, .ref y8, .ref y9, .int y10, .int y11, .int y12, .int y13, .int y14, .long y15, .int y16, .int y17, .ref y18, .ref y19, .ref y20, .ref y21, .ref y22, .ref y23, .ref y24, .ref y25, .ref y26, .ref y27, .ref y28, .ref y29, .ref y30, .ref y31, .ref y32, .ref y33, .ref y34, .ref y35, .ref y36, .ref y37, .ref y38, .ref y39, .ref y40, .ref y41, .ref y42, .ref y43, .ref y44, .ref y45, .ref y46, .int y47, .ref y48, .ref y49, .int y50, .int y51, .int y52, .int y53, .long y54, .int y55, .ref y56, .ref y57, .ref y58, .ref y59]))]) hD hS hA [0] rfl) (hP.sub (ws' := [(y, .inr (11, [.ref y0, .int y1, .int 1, .int y3, .ref y4, .ref y5, .ref y6, .ref y7, .ref y8, .ref y9, .int y10, .int y11, .int y12, .int y13, .int y14, .long y15, .int y16, .int y17, .ref y18, .ref y19, .ref y20, .ref y21, .ref y22, .ref y23, .ref y24, .ref y25, .ref y26, .ref y27, .ref y28, .ref y29, .ref y30, .ref y31, .ref y32, .ref y33, .ref y34, .ref y35, .ref y36, .ref y37, .ref y38, .ref y39, .ref y40, .ref y41, .ref y42, .ref y43, .ref y44, .ref y45, .ref y46, .int y47, .ref y48, .ref y49, .int y50, .int y51, .int y52, .int y53, .long y54, .int y55, .ref y56, .ref y57, .ref y58, .ref y59]))]) [0] rfl) hK (hD.sub (ws' := [(y, .inr (11, [.ref y0, .int y1, .int 1, .int y3, .ref y4, .ref y5, .ref y6, .ref y7, .ref y8, .ref y9, .int y10, .int y11, .int y12, .int y13, .int y14, .long y15, .int y16, .int y17, .ref y18, .ref y19, .ref y20, .ref y21, .ref y22, .ref y23, .ref y24, .ref y25, .ref y26, .ref y27, .ref y28, .ref y29, .ref y30, .ref y31, .ref y32, .ref y33, .ref y34, .ref y35, .ref y36, .ref y37, .ref y38, .ref y39, .ref y40, .ref y41, .ref y42, .ref y43, .ref y44, .ref y45, .ref y46, .int y47, .ref y48, .ref y49, .int y50, .int y51, .int y52, .int y53, .long y54, .int y55, .ref y56, .ref y57, .ref y58, .ref y59]))]) [0] (by decide) rfl) rfl rfl) rfl rfl hl.1 rfl (lv_room (Nat.le_of_ble_eq_true rfl)) dM_ask_27 ⟨Nat.le_of_ble_eq_true rfl, Nat.le_of_ble_eq_true rfl⟩) (fun ru4 u4 H locs hpu4 hP hD hS => ?_)
  have hP : va_P D vwCl [(y, .inr (11, [.ref y0, .int 1, .int 1, .int y3, .ref y4, .ref y5, .ref y6, .ref y7, .ref y8, .ref y9, .int y10, .int y11, .int y12, .int y13, .int y14, .long y15, .int y16, .int y17, .ref y18, .ref y19, .ref y20, .ref y21, .ref y22, .ref y23, .ref y24, .ref y25, .ref y26, .ref y27, .ref y28, .ref y29, .ref y30, .ref y31, .ref y32, .ref y33, .ref y34, .ref y35, .ref y36, .ref y37, .ref y38, .ref y39, .ref y40, .ref y41, .ref y42, .ref y43, .ref y44, .ref y45, .ref y46, .int y47, .ref y48, .ref y49, .int y50, .int y51, .int y52, .int y53, .long y54, .int y55, .ref y56, .ref y57, .ref y58, .ref y59]))] H := hP
  have hD : va_D A [(y, .inr (11, [.ref y0, .int 1, .int 1, .int y3, .ref y4, .ref y5, .ref y6, .ref y7, .ref y8, .ref y9, .int y10, .int y11, .int y12, .int y13, .int y14, .long y15, .int y16, .int y17, .ref y18, .ref y19, .ref y20, .ref y21, .ref y22, .ref y23, .ref y24, .ref y25, .ref y26, .ref y27, .ref y28, .ref y29, .ref y30, .ref y31, .ref y32, .ref y33, .ref y34, .ref y35, .ref y36, .ref y37, .ref y38, .ref y39, .ref y40, .ref y41, .ref y42, .ref y43, .ref y44, .ref y45, .ref y46, .int y47, .ref y48, .ref y49, .int y50, .int y51, .int y52, .int y53, .long y54, .int y55, .ref y56, .ref y57, .ref y58, .ref y59]))] := hD
  rw [hpu4]
  refine lv_if_eq (tgt := 35) hx hb dM_ask_30 rfl (fun hj5 => absurd hj5 (by decide)) (fun _ => ?_)
  refine lv_iconst (v := 0) hx hb dM_ask_33 (by decide) ?_
  have hP9 := hP.sub (ws' := [(y, .inr (11, [.ref y0, .int 1, .int 1, .int y3, .ref y4, .ref y5, .ref y6, .ref y7, .ref y8, .ref y9, .int y10, .int y11, .int y12, .int y13, .int y14, .long y15, .int y16, .int y17, .ref y18, .ref y19, .ref y20, .ref y21, .ref y22, .ref y23, .ref y24, .ref y25, .ref y26, .ref y27, .ref y28, .ref y29, .ref y30, .ref y31, .ref y32, .ref y33, .ref y34, .ref y35, .ref y36, .ref y37, .ref y38, .ref y39, .ref y40, .ref y41, .ref y42, .ref y43, .ref y44, .ref y45, .ref y46, .int y47, .ref y48, .ref y49, .int y50, .int y51, .int y52, .int y53, .long y54, .int y55, .ref y56, .ref y57, .ref y58, .ref y59]))]) [0] rfl
  have hD9 := hD.sub (ws' := [(y, .inr (11, [.ref y0, .int 1, .int 1, .int y3, .ref y4, .ref y5, .ref y6, .ref y7, .ref y8, .ref y9, .int y10, .int y11, .int y12, .int y13, .int y14, .long y15, .int y16, .int y17, .ref y18, .ref y19, .ref y20, .ref y21, .ref y22, .ref y23, .ref y24, .ref y25, .ref y26, .ref y27, .ref y28, .ref y29, .ref y30, .ref y31, .ref y32, .ref y33, .ref y34, .ref y35, .ref y36, .ref y37, .ref y38, .ref y39, .ref y40, .ref y41, .ref y42, .ref y43, .ref y44, .ref y45, .ref y46, .int y47, .ref y48, .ref y49, .int y50, .int y51, .int y52, .int y53, .long y54, .int y55, .ref y56, .ref y57, .ref y58, .ref y59]))]) [0] (by decide) rfl
  refine W.widen (k := 0) (n := 0) (Nat.le_of_ble_eq_true rfl) (Nat.le_of_ble_eq_true rfl) ?_
  exact W.iret (v := 0) hx hb hr (fun t ht hW => ⟨⟨0, (fun _ => 0), rfl, rfl, by rw [ht]; exact hP9, hD9⟩, hS.F ht⟩) hS.2.2 dM_ask_34
set_option maxHeartbeats 4000000 in
set_option maxRecDepth 100000 in
theorem y_ask_ok1 (l : Launch) (D : va_G) (cT : Nat → ClassId) (y : Nat) (y0 : Nat) (y1 : Int32) (y3 : Int32) (y4 : Nat) (y5 : Nat) (y6 : Nat) (y7 : Nat) (y8 : Nat) (y9 : Nat) (y10 : Int32) (y11 : Int32) (y12 : Int32) (y13 : Int32) (y14 : Int32) (y15 : Int64) (y16 : Int32) (y17 : Int32) (y18 : Nat) (y19 : Nat) (y20 : Nat) (y21 : Nat) (y22 : Nat) (y23 : Nat) (y24 : Nat) (y25 : Nat) (y26 : Nat) (y27 : Nat) (y28 : Nat) (y29 : Nat) (y30 : Nat) (y31 : Nat) (y32 : Nat) (y33 : Nat) (y34 : Nat) (y35 : Nat) (y36 : Nat) (y37 : Nat) (y38 : Nat) (y39 : Nat) (y40 : Nat) (y41 : Nat) (y42 : Nat) (y43 : Nat) (y44 : Nat) (y45 : Nat) (y46 : Nat) (y47 : Int32) (y48 : Nat) (y49 : Nat) (y50 : Int32) (y51 : Int32) (y52 : Int32) (y53 : Int32) (y54 : Int64) (y55 : Int32) (y56 : Nat) (y57 : Nat) (y58 : Nat) (y59 : Nat) (qf : Nat → Int32) (a2 : Int32) (hq : (-1000000) ≤ a2 ∧ a2 ≤ 1000000) (h1 : ¬ a2 = (-2147483648)) (sz : Nat) : Met l yM_ask WM_ask ({ frames := 2, cells := 0, slots := 0, locals := 43 } : Room) (RW D vwCl [.ref y, .int 0, .int a2] [(y, .inr (11, [.ref y0, .int y1, .int 1, .int y3, .ref y4, .ref y5, .ref y6, .ref y7, .ref y8, .ref y9, .int y10, .int y11, .int y12, .int y13, .int y14, .long y15, .int y16, .int y17, .ref y18, .ref y19, .ref y20, .ref y21, .ref y22, .ref y23, .ref y24, .ref y25, .ref y26, .ref y27, .ref y28, .ref y29, .ref y30, .ref y31, .ref y32, .ref y33, .ref y34, .ref y35, .ref y36, .ref y37, .ref y38, .ref y39, .ref y40, .ref y41, .ref y42, .ref y43, .ref y44, .ref y45, .ref y46, .int y47, .ref y48, .ref y49, .int y50, .int y51, .int y52, .int y53, .long y54, .int y55, .ref y56, .ref y57, .ref y58, .ref y59])), (y9, .inl (cT 0, 6, .inl qf))] (TY cT) sz) (va_Qi (fun (r : Int32) (_ : Nat → Nat) => r = qf 0) (BW D vwCl (va_A [(y, .inr (11, [.ref y0, .int y1, .int 1, .int y3, .ref y4, .ref y5, .ref y6, .ref y7, .ref y8, .ref y9, .int y10, .int y11, .int y12, .int y13, .int y14, .long y15, .int y16, .int y17, .ref y18, .ref y19, .ref y20, .ref y21, .ref y22, .ref y23, .ref y24, .ref y25, .ref y26, .ref y27, .ref y28, .ref y29, .ref y30, .ref y31, .ref y32, .ref y33, .ref y34, .ref y35, .ref y36, .ref y37, .ref y38, .ref y39, .ref y40, .ref y41, .ref y42, .ref y43, .ref y44, .ref y45, .ref y46, .int y47, .ref y48, .ref y49, .int y50, .int y51, .int y52, .int y53, .long y54, .int y55, .ref y56, .ref y57, .ref y58, .ref y59])), (y9, .inl (cT 0, 6, .inl qf))] sz) (fun u => [(y9, .inl (cT 0, 6, .inl (upd qf 0 a2))), (y, .inr (11, [.ref y0, .int 0, .int 1, .int y3, .ref y4, .ref y5, .ref y6, .ref y7, .ref y8, .ref y9, .int y10, .int y11, .int y12, .int y13, .int y14, .long y15, .int y16, .int y17, .ref y18, .ref y19, .ref y20, .ref y21, .ref y22, .ref y23, .ref y24, .ref y25, .ref y26, .ref y27, .ref y28, .ref y29, .ref y30, .ref y31, .ref y32, .ref y33, .ref y34, .ref y35, .ref y36, .ref y37, .ref y38, .ref y39, .ref y40, .ref y41, .ref y42, .ref y43, .ref y44, .ref y45, .ref y46, .int y47, .ref y48, .ref y49, .int y50, .int y51, .int y52, .int y53, .long y54, .int y55, .ref y56, .ref y57, .ref y58, .ref y59]))])) (va_A [(y, .inr (11, [.ref y0, .int y1, .int 1, .int y3, .ref y4, .ref y5, .ref y6, .ref y7, .ref y8, .ref y9, .int y10, .int y11, .int y12, .int y13, .int y14, .long y15, .int y16, .int y17, .ref y18, .ref y19, .ref y20, .ref y21, .ref y22, .ref y23, .ref y24, .ref y25, .ref y26, .ref y27, .ref y28, .ref y29, .ref y30, .ref y31, .ref y32, .ref y33, .ref y34, .ref y35, .ref y36, .ref y37, .ref y38, .ref y39, .ref y40, .ref y41, .ref y42, .ref y43, .ref y44, .ref y45, .ref y46, .int y47, .ref y48, .ref y49, .int y50, .int y51, .int y52, .int y53, .long y54, .int y55, .ref y56, .ref y57, .ref y58, .ref y59])), (y9, .inl (cT 0, 6, .inl qf))] sz)) 0 0 (va_A [(y, .inr (11, [.ref y0, .int y1, .int 1, .int y3, .ref y4, .ref y5, .ref y6, .ref y7, .ref y8, .ref y9, .int y10, .int y11, .int y12, .int y13, .int y14, .long y15, .int y16, .int y17, .ref y18, .ref y19, .ref y20, .ref y21, .ref y22, .ref y23, .ref y24, .ref y25, .ref y26, .ref y27, .ref y28, .ref y29, .ref y30, .ref y31, .ref y32, .ref y33, .ref y34, .ref y35, .ref y36, .ref y37, .ref y38, .ref y39, .ref y40, .ref y41, .ref y42, .ref y43, .ref y44, .ref y45, .ref y46, .int y47, .ref y48, .ref y49, .int y50, .int y51, .int y52, .int y53, .long y54, .int y55, .ref y56, .ref y57, .ref y58, .ref y59])), (y9, .inl (cT 0, 6, .inl qf))] sz) := by
  refine Met.ofW (cc := cM_ask) (maxL := 4) (ret := (some .int)) (by decide) rfl ?_
  intro p e s m args below meth c s₁ B hml hv
  obtain ⟨rfl, hsz, hZ, hP, hK, hD0⟩ := hv
  have hx := B.exec
  have hb := B.bytes
  have hr := B.returns
  have hts := atoms_spec (ws := WM_ask) B.pre
  have hT : ∀ w ∈ TB, w.before _ s = true := fun w h => hts w (List.mem_cons_of_mem _ h)
  have hown : s.vm.findClass R_M = some m.cls := findClass_of_methodNamed B.named
  have hlocks := B.notSynchronized
  subst hsz
  have hD := hD0.self (sz := s.heap.size)
  generalize hAe : va_A [(y, .inr (11, [.ref y0, .int y1, .int 1, .int y3, .ref y4, .ref y5, .ref y6, .ref y7, .ref y8, .ref y9, .int y10, .int y11, .int y12, .int y13, .int y14, .long y15, .int y16, .int y17, .ref y18, .ref y19, .ref y20, .ref y21, .ref y22, .ref y23, .ref y24, .ref y25, .ref y26, .ref y27, .ref y28, .ref y29, .ref y30, .ref y31, .ref y32, .ref y33, .ref y34, .ref y35, .ref y36, .ref y37, .ref y38, .ref y39, .ref y40, .ref y41, .ref y42, .ref y43, .ref y44, .ref y45, .ref y46, .int y47, .ref y48, .ref y49, .int y50, .int y51, .int y52, .int y53, .long y54, .int y55, .ref y56, .ref y57, .ref y58, .ref y59])), (y9, .inl (cT 0, 6, .inl qf))] s.heap.size = A at hD hZ ⊢
  have hA : ∀ q : Nat, s.heap.size ≤ q → A q := fun q h => by rw [← hAe]; exact Or.inr h
  have hS : va_S A s.heap s.heap [] := va_S.rf
  have hl := lv_entry ([.ref y, .int 0, .int a2]) (n := 4) (Nat.le_of_ble_eq_true rfl)
  rw [lg_entry_eq]
  generalize (lg_sl ([.ref y, .int 0, .int a2]) ++ List.replicate (4 - (lg_sl ([.ref y, .int 0, .int a2])).length) Slot.unset).toArray = ls at hl ⊢
  have hl : lv_has ls 4 [(0, .ref y), (1, .int 0), (2, .int a2)] := hl
  refine lv_aload_n hx hb dM_ask_0 rfl (lv_at hl 0 rfl) ?_
  refine lv_aload_n hx hb dM_ask_1 rfl (lv_at hl 0 rfl) ?_
  refine lv_iload_n hx hb dM_ask_2 rfl (lv_at hl 1 rfl) ?_
  refine ro_i (va_Run.run (va_runV (As := [.int 0]) (rest := [.ref y]) ⟨hx, hb, hml, hown, hT⟩ (y_noColumn0 l D cT y y0 y1 y3 y4 y5 y6 y7 y8 y9 y10 y11 y12 y13 y14 y15 y16 y17 y18 y19 y20 y21 y22 y23 y24 y25 y26 y27 y28 y29 y30 y31 y32 y33 y34 y35 y36 y37 y38 y39 y40 y41 y42 y43 y44 y45 y46 y47 y48 y49 y50 y51 y52 y53 y54 y55 y56 y57 y58 y59 0 (by decide)) ⟨callB_of 1 hT (tb_gd w1317) rfl rfl rfl (hT _ w13) (hT _ w1314) hM_noColumn ⟨Nat.le_of_ble_eq_true rfl, Nat.le_of_ble_eq_true rfl⟩, (hT _ w1316), (hT _ wp31)⟩ (RO.preV (ci := 11) (q0 := 0) hZ hS (hP.sub (ws' := [(y, .inr (11, [.ref y0, .int y1, .int 1, .int y3, .ref y4, .ref y5, .ref y6, .ref y7, .ref y8, .ref y9, .int y10, .int y11, .int y12, .int y13, .int y14, .long y15, .int y16, .int y17, .ref y18, .ref y19, .ref y20, .ref y21, .ref y22, .ref y23, .ref y24, .ref y25, .ref y26, .ref y27, .ref y28, .ref y29, .ref y30, .ref y31, .ref y32, .ref y33, .ref y34, .ref y35, .ref y36, .ref y37, .ref y38, .ref y39, .ref y40, .ref y41, .ref y42, .ref y43, .ref y44, .ref y45, .ref y46, .int y47, .ref y48, .ref y49, .int y50, .int y51, .int y52, .int y53, .long y54, .int y55, .ref y56, .ref y57, .ref y58, .ref y59]))]) [0] rfl) hK rfl rfl) rfl rfl hl.1 rfl (lv_room (Nat.le_of_ble_eq_true rfl)) dM_ask_3 ⟨Nat.le_of_ble_eq_true rfl, Nat.le_of_ble_eq_true rfl⟩)) ?_
  refine lv_if_ne (tgt := 22) hx hb dM_ask_6 rfl (fun hj1 => absurd (by decide) hj1) (fun _ => ?_)
  refine lv_iload_n hx hb dM_ask_9 rfl (lv_at hl 2 rfl) ?_
  refine lv_ldc (v := (-2147483648)) hx hb hown (hT _ w1103) dM_ask_10 ?_
  refine lv_icmp_eq (tgt := 26) hx hb dM_ask_12 rfl (fun hj2 => absurd hj2 h1) (fun _ => ?_)
  refine lv_iload_n hx hb dM_ask_15 rfl (lv_at hl 2 rfl) ?_
  refine ro_i (va_Run.run (va_runS (As := [.int a2]) (rest := [.ref y]) ⟨hx, hb, hml, hown, hT⟩ (y_isNumber l D cT a2) ⟨callB_of 1 hT (tb_gd w1324) rfl rfl rfl (hT _ w13) (hT _ w1322) hM_isNumber ⟨Nat.le_of_ble_eq_true rfl, Nat.le_of_ble_eq_true rfl⟩, (hT _ w1323)⟩ (RO.preS hZ hS ((show va_P D vwCl [] _ from fun _ _ h => nomatch h)) hK) rfl rfl hl.1 rfl (lv_room (Nat.le_of_ble_eq_true rfl)) dM_ask_16 ⟨Nat.le_of_ble_eq_true rfl, Nat.le_of_ble_eq_true rfl⟩)) ?_
  refine lv_if_ne (tgt := 26) hx hb dM_ask_19 rfl (fun _ => ?_) (fun hj3 => absurd hj3 (by rw [bi_t hq]; decide))
  refine lv_iconst (v := 0) hx hb dM_ask_26 (by decide) ?_
  refine rw_i (wc := [(y, .inr (11, [.ref y0, .int y1, .int 1, .int y3, .ref y4, .ref y5, .ref y6, .ref y7, .ref y8, .ref y9, .int y10, .int y11, .int y12, .int y13, .int y14, .long y15, .int y16, .int y17, .ref y18, .ref y19, .ref y20, .ref y21, .ref y22, .ref y23, .ref y24, .ref y25, .ref y26, .ref y27, .ref y28, .ref y29, .ref y30, .ref y31, .ref y32, .ref y33, .ref y34, .ref y35, .ref y36, .ref y37, .ref y38, .ref y39, .ref y40, .ref y41, .ref y42, .ref y43, .ref y44, .ref y45, .ref y46, .int y47, .ref y48, .ref y49, .int y50, .int y51, .int y52, .int y53, .long y54, .int y55, .ref y56, .ref y57, .ref y58, .ref y59]))]) (wr := [(y9, .inl (cT 0, 6, .inl qf))]) hP hD hS hA [0] [1] rfl rfl (by decide) (by decide) (va_runV (As := [.int 0]) (rest := []) ⟨hx, hb, hml, hown, hT⟩ (y_refused0 l D cT y y0 y1 1 y3 y4 y5 y6 y7 y8 y9 y10 y11 y12 y13 y14 y15 y16 y17 y18 y19 y20 y21 y22 y23 y24 y25 y26 y27 y28 y29 y30 y31 y32 y33 y34 y35 y36 y37 y38 y39 y40 y41 y42 y43 y44 y45 y46 y47 y48 y49 y50 y51 y52 y53 y54 y55 y56 y57 y58 y59 _) ⟨callB_of 1 hT (tb_gd w1301) rfl rfl rfl (hT _ w13) (hT _ w1298) hM_refused ⟨Nat.le_of_ble_eq_true rfl, Nat.le_of_ble_eq_true rfl⟩, (hT _ w1300), (hT _ wp29)⟩ (RW.preV (ci := 11) (q0 := 0) hZ hS (va_free (wc := [(y, .inr (11, [.ref y0, .int y1, .int 1, .int y3, .ref y4, .ref y5, .ref y6, .ref y7, .ref y8, .ref y9, .int y10, .int y11, .int y12, .int y13, .int y14, .long y15, .int y16, .int y17, .ref y18, .ref y19, .ref y20, .ref y21, .ref y22, .ref y23, .ref y24, .ref y25, .ref y26, .ref y27, .ref y28, .ref y29, .ref y30, .ref y31, .ref y32, .ref y33, .ref y34, .ref y35, .ref y36, .ref y37, .ref y38, .ref y39, .ref y40, .ref y41, .ref y42, .ref y43, .ref y44, .ref y45, .ref y46, .int y47, .ref y48, .ref y49, .int y50, .int y51, .int y52, .int y53, .long y54, .int y55, .ref y56, .ref y57, .ref y58, .ref y59]))]) hD hS hA [0] rfl) (hP.sub (ws' := [(y, .inr (11, [.ref y0, .int y1, .int 1, .int y3, .ref y4, .ref y5, .ref y6, .ref y7, .ref y8, .ref y9, .int y10, .int y11, .int y12, .int y13, .int y14, .long y15, .int y16, .int y17, .ref y18, .ref y19, .ref y20, .ref y21, .ref y22, .ref y23, .ref y24, .ref y25, .ref y26, .ref y27, .ref y28, .ref y29, .ref y30, .ref y31, .ref y32, .ref y33, .ref y34, .ref y35, .ref y36, .ref y37, .ref y38, .ref y39, .ref y40, .ref y41, .ref y42, .ref y43, .ref y44, .ref y45, .ref y46, .int y47, .ref y48, .ref y49, .int y50, .int y51, .int y52, .int y53, .long y54, .int y55, .ref y56, .ref y57, .ref y58, .ref y59]))]) [0] rfl) hK (hD.sub (ws' := [(y, .inr (11, [.ref y0, .int y1, .int 1, .int y3, .ref y4, .ref y5, .ref y6, .ref y7, .ref y8, .ref y9, .int y10, .int y11, .int y12, .int y13, .int y14, .long y15, .int y16, .int y17, .ref y18, .ref y19, .ref y20, .ref y21, .ref y22, .ref y23, .ref y24, .ref y25, .ref y26, .ref y27, .ref y28, .ref y29, .ref y30, .ref y31, .ref y32, .ref y33, .ref y34, .ref y35, .ref y36, .ref y37, .ref y38, .ref y39, .ref y40, .ref y41, .ref y42, .ref y43, .ref y44, .ref y45, .ref y46, .int y47, .ref y48, .ref y49, .int y50, .int y51, .int y52, .int y53, .long y54, .int y55, .ref y56, .ref y57, .ref y58, .ref y59]))]) [0] (by decide) rfl) rfl rfl) rfl rfl hl.1 rfl (lv_room (Nat.le_of_ble_eq_true rfl)) dM_ask_27 ⟨Nat.le_of_ble_eq_true rfl, Nat.le_of_ble_eq_true rfl⟩) (fun ru4 u4 H locs hpu4 hP hD hS => ?_)
  have hP : va_P D vwCl [(y9, .inl (cT 0, 6, .inl qf)), (y, .inr (11, [.ref y0, .int 0, .int 1, .int y3, .ref y4, .ref y5, .ref y6, .ref y7, .ref y8, .ref y9, .int y10, .int y11, .int y12, .int y13, .int y14, .long y15, .int y16, .int y17, .ref y18, .ref y19, .ref y20, .ref y21, .ref y22, .ref y23, .ref y24, .ref y25, .ref y26, .ref y27, .ref y28, .ref y29, .ref y30, .ref y31, .ref y32, .ref y33, .ref y34, .ref y35, .ref y36, .ref y37, .ref y38, .ref y39, .ref y40, .ref y41, .ref y42, .ref y43, .ref y44, .ref y45, .ref y46, .int y47, .ref y48, .ref y49, .int y50, .int y51, .int y52, .int y53, .long y54, .int y55, .ref y56, .ref y57, .ref y58, .ref y59]))] H := hP
  have hD : va_D A [(y9, .inl (cT 0, 6, .inl qf)), (y, .inr (11, [.ref y0, .int 0, .int 1, .int y3, .ref y4, .ref y5, .ref y6, .ref y7, .ref y8, .ref y9, .int y10, .int y11, .int y12, .int y13, .int y14, .long y15, .int y16, .int y17, .ref y18, .ref y19, .ref y20, .ref y21, .ref y22, .ref y23, .ref y24, .ref y25, .ref y26, .ref y27, .ref y28, .ref y29, .ref y30, .ref y31, .ref y32, .ref y33, .ref y34, .ref y35, .ref y36, .ref y37, .ref y38, .ref y39, .ref y40, .ref y41, .ref y42, .ref y43, .ref y44, .ref y45, .ref y46, .int y47, .ref y48, .ref y49, .int y50, .int y51, .int y52, .int y53, .long y54, .int y55, .ref y56, .ref y57, .ref y58, .ref y59]))] := hD
  rw [hpu4]
  refine lv_if_eq (tgt := 35) hx hb dM_ask_30 rfl (fun _ => ?_) (fun hj5 => absurd (by decide) hj5)
  refine lv_aload_n hx hb dM_ask_35 rfl (lv_at hl 0 rfl) ?_
  refine va_get (D := D) (ci := 11) (v := .ref y9) (C := R_M) (T := T_M) (N := 60) hx hb hT in_M hown hK hP 1 rfl rfl 9 (by decide) (hT _ w1113) (fun _ h9 => h9) rfl dM_ask_36 ?_
  refine lv_iload_n hx hb dM_ask_39 rfl (lv_at hl 1 rfl) ?_
  refine va_iald hx hb hK hP 0 0 rfl rfl (by unfold vp_in; decide) dM_ask_40 ?_
  refine lv_istore_n hx hb dM_ask_41 rfl hl (by decide) rfl (fun ls hl => ?_)
  have hl : lv_has ls 4 [(3, .int (qf 0)), (0, .ref y), (1, .int 0), (2, .int a2)] := hl
  refine lv_aload_n hx hb dM_ask_42 rfl (lv_at hl 1 rfl) ?_
  refine va_get (D := D) (ci := 11) (v := .ref y9) (C := R_M) (T := T_M) (N := 60) hx hb hT in_M hown hK hP 1 rfl rfl 9 (by decide) (hT _ w1113) (fun _ h9 => h9) rfl dM_ask_43 ?_
  refine lv_iload_n hx hb dM_ask_46 rfl (lv_at hl 2 rfl) ?_
  refine lv_iload_n hx hb dM_ask_47 rfl (lv_at hl 3 rfl) ?_
  refine va_iast hx hb hK hP hD hS 0 0 rfl rfl (by unfold vp_in; decide) dM_ask_48 (fun H locs hP hD hS => ?_)
  have hP : va_P D vwCl [(y9, .inl (cT 0, 6, .inl (upd qf 0 a2))), (y, .inr (11, [.ref y0, .int 0, .int 1, .int y3, .ref y4, .ref y5, .ref y6, .ref y7, .ref y8, .ref y9, .int y10, .int y11, .int y12, .int y13, .int y14, .long y15, .int y16, .int y17, .ref y18, .ref y19, .ref y20, .ref y21, .ref y22, .ref y23, .ref y24, .ref y25, .ref y26, .ref y27, .ref y28, .ref y29, .ref y30, .ref y31, .ref y32, .ref y33, .ref y34, .ref y35, .ref y36, .ref y37, .ref y38, .ref y39, .ref y40, .ref y41, .ref y42, .ref y43, .ref y44, .ref y45, .ref y46, .int y47, .ref y48, .ref y49, .int y50, .int y51, .int y52, .int y53, .long y54, .int y55, .ref y56, .ref y57, .ref y58, .ref y59]))] H := hP
  have hD : va_D A [(y9, .inl (cT 0, 6, .inl (upd qf 0 a2))), (y, .inr (11, [.ref y0, .int 0, .int 1, .int y3, .ref y4, .ref y5, .ref y6, .ref y7, .ref y8, .ref y9, .int y10, .int y11, .int y12, .int y13, .int y14, .long y15, .int y16, .int y17, .ref y18, .ref y19, .ref y20, .ref y21, .ref y22, .ref y23, .ref y24, .ref y25, .ref y26, .ref y27, .ref y28, .ref y29, .ref y30, .ref y31, .ref y32, .ref y33, .ref y34, .ref y35, .ref y36, .ref y37, .ref y38, .ref y39, .ref y40, .ref y41, .ref y42, .ref y43, .ref y44, .ref y45, .ref y46, .int y47, .ref y48, .ref y49, .int y50, .int y51, .int y52, .int y53, .long y54, .int y55, .ref y56, .ref y57, .ref y58, .ref y59]))] := hD
  refine lv_iload_n hx hb dM_ask_49 rfl (lv_at hl 0 rfl) ?_
  have hP9 := hP.sub (ws' := [(y9, .inl (cT 0, 6, .inl (upd qf 0 a2))), (y, .inr (11, [.ref y0, .int 0, .int 1, .int y3, .ref y4, .ref y5, .ref y6, .ref y7, .ref y8, .ref y9, .int y10, .int y11, .int y12, .int y13, .int y14, .long y15, .int y16, .int y17, .ref y18, .ref y19, .ref y20, .ref y21, .ref y22, .ref y23, .ref y24, .ref y25, .ref y26, .ref y27, .ref y28, .ref y29, .ref y30, .ref y31, .ref y32, .ref y33, .ref y34, .ref y35, .ref y36, .ref y37, .ref y38, .ref y39, .ref y40, .ref y41, .ref y42, .ref y43, .ref y44, .ref y45, .ref y46, .int y47, .ref y48, .ref y49, .int y50, .int y51, .int y52, .int y53, .long y54, .int y55, .ref y56, .ref y57, .ref y58, .ref y59]))]) [0, 1] rfl
  have hD9 := hD.sub (ws' := [(y9, .inl (cT 0, 6, .inl (upd qf 0 a2))), (y, .inr (11, [.ref y0, .int 0, .int 1, .int y3, .ref y4, .ref y5, .ref y6, .ref y7, .ref y8, .ref y9, .int y10, .int y11, .int y12, .int y13, .int y14, .long y15, .int y16, .int y17, .ref y18, .ref y19, .ref y20, .ref y21, .ref y22, .ref y23, .ref y24, .ref y25, .ref y26, .ref y27, .ref y28, .ref y29, .ref y30, .ref y31, .ref y32, .ref y33, .ref y34, .ref y35, .ref y36, .ref y37, .ref y38, .ref y39, .ref y40, .ref y41, .ref y42, .ref y43, .ref y44, .ref y45, .ref y46, .int y47, .ref y48, .ref y49, .int y50, .int y51, .int y52, .int y53, .long y54, .int y55, .ref y56, .ref y57, .ref y58, .ref y59]))]) [0, 1] (by decide) rfl
  refine W.widen (k := 0) (n := 0) (Nat.le_of_ble_eq_true rfl) (Nat.le_of_ble_eq_true rfl) ?_
  exact W.iret (v := qf 0) hx hb hr (fun t ht hW => ⟨⟨qf 0, (fun _ => 0), rfl, rfl, by rw [ht]; exact hP9, hD9⟩, hS.F ht⟩) hS.2.2 dM_ask_50
set_option maxHeartbeats 4000000 in
set_option maxRecDepth 100000 in
theorem y_ask_ok0 (l : Launch) (D : va_G) (cT : Nat → ClassId) (y : Nat) (y0 : Nat) (y1 : Int32) (y3 : Int32) (y4 : Nat) (y5 : Nat) (y6 : Nat) (y7 : Nat) (y8 : Nat) (y9 : Nat) (y10 : Int32) (y11 : Int32) (y12 : Int32) (y13 : Int32) (y14 : Int32) (y15 : Int64) (y16 : Int32) (y17 : Int32) (y18 : Nat) (y19 : Nat) (y20 : Nat) (y21 : Nat) (y22 : Nat) (y23 : Nat) (y24 : Nat) (y25 : Nat) (y26 : Nat) (y27 : Nat) (y28 : Nat) (y29 : Nat) (y30 : Nat) (y31 : Nat) (y32 : Nat) (y33 : Nat) (y34 : Nat) (y35 : Nat) (y36 : Nat) (y37 : Nat) (y38 : Nat) (y39 : Nat) (y40 : Nat) (y41 : Nat) (y42 : Nat) (y43 : Nat) (y44 : Nat) (y45 : Nat) (y46 : Nat) (y47 : Int32) (y48 : Nat) (y49 : Nat) (y50 : Int32) (y51 : Int32) (y52 : Int32) (y53 : Int32) (y54 : Int64) (y55 : Int32) (y56 : Nat) (y57 : Nat) (y58 : Nat) (y59 : Nat) (qf : Nat → Int32) (sz : Nat) : Met l yM_ask WM_ask ({ frames := 2, cells := 0, slots := 0, locals := 43 } : Room) (RW D vwCl [.ref y, .int 0, .int (-2147483648)] [(y, .inr (11, [.ref y0, .int y1, .int 1, .int y3, .ref y4, .ref y5, .ref y6, .ref y7, .ref y8, .ref y9, .int y10, .int y11, .int y12, .int y13, .int y14, .long y15, .int y16, .int y17, .ref y18, .ref y19, .ref y20, .ref y21, .ref y22, .ref y23, .ref y24, .ref y25, .ref y26, .ref y27, .ref y28, .ref y29, .ref y30, .ref y31, .ref y32, .ref y33, .ref y34, .ref y35, .ref y36, .ref y37, .ref y38, .ref y39, .ref y40, .ref y41, .ref y42, .ref y43, .ref y44, .ref y45, .ref y46, .int y47, .ref y48, .ref y49, .int y50, .int y51, .int y52, .int y53, .long y54, .int y55, .ref y56, .ref y57, .ref y58, .ref y59])), (y9, .inl (cT 0, 6, .inl qf))] (TY cT) sz) (va_Qi (fun (r : Int32) (_ : Nat → Nat) => r = qf 0) (BW D vwCl (va_A [(y, .inr (11, [.ref y0, .int y1, .int 1, .int y3, .ref y4, .ref y5, .ref y6, .ref y7, .ref y8, .ref y9, .int y10, .int y11, .int y12, .int y13, .int y14, .long y15, .int y16, .int y17, .ref y18, .ref y19, .ref y20, .ref y21, .ref y22, .ref y23, .ref y24, .ref y25, .ref y26, .ref y27, .ref y28, .ref y29, .ref y30, .ref y31, .ref y32, .ref y33, .ref y34, .ref y35, .ref y36, .ref y37, .ref y38, .ref y39, .ref y40, .ref y41, .ref y42, .ref y43, .ref y44, .ref y45, .ref y46, .int y47, .ref y48, .ref y49, .int y50, .int y51, .int y52, .int y53, .long y54, .int y55, .ref y56, .ref y57, .ref y58, .ref y59])), (y9, .inl (cT 0, 6, .inl qf))] sz) (fun u => [(y9, .inl (cT 0, 6, .inl (upd qf 0 (-2147483648)))), (y, .inr (11, [.ref y0, .int 0, .int 1, .int y3, .ref y4, .ref y5, .ref y6, .ref y7, .ref y8, .ref y9, .int y10, .int y11, .int y12, .int y13, .int y14, .long y15, .int y16, .int y17, .ref y18, .ref y19, .ref y20, .ref y21, .ref y22, .ref y23, .ref y24, .ref y25, .ref y26, .ref y27, .ref y28, .ref y29, .ref y30, .ref y31, .ref y32, .ref y33, .ref y34, .ref y35, .ref y36, .ref y37, .ref y38, .ref y39, .ref y40, .ref y41, .ref y42, .ref y43, .ref y44, .ref y45, .ref y46, .int y47, .ref y48, .ref y49, .int y50, .int y51, .int y52, .int y53, .long y54, .int y55, .ref y56, .ref y57, .ref y58, .ref y59]))])) (va_A [(y, .inr (11, [.ref y0, .int y1, .int 1, .int y3, .ref y4, .ref y5, .ref y6, .ref y7, .ref y8, .ref y9, .int y10, .int y11, .int y12, .int y13, .int y14, .long y15, .int y16, .int y17, .ref y18, .ref y19, .ref y20, .ref y21, .ref y22, .ref y23, .ref y24, .ref y25, .ref y26, .ref y27, .ref y28, .ref y29, .ref y30, .ref y31, .ref y32, .ref y33, .ref y34, .ref y35, .ref y36, .ref y37, .ref y38, .ref y39, .ref y40, .ref y41, .ref y42, .ref y43, .ref y44, .ref y45, .ref y46, .int y47, .ref y48, .ref y49, .int y50, .int y51, .int y52, .int y53, .long y54, .int y55, .ref y56, .ref y57, .ref y58, .ref y59])), (y9, .inl (cT 0, 6, .inl qf))] sz)) 0 0 (va_A [(y, .inr (11, [.ref y0, .int y1, .int 1, .int y3, .ref y4, .ref y5, .ref y6, .ref y7, .ref y8, .ref y9, .int y10, .int y11, .int y12, .int y13, .int y14, .long y15, .int y16, .int y17, .ref y18, .ref y19, .ref y20, .ref y21, .ref y22, .ref y23, .ref y24, .ref y25, .ref y26, .ref y27, .ref y28, .ref y29, .ref y30, .ref y31, .ref y32, .ref y33, .ref y34, .ref y35, .ref y36, .ref y37, .ref y38, .ref y39, .ref y40, .ref y41, .ref y42, .ref y43, .ref y44, .ref y45, .ref y46, .int y47, .ref y48, .ref y49, .int y50, .int y51, .int y52, .int y53, .long y54, .int y55, .ref y56, .ref y57, .ref y58, .ref y59])), (y9, .inl (cT 0, 6, .inl qf))] sz) := by
  refine Met.ofW (cc := cM_ask) (maxL := 4) (ret := (some .int)) (by decide) rfl ?_
  intro p e s m args below meth c s₁ B hml hv
  obtain ⟨rfl, hsz, hZ, hP, hK, hD0⟩ := hv
  have hx := B.exec
  have hb := B.bytes
  have hr := B.returns
  have hts := atoms_spec (ws := WM_ask) B.pre
  have hT : ∀ w ∈ TB, w.before _ s = true := fun w h => hts w (List.mem_cons_of_mem _ h)
  have hown : s.vm.findClass R_M = some m.cls := findClass_of_methodNamed B.named
  have hlocks := B.notSynchronized
  subst hsz
  have hD := hD0.self (sz := s.heap.size)
  generalize hAe : va_A [(y, .inr (11, [.ref y0, .int y1, .int 1, .int y3, .ref y4, .ref y5, .ref y6, .ref y7, .ref y8, .ref y9, .int y10, .int y11, .int y12, .int y13, .int y14, .long y15, .int y16, .int y17, .ref y18, .ref y19, .ref y20, .ref y21, .ref y22, .ref y23, .ref y24, .ref y25, .ref y26, .ref y27, .ref y28, .ref y29, .ref y30, .ref y31, .ref y32, .ref y33, .ref y34, .ref y35, .ref y36, .ref y37, .ref y38, .ref y39, .ref y40, .ref y41, .ref y42, .ref y43, .ref y44, .ref y45, .ref y46, .int y47, .ref y48, .ref y49, .int y50, .int y51, .int y52, .int y53, .long y54, .int y55, .ref y56, .ref y57, .ref y58, .ref y59])), (y9, .inl (cT 0, 6, .inl qf))] s.heap.size = A at hD hZ ⊢
  have hA : ∀ q : Nat, s.heap.size ≤ q → A q := fun q h => by rw [← hAe]; exact Or.inr h
  have hS : va_S A s.heap s.heap [] := va_S.rf
  have hl := lv_entry ([.ref y, .int 0, .int (-2147483648)]) (n := 4) (Nat.le_of_ble_eq_true rfl)
  rw [lg_entry_eq]
  generalize (lg_sl ([.ref y, .int 0, .int (-2147483648)]) ++ List.replicate (4 - (lg_sl ([.ref y, .int 0, .int (-2147483648)])).length) Slot.unset).toArray = ls at hl ⊢
  have hl : lv_has ls 4 [(0, .ref y), (1, .int 0), (2, .int (-2147483648))] := hl
  refine lv_aload_n hx hb dM_ask_0 rfl (lv_at hl 0 rfl) ?_
  refine lv_aload_n hx hb dM_ask_1 rfl (lv_at hl 0 rfl) ?_
  refine lv_iload_n hx hb dM_ask_2 rfl (lv_at hl 1 rfl) ?_
  refine ro_i (va_Run.run (va_runV (As := [.int 0]) (rest := [.ref y]) ⟨hx, hb, hml, hown, hT⟩ (y_noColumn0 l D cT y y0 y1 y3 y4 y5 y6 y7 y8 y9 y10 y11 y12 y13 y14 y15 y16 y17 y18 y19 y20 y21 y22 y23 y24 y25 y26 y27 y28 y29 y30 y31 y32 y33 y34 y35 y36 y37 y38 y39 y40 y41 y42 y43 y44 y45 y46 y47 y48 y49 y50 y51 y52 y53 y54 y55 y56 y57 y58 y59 0 (by decide)) ⟨callB_of 1 hT (tb_gd w1317) rfl rfl rfl (hT _ w13) (hT _ w1314) hM_noColumn ⟨Nat.le_of_ble_eq_true rfl, Nat.le_of_ble_eq_true rfl⟩, (hT _ w1316), (hT _ wp31)⟩ (RO.preV (ci := 11) (q0 := 0) hZ hS (hP.sub (ws' := [(y, .inr (11, [.ref y0, .int y1, .int 1, .int y3, .ref y4, .ref y5, .ref y6, .ref y7, .ref y8, .ref y9, .int y10, .int y11, .int y12, .int y13, .int y14, .long y15, .int y16, .int y17, .ref y18, .ref y19, .ref y20, .ref y21, .ref y22, .ref y23, .ref y24, .ref y25, .ref y26, .ref y27, .ref y28, .ref y29, .ref y30, .ref y31, .ref y32, .ref y33, .ref y34, .ref y35, .ref y36, .ref y37, .ref y38, .ref y39, .ref y40, .ref y41, .ref y42, .ref y43, .ref y44, .ref y45, .ref y46, .int y47, .ref y48, .ref y49, .int y50, .int y51, .int y52, .int y53, .long y54, .int y55, .ref y56, .ref y57, .ref y58, .ref y59]))]) [0] rfl) hK rfl rfl) rfl rfl hl.1 rfl (lv_room (Nat.le_of_ble_eq_true rfl)) dM_ask_3 ⟨Nat.le_of_ble_eq_true rfl, Nat.le_of_ble_eq_true rfl⟩)) ?_
  refine lv_if_ne (tgt := 22) hx hb dM_ask_6 rfl (fun hj1 => absurd (by decide) hj1) (fun _ => ?_)
  refine lv_iload_n hx hb dM_ask_9 rfl (lv_at hl 2 rfl) ?_
  refine lv_ldc (v := (-2147483648)) hx hb hown (hT _ w1103) dM_ask_10 ?_
  refine lv_icmp_eq (tgt := 26) hx hb dM_ask_12 rfl (fun _ => ?_) (fun hj2 => absurd (by decide) hj2)
  refine lv_iconst (v := 0) hx hb dM_ask_26 (by decide) ?_
  refine rw_i (wc := [(y, .inr (11, [.ref y0, .int y1, .int 1, .int y3, .ref y4, .ref y5, .ref y6, .ref y7, .ref y8, .ref y9, .int y10, .int y11, .int y12, .int y13, .int y14, .long y15, .int y16, .int y17, .ref y18, .ref y19, .ref y20, .ref y21, .ref y22, .ref y23, .ref y24, .ref y25, .ref y26, .ref y27, .ref y28, .ref y29, .ref y30, .ref y31, .ref y32, .ref y33, .ref y34, .ref y35, .ref y36, .ref y37, .ref y38, .ref y39, .ref y40, .ref y41, .ref y42, .ref y43, .ref y44, .ref y45, .ref y46, .int y47, .ref y48, .ref y49, .int y50, .int y51, .int y52, .int y53, .long y54, .int y55, .ref y56, .ref y57, .ref y58, .ref y59]))]) (wr := [(y9, .inl (cT 0, 6, .inl qf))]) hP hD hS hA [0] [1] rfl rfl (by decide) (by decide) (va_runV (As := [.int 0]) (rest := []) ⟨hx, hb, hml, hown, hT⟩ (y_refused0 l D cT y y0 y1 1 y3 y4 y5 y6 y7 y8 y9 y10 y11 y12 y13 y14 y15 y16 y17 y18 y19 y20 y21 y22 y23 y24 y25 y26 y27 y28 y29 y30 y31 y32 y33 y34 y35 y36 y37 y38 y39 y40 y41 y42 y43 y44 y45 y46 y47 y48 y49 y50 y51 y52 y53 y54 y55 y56 y57 y58 y59 _) ⟨callB_of 1 hT (tb_gd w1301) rfl rfl rfl (hT _ w13) (hT _ w1298) hM_refused ⟨Nat.le_of_ble_eq_true rfl, Nat.le_of_ble_eq_true rfl⟩, (hT _ w1300), (hT _ wp29)⟩ (RW.preV (ci := 11) (q0 := 0) hZ hS (va_free (wc := [(y, .inr (11, [.ref y0, .int y1, .int 1, .int y3, .ref y4, .ref y5, .ref y6, .ref y7, .ref y8, .ref y9, .int y10, .int y11, .int y12, .int y13, .int y14, .long y15, .int y16, .int y17, .ref y18, .ref y19, .ref y20, .ref y21, .ref y22, .ref y23, .ref y24, .ref y25, .ref y26, .ref y27, .ref y28, .ref y29, .ref y30, .ref y31, .ref y32, .ref y33, .ref y34, .ref y35, .ref y36, .ref y37, .ref y38, .ref y39, .ref y40, .ref y41, .ref y42, .ref y43, .ref y44, .ref y45, .ref y46, .int y47, .ref y48, .ref y49, .int y50, .int y51, .int y52, .int y53, .long y54, .int y55, .ref y56, .ref y57, .ref y58, .ref y59]))]) hD hS hA [0] rfl) (hP.sub (ws' := [(y, .inr (11, [.ref y0, .int y1, .int 1, .int y3, .ref y4, .ref y5, .ref y6, .ref y7, .ref y8, .ref y9, .int y10, .int y11, .int y12, .int y13, .int y14, .long y15, .int y16, .int y17, .ref y18, .ref y19, .ref y20, .ref y21, .ref y22, .ref y23, .ref y24, .ref y25, .ref y26, .ref y27, .ref y28, .ref y29, .ref y30, .ref y31, .ref y32, .ref y33, .ref y34, .ref y35, .ref y36, .ref y37, .ref y38, .ref y39, .ref y40, .ref y41, .ref y42, .ref y43, .ref y44, .ref y45, .ref y46, .int y47, .ref y48, .ref y49, .int y50, .int y51, .int y52, .int y53, .long y54, .int y55, .ref y56, .ref y57, .ref y58, .ref y59]))]) [0] rfl) hK (hD.sub (ws' := [(y, .inr (11, [.ref y0, .int y1, .int 1, .int y3, .ref y4, .ref y5, .ref y6, .ref y7, .ref y8, .ref y9, .int y10, .int y11, .int y12, .int y13, .int y14, .long y15, .int y16, .int y17, .ref y18, .ref y19, .ref y20, .ref y21, .ref y22, .ref y23, .ref y24, .ref y25, .ref y26, .ref y27, .ref y28, .ref y29, .ref y30, .ref y31, .ref y32, .ref y33, .ref y34, .ref y35, .ref y36, .ref y37, .ref y38, .ref y39, .ref y40, .ref y41, .ref y42, .ref y43, .ref y44, .ref y45, .ref y46, .int y47, .ref y48, .ref y49, .int y50, .int y51, .int y52, .int y53, .long y54, .int y55, .ref y56, .ref y57, .ref y58, .ref y59]))]) [0] (by decide) rfl) rfl rfl) rfl rfl hl.1 rfl (lv_room (Nat.le_of_ble_eq_true rfl)) dM_ask_27 ⟨Nat.le_of_ble_eq_true rfl, Nat.le_of_ble_eq_true rfl⟩) (fun ru3 u3 H locs hpu3 hP hD hS => ?_)
  have hP : va_P D vwCl [(y9, .inl (cT 0, 6, .inl qf)), (y, .inr (11, [.ref y0, .int 0, .int 1, .int y3, .ref y4, .ref y5, .ref y6, .ref y7, .ref y8, .ref y9, .int y10, .int y11, .int y12, .int y13, .int y14, .long y15, .int y16, .int y17, .ref y18, .ref y19, .ref y20, .ref y21, .ref y22, .ref y23, .ref y24, .ref y25, .ref y26, .ref y27, .ref y28, .ref y29, .ref y30, .ref y31, .ref y32, .ref y33, .ref y34, .ref y35, .ref y36, .ref y37, .ref y38, .ref y39, .ref y40, .ref y41, .ref y42, .ref y43, .ref y44, .ref y45, .ref y46, .int y47, .ref y48, .ref y49, .int y50, .int y51, .int y52, .int y53, .long y54, .int y55, .ref y56, .ref y57, .ref y58, .ref y59]))] H := hP
  have hD : va_D A [(y9, .inl (cT 0, 6, .inl qf)), (y, .inr (11, [.ref y0, .int 0, .int 1, .int y3, .ref y4, .ref y5, .ref y6, .ref y7, .ref y8, .ref y9, .int y10, .int y11, .int y12, .int y13, .int y14, .long y15, .int y16, .int y17, .ref y18, .ref y19, .ref y20, .ref y21, .ref y22, .ref y23, .ref y24, .ref y25, .ref y26, .ref y27, .ref y28, .ref y29, .ref y30, .ref y31, .ref y32, .ref y33, .ref y34, .ref y35, .ref y36, .ref y37, .ref y38, .ref y39, .ref y40, .ref y41, .ref y42, .ref y43, .ref y44, .ref y45, .ref y46, .int y47, .ref y48, .ref y49, .int y50, .int y51, .int y52, .int y53, .long y54, .int y55, .ref y56, .ref y57, .ref y58, .ref y59]))] := hD
  rw [hpu3]
  refine lv_if_eq (tgt := 35) hx hb dM_ask_30 rfl (fun _ => ?_) (fun hj4 => absurd (by decide) hj4)
  refine lv_aload_n hx hb dM_ask_35 rfl (lv_at hl 0 rfl) ?_
  refine va_get (D := D) (ci := 11) (v := .ref y9) (C := R_M) (T := T_M) (N := 60) hx hb hT in_M hown hK hP 1 rfl rfl 9 (by decide) (hT _ w1113) (fun _ h9 => h9) rfl dM_ask_36 ?_
  refine lv_iload_n hx hb dM_ask_39 rfl (lv_at hl 1 rfl) ?_
  refine va_iald hx hb hK hP 0 0 rfl rfl (by unfold vp_in; decide) dM_ask_40 ?_
  refine lv_istore_n hx hb dM_ask_41 rfl hl (by decide) rfl (fun ls hl => ?_)
  have hl : lv_has ls 4 [(3, .int (qf 0)), (0, .ref y), (1, .int 0), (2, .int (-2147483648))] := hl
  refine lv_aload_n hx hb dM_ask_42 rfl (lv_at hl 1 rfl) ?_
  refine va_get (D := D) (ci := 11) (v := .ref y9) (C := R_M) (T := T_M) (N := 60) hx hb hT in_M hown hK hP 1 rfl rfl 9 (by decide) (hT _ w1113) (fun _ h9 => h9) rfl dM_ask_43 ?_
  refine lv_iload_n hx hb dM_ask_46 rfl (lv_at hl 2 rfl) ?_
  refine lv_iload_n hx hb dM_ask_47 rfl (lv_at hl 3 rfl) ?_
  refine va_iast hx hb hK hP hD hS 0 0 rfl rfl (by unfold vp_in; decide) dM_ask_48 (fun H locs hP hD hS => ?_)
  have hP : va_P D vwCl [(y9, .inl (cT 0, 6, .inl (upd qf 0 (-2147483648)))), (y, .inr (11, [.ref y0, .int 0, .int 1, .int y3, .ref y4, .ref y5, .ref y6, .ref y7, .ref y8, .ref y9, .int y10, .int y11, .int y12, .int y13, .int y14, .long y15, .int y16, .int y17, .ref y18, .ref y19, .ref y20, .ref y21, .ref y22, .ref y23, .ref y24, .ref y25, .ref y26, .ref y27, .ref y28, .ref y29, .ref y30, .ref y31, .ref y32, .ref y33, .ref y34, .ref y35, .ref y36, .ref y37, .ref y38, .ref y39, .ref y40, .ref y41, .ref y42, .ref y43, .ref y44, .ref y45, .ref y46, .int y47, .ref y48, .ref y49, .int y50, .int y51, .int y52, .int y53, .long y54, .int y55, .ref y56, .ref y57, .ref y58, .ref y59]))] H := hP
  have hD : va_D A [(y9, .inl (cT 0, 6, .inl (upd qf 0 (-2147483648)))), (y, .inr (11, [.ref y0, .int 0, .int 1, .int y3, .ref y4, .ref y5, .ref y6, .ref y7, .ref y8, .ref y9, .int y10, .int y11, .int y12, .int y13, .int y14, .long y15, .int y16, .int y17, .ref y18, .ref y19, .ref y20, .ref y21, .ref y22, .ref y23, .ref y24, .ref y25, .ref y26, .ref y27, .ref y28, .ref y29, .ref y30, .ref y31, .ref y32, .ref y33, .ref y34, .ref y35, .ref y36, .ref y37, .ref y38, .ref y39, .ref y40, .ref y41, .ref y42, .ref y43, .ref y44, .ref y45, .ref y46, .int y47, .ref y48, .ref y49, .int y50, .int y51, .int y52, .int y53, .long y54, .int y55, .ref y56, .ref y57, .ref y58, .ref y59]))] := hD
  refine lv_iload_n hx hb dM_ask_49 rfl (lv_at hl 0 rfl) ?_
  have hP9 := hP.sub (ws' := [(y9, .inl (cT 0, 6, .inl (upd qf 0 (-2147483648)))), (y, .inr (11, [.ref y0, .int 0, .int 1, .int y3, .ref y4, .ref y5, .ref y6, .ref y7, .ref y8, .ref y9, .int y10, .int y11, .int y12, .int y13, .int y14, .long y15, .int y16, .int y17, .ref y18, .ref y19, .ref y20, .ref y21, .ref y22, .ref y23, .ref y24, .ref y25, .ref y26, .ref y27, .ref y28, .ref y29, .ref y30, .ref y31, .ref y32, .ref y33, .ref y34, .ref y35, .ref y36, .ref y37, .ref y38, .ref y39, .ref y40, .ref y41, .ref y42, .ref y43, .ref y44, .ref y45, .ref y46, .int y47, .ref y48, .ref y49, .int y50, .int y51, .int y52, .int y53, .long y54, .int y55, .ref y56, .ref y57, .ref y58, .ref y59]))]) [0, 1] rfl
  have hD9 := hD.sub (ws' := [(y9, .inl (cT 0, 6, .inl (upd qf 0 (-2147483648)))), (y, .inr (11, [.ref y0, .int 0, .int 1, .int y3, .ref y4, .ref y5, .ref y6, .ref y7, .ref y8, .ref y9, .int y10, .int y11, .int y12, .int y13, .int y14, .long y15, .int y16, .int y17, .ref y18, .ref y19, .ref y20, .ref y21, .ref y22, .ref y23, .ref y24, .ref y25, .ref y26, .ref y27, .ref y28, .ref y29, .ref y30, .ref y31, .ref y32, .ref y33, .ref y34, .ref y35, .ref y36, .ref y37, .ref y38, .ref y39, .ref y40, .ref y41, .ref y42, .ref y43, .ref y44, .ref y45, .ref y46, .int y47, .ref y48, .ref y49, .int y50, .int y51, .int y52, .int y53, .long y54, .int y55, .ref y56, .ref y57, .ref y58, .ref y59]))]) [0, 1] (by decide) rfl
  refine W.widen (k := 0) (n := 0) (Nat.le_of_ble_eq_true rfl) (Nat.le_of_ble_eq_true rfl) ?_
  exact W.iret (v := qf 0) hx hb hr (fun t ht hW => ⟨⟨qf 0, (fun _ => 0), rfl, rfl, by rw [ht]; exact hP9, hD9⟩, hS.F ht⟩) hS.2.2 dM_ask_50
set_option maxHeartbeats 4000000 in
set_option maxRecDepth 100000 in
theorem y_count_no (l : Launch) (D : va_G) (cT : Nat → ClassId) (y : Nat) (y0 : Nat) (y1 : Int32) (y2 : Int32) (y3 : Int32) (y4 : Nat) (y5 : Nat) (y6 : Nat) (y7 : Nat) (y8 : Nat) (y9 : Nat) (y10 : Int32) (y11 : Int32) (y12 : Int32) (y13 : Int32) (y14 : Int32) (y15 : Int64) (y16 : Int32) (y17 : Int32) (y18 : Nat) (y19 : Nat) (y20 : Nat) (y21 : Nat) (y22 : Nat) (y23 : Nat) (y24 : Nat) (y25 : Nat) (y26 : Nat) (y27 : Nat) (y28 : Nat) (y29 : Nat) (y30 : Nat) (y31 : Nat) (y32 : Nat) (y33 : Nat) (y34 : Nat) (y35 : Nat) (y36 : Nat) (y37 : Nat) (y38 : Nat) (y39 : Nat) (y40 : Nat) (y41 : Nat) (y42 : Nat) (y43 : Nat) (y44 : Nat) (y45 : Nat) (y46 : Nat) (y47 : Int32) (y48 : Nat) (y49 : Nat) (y50 : Int32) (y51 : Int32) (y52 : Int32) (y53 : Int32) (y54 : Int64) (y55 : Int32) (y56 : Nat) (y57 : Nat) (y58 : Nat) (y59 : Nat) (a1 : Int32) (hq : ¬ (0 ≤ a1 ∧ a1 ≤ 4)) (sz : Nat) : Met l yM_countb WM_countb ({ frames := 1, cells := 0, slots := 0, locals := 22 } : Room) (RW D vwCl [.ref y, .int a1] [(y, .inr (11, [.ref y0, .int y1, .int y2, .int y3, .ref y4, .ref y5, .ref y6, .ref y7, .ref y8, .ref y9, .int y10, .int y11, .int y12, .int y13, .int y14, .long y15, .int y16, .int y17, .ref y18, .ref y19, .ref y20, .ref y21, .ref y22, .ref y23, .ref y24, .ref y25, .ref y26, .ref y27, .ref y28, .ref y29, .ref y30, .ref y31, .ref y32, .ref y33, .ref y34, .ref y35, .ref y36, .ref y37, .ref y38, .ref y39, .ref y40, .ref y41, .ref y42, .ref y43, .ref y44, .ref y45, .ref y46, .int y47, .ref y48, .ref y49, .int y50, .int y51, .int y52, .int y53, .long y54, .int y55, .ref y56, .ref y57, .ref y58, .ref y59]))] (TY cT) sz) (va_Qi (fun (r : Int32) (_ : Nat → Nat) => r = 0) (BW D vwCl (va_A [(y, .inr (11, [.ref y0, .int y1, .int y2, .int y3, .ref y4, .ref y5, .ref y6, .ref y7, .ref y8, .ref y9, .int y10, .int y11, .int y12, .int y13, .int y14, .long y15, .int y16, .int y17, .ref y18, .ref y19, .ref y20, .ref y21, .ref y22, .ref y23, .ref y24, .ref y25, .ref y26, .ref y27, .ref y28, .ref y29, .ref y30, .ref y31, .ref y32, .ref y33, .ref y34, .ref y35, .ref y36, .ref y37, .ref y38, .ref y39, .ref y40, .ref y41, .ref y42, .ref y43, .ref y44, .ref y45, .ref y46, .int y47, .ref y48, .ref y49, .int y50, .int y51, .int y52, .int y53, .long y54, .int y55, .ref y56, .ref y57, .ref y58, .ref y59]))] sz) (fun u => [(y, .inr (11, [.ref y0, .int 1, .int y2, .int y3, .ref y4, .ref y5, .ref y6, .ref y7, .ref y8, .ref y9, .int y10, .int y11, .int y12, .int y13, .int y14, .long y15, .int y16, .int y17, .ref y18, .ref y19, .ref y20, .ref y21, .ref y22, .ref y23, .ref y24, .ref y25, .ref y26, .ref y27, .ref y28, .ref y29, .ref y30, .ref y31, .ref y32, .ref y33, .ref y34, .ref y35, .ref y36, .ref y37, .ref y38, .ref y39, .ref y40, .ref y41, .ref y42, .ref y43, .ref y44, .ref y45, .ref y46, .int y47, .ref y48, .ref y49, .int y50, .int y51, .int y52, .int y53, .long y54, .int y55, .ref y56, .ref y57, .ref y58, .ref y59]))])) (va_A [(y, .inr (11, [.ref y0, .int y1, .int y2, .int y3, .ref y4, .ref y5, .ref y6, .ref y7, .ref y8, .ref y9, .int y10, .int y11, .int y12, .int y13, .int y14, .long y15, .int y16, .int y17, .ref y18, .ref y19, .ref y20, .ref y21, .ref y22, .ref y23, .ref y24, .ref y25, .ref y26, .ref y27, .ref y28, .ref y29, .ref y30, .ref y31, .ref y32, .ref y33, .ref y34, .ref y35, .ref y36, .ref y37, .ref y38, .ref y39, .ref y40, .ref y41, .ref y42, .ref y43, .ref y44, .ref y45, .ref y46, .int y47, .ref y48, .ref y49, .int y50, .int y51, .int y52, .int y53, .long y54, .int y55, .ref y56, .ref y57, .ref y58, .ref y59]))] sz)) 0 0 (va_A [(y, .inr (11, [.ref y0, .int y1, .int y2, .int y3, .ref y4, .ref y5, .ref y6, .ref y7, .ref y8, .ref y9, .int y10, .int y11, .int y12, .int y13, .int y14, .long y15, .int y16, .int y17, .ref y18, .ref y19, .ref y20, .ref y21, .ref y22, .ref y23, .ref y24, .ref y25, .ref y26, .ref y27, .ref y28, .ref y29, .ref y30, .ref y31, .ref y32, .ref y33, .ref y34, .ref y35, .ref y36, .ref y37, .ref y38, .ref y39, .ref y40, .ref y41, .ref y42, .ref y43, .ref y44, .ref y45, .ref y46, .int y47, .ref y48, .ref y49, .int y50, .int y51, .int y52, .int y53, .long y54, .int y55, .ref y56, .ref y57, .ref y58, .ref y59]))] sz) := by
  refine Met.ofW (cc := cM_countb) (maxL := 2) (ret := (some .int)) (by decide) rfl ?_
  intro p e s m args below meth c s₁ B hml hv
  obtain ⟨rfl, hsz, hZ, hP, hK, hD0⟩ := hv
  have hx := B.exec
  have hb := B.bytes
  have hr := B.returns
  have hts := atoms_spec (ws := WM_countb) B.pre
  have hT : ∀ w ∈ TB, w.before _ s = true := fun w h => hts w (List.mem_cons_of_mem _ h)
  have hown : s.vm.findClass R_M = some m.cls := findClass_of_methodNamed B.named
  have hlocks := B.notSynchronized
  subst hsz
  have hD := hD0.self (sz := s.heap.size)
  generalize hAe : va_A [(y, .inr (11, [.ref y0, .int y1, .int y2, .int y3, .ref y4, .ref y5, .ref y6, .ref y7, .ref y8, .ref y9, .int y10, .int y11, .int y12, .int y13, .int y14, .long y15, .int y16, .int y17, .ref y18, .ref y19, .ref y20, .ref y21, .ref y22, .ref y23, .ref y24, .ref y25, .ref y26, .ref y27, .ref y28, .ref y29, .ref y30, .ref y31, .ref y32, .ref y33, .ref y34, .ref y35, .ref y36, .ref y37, .ref y38, .ref y39, .ref y40, .ref y41, .ref y42, .ref y43, .ref y44, .ref y45, .ref y46, .int y47, .ref y48, .ref y49, .int y50, .int y51, .int y52, .int y53, .long y54, .int y55, .ref y56, .ref y57, .ref y58, .ref y59]))] s.heap.size = A at hD hZ ⊢
  have hA : ∀ q : Nat, s.heap.size ≤ q → A q := fun q h => by rw [← hAe]; exact Or.inr h
  have hS : va_S A s.heap s.heap [] := va_S.rf
  have hl := lv_entry ([.ref y, .int a1]) (n := 2) (Nat.le_of_ble_eq_true rfl)
  rw [lg_entry_eq]
  generalize (lg_sl ([.ref y, .int a1]) ++ List.replicate (2 - (lg_sl ([.ref y, .int a1])).length) Slot.unset).toArray = ls at hl ⊢
  have hl : lv_has ls 2 [(0, .ref y), (1, .int a1)] := hl
  refine lv_aload_n hx hb dM_countb_0 rfl (lv_at hl 0 rfl) ?_
  refine lv_iload_n hx hb dM_countb_1 rfl (lv_at hl 1 rfl) ?_
  refine lv_iconst (v := 0) hx hb dM_countb_2 (by decide) ?_
  refine lv_iconst (v := 4) hx hb dM_countb_3 (by decide) ?_
  refine ro_i (va_Run.run (va_runS (As := [.int a1, .int 0, .int 4]) (rest := [.ref y]) ⟨hx, hb, hml, hown, hT⟩ (y_in l D cT a1 0 4) ⟨callB_of 3 hT (tb_gd w1297) rfl rfl rfl (hT _ w13) (hT _ w1295) hM_in ⟨Nat.le_of_ble_eq_true rfl, Nat.le_of_ble_eq_true rfl⟩, (hT _ w1296)⟩ (RO.preS hZ hS ((show va_P D vwCl [] _ from fun _ _ h => nomatch h)) hK) rfl rfl hl.1 rfl (lv_room (Nat.le_of_ble_eq_true rfl)) dM_countb_4 ⟨Nat.le_of_ble_eq_true rfl, Nat.le_of_ble_eq_true rfl⟩)) ?_
  refine lv_if_eq (tgt := 14) hx hb dM_countb_7 rfl (fun _ => ?_) (fun hj1 => absurd (bi_f hq) hj1)
  refine lv_iconst (v := 1) hx hb dM_countb_14 (by decide) ?_
  refine rw_i (wc := [(y, .inr (11, [.ref y0, .int y1, .int y2, .int y3, .ref y4, .ref y5, .ref y6, .ref y7, .ref y8, .ref y9, .int y10, .int y11, .int y12, .int y13, .int y14, .long y15, .int y16, .int y17, .ref y18, .ref y19, .ref y20, .ref y21, .ref y22, .ref y23, .ref y24, .ref y25, .ref y26, .ref y27, .ref y28, .ref y29, .ref y30, .ref y31, .ref y32, .ref y33, .ref y34, .ref y35, .ref y36, .ref y37, .ref y38, .ref y39, .ref y40, .ref y41, .ref y42, .ref y43, .ref y44, .ref y45, .ref y46, .int y47, .ref y48, .ref y49, .int y50, .int y51, .int y52, .int y53, .long y54, .int y55, .ref y56, .ref y57, .ref y58, .ref y59]))]) (wr := []) hP hD hS hA [0] [] rfl rfl (by decide) (by decide) (va_runV (As := [.int 1]) (rest := []) ⟨hx, hb, hml, hown, hT⟩ (y_refused1 l D cT y y0 y1 y2 y3 y4 y5 y6 y7 y8 y9 y10 y11 y12 y13 y14 y15 y16 y17 y18 y19 y20 y21 y22 y23 y24 y25 y26 y27 y28 y29 y30 y31 y32 y33 y34 y35 y36 y37 y38 y39 y40 y41 y42 y43 y44 y45 y46 y47 y48 y49 y50 y51 y52 y53 y54 y55 y56 y57 y58 y59 _) ⟨callB_of 1 hT (tb_gd w1301) rfl rfl rfl (hT _ w13) (hT _ w1298) hM_refused ⟨Nat.le_of_ble_eq_true rfl, Nat.le_of_ble_eq_true rfl⟩, (hT _ w1300), (hT _ wp29)⟩ (RW.preV (ci := 11) (q0 := 0) hZ hS (va_free (wc := [(y, .inr (11, [.ref y0, .int y1, .int y2, .int y3, .ref y4, .ref y5, .ref y6, .ref y7, .ref y8, .ref y9, .int y10, .int y11, .int y12, .int y13, .int y14, .long y15, .int y16, .int y17, .ref y18, .ref y19, .ref y20, .ref y21, .ref y22, .ref y23, .ref y24, .ref y25, .ref y26, .ref y27, .ref y28, .ref y29, .ref y30, .ref y31, .ref y32, .ref y33, .ref y34, .ref y35, .ref y36, .ref y37, .ref y38, .ref y39, .ref y40, .ref y41, .ref y42, .ref y43, .ref y44, .ref y45, .ref y46, .int y47, .ref y48, .ref y49, .int y50, .int y51, .int y52, .int y53, .long y54, .int y55, .ref y56, .ref y57, .ref y58, .ref y59]))]) hD hS hA [0] rfl) (hP.sub (ws' := [(y, .inr (11, [.ref y0, .int y1, .int y2, .int y3, .ref y4, .ref y5, .ref y6, .ref y7, .ref y8, .ref y9, .int y10, .int y11, .int y12, .int y13, .int y14, .long y15, .int y16, .int y17, .ref y18, .ref y19, .ref y20, .ref y21, .ref y22, .ref y23, .ref y24, .ref y25, .ref y26, .ref y27, .ref y28, .ref y29, .ref y30, .ref y31, .ref y32, .ref y33, .ref y34, .ref y35, .ref y36, .ref y37, .ref y38, .ref y39, .ref y40, .ref y41, .ref y42, .ref y43, .ref y44, .ref y45, .ref y46, .int y47, .ref y48, .ref y49, .int y50, .int y51, .int y52, .int y53, .long y54, .int y55, .ref y56, .ref y57, .ref y58, .ref y59]))]) [0] rfl) hK (hD.sub (ws' := [(y, .inr (11, [.ref y0, .int y1, .int y2, .int y3, .ref y4, .ref y5, .ref y6, .ref y7, .ref y8, .ref y9, .int y10, .int y11, .int y12, .int y13, .int y14, .long y15, .int y16, .int y17, .ref y18, .ref y19, .ref y20, .ref y21, .ref y22, .ref y23, .ref y24, .ref y25, .ref y26, .ref y27, .ref y28, .ref y29, .ref y30, .ref y31, .ref y32, .ref y33, .ref y34, .ref y35, .ref y36, .ref y37, .ref y38, .ref y39, .ref y40, .ref y41, .ref y42, .ref y43, .ref y44, .ref y45, .ref y46, .int y47, .ref y48, .ref y49, .int y50, .int y51, .int y52, .int y53, .long y54, .int y55, .ref y56, .ref y57, .ref y58, .ref y59]))]) [0] (by decide) rfl) rfl rfl) rfl rfl hl.1 rfl (lv_room (Nat.le_of_ble_eq_true rfl)) dM_countb_15 ⟨Nat.le_of_ble_eq_true rfl, Nat.le_of_ble_eq_true rfl⟩) (fun ru2 u2 H locs hpu2 hP hD hS => ?_)
  have hP : va_P D vwCl [(y, .inr (11, [.ref y0, .int 1, .int y2, .int y3, .ref y4, .ref y5, .ref y6, .ref y7, .ref y8, .ref y9, .int y10, .int y11, .int y12, .int y13, .int y14, .long y15, .int y16, .int y17, .ref y18, .ref y19, .ref y20, .ref y21, .ref y22, .ref y23, .ref y24, .ref y25, .ref y26, .ref y27, .ref y28, .ref y29, .ref y30, .ref y31, .ref y32, .ref y33, .ref y34, .ref y35, .ref y36, .ref y37, .ref y38, .ref y39, .ref y40, .ref y41, .ref y42, .ref y43, .ref y44, .ref y45, .ref y46, .int y47, .ref y48, .ref y49, .int y50, .int y51, .int y52, .int y53, .long y54, .int y55, .ref y56, .ref y57, .ref y58, .ref y59]))] H := hP
  have hD : va_D A [(y, .inr (11, [.ref y0, .int 1, .int y2, .int y3, .ref y4, .ref y5, .ref y6, .ref y7, .ref y8, .ref y9, .int y10, .int y11, .int y12, .int y13, .int y14, .long y15, .int y16, .int y17, .ref y18, .ref y19, .ref y20, .ref y21, .ref y22, .ref y23, .ref y24, .ref y25, .ref y26, .ref y27, .ref y28, .ref y29, .ref y30, .ref y31, .ref y32, .ref y33, .ref y34, .ref y35, .ref y36, .ref y37, .ref y38, .ref y39, .ref y40, .ref y41, .ref y42, .ref y43, .ref y44, .ref y45, .ref y46, .int y47, .ref y48, .ref y49, .int y50, .int y51, .int y52, .int y53, .long y54, .int y55, .ref y56, .ref y57, .ref y58, .ref y59]))] := hD
  rw [hpu2]
  refine lv_if_eq (tgt := 23) hx hb dM_countb_18 rfl (fun hj3 => absurd hj3 (by decide)) (fun _ => ?_)
  refine lv_iconst (v := 0) hx hb dM_countb_21 (by decide) ?_
  have hP9 := hP.sub (ws' := [(y, .inr (11, [.ref y0, .int 1, .int y2, .int y3, .ref y4, .ref y5, .ref y6, .ref y7, .ref y8, .ref y9, .int y10, .int y11, .int y12, .int y13, .int y14, .long y15, .int y16, .int y17, .ref y18, .ref y19, .ref y20, .ref y21, .ref y22, .ref y23, .ref y24, .ref y25, .ref y26, .ref y27, .ref y28, .ref y29, .ref y30, .ref y31, .ref y32, .ref y33, .ref y34, .ref y35, .ref y36, .ref y37, .ref y38, .ref y39, .ref y40, .ref y41, .ref y42, .ref y43, .ref y44, .ref y45, .ref y46, .int y47, .ref y48, .ref y49, .int y50, .int y51, .int y52, .int y53, .long y54, .int y55, .ref y56, .ref y57, .ref y58, .ref y59]))]) [0] rfl
  have hD9 := hD.sub (ws' := [(y, .inr (11, [.ref y0, .int 1, .int y2, .int y3, .ref y4, .ref y5, .ref y6, .ref y7, .ref y8, .ref y9, .int y10, .int y11, .int y12, .int y13, .int y14, .long y15, .int y16, .int y17, .ref y18, .ref y19, .ref y20, .ref y21, .ref y22, .ref y23, .ref y24, .ref y25, .ref y26, .ref y27, .ref y28, .ref y29, .ref y30, .ref y31, .ref y32, .ref y33, .ref y34, .ref y35, .ref y36, .ref y37, .ref y38, .ref y39, .ref y40, .ref y41, .ref y42, .ref y43, .ref y44, .ref y45, .ref y46, .int y47, .ref y48, .ref y49, .int y50, .int y51, .int y52, .int y53, .long y54, .int y55, .ref y56, .ref y57, .ref y58, .ref y59]))]) [0] (by decide) rfl
  refine W.widen (k := 0) (n := 0) (Nat.le_of_ble_eq_true rfl) (Nat.le_of_ble_eq_true rfl) ?_
  exact W.iret (v := 0) hx hb hr (fun t ht hW => ⟨⟨0, (fun _ => 0), rfl, rfl, by rw [ht]; exact hP9, hD9⟩, hS.F ht⟩) hS.2.2 dM_countb_22
set_option maxHeartbeats 4000000 in
set_option maxRecDepth 100000 in
theorem y_count0 (l : Launch) (D : va_G) (cT : Nat → ClassId) (y : Nat) (y0 : Nat) (y1 : Int32) (y2 : Int32) (y3 : Int32) (y4 : Nat) (y5 : Nat) (y6 : Nat) (y7 : Nat) (y8 : Nat) (y9 : Nat) (y10 : Int32) (y11 : Int32) (y12 : Int32) (y13 : Int32) (y14 : Int32) (y15 : Int64) (y16 : Int32) (y17 : Int32) (y18 : Nat) (y19 : Nat) (y20 : Nat) (y21 : Nat) (y22 : Nat) (y23 : Nat) (y24 : Nat) (y25 : Nat) (y26 : Nat) (y27 : Nat) (y28 : Nat) (y29 : Nat) (y30 : Nat) (y31 : Nat) (y32 : Nat) (y33 : Nat) (y34 : Nat) (y35 : Nat) (y36 : Nat) (y37 : Nat) (y38 : Nat) (y39 : Nat) (y40 : Nat) (y41 : Nat) (y42 : Nat) (y43 : Nat) (y44 : Nat) (y45 : Nat) (y46 : Nat) (y47 : Int32) (y48 : Nat) (y49 : Nat) (y50 : Int32) (y51 : Int32) (y52 : Int32) (y53 : Int32) (y54 : Int64) (y55 : Int32) (y56 : Nat) (y57 : Nat) (y58 : Nat) (y59 : Nat) (sz : Nat) : Met l yM_countb WM_countb ({ frames := 1, cells := 0, slots := 0, locals := 22 } : Room) (RW D vwCl [.ref y, .int 0] [(y, .inr (11, [.ref y0, .int y1, .int y2, .int y3, .ref y4, .ref y5, .ref y6, .ref y7, .ref y8, .ref y9, .int y10, .int y11, .int y12, .int y13, .int y14, .long y15, .int y16, .int y17, .ref y18, .ref y19, .ref y20, .ref y21, .ref y22, .ref y23, .ref y24, .ref y25, .ref y26, .ref y27, .ref y28, .ref y29, .ref y30, .ref y31, .ref y32, .ref y33, .ref y34, .ref y35, .ref y36, .ref y37, .ref y38, .ref y39, .ref y40, .ref y41, .ref y42, .ref y43, .ref y44, .ref y45, .ref y46, .int y47, .ref y48, .ref y49, .int y50, .int y51, .int y52, .int y53, .long y54, .int y55, .ref y56, .ref y57, .ref y58, .ref y59]))] (TY cT) sz) (va_Qi (fun (r : Int32) (_ : Nat → Nat) => r = y2) (BW D vwCl (va_A [(y, .inr (11, [.ref y0, .int y1, .int y2, .int y3, .ref y4, .ref y5, .ref y6, .ref y7, .ref y8, .ref y9, .int y10, .int y11, .int y12, .int y13, .int y14, .long y15, .int y16, .int y17, .ref y18, .ref y19, .ref y20, .ref y21, .ref y22, .ref y23, .ref y24, .ref y25, .ref y26, .ref y27, .ref y28, .ref y29, .ref y30, .ref y31, .ref y32, .ref y33, .ref y34, .ref y35, .ref y36, .ref y37, .ref y38, .ref y39, .ref y40, .ref y41, .ref y42, .ref y43, .ref y44, .ref y45, .ref y46, .int y47, .ref y48, .ref y49, .int y50, .int y51, .int y52, .int y53, .long y54, .int y55, .ref y56, .ref y57, .ref y58, .ref y59]))] sz) (fun u => [(y, .inr (11, [.ref y0, .int 0, .int y2, .int y3, .ref y4, .ref y5, .ref y6, .ref y7, .ref y8, .ref y9, .int y10, .int y11, .int y12, .int y13, .int y14, .long y15, .int y16, .int y17, .ref y18, .ref y19, .ref y20, .ref y21, .ref y22, .ref y23, .ref y24, .ref y25, .ref y26, .ref y27, .ref y28, .ref y29, .ref y30, .ref y31, .ref y32, .ref y33, .ref y34, .ref y35, .ref y36, .ref y37, .ref y38, .ref y39, .ref y40, .ref y41, .ref y42, .ref y43, .ref y44, .ref y45, .ref y46, .int y47, .ref y48, .ref y49, .int y50, .int y51, .int y52, .int y53, .long y54, .int y55, .ref y56, .ref y57, .ref y58, .ref y59]))])) (va_A [(y, .inr (11, [.ref y0, .int y1, .int y2, .int y3, .ref y4, .ref y5, .ref y6, .ref y7, .ref y8, .ref y9, .int y10, .int y11, .int y12, .int y13, .int y14, .long y15, .int y16, .int y17, .ref y18, .ref y19, .ref y20, .ref y21, .ref y22, .ref y23, .ref y24, .ref y25, .ref y26, .ref y27, .ref y28, .ref y29, .ref y30, .ref y31, .ref y32, .ref y33, .ref y34, .ref y35, .ref y36, .ref y37, .ref y38, .ref y39, .ref y40, .ref y41, .ref y42, .ref y43, .ref y44, .ref y45, .ref y46, .int y47, .ref y48, .ref y49, .int y50, .int y51, .int y52, .int y53, .long y54, .int y55, .ref y56, .ref y57, .ref y58, .ref y59]))] sz)) 0 0 (va_A [(y, .inr (11, [.ref y0, .int y1, .int y2, .int y3, .ref y4, .ref y5, .ref y6, .ref y7, .ref y8, .ref y9, .int y10, .int y11, .int y12, .int y13, .int y14, .long y15, .int y16, .int y17, .ref y18, .ref y19, .ref y20, .ref y21, .ref y22, .ref y23, .ref y24, .ref y25, .ref y26, .ref y27, .ref y28, .ref y29, .ref y30, .ref y31, .ref y32, .ref y33, .ref y34, .ref y35, .ref y36, .ref y37, .ref y38, .ref y39, .ref y40, .ref y41, .ref y42, .ref y43, .ref y44, .ref y45, .ref y46, .int y47, .ref y48, .ref y49, .int y50, .int y51, .int y52, .int y53, .long y54, .int y55, .ref y56, .ref y57, .ref y58, .ref y59]))] sz) := by
  refine Met.ofW (cc := cM_countb) (maxL := 2) (ret := (some .int)) (by decide) rfl ?_
  intro p e s m args below meth c s₁ B hml hv
  obtain ⟨rfl, hsz, hZ, hP, hK, hD0⟩ := hv
  have hx := B.exec
  have hb := B.bytes
  have hr := B.returns
  have hts := atoms_spec (ws := WM_countb) B.pre
  have hT : ∀ w ∈ TB, w.before _ s = true := fun w h => hts w (List.mem_cons_of_mem _ h)
  have hown : s.vm.findClass R_M = some m.cls := findClass_of_methodNamed B.named
  have hlocks := B.notSynchronized
  subst hsz
  have hD := hD0.self (sz := s.heap.size)
  generalize hAe : va_A [(y, .inr (11, [.ref y0, .int y1, .int y2, .int y3, .ref y4, .ref y5, .ref y6, .ref y7, .ref y8, .ref y9, .int y10, .int y11, .int y12, .int y13, .int y14, .long y15, .int y16, .int y17, .ref y18, .ref y19, .ref y20, .ref y21, .ref y22, .ref y23, .ref y24, .ref y25, .ref y26, .ref y27, .ref y28, .ref y29, .ref y30, .ref y31, .ref y32, .ref y33, .ref y34, .ref y35, .ref y36, .ref y37, .ref y38, .ref y39, .ref y40, .ref y41, .ref y42, .ref y43, .ref y44, .ref y45, .ref y46, .int y47, .ref y48, .ref y49, .int y50, .int y51, .int y52, .int y53, .long y54, .int y55, .ref y56, .ref y57, .ref y58, .ref y59]))] s.heap.size = A at hD hZ ⊢
  have hA : ∀ q : Nat, s.heap.size ≤ q → A q := fun q h => by rw [← hAe]; exact Or.inr h
  have hS : va_S A s.heap s.heap [] := va_S.rf
  have hl := lv_entry ([.ref y, .int 0]) (n := 2) (Nat.le_of_ble_eq_true rfl)
  rw [lg_entry_eq]
  generalize (lg_sl ([.ref y, .int 0]) ++ List.replicate (2 - (lg_sl ([.ref y, .int 0])).length) Slot.unset).toArray = ls at hl ⊢
  have hl : lv_has ls 2 [(0, .ref y), (1, .int 0)] := hl
  refine lv_aload_n hx hb dM_countb_0 rfl (lv_at hl 0 rfl) ?_
  refine lv_iload_n hx hb dM_countb_1 rfl (lv_at hl 1 rfl) ?_
  refine lv_iconst (v := 0) hx hb dM_countb_2 (by decide) ?_
  refine lv_iconst (v := 4) hx hb dM_countb_3 (by decide) ?_
  refine ro_i (va_Run.run (va_runS (As := [.int 0, .int 0, .int 4]) (rest := [.ref y]) ⟨hx, hb, hml, hown, hT⟩ (y_in l D cT 0 0 4) ⟨callB_of 3 hT (tb_gd w1297) rfl rfl rfl (hT _ w13) (hT _ w1295) hM_in ⟨Nat.le_of_ble_eq_true rfl, Nat.le_of_ble_eq_true rfl⟩, (hT _ w1296)⟩ (RO.preS hZ hS ((show va_P D vwCl [] _ from fun _ _ h => nomatch h)) hK) rfl rfl hl.1 rfl (lv_room (Nat.le_of_ble_eq_true rfl)) dM_countb_4 ⟨Nat.le_of_ble_eq_true rfl, Nat.le_of_ble_eq_true rfl⟩)) ?_
  refine lv_if_eq (tgt := 14) hx hb dM_countb_7 rfl (fun hj1 => absurd hj1 (by rw [bi_t (by decide)]; decide)) (fun _ => ?_)
  refine lv_iconst (v := 0) hx hb dM_countb_10 (by decide) ?_
  refine lv_goto (tgt := 15) hx hb dM_countb_11 rfl ?_
  refine rw_i (wc := [(y, .inr (11, [.ref y0, .int y1, .int y2, .int y3, .ref y4, .ref y5, .ref y6, .ref y7, .ref y8, .ref y9, .int y10, .int y11, .int y12, .int y13, .int y14, .long y15, .int y16, .int y17, .ref y18, .ref y19, .ref y20, .ref y21, .ref y22, .ref y23, .ref y24, .ref y25, .ref y26, .ref y27, .ref y28, .ref y29, .ref y30, .ref y31, .ref y32, .ref y33, .ref y34, .ref y35, .ref y36, .ref y37, .ref y38, .ref y39, .ref y40, .ref y41, .ref y42, .ref y43, .ref y44, .ref y45, .ref y46, .int y47, .ref y48, .ref y49, .int y50, .int y51, .int y52, .int y53, .long y54, .int y55, .ref y56, .ref y57, .ref y58, .ref y59]))]) (wr := []) hP hD hS hA [0] [] rfl rfl (by decide) (by decide) (va_runV (As := [.int 0]) (rest := []) ⟨hx, hb, hml, hown, hT⟩ (y_refused0 l D cT y y0 y1 y2 y3 y4 y5 y6 y7 y8 y9 y10 y11 y12 y13 y14 y15 y16 y17 y18 y19 y20 y21 y22 y23 y24 y25 y26 y27 y28 y29 y30 y31 y32 y33 y34 y35 y36 y37 y38 y39 y40 y41 y42 y43 y44 y45 y46 y47 y48 y49 y50 y51 y52 y53 y54 y55 y56 y57 y58 y59 _) ⟨callB_of 1 hT (tb_gd w1301) rfl rfl rfl (hT _ w13) (hT _ w1298) hM_refused ⟨Nat.le_of_ble_eq_true rfl, Nat.le_of_ble_eq_true rfl⟩, (hT _ w1300), (hT _ wp29)⟩ (RW.preV (ci := 11) (q0 := 0) hZ hS (va_free (wc := [(y, .inr (11, [.ref y0, .int y1, .int y2, .int y3, .ref y4, .ref y5, .ref y6, .ref y7, .ref y8, .ref y9, .int y10, .int y11, .int y12, .int y13, .int y14, .long y15, .int y16, .int y17, .ref y18, .ref y19, .ref y20, .ref y21, .ref y22, .ref y23, .ref y24, .ref y25, .ref y26, .ref y27, .ref y28, .ref y29, .ref y30, .ref y31, .ref y32, .ref y33, .ref y34, .ref y35, .ref y36, .ref y37, .ref y38, .ref y39, .ref y40, .ref y41, .ref y42, .ref y43, .ref y44, .ref y45, .ref y46, .int y47, .ref y48, .ref y49, .int y50, .int y51, .int y52, .int y53, .long y54, .int y55, .ref y56, .ref y57, .ref y58, .ref y59]))]) hD hS hA [0] rfl) (hP.sub (ws' := [(y, .inr (11, [.ref y0, .int y1, .int y2, .int y3, .ref y4, .ref y5, .ref y6, .ref y7, .ref y8, .ref y9, .int y10, .int y11, .int y12, .int y13, .int y14, .long y15, .int y16, .int y17, .ref y18, .ref y19, .ref y20, .ref y21, .ref y22, .ref y23, .ref y24, .ref y25, .ref y26, .ref y27, .ref y28, .ref y29, .ref y30, .ref y31, .ref y32, .ref y33, .ref y34, .ref y35, .ref y36, .ref y37, .ref y38, .ref y39, .ref y40, .ref y41, .ref y42, .ref y43, .ref y44, .ref y45, .ref y46, .int y47, .ref y48, .ref y49, .int y50, .int y51, .int y52, .int y53, .long y54, .int y55, .ref y56, .ref y57, .ref y58, .ref y59]))]) [0] rfl) hK (hD.sub (ws' := [(y, .inr (11, [.ref y0, .int y1, .int y2, .int y3, .ref y4, .ref y5, .ref y6, .ref y7, .ref y8, .ref y9, .int y10, .int y11, .int y12, .int y13, .int y14, .long y15, .int y16, .int y17, .ref y18, .ref y19, .ref y20, .ref y21, .ref y22, .ref y23, .ref y24, .ref y25, .ref y26, .ref y27, .ref y28, .ref y29, .ref y30, .ref y31, .ref y32, .ref y33, .ref y34, .ref y35, .ref y36, .ref y37, .ref y38, .ref y39, .ref y40, .ref y41, .ref y42, .ref y43, .ref y44, .ref y45, .ref y46, .int y47, .ref y48, .ref y49, .int y50, .int y51, .int y52, .int y53, .long y54, .int y55, .ref y56, .ref y57, .ref y58, .ref y59]))]) [0] (by decide) rfl) rfl rfl) rfl rfl hl.1 rfl (lv_room (Nat.le_of_ble_eq_true rfl)) dM_countb_15 ⟨Nat.le_of_ble_eq_true rfl, Nat.le_of_ble_eq_true rfl⟩) (fun ru2 u2 H locs hpu2 hP hD hS => ?_)
  have hP : va_P D vwCl [(y, .inr (11, [.ref y0, .int 0, .int y2, .int y3, .ref y4, .ref y5, .ref y6, .ref y7, .ref y8, .ref y9, .int y10, .int y11, .int y12, .int y13, .int y14, .long y15, .int y16, .int y17, .ref y18, .ref y19, .ref y20, .ref y21, .ref y22, .ref y23, .ref y24, .ref y25, .ref y26, .ref y27, .ref y28, .ref y29, .ref y30, .ref y31, .ref y32, .ref y33, .ref y34, .ref y35, .ref y36, .ref y37, .ref y38, .ref y39, .ref y40, .ref y41, .ref y42, .ref y43, .ref y44, .ref y45, .ref y46, .int y47, .ref y48, .ref y49, .int y50, .int y51, .int y52, .int y53, .long y54, .int y55, .ref y56, .ref y57, .ref y58, .ref y59]))] H := hP
  have hD : va_D A [(y, .inr (11, [.ref y0, .int 0, .int y2, .int y3, .ref y4, .ref y5, .ref y6, .ref y7, .ref y8, .ref y9, .int y10, .int y11, .int y12, .int y13, .int y14, .long y15, .int y16, .int y17, .ref y18, .ref y19, .ref y20, .ref y21, .ref y22, .ref y23, .ref y24, .ref y25, .ref y26, .ref y27, .ref y28, .ref y29, .ref y30, .ref y31, .ref y32, .ref y33, .ref y34, .ref y35, .ref y36, .ref y37, .ref y38, .ref y39, .ref y40, .ref y41, .ref y42, .ref y43, .ref y44, .ref y45, .ref y46, .int y47, .ref y48, .ref y49, .int y50, .int y51, .int y52, .int y53, .long y54, .int y55, .ref y56, .ref y57, .ref y58, .ref y59]))] := hD
  rw [hpu2]
  refine lv_if_eq (tgt := 23) hx hb dM_countb_18 rfl (fun _ => ?_) (fun hj3 => absurd (by decide) hj3)
  refine lv_iload_n hx hb dM_countb_23 rfl (lv_at hl 1 rfl) ?_
  refine lv_tableIn (off := 32) (tgt := 56) hx hb dM_countb_24 (by decide) (by decide) rfl rfl ?_
  refine lv_aload_n hx hb dM_countb_56 rfl (lv_at hl 0 rfl) ?_
  refine va_get (D := D) (ci := 11) (v := .int y2) (C := R_M) (T := T_M) (N := 60) hx hb hT in_M hown hK hP 0 rfl rfl 2 (by decide) (hT _ w1106) (fun _ h9 => h9) rfl dM_countb_57 ?_
  have hP9 := hP.sub (ws' := [(y, .inr (11, [.ref y0, .int 0, .int y2, .int y3, .ref y4, .ref y5, .ref y6, .ref y7, .ref y8, .ref y9, .int y10, .int y11, .int y12, .int y13, .int y14, .long y15, .int y16, .int y17, .ref y18, .ref y19, .ref y20, .ref y21, .ref y22, .ref y23, .ref y24, .ref y25, .ref y26, .ref y27, .ref y28, .ref y29, .ref y30, .ref y31, .ref y32, .ref y33, .ref y34, .ref y35, .ref y36, .ref y37, .ref y38, .ref y39, .ref y40, .ref y41, .ref y42, .ref y43, .ref y44, .ref y45, .ref y46, .int y47, .ref y48, .ref y49, .int y50, .int y51, .int y52, .int y53, .long y54, .int y55, .ref y56, .ref y57, .ref y58, .ref y59]))]) [0] rfl
  have hD9 := hD.sub (ws' := [(y, .inr (11, [.ref y0, .int 0, .int y2, .int y3, .ref y4, .ref y5, .ref y6, .ref y7, .ref y8, .ref y9, .int y10, .int y11, .int y12, .int y13, .int y14, .long y15, .int y16, .int y17, .ref y18, .ref y19, .ref y20, .ref y21, .ref y22, .ref y23, .ref y24, .ref y25, .ref y26, .ref y27, .ref y28, .ref y29, .ref y30, .ref y31, .ref y32, .ref y33, .ref y34, .ref y35, .ref y36, .ref y37, .ref y38, .ref y39, .ref y40, .ref y41, .ref y42, .ref y43, .ref y44, .ref y45, .ref y46, .int y47, .ref y48, .ref y49, .int y50, .int y51, .int y52, .int y53, .long y54, .int y55, .ref y56, .ref y57, .ref y58, .ref y59]))]) [0] (by decide) rfl
  refine W.widen (k := 0) (n := 0) (Nat.le_of_ble_eq_true rfl) (Nat.le_of_ble_eq_true rfl) ?_
  exact W.iret (v := y2) hx hb hr (fun t ht hW => ⟨⟨y2, (fun _ => 0), rfl, rfl, by rw [ht]; exact hP9, hD9⟩, hS.F ht⟩) hS.2.2 dM_countb_60
set_option maxHeartbeats 4000000 in
set_option maxRecDepth 100000 in
theorem y_count1 (l : Launch) (D : va_G) (cT : Nat → ClassId) (y : Nat) (y0 : Nat) (y1 : Int32) (y2 : Int32) (y3 : Int32) (y4 : Nat) (y5 : Nat) (y6 : Nat) (y7 : Nat) (y8 : Nat) (y9 : Nat) (y10 : Int32) (y11 : Int32) (y12 : Int32) (y13 : Int32) (y14 : Int32) (y15 : Int64) (y16 : Int32) (y17 : Int32) (y18 : Nat) (y19 : Nat) (y20 : Nat) (y21 : Nat) (y22 : Nat) (y23 : Nat) (y24 : Nat) (y25 : Nat) (y26 : Nat) (y27 : Nat) (y28 : Nat) (y29 : Nat) (y30 : Nat) (y31 : Nat) (y32 : Nat) (y33 : Nat) (y34 : Nat) (y35 : Nat) (y36 : Nat) (y37 : Nat) (y38 : Nat) (y39 : Nat) (y40 : Nat) (y41 : Nat) (y42 : Nat) (y43 : Nat) (y44 : Nat) (y45 : Nat) (y46 : Nat) (y47 : Int32) (y48 : Nat) (y49 : Nat) (y50 : Int32) (y51 : Int32) (y52 : Int32) (y53 : Int32) (y54 : Int64) (y55 : Int32) (y56 : Nat) (y57 : Nat) (y58 : Nat) (y59 : Nat) (sz : Nat) : Met l yM_countb WM_countb ({ frames := 1, cells := 0, slots := 0, locals := 22 } : Room) (RW D vwCl [.ref y, .int 1] [(y, .inr (11, [.ref y0, .int y1, .int y2, .int y3, .ref y4, .ref y5, .ref y6, .ref y7, .ref y8, .ref y9, .int y10, .int y11, .int y12, .int y13, .int y14, .long y15, .int y16, .int y17, .ref y18, .ref y19, .ref y20, .ref y21, .ref y22, .ref y23, .ref y24, .ref y25, .ref y26, .ref y27, .ref y28, .ref y29, .ref y30, .ref y31, .ref y32, .ref y33, .ref y34, .ref y35, .ref y36, .ref y37, .ref y38, .ref y39, .ref y40, .ref y41, .ref y42, .ref y43, .ref y44, .ref y45, .ref y46, .int y47, .ref y48, .ref y49, .int y50, .int y51, .int y52, .int y53, .long y54, .int y55, .ref y56, .ref y57, .ref y58, .ref y59]))] (TY cT) sz) (va_Qi (fun (r : Int32) (_ : Nat → Nat) => r = y3) (BW D vwCl (va_A [(y, .inr (11, [.ref y0, .int y1, .int y2, .int y3, .ref y4, .ref y5, .ref y6, .ref y7, .ref y8, .ref y9, .int y10, .int y11, .int y12, .int y13, .int y14, .long y15, .int y16, .int y17, .ref y18, .ref y19, .ref y20, .ref y21, .ref y22, .ref y23, .ref y24, .ref y25, .ref y26, .ref y27, .ref y28, .ref y29, .ref y30, .ref y31, .ref y32, .ref y33, .ref y34, .ref y35, .ref y36, .ref y37, .ref y38, .ref y39, .ref y40, .ref y41, .ref y42, .ref y43, .ref y44, .ref y45, .ref y46, .int y47, .ref y48, .ref y49, .int y50, .int y51, .int y52, .int y53, .long y54, .int y55, .ref y56, .ref y57, .ref y58, .ref y59]))] sz) (fun u => [(y, .inr (11, [.ref y0, .int 0, .int y2, .int y3, .ref y4, .ref y5, .ref y6, .ref y7, .ref y8, .ref y9, .int y10, .int y11, .int y12, .int y13, .int y14, .long y15, .int y16, .int y17, .ref y18, .ref y19, .ref y20, .ref y21, .ref y22, .ref y23, .ref y24, .ref y25, .ref y26, .ref y27, .ref y28, .ref y29, .ref y30, .ref y31, .ref y32, .ref y33, .ref y34, .ref y35, .ref y36, .ref y37, .ref y38, .ref y39, .ref y40, .ref y41, .ref y42, .ref y43, .ref y44, .ref y45, .ref y46, .int y47, .ref y48, .ref y49, .int y50, .int y51, .int y52, .int y53, .long y54, .int y55, .ref y56, .ref y57, .ref y58, .ref y59]))])) (va_A [(y, .inr (11, [.ref y0, .int y1, .int y2, .int y3, .ref y4, .ref y5, .ref y6, .ref y7, .ref y8, .ref y9, .int y10, .int y11, .int y12, .int y13, .int y14, .long y15, .int y16, .int y17, .ref y18, .ref y19, .ref y20, .ref y21, .ref y22, .ref y23, .ref y24, .ref y25, .ref y26, .ref y27, .ref y28, .ref y29, .ref y30, .ref y31, .ref y32, .ref y33, .ref y34, .ref y35, .ref y36, .ref y37, .ref y38, .ref y39, .ref y40, .ref y41, .ref y42, .ref y43, .ref y44, .ref y45, .ref y46, .int y47, .ref y48, .ref y49, .int y50, .int y51, .int y52, .int y53, .long y54, .int y55, .ref y56, .ref y57, .ref y58, .ref y59]))] sz)) 0 0 (va_A [(y, .inr (11, [.ref y0, .int y1, .int y2, .int y3, .ref y4, .ref y5, .ref y6, .ref y7, .ref y8, .ref y9, .int y10, .int y11, .int y12, .int y13, .int y14, .long y15, .int y16, .int y17, .ref y18, .ref y19, .ref y20, .ref y21, .ref y22, .ref y23, .ref y24, .ref y25, .ref y26, .ref y27, .ref y28, .ref y29, .ref y30, .ref y31, .ref y32, .ref y33, .ref y34, .ref y35, .ref y36, .ref y37, .ref y38, .ref y39, .ref y40, .ref y41, .ref y42, .ref y43, .ref y44, .ref y45, .ref y46, .int y47, .ref y48, .ref y49, .int y50, .int y51, .int y52, .int y53, .long y54, .int y55, .ref y56, .ref y57, .ref y58, .ref y59]))] sz) := by
  refine Met.ofW (cc := cM_countb) (maxL := 2) (ret := (some .int)) (by decide) rfl ?_
  intro p e s m args below meth c s₁ B hml hv
  obtain ⟨rfl, hsz, hZ, hP, hK, hD0⟩ := hv
  have hx := B.exec
  have hb := B.bytes
  have hr := B.returns
  have hts := atoms_spec (ws := WM_countb) B.pre
  have hT : ∀ w ∈ TB, w.before _ s = true := fun w h => hts w (List.mem_cons_of_mem _ h)
  have hown : s.vm.findClass R_M = some m.cls := findClass_of_methodNamed B.named
  have hlocks := B.notSynchronized
  subst hsz
  have hD := hD0.self (sz := s.heap.size)
  generalize hAe : va_A [(y, .inr (11, [.ref y0, .int y1, .int y2, .int y3, .ref y4, .ref y5, .ref y6, .ref y7, .ref y8, .ref y9, .int y10, .int y11, .int y12, .int y13, .int y14, .long y15, .int y16, .int y17, .ref y18, .ref y19, .ref y20, .ref y21, .ref y22, .ref y23, .ref y24, .ref y25, .ref y26, .ref y27, .ref y28, .ref y29, .ref y30, .ref y31, .ref y32, .ref y33, .ref y34, .ref y35, .ref y36, .ref y37, .ref y38, .ref y39, .ref y40, .ref y41, .ref y42, .ref y43, .ref y44, .ref y45, .ref y46, .int y47, .ref y48, .ref y49, .int y50, .int y51, .int y52, .int y53, .long y54, .int y55, .ref y56, .ref y57, .ref y58, .ref y59]))] s.heap.size = A at hD hZ ⊢
  have hA : ∀ q : Nat, s.heap.size ≤ q → A q := fun q h => by rw [← hAe]; exact Or.inr h
  have hS : va_S A s.heap s.heap [] := va_S.rf
  have hl := lv_entry ([.ref y, .int 1]) (n := 2) (Nat.le_of_ble_eq_true rfl)
  rw [lg_entry_eq]
  generalize (lg_sl ([.ref y, .int 1]) ++ List.replicate (2 - (lg_sl ([.ref y, .int 1])).length) Slot.unset).toArray = ls at hl ⊢
  have hl : lv_has ls 2 [(0, .ref y), (1, .int 1)] := hl
  refine lv_aload_n hx hb dM_countb_0 rfl (lv_at hl 0 rfl) ?_
  refine lv_iload_n hx hb dM_countb_1 rfl (lv_at hl 1 rfl) ?_
  refine lv_iconst (v := 0) hx hb dM_countb_2 (by decide) ?_
  refine lv_iconst (v := 4) hx hb dM_countb_3 (by decide) ?_
  refine ro_i (va_Run.run (va_runS (As := [.int 1, .int 0, .int 4]) (rest := [.ref y]) ⟨hx, hb, hml, hown, hT⟩ (y_in l D cT 1 0 4) ⟨callB_of 3 hT (tb_gd w1297) rfl rfl rfl (hT _ w13) (hT _ w1295) hM_in ⟨Nat.le_of_ble_eq_true rfl, Nat.le_of_ble_eq_true rfl⟩, (hT _ w1296)⟩ (RO.preS hZ hS ((show va_P D vwCl [] _ from fun _ _ h => nomatch h)) hK) rfl rfl hl.1 rfl (lv_room (Nat.le_of_ble_eq_true rfl)) dM_countb_4 ⟨Nat.le_of_ble_eq_true rfl, Nat.le_of_ble_eq_true rfl⟩)) ?_
  refine lv_if_eq (tgt := 14) hx hb dM_countb_7 rfl (fun hj1 => absurd hj1 (by rw [bi_t (by decide)]; decide)) (fun _ => ?_)
  refine lv_iconst (v := 0) hx hb dM_countb_10 (by decide) ?_
  refine lv_goto (tgt := 15) hx hb dM_countb_11 rfl ?_
  refine rw_i (wc := [(y, .inr (11, [.ref y0, .int y1, .int y2, .int y3, .ref y4, .ref y5, .ref y6, .ref y7, .ref y8, .ref y9, .int y10, .int y11, .int y12, .int y13, .int y14, .long y15, .int y16, .int y17, .ref y18, .ref y19, .ref y20, .ref y21, .ref y22, .ref y23, .ref y24, .ref y25, .ref y26, .ref y27, .ref y28, .ref y29, .ref y30, .ref y31, .ref y32, .ref y33, .ref y34, .ref y35, .ref y36, .ref y37, .ref y38, .ref y39, .ref y40, .ref y41, .ref y42, .ref y43, .ref y44, .ref y45, .ref y46, .int y47, .ref y48, .ref y49, .int y50, .int y51, .int y52, .int y53, .long y54, .int y55, .ref y56, .ref y57, .ref y58, .ref y59]))]) (wr := []) hP hD hS hA [0] [] rfl rfl (by decide) (by decide) (va_runV (As := [.int 0]) (rest := []) ⟨hx, hb, hml, hown, hT⟩ (y_refused0 l D cT y y0 y1 y2 y3 y4 y5 y6 y7 y8 y9 y10 y11 y12 y13 y14 y15 y16 y17 y18 y19 y20 y21 y22 y23 y24 y25 y26 y27 y28 y29 y30 y31 y32 y33 y34 y35 y36 y37 y38 y39 y40 y41 y42 y43 y44 y45 y46 y47 y48 y49 y50 y51 y52 y53 y54 y55 y56 y57 y58 y59 _) ⟨callB_of 1 hT (tb_gd w1301) rfl rfl rfl (hT _ w13) (hT _ w1298) hM_refused ⟨Nat.le_of_ble_eq_true rfl, Nat.le_of_ble_eq_true rfl⟩, (hT _ w1300), (hT _ wp29)⟩ (RW.preV (ci := 11) (q0 := 0) hZ hS (va_free (wc := [(y, .inr (11, [.ref y0, .int y1, .int y2, .int y3, .ref y4, .ref y5, .ref y6, .ref y7, .ref y8, .ref y9, .int y10, .int y11, .int y12, .int y13, .int y14, .long y15, .int y16, .int y17, .ref y18, .ref y19, .ref y20, .ref y21, .ref y22, .ref y23, .ref y24, .ref y25, .ref y26, .ref y27, .ref y28, .ref y29, .ref y30, .ref y31, .ref y32, .ref y33, .ref y34, .ref y35, .ref y36, .ref y37, .ref y38, .ref y39, .ref y40, .ref y41, .ref y42, .ref y43, .ref y44, .ref y45, .ref y46, .int y47, .ref y48, .ref y49, .int y50, .int y51, .int y52, .int y53, .long y54, .int y55, .ref y56, .ref y57, .ref y58, .ref y59]))]) hD hS hA [0] rfl) (hP.sub (ws' := [(y, .inr (11, [.ref y0, .int y1, .int y2, .int y3, .ref y4, .ref y5, .ref y6, .ref y7, .ref y8, .ref y9, .int y10, .int y11, .int y12, .int y13, .int y14, .long y15, .int y16, .int y17, .ref y18, .ref y19, .ref y20, .ref y21, .ref y22, .ref y23, .ref y24, .ref y25, .ref y26, .ref y27, .ref y28, .ref y29, .ref y30, .ref y31, .ref y32, .ref y33, .ref y34, .ref y35, .ref y36, .ref y37, .ref y38, .ref y39, .ref y40, .ref y41, .ref y42, .ref y43, .ref y44, .ref y45, .ref y46, .int y47, .ref y48, .ref y49, .int y50, .int y51, .int y52, .int y53, .long y54, .int y55, .ref y56, .ref y57, .ref y58, .ref y59]))]) [0] rfl) hK (hD.sub (ws' := [(y, .inr (11, [.ref y0, .int y1, .int y2, .int y3, .ref y4, .ref y5, .ref y6, .ref y7, .ref y8, .ref y9, .int y10, .int y11, .int y12, .int y13, .int y14, .long y15, .int y16, .int y17, .ref y18, .ref y19, .ref y20, .ref y21, .ref y22, .ref y23, .ref y24, .ref y25, .ref y26, .ref y27, .ref y28, .ref y29, .ref y30, .ref y31, .ref y32, .ref y33, .ref y34, .ref y35, .ref y36, .ref y37, .ref y38, .ref y39, .ref y40, .ref y41, .ref y42, .ref y43, .ref y44, .ref y45, .ref y46, .int y47, .ref y48, .ref y49, .int y50, .int y51, .int y52, .int y53, .long y54, .int y55, .ref y56, .ref y57, .ref y58, .ref y59]))]) [0] (by decide) rfl) rfl rfl) rfl rfl hl.1 rfl (lv_room (Nat.le_of_ble_eq_true rfl)) dM_countb_15 ⟨Nat.le_of_ble_eq_true rfl, Nat.le_of_ble_eq_true rfl⟩) (fun ru2 u2 H locs hpu2 hP hD hS => ?_)
  have hP : va_P D vwCl [(y, .inr (11, [.ref y0, .int 0, .int y2, .int y3, .ref y4, .ref y5, .ref y6, .ref y7, .ref y8, .ref y9, .int y10, .int y11, .int y12, .int y13, .int y14, .long y15, .int y16, .int y17, .ref y18, .ref y19, .ref y20, .ref y21, .ref y22, .ref y23, .ref y24, .ref y25, .ref y26, .ref y27, .ref y28, .ref y29, .ref y30, .ref y31, .ref y32, .ref y33, .ref y34, .ref y35, .ref y36, .ref y37, .ref y38, .ref y39, .ref y40, .ref y41, .ref y42, .ref y43, .ref y44, .ref y45, .ref y46, .int y47, .ref y48, .ref y49, .int y50, .int y51, .int y52, .int y53, .long y54, .int y55, .ref y56, .ref y57, .ref y58, .ref y59]))] H := hP
  have hD : va_D A [(y, .inr (11, [.ref y0, .int 0, .int y2, .int y3, .ref y4, .ref y5, .ref y6, .ref y7, .ref y8, .ref y9, .int y10, .int y11, .int y12, .int y13, .int y14, .long y15, .int y16, .int y17, .ref y18, .ref y19, .ref y20, .ref y21, .ref y22, .ref y23, .ref y24, .ref y25, .ref y26, .ref y27, .ref y28, .ref y29, .ref y30, .ref y31, .ref y32, .ref y33, .ref y34, .ref y35, .ref y36, .ref y37, .ref y38, .ref y39, .ref y40, .ref y41, .ref y42, .ref y43, .ref y44, .ref y45, .ref y46, .int y47, .ref y48, .ref y49, .int y50, .int y51, .int y52, .int y53, .long y54, .int y55, .ref y56, .ref y57, .ref y58, .ref y59]))] := hD
  rw [hpu2]
  refine lv_if_eq (tgt := 23) hx hb dM_countb_18 rfl (fun _ => ?_) (fun hj3 => absurd (by decide) hj3)
  refine lv_iload_n hx hb dM_countb_23 rfl (lv_at hl 1 rfl) ?_
  refine lv_tableIn (off := 37) (tgt := 61) hx hb dM_countb_24 (by decide) (by decide) rfl rfl ?_
  refine lv_aload_n hx hb dM_countb_61 rfl (lv_at hl 0 rfl) ?_
  refine va_get (D := D) (ci := 11) (v := .int y3) (C := R_M) (T := T_M) (N := 60) hx hb hT in_M hown hK hP 0 rfl rfl 3 (by decide) (hT _ w1107) (fun _ h9 => h9) rfl dM_countb_62 ?_
  have hP9 := hP.sub (ws' := [(y, .inr (11, [.ref y0, .int 0, .int y2, .int y3, .ref y4, .ref y5, .ref y6, .ref y7, .ref y8, .ref y9, .int y10, .int y11, .int y12, .int y13, .int y14, .long y15, .int y16, .int y17, .ref y18, .ref y19, .ref y20, .ref y21, .ref y22, .ref y23, .ref y24, .ref y25, .ref y26, .ref y27, .ref y28, .ref y29, .ref y30, .ref y31, .ref y32, .ref y33, .ref y34, .ref y35, .ref y36, .ref y37, .ref y38, .ref y39, .ref y40, .ref y41, .ref y42, .ref y43, .ref y44, .ref y45, .ref y46, .int y47, .ref y48, .ref y49, .int y50, .int y51, .int y52, .int y53, .long y54, .int y55, .ref y56, .ref y57, .ref y58, .ref y59]))]) [0] rfl
  have hD9 := hD.sub (ws' := [(y, .inr (11, [.ref y0, .int 0, .int y2, .int y3, .ref y4, .ref y5, .ref y6, .ref y7, .ref y8, .ref y9, .int y10, .int y11, .int y12, .int y13, .int y14, .long y15, .int y16, .int y17, .ref y18, .ref y19, .ref y20, .ref y21, .ref y22, .ref y23, .ref y24, .ref y25, .ref y26, .ref y27, .ref y28, .ref y29, .ref y30, .ref y31, .ref y32, .ref y33, .ref y34, .ref y35, .ref y36, .ref y37, .ref y38, .ref y39, .ref y40, .ref y41, .ref y42, .ref y43, .ref y44, .ref y45, .ref y46, .int y47, .ref y48, .ref y49, .int y50, .int y51, .int y52, .int y53, .long y54, .int y55, .ref y56, .ref y57, .ref y58, .ref y59]))]) [0] (by decide) rfl
  refine W.widen (k := 0) (n := 0) (Nat.le_of_ble_eq_true rfl) (Nat.le_of_ble_eq_true rfl) ?_
  exact W.iret (v := y3) hx hb hr (fun t ht hW => ⟨⟨y3, (fun _ => 0), rfl, rfl, by rw [ht]; exact hP9, hD9⟩, hS.F ht⟩) hS.2.2 dM_countb_65
set_option maxHeartbeats 4000000 in
set_option maxRecDepth 100000 in
theorem y_count2 (l : Launch) (D : va_G) (cT : Nat → ClassId) (y : Nat) (y0 : Nat) (y1 : Int32) (y2 : Int32) (y3 : Int32) (y4 : Nat) (y5 : Nat) (y6 : Nat) (y7 : Nat) (y8 : Nat) (y9 : Nat) (y10 : Int32) (y11 : Int32) (y12 : Int32) (y13 : Int32) (y14 : Int32) (y15 : Int64) (y16 : Int32) (y17 : Int32) (y18 : Nat) (y19 : Nat) (y20 : Nat) (y21 : Nat) (y22 : Nat) (y23 : Nat) (y24 : Nat) (y25 : Nat) (y26 : Nat) (y27 : Nat) (y28 : Nat) (y29 : Nat) (y30 : Nat) (y31 : Nat) (y32 : Nat) (y33 : Nat) (y34 : Nat) (y35 : Nat) (y36 : Nat) (y37 : Nat) (y38 : Nat) (y39 : Nat) (y40 : Nat) (y41 : Nat) (y42 : Nat) (y43 : Nat) (y44 : Nat) (y45 : Nat) (y46 : Nat) (y47 : Int32) (y48 : Nat) (y49 : Nat) (y50 : Int32) (y51 : Int32) (y52 : Int32) (y53 : Int32) (y54 : Int64) (y55 : Int32) (y56 : Nat) (y57 : Nat) (y58 : Nat) (y59 : Nat) (sz : Nat) : Met l yM_countb WM_countb ({ frames := 1, cells := 0, slots := 0, locals := 22 } : Room) (RW D vwCl [.ref y, .int 2] [(y, .inr (11, [.ref y0, .int y1, .int y2, .int y3, .ref y4, .ref y5, .ref y6, .ref y7, .ref y8, .ref y9, .int y10, .int y11, .int y12, .int y13, .int y14, .long y15, .int y16, .int y17, .ref y18, .ref y19, .ref y20, .ref y21, .ref y22, .ref y23, .ref y24, .ref y25, .ref y26, .ref y27, .ref y28, .ref y29, .ref y30, .ref y31, .ref y32, .ref y33, .ref y34, .ref y35, .ref y36, .ref y37, .ref y38, .ref y39, .ref y40, .ref y41, .ref y42, .ref y43, .ref y44, .ref y45, .ref y46, .int y47, .ref y48, .ref y49, .int y50, .int y51, .int y52, .int y53, .long y54, .int y55, .ref y56, .ref y57, .ref y58, .ref y59]))] (TY cT) sz) (va_Qi (fun (r : Int32) (_ : Nat → Nat) => r = y17) (BW D vwCl (va_A [(y, .inr (11, [.ref y0, .int y1, .int y2, .int y3, .ref y4, .ref y5, .ref y6, .ref y7, .ref y8, .ref y9, .int y10, .int y11, .int y12, .int y13, .int y14, .long y15, .int y16, .int y17, .ref y18, .ref y19, .ref y20, .ref y21, .ref y22, .ref y23, .ref y24, .ref y25, .ref y26, .ref y27, .ref y28, .ref y29, .ref y30, .ref y31, .ref y32, .ref y33, .ref y34, .ref y35, .ref y36, .ref y37, .ref y38, .ref y39, .ref y40, .ref y41, .ref y42, .ref y43, .ref y44, .ref y45, .ref y46, .int y47, .ref y48, .ref y49, .int y50, .int y51, .int y52, .int y53, .long y54, .int y55, .ref y56, .ref y57, .ref y58, .ref y59]))] sz) (fun u => [(y, .inr (11, [.ref y0, .int 0, .int y2, .int y3, .ref y4, .ref y5, .ref y6, .ref y7, .ref y8, .ref y9, .int y10, .int y11, .int y12, .int y13, .int y14, .long y15, .int y16, .int y17, .ref y18, .ref y19, .ref y20, .ref y21, .ref y22, .ref y23, .ref y24, .ref y25, .ref y26, .ref y27, .ref y28, .ref y29, .ref y30, .ref y31, .ref y32, .ref y33, .ref y34, .ref y35, .ref y36, .ref y37, .ref y38, .ref y39, .ref y40, .ref y41, .ref y42, .ref y43, .ref y44, .ref y45, .ref y46, .int y47, .ref y48, .ref y49, .int y50, .int y51, .int y52, .int y53, .long y54, .int y55, .ref y56, .ref y57, .ref y58, .ref y59]))])) (va_A [(y, .inr (11, [.ref y0, .int y1, .int y2, .int y3, .ref y4, .ref y5, .ref y6, .ref y7, .ref y8, .ref y9, .int y10, .int y11, .int y12, .int y13, .int y14, .long y15, .int y16, .int y17, .ref y18, .ref y19, .ref y20, .ref y21, .ref y22, .ref y23, .ref y24, .ref y25, .ref y26, .ref y27, .ref y28, .ref y29, .ref y30, .ref y31, .ref y32, .ref y33, .ref y34, .ref y35, .ref y36, .ref y37, .ref y38, .ref y39, .ref y40, .ref y41, .ref y42, .ref y43, .ref y44, .ref y45, .ref y46, .int y47, .ref y48, .ref y49, .int y50, .int y51, .int y52, .int y53, .long y54, .int y55, .ref y56, .ref y57, .ref y58, .ref y59]))] sz)) 0 0 (va_A [(y, .inr (11, [.ref y0, .int y1, .int y2, .int y3, .ref y4, .ref y5, .ref y6, .ref y7, .ref y8, .ref y9, .int y10, .int y11, .int y12, .int y13, .int y14, .long y15, .int y16, .int y17, .ref y18, .ref y19, .ref y20, .ref y21, .ref y22, .ref y23, .ref y24, .ref y25, .ref y26, .ref y27, .ref y28, .ref y29, .ref y30, .ref y31, .ref y32, .ref y33, .ref y34, .ref y35, .ref y36, .ref y37, .ref y38, .ref y39, .ref y40, .ref y41, .ref y42, .ref y43, .ref y44, .ref y45, .ref y46, .int y47, .ref y48, .ref y49, .int y50, .int y51, .int y52, .int y53, .long y54, .int y55, .ref y56, .ref y57, .ref y58, .ref y59]))] sz) := by
  refine Met.ofW (cc := cM_countb) (maxL := 2) (ret := (some .int)) (by decide) rfl ?_
  intro p e s m args below meth c s₁ B hml hv
  obtain ⟨rfl, hsz, hZ, hP, hK, hD0⟩ := hv
  have hx := B.exec
  have hb := B.bytes
  have hr := B.returns
  have hts := atoms_spec (ws := WM_countb) B.pre
  have hT : ∀ w ∈ TB, w.before _ s = true := fun w h => hts w (List.mem_cons_of_mem _ h)
  have hown : s.vm.findClass R_M = some m.cls := findClass_of_methodNamed B.named
  have hlocks := B.notSynchronized
  subst hsz
  have hD := hD0.self (sz := s.heap.size)
  generalize hAe : va_A [(y, .inr (11, [.ref y0, .int y1, .int y2, .int y3, .ref y4, .ref y5, .ref y6, .ref y7, .ref y8, .ref y9, .int y10, .int y11, .int y12, .int y13, .int y14, .long y15, .int y16, .int y17, .ref y18, .ref y19, .ref y20, .ref y21, .ref y22, .ref y23, .ref y24, .ref y25, .ref y26, .ref y27, .ref y28, .ref y29, .ref y30, .ref y31, .ref y32, .ref y33, .ref y34, .ref y35, .ref y36, .ref y37, .ref y38, .ref y39, .ref y40, .ref y41, .ref y42, .ref y43, .ref y44, .ref y45, .ref y46, .int y47, .ref y48, .ref y49, .int y50, .int y51, .int y52, .int y53, .long y54, .int y55, .ref y56, .ref y57, .ref y58, .ref y59]))] s.heap.size = A at hD hZ ⊢
  have hA : ∀ q : Nat, s.heap.size ≤ q → A q := fun q h => by rw [← hAe]; exact Or.inr h
  have hS : va_S A s.heap s.heap [] := va_S.rf
  have hl := lv_entry ([.ref y, .int 2]) (n := 2) (Nat.le_of_ble_eq_true rfl)
  rw [lg_entry_eq]
  generalize (lg_sl ([.ref y, .int 2]) ++ List.replicate (2 - (lg_sl ([.ref y, .int 2])).length) Slot.unset).toArray = ls at hl ⊢
  have hl : lv_has ls 2 [(0, .ref y), (1, .int 2)] := hl
  refine lv_aload_n hx hb dM_countb_0 rfl (lv_at hl 0 rfl) ?_
  refine lv_iload_n hx hb dM_countb_1 rfl (lv_at hl 1 rfl) ?_
  refine lv_iconst (v := 0) hx hb dM_countb_2 (by decide) ?_
  refine lv_iconst (v := 4) hx hb dM_countb_3 (by decide) ?_
  refine ro_i (va_Run.run (va_runS (As := [.int 2, .int 0, .int 4]) (rest := [.ref y]) ⟨hx, hb, hml, hown, hT⟩ (y_in l D cT 2 0 4) ⟨callB_of 3 hT (tb_gd w1297) rfl rfl rfl (hT _ w13) (hT _ w1295) hM_in ⟨Nat.le_of_ble_eq_true rfl, Nat.le_of_ble_eq_true rfl⟩, (hT _ w1296)⟩ (RO.preS hZ hS ((show va_P D vwCl [] _ from fun _ _ h => nomatch h)) hK) rfl rfl hl.1 rfl (lv_room (Nat.le_of_ble_eq_true rfl)) dM_countb_4 ⟨Nat.le_of_ble_eq_true rfl, Nat.le_of_ble_eq_true rfl⟩)) ?_
  refine lv_if_eq (tgt := 14) hx hb dM_countb_7 rfl (fun hj1 => absurd hj1 (by rw [bi_t (by decide)]; decide)) (fun _ => ?_)
  refine lv_iconst (v := 0) hx hb dM_countb_10 (by decide) ?_
  refine lv_goto (tgt := 15) hx hb dM_countb_11 rfl ?_
  refine rw_i (wc := [(y, .inr (11, [.ref y0, .int y1, .int y2, .int y3, .ref y4, .ref y5, .ref y6, .ref y7, .ref y8, .ref y9, .int y10, .int y11, .int y12, .int y13, .int y14, .long y15, .int y16, .int y17, .ref y18, .ref y19, .ref y20, .ref y21, .ref y22, .ref y23, .ref y24, .ref y25, .ref y26, .ref y27, .ref y28, .ref y29, .ref y30, .ref y31, .ref y32, .ref y33, .ref y34, .ref y35, .ref y36, .ref y37, .ref y38, .ref y39, .ref y40, .ref y41, .ref y42, .ref y43, .ref y44, .ref y45, .ref y46, .int y47, .ref y48, .ref y49, .int y50, .int y51, .int y52, .int y53, .long y54, .int y55, .ref y56, .ref y57, .ref y58, .ref y59]))]) (wr := []) hP hD hS hA [0] [] rfl rfl (by decide) (by decide) (va_runV (As := [.int 0]) (rest := []) ⟨hx, hb, hml, hown, hT⟩ (y_refused0 l D cT y y0 y1 y2 y3 y4 y5 y6 y7 y8 y9 y10 y11 y12 y13 y14 y15 y16 y17 y18 y19 y20 y21 y22 y23 y24 y25 y26 y27 y28 y29 y30 y31 y32 y33 y34 y35 y36 y37 y38 y39 y40 y41 y42 y43 y44 y45 y46 y47 y48 y49 y50 y51 y52 y53 y54 y55 y56 y57 y58 y59 _) ⟨callB_of 1 hT (tb_gd w1301) rfl rfl rfl (hT _ w13) (hT _ w1298) hM_refused ⟨Nat.le_of_ble_eq_true rfl, Nat.le_of_ble_eq_true rfl⟩, (hT _ w1300), (hT _ wp29)⟩ (RW.preV (ci := 11) (q0 := 0) hZ hS (va_free (wc := [(y, .inr (11, [.ref y0, .int y1, .int y2, .int y3, .ref y4, .ref y5, .ref y6, .ref y7, .ref y8, .ref y9, .int y10, .int y11, .int y12, .int y13, .int y14, .long y15, .int y16, .int y17, .ref y18, .ref y19, .ref y20, .ref y21, .ref y22, .ref y23, .ref y24, .ref y25, .ref y26, .ref y27, .ref y28, .ref y29, .ref y30, .ref y31, .ref y32, .ref y33, .ref y34, .ref y35, .ref y36, .ref y37, .ref y38, .ref y39, .ref y40, .ref y41, .ref y42, .ref y43, .ref y44, .ref y45, .ref y46, .int y47, .ref y48, .ref y49, .int y50, .int y51, .int y52, .int y53, .long y54, .int y55, .ref y56, .ref y57, .ref y58, .ref y59]))]) hD hS hA [0] rfl) (hP.sub (ws' := [(y, .inr (11, [.ref y0, .int y1, .int y2, .int y3, .ref y4, .ref y5, .ref y6, .ref y7, .ref y8, .ref y9, .int y10, .int y11, .int y12, .int y13, .int y14, .long y15, .int y16, .int y17, .ref y18, .ref y19, .ref y20, .ref y21, .ref y22, .ref y23, .ref y24, .ref y25, .ref y26, .ref y27, .ref y28, .ref y29, .ref y30, .ref y31, .ref y32, .ref y33, .ref y34, .ref y35, .ref y36, .ref y37, .ref y38, .ref y39, .ref y40, .ref y41, .ref y42, .ref y43, .ref y44, .ref y45, .ref y46, .int y47, .ref y48, .ref y49, .int y50, .int y51, .int y52, .int y53, .long y54, .int y55, .ref y56, .ref y57, .ref y58, .ref y59]))]) [0] rfl) hK (hD.sub (ws' := [(y, .inr (11, [.ref y0, .int y1, .int y2, .int y3, .ref y4, .ref y5, .ref y6, .ref y7, .ref y8, .ref y9, .int y10, .int y11, .int y12, .int y13, .int y14, .long y15, .int y16, .int y17, .ref y18, .ref y19, .ref y20, .ref y21, .ref y22, .ref y23, .ref y24, .ref y25, .ref y26, .ref y27, .ref y28, .ref y29, .ref y30, .ref y31, .ref y32, .ref y33, .ref y34, .ref y35, .ref y36, .ref y37, .ref y38, .ref y39, .ref y40, .ref y41, .ref y42, .ref y43, .ref y44, .ref y45, .ref y46, .int y47, .ref y48, .ref y49, .int y50, .int y51, .int y52, .int y53, .long y54, .int y55, .ref y56, .ref y57, .ref y58, .ref y59]))]) [0] (by decide) rfl) rfl rfl) rfl rfl hl.1 rfl (lv_room (Nat.le_of_ble_eq_true rfl)) dM_countb_15 ⟨Nat.le_of_ble_eq_true rfl, Nat.le_of_ble_eq_true rfl⟩) (fun ru2 u2 H locs hpu2 hP hD hS => ?_)
  have hP : va_P D vwCl [(y, .inr (11, [.ref y0, .int 0, .int y2, .int y3, .ref y4, .ref y5, .ref y6, .ref y7, .ref y8, .ref y9, .int y10, .int y11, .int y12, .int y13, .int y14, .long y15, .int y16, .int y17, .ref y18, .ref y19, .ref y20, .ref y21, .ref y22, .ref y23, .ref y24, .ref y25, .ref y26, .ref y27, .ref y28, .ref y29, .ref y30, .ref y31, .ref y32, .ref y33, .ref y34, .ref y35, .ref y36, .ref y37, .ref y38, .ref y39, .ref y40, .ref y41, .ref y42, .ref y43, .ref y44, .ref y45, .ref y46, .int y47, .ref y48, .ref y49, .int y50, .int y51, .int y52, .int y53, .long y54, .int y55, .ref y56, .ref y57, .ref y58, .ref y59]))] H := hP
  have hD : va_D A [(y, .inr (11, [.ref y0, .int 0, .int y2, .int y3, .ref y4, .ref y5, .ref y6, .ref y7, .ref y8, .ref y9, .int y10, .int y11, .int y12, .int y13, .int y14, .long y15, .int y16, .int y17, .ref y18, .ref y19, .ref y20, .ref y21, .ref y22, .ref y23, .ref y24, .ref y25, .ref y26, .ref y27, .ref y28, .ref y29, .ref y30, .ref y31, .ref y32, .ref y33, .ref y34, .ref y35, .ref y36, .ref y37, .ref y38, .ref y39, .ref y40, .ref y41, .ref y42, .ref y43, .ref y44, .ref y45, .ref y46, .int y47, .ref y48, .ref y49, .int y50, .int y51, .int y52, .int y53, .long y54, .int y55, .ref y56, .ref y57, .ref y58, .ref y59]))] := hD
  rw [hpu2]
  refine lv_if_eq (tgt := 23) hx hb dM_countb_18 rfl (fun _ => ?_) (fun hj3 => absurd (by decide) hj3)
  refine lv_iload_n hx hb dM_countb_23 rfl (lv_at hl 1 rfl) ?_
  refine lv_tableIn (off := 42) (tgt := 66) hx hb dM_countb_24 (by decide) (by decide) rfl rfl ?_
  refine lv_aload_n hx hb dM_countb_66 rfl (lv_at hl 0 rfl) ?_
  refine va_get (D := D) (ci := 11) (v := .int y17) (C := R_M) (T := T_M) (N := 60) hx hb hT in_M hown hK hP 0 rfl rfl 17 (by decide) (hT _ w1121) (fun _ h9 => h9) rfl dM_countb_67 ?_
  have hP9 := hP.sub (ws' := [(y, .inr (11, [.ref y0, .int 0, .int y2, .int y3, .ref y4, .ref y5, .ref y6, .ref y7, .ref y8, .ref y9, .int y10, .int y11, .int y12, .int y13, .int y14, .long y15, .int y16, .int y17, .ref y18, .ref y19, .ref y20, .ref y21, .ref y22, .ref y23, .ref y24, .ref y25, .ref y26, .ref y27, .ref y28, .ref y29, .ref y30, .ref y31, .ref y32, .ref y33, .ref y34, .ref y35, .ref y36, .ref y37, .ref y38, .ref y39, .ref y40, .ref y41, .ref y42, .ref y43, .ref y44, .ref y45, .ref y46, .int y47, .ref y48, .ref y49, .int y50, .int y51, .int y52, .int y53, .long y54, .int y55, .ref y56, .ref y57, .ref y58, .ref y59]))]) [0] rfl
  have hD9 := hD.sub (ws' := [(y, .inr (11, [.ref y0, .int 0, .int y2, .int y3, .ref y4, .ref y5, .ref y6, .ref y7, .ref y8, .ref y9, .int y10, .int y11, .int y12, .int y13, .int y14, .long y15, .int y16, .int y17, .ref y18, .ref y19, .ref y20, .ref y21, .ref y22, .ref y23, .ref y24, .ref y25, .ref y26, .ref y27, .ref y28, .ref y29, .ref y30, .ref y31, .ref y32, .ref y33, .ref y34, .ref y35, .ref y36, .ref y37, .ref y38, .ref y39, .ref y40, .ref y41, .ref y42, .ref y43, .ref y44, .ref y45, .ref y46, .int y47, .ref y48, .ref y49, .int y50, .int y51, .int y52, .int y53, .long y54, .int y55, .ref y56, .ref y57, .ref y58, .ref y59]))]) [0] (by decide) rfl
  refine W.widen (k := 0) (n := 0) (Nat.le_of_ble_eq_true rfl) (Nat.le_of_ble_eq_true rfl) ?_
  exact W.iret (v := y17) hx hb hr (fun t ht hW => ⟨⟨y17, (fun _ => 0), rfl, rfl, by rw [ht]; exact hP9, hD9⟩, hS.F ht⟩) hS.2.2 dM_countb_70
set_option maxHeartbeats 4000000 in
set_option maxRecDepth 100000 in
theorem y_count4 (l : Launch) (D : va_G) (cT : Nat → ClassId) (y : Nat) (y0 : Nat) (y1 : Int32) (y2 : Int32) (y3 : Int32) (y4 : Nat) (y5 : Nat) (y6 : Nat) (y7 : Nat) (y8 : Nat) (y9 : Nat) (y10 : Int32) (y11 : Int32) (y12 : Int32) (y13 : Int32) (y14 : Int32) (y15 : Int64) (y16 : Int32) (y17 : Int32) (y18 : Nat) (y19 : Nat) (y20 : Nat) (y21 : Nat) (y22 : Nat) (y23 : Nat) (y24 : Nat) (y25 : Nat) (y26 : Nat) (y27 : Nat) (y28 : Nat) (y29 : Nat) (y30 : Nat) (y31 : Nat) (y32 : Nat) (y33 : Nat) (y34 : Nat) (y35 : Nat) (y36 : Nat) (y37 : Nat) (y38 : Nat) (y39 : Nat) (y40 : Nat) (y41 : Nat) (y42 : Nat) (y43 : Nat) (y44 : Nat) (y45 : Nat) (y46 : Nat) (y47 : Int32) (y48 : Nat) (y49 : Nat) (y50 : Int32) (y51 : Int32) (y52 : Int32) (y53 : Int32) (y54 : Int64) (y55 : Int32) (y56 : Nat) (y57 : Nat) (y58 : Nat) (y59 : Nat) (sz : Nat) : Met l yM_countb WM_countb ({ frames := 1, cells := 0, slots := 0, locals := 22 } : Room) (RW D vwCl [.ref y, .int 4] [(y, .inr (11, [.ref y0, .int y1, .int y2, .int y3, .ref y4, .ref y5, .ref y6, .ref y7, .ref y8, .ref y9, .int y10, .int y11, .int y12, .int y13, .int y14, .long y15, .int y16, .int y17, .ref y18, .ref y19, .ref y20, .ref y21, .ref y22, .ref y23, .ref y24, .ref y25, .ref y26, .ref y27, .ref y28, .ref y29, .ref y30, .ref y31, .ref y32, .ref y33, .ref y34, .ref y35, .ref y36, .ref y37, .ref y38, .ref y39, .ref y40, .ref y41, .ref y42, .ref y43, .ref y44, .ref y45, .ref y46, .int y47, .ref y48, .ref y49, .int y50, .int y51, .int y52, .int y53, .long y54, .int y55, .ref y56, .ref y57, .ref y58, .ref y59]))] (TY cT) sz) (va_Qi (fun (r : Int32) (_ : Nat → Nat) => r = y47) (BW D vwCl (va_A [(y, .inr (11, [.ref y0, .int y1, .int y2, .int y3, .ref y4, .ref y5, .ref y6, .ref y7, .ref y8, .ref y9, .int y10, .int y11, .int y12, .int y13, .int y14, .long y15, .int y16, .int y17, .ref y18, .ref y19, .ref y20, .ref y21, .ref y22, .ref y23, .ref y24, .ref y25, .ref y26, .ref y27, .ref y28, .ref y29, .ref y30, .ref y31, .ref y32, .ref y33, .ref y34, .ref y35, .ref y36, .ref y37, .ref y38, .ref y39, .ref y40, .ref y41, .ref y42, .ref y43, .ref y44, .ref y45, .ref y46, .int y47, .ref y48, .ref y49, .int y50, .int y51, .int y52, .int y53, .long y54, .int y55, .ref y56, .ref y57, .ref y58, .ref y59]))] sz) (fun u => [(y, .inr (11, [.ref y0, .int 0, .int y2, .int y3, .ref y4, .ref y5, .ref y6, .ref y7, .ref y8, .ref y9, .int y10, .int y11, .int y12, .int y13, .int y14, .long y15, .int y16, .int y17, .ref y18, .ref y19, .ref y20, .ref y21, .ref y22, .ref y23, .ref y24, .ref y25, .ref y26, .ref y27, .ref y28, .ref y29, .ref y30, .ref y31, .ref y32, .ref y33, .ref y34, .ref y35, .ref y36, .ref y37, .ref y38, .ref y39, .ref y40, .ref y41, .ref y42, .ref y43, .ref y44, .ref y45, .ref y46, .int y47, .ref y48, .ref y49, .int y50, .int y51, .int y52, .int y53, .long y54, .int y55, .ref y56, .ref y57, .ref y58, .ref y59]))])) (va_A [(y, .inr (11, [.ref y0, .int y1, .int y2, .int y3, .ref y4, .ref y5, .ref y6, .ref y7, .ref y8, .ref y9, .int y10, .int y11, .int y12, .int y13, .int y14, .long y15, .int y16, .int y17, .ref y18, .ref y19, .ref y20, .ref y21, .ref y22, .ref y23, .ref y24, .ref y25, .ref y26, .ref y27, .ref y28, .ref y29, .ref y30, .ref y31, .ref y32, .ref y33, .ref y34, .ref y35, .ref y36, .ref y37, .ref y38, .ref y39, .ref y40, .ref y41, .ref y42, .ref y43, .ref y44, .ref y45, .ref y46, .int y47, .ref y48, .ref y49, .int y50, .int y51, .int y52, .int y53, .long y54, .int y55, .ref y56, .ref y57, .ref y58, .ref y59]))] sz)) 0 0 (va_A [(y, .inr (11, [.ref y0, .int y1, .int y2, .int y3, .ref y4, .ref y5, .ref y6, .ref y7, .ref y8, .ref y9, .int y10, .int y11, .int y12, .int y13, .int y14, .long y15, .int y16, .int y17, .ref y18, .ref y19, .ref y20, .ref y21, .ref y22, .ref y23, .ref y24, .ref y25, .ref y26, .ref y27, .ref y28, .ref y29, .ref y30, .ref y31, .ref y32, .ref y33, .ref y34, .ref y35, .ref y36, .ref y37, .ref y38, .ref y39, .ref y40, .ref y41, .ref y42, .ref y43, .ref y44, .ref y45, .ref y46, .int y47, .ref y48, .ref y49, .int y50, .int y51, .int y52, .int y53, .long y54, .int y55, .ref y56, .ref y57, .ref y58, .ref y59]))] sz) := by
  refine Met.ofW (cc := cM_countb) (maxL := 2) (ret := (some .int)) (by decide) rfl ?_
  intro p e s m args below meth c s₁ B hml hv
  obtain ⟨rfl, hsz, hZ, hP, hK, hD0⟩ := hv
  have hx := B.exec
  have hb := B.bytes
  have hr := B.returns
  have hts := atoms_spec (ws := WM_countb) B.pre
  have hT : ∀ w ∈ TB, w.before _ s = true := fun w h => hts w (List.mem_cons_of_mem _ h)
  have hown : s.vm.findClass R_M = some m.cls := findClass_of_methodNamed B.named
  have hlocks := B.notSynchronized
  subst hsz
  have hD := hD0.self (sz := s.heap.size)
  generalize hAe : va_A [(y, .inr (11, [.ref y0, .int y1, .int y2, .int y3, .ref y4, .ref y5, .ref y6, .ref y7, .ref y8, .ref y9, .int y10, .int y11, .int y12, .int y13, .int y14, .long y15, .int y16, .int y17, .ref y18, .ref y19, .ref y20, .ref y21, .ref y22, .ref y23, .ref y24, .ref y25, .ref y26, .ref y27, .ref y28, .ref y29, .ref y30, .ref y31, .ref y32, .ref y33, .ref y34, .ref y35, .ref y36, .ref y37, .ref y38, .ref y39, .ref y40, .ref y41, .ref y42, .ref y43, .ref y44, .ref y45, .ref y46, .int y47, .ref y48, .ref y49, .int y50, .int y51, .int y52, .int y53, .long y54, .int y55, .ref y56, .ref y57, .ref y58, .ref y59]))] s.heap.size = A at hD hZ ⊢
  have hA : ∀ q : Nat, s.heap.size ≤ q → A q := fun q h => by rw [← hAe]; exact Or.inr h
  have hS : va_S A s.heap s.heap [] := va_S.rf
  have hl := lv_entry ([.ref y, .int 4]) (n := 2) (Nat.le_of_ble_eq_true rfl)
  rw [lg_entry_eq]
  generalize (lg_sl ([.ref y, .int 4]) ++ List.replicate (2 - (lg_sl ([.ref y, .int 4])).length) Slot.unset).toArray = ls at hl ⊢
  have hl : lv_has ls 2 [(0, .ref y), (1, .int 4)] := hl
  refine lv_aload_n hx hb dM_countb_0 rfl (lv_at hl 0 rfl) ?_
  refine lv_iload_n hx hb dM_countb_1 rfl (lv_at hl 1 rfl) ?_
  refine lv_iconst (v := 0) hx hb dM_countb_2 (by decide) ?_
  refine lv_iconst (v := 4) hx hb dM_countb_3 (by decide) ?_
  refine ro_i (va_Run.run (va_runS (As := [.int 4, .int 0, .int 4]) (rest := [.ref y]) ⟨hx, hb, hml, hown, hT⟩ (y_in l D cT 4 0 4) ⟨callB_of 3 hT (tb_gd w1297) rfl rfl rfl (hT _ w13) (hT _ w1295) hM_in ⟨Nat.le_of_ble_eq_true rfl, Nat.le_of_ble_eq_true rfl⟩, (hT _ w1296)⟩ (RO.preS hZ hS ((show va_P D vwCl [] _ from fun _ _ h => nomatch h)) hK) rfl rfl hl.1 rfl (lv_room (Nat.le_of_ble_eq_true rfl)) dM_countb_4 ⟨Nat.le_of_ble_eq_true rfl, Nat.le_of_ble_eq_true rfl⟩)) ?_
  refine lv_if_eq (tgt := 14) hx hb dM_countb_7 rfl (fun hj1 => absurd hj1 (by rw [bi_t (by decide)]; decide)) (fun _ => ?_)
  refine lv_iconst (v := 0) hx hb dM_countb_10 (by decide) ?_
  refine lv_goto (tgt := 15) hx hb dM_countb_11 rfl ?_
  refine rw_i (wc := [(y, .inr (11, [.ref y0, .int y1, .int y2, .int y3, .ref y4, .ref y5, .ref y6, .ref y7, .ref y8, .ref y9, .int y10, .int y11, .int y12, .int y13, .int y14, .long y15, .int y16, .int y17, .ref y18, .ref y19, .ref y20, .ref y21, .ref y22, .ref y23, .ref y24, .ref y25, .ref y26, .ref y27, .ref y28, .ref y29, .ref y30, .ref y31, .ref y32, .ref y33, .ref y34, .ref y35, .ref y36, .ref y37, .ref y38, .ref y39, .ref y40, .ref y41, .ref y42, .ref y43, .ref y44, .ref y45, .ref y46, .int y47, .ref y48, .ref y49, .int y50, .int y51, .int y52, .int y53, .long y54, .int y55, .ref y56, .ref y57, .ref y58, .ref y59]))]) (wr := []) hP hD hS hA [0] [] rfl rfl (by decide) (by decide) (va_runV (As := [.int 0]) (rest := []) ⟨hx, hb, hml, hown, hT⟩ (y_refused0 l D cT y y0 y1 y2 y3 y4 y5 y6 y7 y8 y9 y10 y11 y12 y13 y14 y15 y16 y17 y18 y19 y20 y21 y22 y23 y24 y25 y26 y27 y28 y29 y30 y31 y32 y33 y34 y35 y36 y37 y38 y39 y40 y41 y42 y43 y44 y45 y46 y47 y48 y49 y50 y51 y52 y53 y54 y55 y56 y57 y58 y59 _) ⟨callB_of 1 hT (tb_gd w1301) rfl rfl rfl (hT _ w13) (hT _ w1298) hM_refused ⟨Nat.le_of_ble_eq_true rfl, Nat.le_of_ble_eq_true rfl⟩, (hT _ w1300), (hT _ wp29)⟩ (RW.preV (ci := 11) (q0 := 0) hZ hS (va_free (wc := [(y, .inr (11, [.ref y0, .int y1, .int y2, .int y3, .ref y4, .ref y5, .ref y6, .ref y7, .ref y8, .ref y9, .int y10, .int y11, .int y12, .int y13, .int y14, .long y15, .int y16, .int y17, .ref y18, .ref y19, .ref y20, .ref y21, .ref y22, .ref y23, .ref y24, .ref y25, .ref y26, .ref y27, .ref y28, .ref y29, .ref y30, .ref y31, .ref y32, .ref y33, .ref y34, .ref y35, .ref y36, .ref y37, .ref y38, .ref y39, .ref y40, .ref y41, .ref y42, .ref y43, .ref y44, .ref y45, .ref y46, .int y47, .ref y48, .ref y49, .int y50, .int y51, .int y52, .int y53, .long y54, .int y55, .ref y56, .ref y57, .ref y58, .ref y59]))]) hD hS hA [0] rfl) (hP.sub (ws' := [(y, .inr (11, [.ref y0, .int y1, .int y2, .int y3, .ref y4, .ref y5, .ref y6, .ref y7, .ref y8, .ref y9, .int y10, .int y11, .int y12, .int y13, .int y14, .long y15, .int y16, .int y17, .ref y18, .ref y19, .ref y20, .ref y21, .ref y22, .ref y23, .ref y24, .ref y25, .ref y26, .ref y27, .ref y28, .ref y29, .ref y30, .ref y31, .ref y32, .ref y33, .ref y34, .ref y35, .ref y36, .ref y37, .ref y38, .ref y39, .ref y40, .ref y41, .ref y42, .ref y43, .ref y44, .ref y45, .ref y46, .int y47, .ref y48, .ref y49, .int y50, .int y51, .int y52, .int y53, .long y54, .int y55, .ref y56, .ref y57, .ref y58, .ref y59]))]) [0] rfl) hK (hD.sub (ws' := [(y, .inr (11, [.ref y0, .int y1, .int y2, .int y3, .ref y4, .ref y5, .ref y6, .ref y7, .ref y8, .ref y9, .int y10, .int y11, .int y12, .int y13, .int y14, .long y15, .int y16, .int y17, .ref y18, .ref y19, .ref y20, .ref y21, .ref y22, .ref y23, .ref y24, .ref y25, .ref y26, .ref y27, .ref y28, .ref y29, .ref y30, .ref y31, .ref y32, .ref y33, .ref y34, .ref y35, .ref y36, .ref y37, .ref y38, .ref y39, .ref y40, .ref y41, .ref y42, .ref y43, .ref y44, .ref y45, .ref y46, .int y47, .ref y48, .ref y49, .int y50, .int y51, .int y52, .int y53, .long y54, .int y55, .ref y56, .ref y57, .ref y58, .ref y59]))]) [0] (by decide) rfl) rfl rfl) rfl rfl hl.1 rfl (lv_room (Nat.le_of_ble_eq_true rfl)) dM_countb_15 ⟨Nat.le_of_ble_eq_true rfl, Nat.le_of_ble_eq_true rfl⟩) (fun ru2 u2 H locs hpu2 hP hD hS => ?_)
  have hP : va_P D vwCl [(y, .inr (11, [.ref y0, .int 0, .int y2, .int y3, .ref y4, .ref y5, .ref y6, .ref y7, .ref y8, .ref y9, .int y10, .int y11, .int y12, .int y13, .int y14, .long y15, .int y16, .int y17, .ref y18, .ref y19, .ref y20, .ref y21, .ref y22, .ref y23, .ref y24, .ref y25, .ref y26, .ref y27, .ref y28, .ref y29, .ref y30, .ref y31, .ref y32, .ref y33, .ref y34, .ref y35, .ref y36, .ref y37, .ref y38, .ref y39, .ref y40, .ref y41, .ref y42, .ref y43, .ref y44, .ref y45, .ref y46, .int y47, .ref y48, .ref y49, .int y50, .int y51, .int y52, .int y53, .long y54, .int y55, .ref y56, .ref y57, .ref y58, .ref y59]))] H := hP
  have hD : va_D A [(y, .inr (11, [.ref y0, .int 0, .int y2, .int y3, .ref y4, .ref y5, .ref y6, .ref y7, .ref y8, .ref y9, .int y10, .int y11, .int y12, .int y13, .int y14, .long y15, .int y16, .int y17, .ref y18, .ref y19, .ref y20, .ref y21, .ref y22, .ref y23, .ref y24, .ref y25, .ref y26, .ref y27, .ref y28, .ref y29, .ref y30, .ref y31, .ref y32, .ref y33, .ref y34, .ref y35, .ref y36, .ref y37, .ref y38, .ref y39, .ref y40, .ref y41, .ref y42, .ref y43, .ref y44, .ref y45, .ref y46, .int y47, .ref y48, .ref y49, .int y50, .int y51, .int y52, .int y53, .long y54, .int y55, .ref y56, .ref y57, .ref y58, .ref y59]))] := hD
  rw [hpu2]
  refine lv_if_eq (tgt := 23) hx hb dM_countb_18 rfl (fun _ => ?_) (fun hj3 => absurd (by decide) hj3)
  refine lv_iload_n hx hb dM_countb_23 rfl (lv_at hl 1 rfl) ?_
  refine lv_tableOut (tgt := 76) hx hb dM_countb_24 (by decide) rfl ?_
  refine lv_aload_n hx hb dM_countb_76 rfl (lv_at hl 0 rfl) ?_
  refine va_get (D := D) (ci := 11) (v := .int y47) (C := R_M) (T := T_M) (N := 60) hx hb hT in_M hown hK hP 0 rfl rfl 47 (by decide) (hT _ w1151) (fun _ h9 => h9) rfl dM_countb_77 ?_
  have hP9 := hP.sub (ws' := [(y, .inr (11, [.ref y0, .int 0, .int y2, .int y3, .ref y4, .ref y5, .ref y6, .ref y7, .ref y8, .ref y9, .int y10, .int y11, .int y12, .int y13, .int y14, .long y15, .int y16, .int y17, .ref y18, .ref y19, .ref y20, .ref y21, .ref y22, .ref y23, .ref y24, .ref y25, .ref y26, .ref y27, .ref y28, .ref y29, .ref y30, .ref y31, .ref y32, .ref y33, .ref y34, .ref y35, .ref y36, .ref y37, .ref y38, .ref y39, .ref y40, .ref y41, .ref y42, .ref y43, .ref y44, .ref y45, .ref y46, .int y47, .ref y48, .ref y49, .int y50, .int y51, .int y52, .int y53, .long y54, .int y55, .ref y56, .ref y57, .ref y58, .ref y59]))]) [0] rfl
  have hD9 := hD.sub (ws' := [(y, .inr (11, [.ref y0, .int 0, .int y2, .int y3, .ref y4, .ref y5, .ref y6, .ref y7, .ref y8, .ref y9, .int y10, .int y11, .int y12, .int y13, .int y14, .long y15, .int y16, .int y17, .ref y18, .ref y19, .ref y20, .ref y21, .ref y22, .ref y23, .ref y24, .ref y25, .ref y26, .ref y27, .ref y28, .ref y29, .ref y30, .ref y31, .ref y32, .ref y33, .ref y34, .ref y35, .ref y36, .ref y37, .ref y38, .ref y39, .ref y40, .ref y41, .ref y42, .ref y43, .ref y44, .ref y45, .ref y46, .int y47, .ref y48, .ref y49, .int y50, .int y51, .int y52, .int y53, .long y54, .int y55, .ref y56, .ref y57, .ref y58, .ref y59]))]) [0] (by decide) rfl
  refine W.widen (k := 0) (n := 0) (Nat.le_of_ble_eq_true rfl) (Nat.le_of_ble_eq_true rfl) ?_
  exact W.iret (v := y47) hx hb hr (fun t ht hW => ⟨⟨y47, (fun _ => 0), rfl, rfl, by rw [ht]; exact hP9, hD9⟩, hS.F ht⟩) hS.2.2 dM_countb_80
set_option maxHeartbeats 4000000 in
set_option maxRecDepth 100000 in
theorem y_predict_no (l : Launch) (D : va_G) (cT : Nat → ClassId) (y : Nat) (y0 : Nat) (y1 : Int32) (y2 : Int32) (y3 : Int32) (y4 : Nat) (y5 : Nat) (y6 : Nat) (y7 : Nat) (y8 : Nat) (y9 : Nat) (y10 : Int32) (y11 : Int32) (y12 : Int32) (y13 : Int32) (y14 : Int32) (y15 : Int64) (y16 : Int32) (y18 : Nat) (y19 : Nat) (y20 : Nat) (y21 : Nat) (y22 : Nat) (y23 : Nat) (y24 : Nat) (y25 : Nat) (y26 : Nat) (y27 : Nat) (y28 : Nat) (y29 : Nat) (y30 : Nat) (y31 : Nat) (y32 : Nat) (y33 : Nat) (y34 : Nat) (y35 : Nat) (y36 : Nat) (y37 : Nat) (y38 : Nat) (y39 : Nat) (y40 : Nat) (y41 : Nat) (y42 : Nat) (y43 : Nat) (y44 : Nat) (y45 : Nat) (y46 : Nat) (y47 : Int32) (y48 : Nat) (y49 : Nat) (y50 : Int32) (y51 : Int32) (y52 : Int32) (y53 : Int32) (y54 : Int64) (y55 : Int32) (y56 : Nat) (y57 : Nat) (y58 : Nat) (y59 : Nat) (a1 : Int32) (hq : ¬ (0 ≤ a1 ∧ a1 ≤ 0)) (sz : Nat) : Met l yM_predict WM_predict ({ frames := 1, cells := 0, slots := 0, locals := 22 } : Room) (RW D vwCl [.ref y, .int a1] [(y, .inr (11, [.ref y0, .int y1, .int y2, .int y3, .ref y4, .ref y5, .ref y6, .ref y7, .ref y8, .ref y9, .int y10, .int y11, .int y12, .int y13, .int y14, .long y15, .int y16, .int 0, .ref y18, .ref y19, .ref y20, .ref y21, .ref y22, .ref y23, .ref y24, .ref y25, .ref y26, .ref y27, .ref y28, .ref y29, .ref y30, .ref y31, .ref y32, .ref y33, .ref y34, .ref y35, .ref y36, .ref y37, .ref y38, .ref y39, .ref y40, .ref y41, .ref y42, .ref y43, .ref y44, .ref y45, .ref y46, .int y47, .ref y48, .ref y49, .int y50, .int y51, .int y52, .int y53, .long y54, .int y55, .ref y56, .ref y57, .ref y58, .ref y59]))] (TY cT) sz) (va_Qi (fun (r : Int32) (_ : Nat → Nat) => r = 0) (BW D vwCl (va_A [(y, .inr (11, [.ref y0, .int y1, .int y2, .int y3, .ref y4, .ref y5, .ref y6, .ref y7, .ref y8, .ref y9, .int y10, .int y11, .int y12, .int y13, .int y14, .long y15, .int y16, .int 0, .ref y18, .ref y19, .ref y20, .ref y21, .ref y22, .ref y23, .ref y24, .ref y25, .ref y26, .ref y27, .ref y28, .ref y29, .ref y30, .ref y31, .ref y32, .ref y33, .ref y34, .ref y35, .ref y36, .ref y37, .ref y38, .ref y39, .ref y40, .ref y41, .ref y42, .ref y43, .ref y44, .ref y45, .ref y46, .int y47, .ref y48, .ref y49, .int y50, .int y51, .int y52, .int y53, .long y54, .int y55, .ref y56, .ref y57, .ref y58, .ref y59]))] sz) (fun u => [(y, .inr (11, [.ref y0, .int 1, .int y2, .int y3, .ref y4, .ref y5, .ref y6, .ref y7, .ref y8, .ref y9, .int y10, .int y11, .int y12, .int y13, .int y14, .long y15, .int y16, .int 0, .ref y18, .ref y19, .ref y20, .ref y21, .ref y22, .ref y23, .ref y24, .ref y25, .ref y26, .ref y27, .ref y28, .ref y29, .ref y30, .ref y31, .ref y32, .ref y33, .ref y34, .ref y35, .ref y36, .ref y37, .ref y38, .ref y39, .ref y40, .ref y41, .ref y42, .ref y43, .ref y44, .ref y45, .ref y46, .int y47, .ref y48, .ref y49, .int y50, .int y51, .int y52, .int y53, .long y54, .int y55, .ref y56, .ref y57, .ref y58, .ref y59]))])) (va_A [(y, .inr (11, [.ref y0, .int y1, .int y2, .int y3, .ref y4, .ref y5, .ref y6, .ref y7, .ref y8, .ref y9, .int y10, .int y11, .int y12, .int y13, .int y14, .long y15, .int y16, .int 0, .ref y18, .ref y19, .ref y20, .ref y21, .ref y22, .ref y23, .ref y24, .ref y25, .ref y26, .ref y27, .ref y28, .ref y29, .ref y30, .ref y31, .ref y32, .ref y33, .ref y34, .ref y35, .ref y36, .ref y37, .ref y38, .ref y39, .ref y40, .ref y41, .ref y42, .ref y43, .ref y44, .ref y45, .ref y46, .int y47, .ref y48, .ref y49, .int y50, .int y51, .int y52, .int y53, .long y54, .int y55, .ref y56, .ref y57, .ref y58, .ref y59]))] sz)) 0 0 (va_A [(y, .inr (11, [.ref y0, .int y1, .int y2, .int y3, .ref y4, .ref y5, .ref y6, .ref y7, .ref y8, .ref y9, .int y10, .int y11, .int y12, .int y13, .int y14, .long y15, .int y16, .int 0, .ref y18, .ref y19, .ref y20, .ref y21, .ref y22, .ref y23, .ref y24, .ref y25, .ref y26, .ref y27, .ref y28, .ref y29, .ref y30, .ref y31, .ref y32, .ref y33, .ref y34, .ref y35, .ref y36, .ref y37, .ref y38, .ref y39, .ref y40, .ref y41, .ref y42, .ref y43, .ref y44, .ref y45, .ref y46, .int y47, .ref y48, .ref y49, .int y50, .int y51, .int y52, .int y53, .long y54, .int y55, .ref y56, .ref y57, .ref y58, .ref y59]))] sz) := by
  refine Met.ofW (cc := cM_predict) (maxL := 2) (ret := (some .int)) (by decide) rfl ?_
  intro p e s m args below meth c s₁ B hml hv
  obtain ⟨rfl, hsz, hZ, hP, hK, hD0⟩ := hv
  have hx := B.exec
  have hb := B.bytes
  have hr := B.returns
  have hts := atoms_spec (ws := WM_predict) B.pre
  have hT : ∀ w ∈ TB, w.before _ s = true := fun w h => hts w (List.mem_cons_of_mem _ h)
  have hown : s.vm.findClass R_M = some m.cls := findClass_of_methodNamed B.named
  have hlocks := B.notSynchronized
  subst hsz
  have hD := hD0.self (sz := s.heap.size)
  generalize hAe : va_A [(y, .inr (11, [.ref y0, .int y1, .int y2, .int y3, .ref y4, .ref y5, .ref y6, .ref y7, .ref y8, .ref y9, .int y10, .int y11, .int y12, .int y13, .int y14, .long y15, .int y16, .int 0, .ref y18, .ref y19, .ref y20, .ref y21, .ref y22, .ref y23, .ref y24, .ref y25, .ref y26, .ref y27, .ref y28, .ref y29, .ref y30, .ref y31, .ref y32, .ref y33, .ref y34, .ref y35, .ref y36, .ref y37, .ref y38, .ref y39, .ref y40, .ref y41, .ref y42, .ref y43, .ref y44, .ref y45, .ref y46, .int y47, .ref y48, .ref y49, .int y50, .int y51, .int y52, .int y53, .long y54, .int y55, .ref y56, .ref y57, .ref y58, .ref y59]))] s.heap.size = A at hD hZ ⊢
  have hA : ∀ q : Nat, s.heap.size ≤ q → A q := fun q h => by rw [← hAe]; exact Or.inr h
  have hS : va_S A s.heap s.heap [] := va_S.rf
  have hl := lv_entry ([.ref y, .int a1]) (n := 2) (Nat.le_of_ble_eq_true rfl)
  rw [lg_entry_eq]
  generalize (lg_sl ([.ref y, .int a1]) ++ List.replicate (2 - (lg_sl ([.ref y, .int a1])).length) Slot.unset).toArray = ls at hl ⊢
  have hl : lv_has ls 2 [(0, .ref y), (1, .int a1)] := hl
  refine lv_aload_n hx hb dM_predict_0 rfl (lv_at hl 0 rfl) ?_
  refine lv_iload_n hx hb dM_predict_1 rfl (lv_at hl 1 rfl) ?_
  refine lv_iconst (v := 0) hx hb dM_predict_2 (by decide) ?_
  refine lv_aload_n hx hb dM_predict_3 rfl (lv_at hl 0 rfl) ?_
  refine va_get (D := D) (ci := 11) (v := .int 0) (C := R_M) (T := T_M) (N := 60) hx hb hT in_M hown hK hP 0 rfl rfl 17 (by decide) (hT _ w1121) (fun _ h9 => h9) rfl dM_predict_4 ?_
  refine ro_i (va_Run.run (va_runS (As := [.int a1, .int 0, .int 0]) (rest := [.ref y]) ⟨hx, hb, hml, hown, hT⟩ (y_in l D cT a1 0 0) ⟨callB_of 3 hT (tb_gd w1297) rfl rfl rfl (hT _ w13) (hT _ w1295) hM_in ⟨Nat.le_of_ble_eq_true rfl, Nat.le_of_ble_eq_true rfl⟩, (hT _ w1296)⟩ (RO.preS hZ hS ((show va_P D vwCl [] _ from fun _ _ h => nomatch h)) hK) rfl rfl hl.1 rfl (lv_room (Nat.le_of_ble_eq_true rfl)) dM_predict_7 ⟨Nat.le_of_ble_eq_true rfl, Nat.le_of_ble_eq_true rfl⟩)) ?_
  refine lv_if_eq (tgt := 17) hx hb dM_predict_10 rfl (fun _ => ?_) (fun hj1 => absurd (bi_f hq) hj1)
  refine lv_iconst (v := 1) hx hb dM_predict_17 (by decide) ?_
  refine rw_i (wc := [(y, .inr (11, [.ref y0, .int y1, .int y2, .int y3, .ref y4, .ref y5, .ref y6, .ref y7, .ref y8, .ref y9, .int y10, .int y11, .int y12, .int y13, .int y14, .long y15, .int y16, .int 0, .ref y18, .ref y19, .ref y20, .ref y21, .ref y22, .ref y23, .ref y24, .ref y25, .ref y26, .ref y27, .ref y28, .ref y29, .ref y30, .ref y31, .ref y32, .ref y33, .ref y34, .ref y35, .ref y36, .ref y37, .ref y38, .ref y39, .ref y40, .ref y41, .ref y42, .ref y43, .ref y44, .ref y45, .ref y46, .int y47, .ref y48, .ref y49, .int y50, .int y51, .int y52, .int y53, .long y54, .int y55, .ref y56, .ref y57, .ref y58, .ref y59]))]) (wr := []) hP hD hS hA [0] [] rfl rfl (by decide) (by decide) (va_runV (As := [.int 1]) (rest := []) ⟨hx, hb, hml, hown, hT⟩ (y_refused1 l D cT y y0 y1 y2 y3 y4 y5 y6 y7 y8 y9 y10 y11 y12 y13 y14 y15 y16 0 y18 y19 y20 y21 y22 y23 y24 y25 y26 y27 y28 y29 y30 y31 y32 y33 y34 y35 y36 y37 y38 y39 y40 y41 y42 y43 y44 y45 y46 y47 y48 y49 y50 y51 y52 y53 y54 y55 y56 y57 y58 y59 _) ⟨callB_of 1 hT (tb_gd w1301) rfl rfl rfl (hT _ w13) (hT _ w1298) hM_refused ⟨Nat.le_of_ble_eq_true rfl, Nat.le_of_ble_eq_true rfl⟩, (hT _ w1300), (hT _ wp29)⟩ (RW.preV (ci := 11) (q0 := 0) hZ hS (va_free (wc := [(y, .inr (11, [.ref y0, .int y1, .int y2, .int y3, .ref y4, .ref y5, .ref y6, .ref y7, .ref y8, .ref y9, .int y10, .int y11, .int y12, .int y13, .int y14, .long y15, .int y16, .int 0, .ref y18, .ref y19, .ref y20, .ref y21, .ref y22, .ref y23, .ref y24, .ref y25, .ref y26, .ref y27, .ref y28, .ref y29, .ref y30, .ref y31, .ref y32, .ref y33, .ref y34, .ref y35, .ref y36, .ref y37, .ref y38, .ref y39, .ref y40, .ref y41, .ref y42, .ref y43, .ref y44, .ref y45, .ref y46, .int y47, .ref y48, .ref y49, .int y50, .int y51, .int y52, .int y53, .long y54, .int y55, .ref y56, .ref y57, .ref y58, .ref y59]))]) hD hS hA [0] rfl) (hP.sub (ws' := [(y, .inr (11, [.ref y0, .int y1, .int y2, .int y3, .ref y4, .ref y5, .ref y6, .ref y7, .ref y8, .ref y9, .int y10, .int y11, .int y12, .int y13, .int y14, .long y15, .int y16, .int 0, .ref y18, .ref y19, .ref y20, .ref y21, .ref y22, .ref y23, .ref y24, .ref y25, .ref y26, .ref y27, .ref y28, .ref y29, .ref y30, .ref y31, .ref y32, .ref y33, .ref y34, .ref y35, .ref y36, .ref y37, .ref y38, .ref y39, .ref y40, .ref y41, .ref y42, .ref y43, .ref y44, .ref y45, .ref y46, .int y47, .ref y48, .ref y49, .int y50, .int y51, .int y52, .int y53, .long y54, .int y55, .ref y56, .ref y57, .ref y58, .ref y59]))]) [0] rfl) hK (hD.sub (ws' := [(y, .inr (11, [.ref y0, .int y1, .int y2, .int y3, .ref y4, .ref y5, .ref y6, .ref y7, .ref y8, .ref y9, .int y10, .int y11, .int y12, .int y13, .int y14, .long y15, .int y16, .int 0, .ref y18, .ref y19, .ref y20, .ref y21, .ref y22, .ref y23, .ref y24, .ref y25, .ref y26, .ref y27, .ref y28, .ref y29, .ref y30, .ref y31, .ref y32, .ref y33, .ref y34, .ref y35, .ref y36, .ref y37, .ref y38, .ref y39, .ref y40, .ref y41, .ref y42, .ref y43, .ref y44, .ref y45, .ref y46, .int y47, .ref y48, .ref y49, .int y50, .int y51, .int y52, .int y53, .long y54, .int y55, .ref y56, .ref y57, .ref y58, .ref y59]))]) [0] (by decide) rfl) rfl rfl) rfl rfl hl.1 rfl (lv_room (Nat.le_of_ble_eq_true rfl)) dM_predict_18 ⟨Nat.le_of_ble_eq_true rfl, Nat.le_of_ble_eq_true rfl⟩) (fun ru2 u2 H locs hpu2 hP hD hS => ?_)
  have hP : va_P D vwCl [(y, .inr (11, [.ref y0, .int 1, .int y2, .int y3, .ref y4, .ref y5, .ref y6, .ref y7, .ref y8, .ref y9, .int y10, .int y11, .int y12, .int y13, .int y14, .long y15, .int y16, .int 0, .ref y18, .ref y19, .ref y20, .ref y21, .ref y22, .ref y23, .ref y24, .ref y25, .ref y26, .ref y27, .ref y28, .ref y29, .ref y30, .ref y31, .ref y32, .ref y33, .ref y34, .ref y35, .ref y36, .ref y37, .ref y38, .ref y39, .ref y40, .ref y41, .ref y42, .ref y43, .ref y44, .ref y45, .ref y46, .int y47, .ref y48, .ref y49, .int y50, .int y51, .int y52, .int y53, .long y54, .int y55, .ref y56, .ref y57, .ref y58, .ref y59]))] H := hP
  have hD : va_D A [(y, .inr (11, [.ref y0, .int 1, .int y2, .int y3, .ref y4, .ref y5, .ref y6, .ref y7, .ref y8, .ref y9, .int y10, .int y11, .int y12, .int y13, .int y14, .long y15, .int y16, .int 0, .ref y18, .ref y19, .ref y20, .ref y21, .ref y22, .ref y23, .ref y24, .ref y25, .ref y26, .ref y27, .ref y28, .ref y29, .ref y30, .ref y31, .ref y32, .ref y33, .ref y34, .ref y35, .ref y36, .ref y37, .ref y38, .ref y39, .ref y40, .ref y41, .ref y42, .ref y43, .ref y44, .ref y45, .ref y46, .int y47, .ref y48, .ref y49, .int y50, .int y51, .int y52, .int y53, .long y54, .int y55, .ref y56, .ref y57, .ref y58, .ref y59]))] := hD
  rw [hpu2]
  refine lv_if_eq (tgt := 26) hx hb dM_predict_21 rfl (fun hj3 => absurd hj3 (by decide)) (fun _ => ?_)
  refine lv_iconst (v := 0) hx hb dM_predict_24 (by decide) ?_
  have hP9 := hP.sub (ws' := [(y, .inr (11, [.ref y0, .int 1, .int y2, .int y3, .ref y4, .ref y5, .ref y6, .ref y7, .ref y8, .ref y9, .int y10, .int y11, .int y12, .int y13, .int y14, .long y15, .int y16, .int 0, .ref y18, .ref y19, .ref y20, .ref y21, .ref y22, .ref y23, .ref y24, .ref y25, .ref y26, .ref y27, .ref y28, .ref y29, .ref y30, .ref y31, .ref y32, .ref y33, .ref y34, .ref y35, .ref y36, .ref y37, .ref y38, .ref y39, .ref y40, .ref y41, .ref y42, .ref y43, .ref y44, .ref y45, .ref y46, .int y47, .ref y48, .ref y49, .int y50, .int y51, .int y52, .int y53, .long y54, .int y55, .ref y56, .ref y57, .ref y58, .ref y59]))]) [0] rfl
  have hD9 := hD.sub (ws' := [(y, .inr (11, [.ref y0, .int 1, .int y2, .int y3, .ref y4, .ref y5, .ref y6, .ref y7, .ref y8, .ref y9, .int y10, .int y11, .int y12, .int y13, .int y14, .long y15, .int y16, .int 0, .ref y18, .ref y19, .ref y20, .ref y21, .ref y22, .ref y23, .ref y24, .ref y25, .ref y26, .ref y27, .ref y28, .ref y29, .ref y30, .ref y31, .ref y32, .ref y33, .ref y34, .ref y35, .ref y36, .ref y37, .ref y38, .ref y39, .ref y40, .ref y41, .ref y42, .ref y43, .ref y44, .ref y45, .ref y46, .int y47, .ref y48, .ref y49, .int y50, .int y51, .int y52, .int y53, .long y54, .int y55, .ref y56, .ref y57, .ref y58, .ref y59]))]) [0] (by decide) rfl
  refine W.widen (k := 0) (n := 0) (Nat.le_of_ble_eq_true rfl) (Nat.le_of_ble_eq_true rfl) ?_
  exact W.iret (v := 0) hx hb hr (fun t ht hW => ⟨⟨0, (fun _ => 0), rfl, rfl, by rw [ht]; exact hP9, hD9⟩, hS.F ht⟩) hS.2.2 dM_predict_25
set_option maxHeartbeats 4000000 in
set_option maxRecDepth 100000 in
theorem y_error_no (l : Launch) (D : va_G) (cT : Nat → ClassId) (y : Nat) (y0 : Nat) (y1 : Int32) (y2 : Int32) (y3 : Int32) (y4 : Nat) (y5 : Nat) (y6 : Nat) (y7 : Nat) (y8 : Nat) (y9 : Nat) (y10 : Int32) (y11 : Int32) (y12 : Int32) (y13 : Int32) (y14 : Int32) (y15 : Int64) (y16 : Int32) (y18 : Nat) (y19 : Nat) (y20 : Nat) (y21 : Nat) (y22 : Nat) (y23 : Nat) (y24 : Nat) (y25 : Nat) (y26 : Nat) (y27 : Nat) (y28 : Nat) (y29 : Nat) (y30 : Nat) (y31 : Nat) (y32 : Nat) (y33 : Nat) (y34 : Nat) (y35 : Nat) (y36 : Nat) (y37 : Nat) (y38 : Nat) (y39 : Nat) (y40 : Nat) (y41 : Nat) (y42 : Nat) (y43 : Nat) (y44 : Nat) (y45 : Nat) (y46 : Nat) (y47 : Int32) (y48 : Nat) (y49 : Nat) (y50 : Int32) (y51 : Int32) (y52 : Int32) (y53 : Int32) (y54 : Int64) (y55 : Int32) (y56 : Nat) (y57 : Nat) (y58 : Nat) (y59 : Nat) (a1 : Int64) (a2 : Int32) (hq : ¬ (0 ≤ a2 ∧ a2 ≤ 0)) (sz : Nat) : Met l yM_error WM_error ({ frames := 1, cells := 0, slots := 0, locals := 22 } : Room) (RW D vwCl [.ref y, .long a1, .int a2] [(y, .inr (11, [.ref y0, .int y1, .int y2, .int y3, .ref y4, .ref y5, .ref y6, .ref y7, .ref y8, .ref y9, .int y10, .int y11, .int y12, .int y13, .int y14, .long y15, .int y16, .int 0, .ref y18, .ref y19, .ref y20, .ref y21, .ref y22, .ref y23, .ref y24, .ref y25, .ref y26, .ref y27, .ref y28, .ref y29, .ref y30, .ref y31, .ref y32, .ref y33, .ref y34, .ref y35, .ref y36, .ref y37, .ref y38, .ref y39, .ref y40, .ref y41, .ref y42, .ref y43, .ref y44, .ref y45, .ref y46, .int y47, .ref y48, .ref y49, .int y50, .int y51, .int y52, .int y53, .long y54, .int y55, .ref y56, .ref y57, .ref y58, .ref y59]))] (TY cT) sz) (va_Qi (fun (r : Int32) (_ : Nat → Nat) => r = 0) (BW D vwCl (va_A [(y, .inr (11, [.ref y0, .int y1, .int y2, .int y3, .ref y4, .ref y5, .ref y6, .ref y7, .ref y8, .ref y9, .int y10, .int y11, .int y12, .int y13, .int y14, .long y15, .int y16, .int 0, .ref y18, .ref y19, .ref y20, .ref y21, .ref y22, .ref y23, .ref y24, .ref y25, .ref y26, .ref y27, .ref y28, .ref y29, .ref y30, .ref y31, .ref y32, .ref y33, .ref y34, .ref y35, .ref y36, .ref y37, .ref y38, .ref y39, .ref y40, .ref y41, .ref y42, .ref y43, .ref y44, .ref y45, .ref y46, .int y47, .ref y48, .ref y49, .int y50, .int y51, .int y52, .int y53, .long y54, .int y55, .ref y56, .ref y57, .ref y58, .ref y59]))] sz) (fun u => [(y, .inr (11, [.ref y0, .int 1, .int y2, .int y3, .ref y4, .ref y5, .ref y6, .ref y7, .ref y8, .ref y9, .int y10, .int y11, .int y12, .int y13, .int y14, .long y15, .int y16, .int 0, .ref y18, .ref y19, .ref y20, .ref y21, .ref y22, .ref y23, .ref y24, .ref y25, .ref y26, .ref y27, .ref y28, .ref y29, .ref y30, .ref y31, .ref y32, .ref y33, .ref y34, .ref y35, .ref y36, .ref y37, .ref y38, .ref y39, .ref y40, .ref y41, .ref y42, .ref y43, .ref y44, .ref y45, .ref y46, .int y47, .ref y48, .ref y49, .int y50, .int y51, .int y52, .int y53, .long y54, .int y55, .ref y56, .ref y57, .ref y58, .ref y59]))])) (va_A [(y, .inr (11, [.ref y0, .int y1, .int y2, .int y3, .ref y4, .ref y5, .ref y6, .ref y7, .ref y8, .ref y9, .int y10, .int y11, .int y12, .int y13, .int y14, .long y15, .int y16, .int 0, .ref y18, .ref y19, .ref y20, .ref y21, .ref y22, .ref y23, .ref y24, .ref y25, .ref y26, .ref y27, .ref y28, .ref y29, .ref y30, .ref y31, .ref y32, .ref y33, .ref y34, .ref y35, .ref y36, .ref y37, .ref y38, .ref y39, .ref y40, .ref y41, .ref y42, .ref y43, .ref y44, .ref y45, .ref y46, .int y47, .ref y48, .ref y49, .int y50, .int y51, .int y52, .int y53, .long y54, .int y55, .ref y56, .ref y57, .ref y58, .ref y59]))] sz)) 0 0 (va_A [(y, .inr (11, [.ref y0, .int y1, .int y2, .int y3, .ref y4, .ref y5, .ref y6, .ref y7, .ref y8, .ref y9, .int y10, .int y11, .int y12, .int y13, .int y14, .long y15, .int y16, .int 0, .ref y18, .ref y19, .ref y20, .ref y21, .ref y22, .ref y23, .ref y24, .ref y25, .ref y26, .ref y27, .ref y28, .ref y29, .ref y30, .ref y31, .ref y32, .ref y33, .ref y34, .ref y35, .ref y36, .ref y37, .ref y38, .ref y39, .ref y40, .ref y41, .ref y42, .ref y43, .ref y44, .ref y45, .ref y46, .int y47, .ref y48, .ref y49, .int y50, .int y51, .int y52, .int y53, .long y54, .int y55, .ref y56, .ref y57, .ref y58, .ref y59]))] sz) := by
  refine Met.ofW (cc := cM_error) (maxL := 4) (ret := (some .int)) (by decide) rfl ?_
  intro p e s m args below meth c s₁ B hml hv
  obtain ⟨rfl, hsz, hZ, hP, hK, hD0⟩ := hv
  have hx := B.exec
  have hb := B.bytes
  have hr := B.returns
  have hts := atoms_spec (ws := WM_error) B.pre
  have hT : ∀ w ∈ TB, w.before _ s = true := fun w h => hts w (List.mem_cons_of_mem _ h)
  have hown : s.vm.findClass R_M = some m.cls := findClass_of_methodNamed B.named
  have hlocks := B.notSynchronized
  subst hsz
  have hD := hD0.self (sz := s.heap.size)
  generalize hAe : va_A [(y, .inr (11, [.ref y0, .int y1, .int y2, .int y3, .ref y4, .ref y5, .ref y6, .ref y7, .ref y8, .ref y9, .int y10, .int y11, .int y12, .int y13, .int y14, .long y15, .int y16, .int 0, .ref y18, .ref y19, .ref y20, .ref y21, .ref y22, .ref y23, .ref y24, .ref y25, .ref y26, .ref y27, .ref y28, .ref y29, .ref y30, .ref y31, .ref y32, .ref y33, .ref y34, .ref y35, .ref y36, .ref y37, .ref y38, .ref y39, .ref y40, .ref y41, .ref y42, .ref y43, .ref y44, .ref y45, .ref y46, .int y47, .ref y48, .ref y49, .int y50, .int y51, .int y52, .int y53, .long y54, .int y55, .ref y56, .ref y57, .ref y58, .ref y59]))] s.heap.size = A at hD hZ ⊢
  have hA : ∀ q : Nat, s.heap.size ≤ q → A q := fun q h => by rw [← hAe]; exact Or.inr h
  have hS : va_S A s.heap s.heap [] := va_S.rf
  have hl := lv_entry ([.ref y, .long a1, .int a2]) (n := 4) (Nat.le_of_ble_eq_true rfl)
  rw [lg_entry_eq]
  generalize (lg_sl ([.ref y, .long a1, .int a2]) ++ List.replicate (4 - (lg_sl ([.ref y, .long a1, .int a2])).length) Slot.unset).toArray = ls at hl ⊢
  have hl : lv_has ls 4 [(0, .ref y), (1, .long a1), (3, .int a2)] := hl
  refine lv_aload_n hx hb dM_error_0 rfl (lv_at hl 0 rfl) ?_
  refine lv_iload_n hx hb dM_error_1 rfl (lv_at hl 2 rfl) ?_
  refine lv_iconst (v := 0) hx hb dM_error_2 (by decide) ?_
  refine lv_aload_n hx hb dM_error_3 rfl (lv_at hl 0 rfl) ?_
  refine va_get (D := D) (ci := 11) (v := .int 0) (C := R_M) (T := T_M) (N := 60) hx hb hT in_M hown hK hP 0 rfl rfl 17 (by decide) (hT _ w1121) (fun _ h9 => h9) rfl dM_error_4 ?_
  refine ro_i (va_Run.run (va_runS (As := [.int a2, .int 0, .int 0]) (rest := [.ref y]) ⟨hx, hb, hml, hown, hT⟩ (y_in l D cT a2 0 0) ⟨callB_of 3 hT (tb_gd w1297) rfl rfl rfl (hT _ w13) (hT _ w1295) hM_in ⟨Nat.le_of_ble_eq_true rfl, Nat.le_of_ble_eq_true rfl⟩, (hT _ w1296)⟩ (RO.preS hZ hS ((show va_P D vwCl [] _ from fun _ _ h => nomatch h)) hK) rfl rfl hl.1 rfl (lv_room (Nat.le_of_ble_eq_true rfl)) dM_error_7 ⟨Nat.le_of_ble_eq_true rfl, Nat.le_of_ble_eq_true rfl⟩)) ?_
  refine lv_if_eq (tgt := 17) hx hb dM_error_10 rfl (fun _ => ?_) (fun hj1 => absurd (bi_f hq) hj1)
  refine lv_iconst (v := 1) hx hb dM_error_17 (by decide) ?_
  refine rw_i (wc := [(y, .inr (11, [.ref y0, .int y1, .int y2, .int y3, .ref y4, .ref y5, .ref y6, .ref y7, .ref y8, .ref y9, .int y10, .int y11, .int y12, .int y13, .int y14, .long y15, .int y16, .int 0, .ref y18, .ref y19, .ref y20, .ref y21, .ref y22, .ref y23, .ref y24, .ref y25, .ref y26, .ref y27, .ref y28, .ref y29, .ref y30, .ref y31, .ref y32, .ref y33, .ref y34, .ref y35, .ref y36, .ref y37, .ref y38, .ref y39, .ref y40, .ref y41, .ref y42, .ref y43, .ref y44, .ref y45, .ref y46, .int y47, .ref y48, .ref y49, .int y50, .int y51, .int y52, .int y53, .long y54, .int y55, .ref y56, .ref y57, .ref y58, .ref y59]))]) (wr := []) hP hD hS hA [0] [] rfl rfl (by decide) (by decide) (va_runV (As := [.int 1]) (rest := []) ⟨hx, hb, hml, hown, hT⟩ (y_refused1 l D cT y y0 y1 y2 y3 y4 y5 y6 y7 y8 y9 y10 y11 y12 y13 y14 y15 y16 0 y18 y19 y20 y21 y22 y23 y24 y25 y26 y27 y28 y29 y30 y31 y32 y33 y34 y35 y36 y37 y38 y39 y40 y41 y42 y43 y44 y45 y46 y47 y48 y49 y50 y51 y52 y53 y54 y55 y56 y57 y58 y59 _) ⟨callB_of 1 hT (tb_gd w1301) rfl rfl rfl (hT _ w13) (hT _ w1298) hM_refused ⟨Nat.le_of_ble_eq_true rfl, Nat.le_of_ble_eq_true rfl⟩, (hT _ w1300), (hT _ wp29)⟩ (RW.preV (ci := 11) (q0 := 0) hZ hS (va_free (wc := [(y, .inr (11, [.ref y0, .int y1, .int y2, .int y3, .ref y4, .ref y5, .ref y6, .ref y7, .ref y8, .ref y9, .int y10, .int y11, .int y12, .int y13, .int y14, .long y15, .int y16, .int 0, .ref y18, .ref y19, .ref y20, .ref y21, .ref y22, .ref y23, .ref y24, .ref y25, .ref y26, .ref y27, .ref y28, .ref y29, .ref y30, .ref y31, .ref y32, .ref y33, .ref y34, .ref y35, .ref y36, .ref y37, .ref y38, .ref y39, .ref y40, .ref y41, .ref y42, .ref y43, .ref y44, .ref y45, .ref y46, .int y47, .ref y48, .ref y49, .int y50, .int y51, .int y52, .int y53, .long y54, .int y55, .ref y56, .ref y57, .ref y58, .ref y59]))]) hD hS hA [0] rfl) (hP.sub (ws' := [(y, .inr (11, [.ref y0, .int y1, .int y2, .int y3, .ref y4, .ref y5, .ref y6, .ref y7, .ref y8, .ref y9, .int y10, .int y11, .int y12, .int y13, .int y14, .long y15, .int y16, .int 0, .ref y18, .ref y19, .ref y20, .ref y21, .ref y22, .ref y23, .ref y24, .ref y25, .ref y26, .ref y27, .ref y28, .ref y29, .ref y30, .ref y31, .ref y32, .ref y33, .ref y34, .ref y35, .ref y36, .ref y37, .ref y38, .ref y39, .ref y40, .ref y41, .ref y42, .ref y43, .ref y44, .ref y45, .ref y46, .int y47, .ref y48, .ref y49, .int y50, .int y51, .int y52, .int y53, .long y54, .int y55, .ref y56, .ref y57, .ref y58, .ref y59]))]) [0] rfl) hK (hD.sub (ws' := [(y, .inr (11, [.ref y0, .int y1, .int y2, .int y3, .ref y4, .ref y5, .ref y6, .ref y7, .ref y8, .ref y9, .int y10, .int y11, .int y12, .int y13, .int y14, .long y15, .int y16, .int 0, .ref y18, .ref y19, .ref y20, .ref y21, .ref y22, .ref y23, .ref y24, .ref y25, .ref y26, .ref y27, .ref y28, .ref y29, .ref y30, .ref y31, .ref y32, .ref y33, .ref y34, .ref y35, .ref y36, .ref y37, .ref y38, .ref y39, .ref y40, .ref y41, .ref y42, .ref y43, .ref y44, .ref y45, .ref y46, .int y47, .ref y48, .ref y49, .int y50, .int y51, .int y52, .int y53, .long y54, .int y55, .ref y56, .ref y57, .ref y58, .ref y59]))]) [0] (by decide) rfl) rfl rfl) rfl rfl hl.1 rfl (lv_room (Nat.le_of_ble_eq_true rfl)) dM_error_18 ⟨Nat.le_of_ble_eq_true rfl, Nat.le_of_ble_eq_true rfl⟩) (fun ru2 u2 H locs hpu2 hP hD hS => ?_)
  have hP : va_P D vwCl [(y, .inr (11, [.ref y0, .int 1, .int y2, .int y3, .ref y4, .ref y5, .ref y6, .ref y7, .ref y8, .ref y9, .int y10, .int y11, .int y12, .int y13, .int y14, .long y15, .int y16, .int 0, .ref y18, .ref y19, .ref y20, .ref y21, .ref y22, .ref y23, .ref y24, .ref y25, .ref y26, .ref y27, .ref y28, .ref y29, .ref y30, .ref y31, .ref y32, .ref y33, .ref y34, .ref y35, .ref y36, .ref y37, .ref y38, .ref y39, .ref y40, .ref y41, .ref y42, .ref y43, .ref y44, .ref y45, .ref y46, .int y47, .ref y48, .ref y49, .int y50, .int y51, .int y52, .int y53, .long y54, .int y55, .ref y56, .ref y57, .ref y58, .ref y59]))] H := hP
  have hD : va_D A [(y, .inr (11, [.ref y0, .int 1, .int y2, .int y3, .ref y4, .ref y5, .ref y6, .ref y7, .ref y8, .ref y9, .int y10, .int y11, .int y12, .int y13, .int y14, .long y15, .int y16, .int 0, .ref y18, .ref y19, .ref y20, .ref y21, .ref y22, .ref y23, .ref y24, .ref y25, .ref y26, .ref y27, .ref y28, .ref y29, .ref y30, .ref y31, .ref y32, .ref y33, .ref y34, .ref y35, .ref y36, .ref y37, .ref y38, .ref y39, .ref y40, .ref y41, .ref y42, .ref y43, .ref y44, .ref y45, .ref y46, .int y47, .ref y48, .ref y49, .int y50, .int y51, .int y52, .int y53, .long y54, .int y55, .ref y56, .ref y57, .ref y58, .ref y59]))] := hD
  rw [hpu2]
  refine lv_if_eq (tgt := 26) hx hb dM_error_21 rfl (fun hj3 => absurd hj3 (by decide)) (fun _ => ?_)
  refine lv_iconst (v := 0) hx hb dM_error_24 (by decide) ?_
  have hP9 := hP.sub (ws' := [(y, .inr (11, [.ref y0, .int 1, .int y2, .int y3, .ref y4, .ref y5, .ref y6, .ref y7, .ref y8, .ref y9, .int y10, .int y11, .int y12, .int y13, .int y14, .long y15, .int y16, .int 0, .ref y18, .ref y19, .ref y20, .ref y21, .ref y22, .ref y23, .ref y24, .ref y25, .ref y26, .ref y27, .ref y28, .ref y29, .ref y30, .ref y31, .ref y32, .ref y33, .ref y34, .ref y35, .ref y36, .ref y37, .ref y38, .ref y39, .ref y40, .ref y41, .ref y42, .ref y43, .ref y44, .ref y45, .ref y46, .int y47, .ref y48, .ref y49, .int y50, .int y51, .int y52, .int y53, .long y54, .int y55, .ref y56, .ref y57, .ref y58, .ref y59]))]) [0] rfl
  have hD9 := hD.sub (ws' := [(y, .inr (11, [.ref y0, .int 1, .int y2, .int y3, .ref y4, .ref y5, .ref y6, .ref y7, .ref y8, .ref y9, .int y10, .int y11, .int y12, .int y13, .int y14, .long y15, .int y16, .int 0, .ref y18, .ref y19, .ref y20, .ref y21, .ref y22, .ref y23, .ref y24, .ref y25, .ref y26, .ref y27, .ref y28, .ref y29, .ref y30, .ref y31, .ref y32, .ref y33, .ref y34, .ref y35, .ref y36, .ref y37, .ref y38, .ref y39, .ref y40, .ref y41, .ref y42, .ref y43, .ref y44, .ref y45, .ref y46, .int y47, .ref y48, .ref y49, .int y50, .int y51, .int y52, .int y53, .long y54, .int y55, .ref y56, .ref y57, .ref y58, .ref y59]))]) [0] (by decide) rfl
  refine W.widen (k := 0) (n := 0) (Nat.le_of_ble_eq_true rfl) (Nat.le_of_ble_eq_true rfl) ?_
  exact W.iret (v := 0) hx hb hr (fun t ht hW => ⟨⟨0, (fun _ => 0), rfl, rfl, by rw [ht]; exact hP9, hD9⟩, hS.F ht⟩) hS.2.2 dM_error_25
set_option maxHeartbeats 4000000 in
set_option maxRecDepth 100000 in
theorem y_byteAt (l : Launch) (D : va_G) (cT : Nat → ClassId) (y : Nat) (y0 : Nat) (y1 : Int32) (y2 : Int32) (y3 : Int32) (y4 : Nat) (y5 : Nat) (y6 : Nat) (y7 : Nat) (y8 : Nat) (y9 : Nat) (y10 : Int32) (y11 : Int32) (y12 : Int32) (y13 : Int32) (y14 : Int32) (y15 : Int64) (y16 : Int32) (y17 : Int32) (y18 : Nat) (y19 : Nat) (y20 : Nat) (y21 : Nat) (y22 : Nat) (y23 : Nat) (y24 : Nat) (y25 : Nat) (y26 : Nat) (y27 : Nat) (y28 : Nat) (y29 : Nat) (y30 : Nat) (y31 : Nat) (y32 : Nat) (y33 : Nat) (y34 : Nat) (y35 : Nat) (y36 : Nat) (y37 : Nat) (y38 : Nat) (y39 : Nat) (y40 : Nat) (y41 : Nat) (y42 : Nat) (y43 : Nat) (y44 : Nat) (y45 : Nat) (y46 : Nat) (y48 : Nat) (y49 : Nat) (y50 : Int32) (y51 : Int32) (y52 : Int32) (y53 : Int32) (y54 : Int64) (y55 : Int32) (y56 : Nat) (y57 : Nat) (y58 : Nat) (y59 : Nat) (a1 : Int32) (sz : Nat) : Met l yM_byteAt WM_byteAt ({ frames := 0, cells := 0, slots := 0, locals := 0 } : Room) (RW D vwCl [.ref y, .int a1] [(y, .inr (11, [.ref y0, .int y1, .int y2, .int y3, .ref y4, .ref y5, .ref y6, .ref y7, .ref y8, .ref y9, .int y10, .int y11, .int y12, .int y13, .int y14, .long y15, .int y16, .int y17, .ref y18, .ref y19, .ref y20, .ref y21, .ref y22, .ref y23, .ref y24, .ref y25, .ref y26, .ref y27, .ref y28, .ref y29, .ref y30, .ref y31, .ref y32, .ref y33, .ref y34, .ref y35, .ref y36, .ref y37, .ref y38, .ref y39, .ref y40, .ref y41, .ref y42, .ref y43, .ref y44, .ref y45, .ref y46, .int 0, .ref y48, .ref y49, .int y50, .int y51, .int y52, .int y53, .long y54, .int y55, .ref y56, .ref y57, .ref y58, .ref y59]))] (TY cT) sz) (va_Qi (fun (r : Int32) (_ : Nat → Nat) => r = (-1)) (BW D vwCl (va_A [(y, .inr (11, [.ref y0, .int y1, .int y2, .int y3, .ref y4, .ref y5, .ref y6, .ref y7, .ref y8, .ref y9, .int y10, .int y11, .int y12, .int y13, .int y14, .long y15, .int y16, .int y17, .ref y18, .ref y19, .ref y20, .ref y21, .ref y22, .ref y23, .ref y24, .ref y25, .ref y26, .ref y27, .ref y28, .ref y29, .ref y30, .ref y31, .ref y32, .ref y33, .ref y34, .ref y35, .ref y36, .ref y37, .ref y38, .ref y39, .ref y40, .ref y41, .ref y42, .ref y43, .ref y44, .ref y45, .ref y46, .int 0, .ref y48, .ref y49, .int y50, .int y51, .int y52, .int y53, .long y54, .int y55, .ref y56, .ref y57, .ref y58, .ref y59]))] sz) (fun u => [(y, .inr (11, [.ref y0, .int 0, .int y2, .int y3, .ref y4, .ref y5, .ref y6, .ref y7, .ref y8, .ref y9, .int y10, .int y11, .int y12, .int y13, .int y14, .long y15, .int y16, .int y17, .ref y18, .ref y19, .ref y20, .ref y21, .ref y22, .ref y23, .ref y24, .ref y25, .ref y26, .ref y27, .ref y28, .ref y29, .ref y30, .ref y31, .ref y32, .ref y33, .ref y34, .ref y35, .ref y36, .ref y37, .ref y38, .ref y39, .ref y40, .ref y41, .ref y42, .ref y43, .ref y44, .ref y45, .ref y46, .int 0, .ref y48, .ref y49, .int y50, .int y51, .int y52, .int y53, .long y54, .int y55, .ref y56, .ref y57, .ref y58, .ref y59]))])) (va_A [(y, .inr (11, [.ref y0, .int y1, .int y2, .int y3, .ref y4, .ref y5, .ref y6, .ref y7, .ref y8, .ref y9, .int y10, .int y11, .int y12, .int y13, .int y14, .long y15, .int y16, .int y17, .ref y18, .ref y19, .ref y20, .ref y21, .ref y22, .ref y23, .ref y24, .ref y25, .ref y26, .ref y27, .ref y28, .ref y29, .ref y30, .ref y31, .ref y32, .ref y33, .ref y34, .ref y35, .ref y36, .ref y37, .ref y38, .ref y39, .ref y40, .ref y41, .ref y42, .ref y43, .ref y44, .ref y45, .ref y46, .int 0, .ref y48, .ref y49, .int y50, .int y51, .int y52, .int y53, .long y54, .int y55, .ref y56, .ref y57, .ref y58, .ref y59]))] sz)) 0 0 (va_A [(y, .inr (11, [.ref y0, .int y1, .int y2, .int y3, .ref y4, .ref y5, .ref y6, .ref y7, .ref y8, .ref y9, .int y10, .int y11, .int y12, .int y13, .int y14, .long y15, .int y16, .int y17, .ref y18, .ref y19, .ref y20, .ref y21, .ref y22, .ref y23, .ref y24, .ref y25, .ref y26, .ref y27, .ref y28, .ref y29, .ref y30, .ref y31, .ref y32, .ref y33, .ref y34, .ref y35, .ref y36, .ref y37, .ref y38, .ref y39, .ref y40, .ref y41, .ref y42, .ref y43, .ref y44, .ref y45, .ref y46, .int 0, .ref y48, .ref y49, .int y50, .int y51, .int y52, .int y53, .long y54, .int y55, .ref y56, .ref y57, .ref y58, .ref y59]))] sz) := by
  refine Met.ofW (cc := cM_byteAt) (maxL := 2) (ret := (some .int)) (by decide) rfl ?_
  intro p e s m args below meth c s₁ B hml hv
  obtain ⟨rfl, hsz, hZ, hP, hK, hD0⟩ := hv
  have hx := B.exec
  have hb := B.bytes
  have hr := B.returns
  have hts := atoms_spec (ws := WM_byteAt) B.pre
  have hT : ∀ w ∈ TB, w.before _ s = true := fun w h => hts w (List.mem_cons_of_mem _ h)
  have hown : s.vm.findClass R_M = some m.cls := findClass_of_methodNamed B.named
  have hlocks := B.notSynchronized
  subst hsz
  have hD := hD0.self (sz := s.heap.size)
  generalize hAe : va_A [(y, .inr (11, [.ref y0, .int y1, .int y2, .int y3, .ref y4, .ref y5, .ref y6, .ref y7, .ref y8, .ref y9, .int y10, .int y11, .int y12, .int y13, .int y14, .long y15, .int y16, .int y17, .ref y18, .ref y19, .ref y20, .ref y21, .ref y22, .ref y23, .ref y24, .ref y25, .ref y26, .ref y27, .ref y28, .ref y29, .ref y30, .ref y31, .ref y32, .ref y33, .ref y34, .ref y35, .ref y36, .ref y37, .ref y38, .ref y39, .ref y40, .ref y41, .ref y42, .ref y43, .ref y44, .ref y45, .ref y46, .int 0, .ref y48, .ref y49, .int y50, .int y51, .int y52, .int y53, .long y54, .int y55, .ref y56, .ref y57, .ref y58, .ref y59]))] s.heap.size = A at hD hZ ⊢
  have hA : ∀ q : Nat, s.heap.size ≤ q → A q := fun q h => by rw [← hAe]; exact Or.inr h
  have hS : va_S A s.heap s.heap [] := va_S.rf
  have hl := lv_entry ([.ref y, .int a1]) (n := 2) (Nat.le_of_ble_eq_true rfl)
  rw [lg_entry_eq]
  generalize (lg_sl ([.ref y, .int a1]) ++ List.replicate (2 - (lg_sl ([.ref y, .int a1])).length) Slot.unset).toArray = ls at hl ⊢
  have hl : lv_has ls 2 [(0, .ref y), (1, .int a1)] := hl
  refine lv_aload_n hx hb dM_byteAt_0 rfl (lv_at hl 0 rfl) ?_
  refine lv_iconst (v := 0) hx hb dM_byteAt_1 (by decide) ?_
  refine va_put (D := D) (ci := 11) (v := .int 0) (ty := .int) (C := R_M) (T := T_M) (N := 60) hx hb hT in_M ty_M ty_M_ok m_M hown hK hP hD hS 0 rfl rfl 1 (by decide) (hT _ w1105) (fun _ h9 => h9) rfl (by decide +kernel) rfl rfl (Nat.le_of_ble_eq_true rfl) dM_byteAt_2 (fun H locs hP hD hS => ?_)
  have hP : va_P D vwCl [(y, .inr (11, [.ref y0, .int 0, .int y2, .int y3, .ref y4, .ref y5, .ref y6, .ref y7, .ref y8, .ref y9, .int y10, .int y11, .int y12, .int y13, .int y14, .long y15, .int y16, .int y17, .ref y18, .ref y19, .ref y20, .ref y21, .ref y22, .ref y23, .ref y24, .ref y25, .ref y26, .ref y27, .ref y28, .ref y29, .ref y30, .ref y31, .ref y32, .ref y33, .ref y34, .ref y35, .ref y36, .ref y37, .ref y38, .ref y39, .ref y40, .ref y41, .ref y42, .ref y43, .ref y44, .ref y45, .ref y46, .int 0, .ref y48, .ref y49, .int y50, .int y51, .int y52, .int y53, .long y54, .int y55, .ref y56, .ref y57, .ref y58, .ref y59]))] H := hP
  have hD : va_D A [(y, .inr (11, [.ref y0, .int 0, .int y2, .int y3, .ref y4, .ref y5, .ref y6, .ref y7, .ref y8, .ref y9, .int y10, .int y11, .int y12, .int y13, .int y14, .long y15, .int y16, .int y17, .ref y18, .ref y19, .ref y20, .ref y21, .ref y22, .ref y23, .ref y24, .ref y25, .ref y26, .ref y27, .ref y28, .ref y29, .ref y30, .ref y31, .ref y32, .ref y33, .ref y34, .ref y35, .ref y36, .ref y37, .ref y38, .ref y39, .ref y40, .ref y41, .ref y42, .ref y43, .ref y44, .ref y45, .ref y46, .int 0, .ref y48, .ref y49, .int y50, .int y51, .int y52, .int y53, .long y54, .int y55, .ref y56, .ref y57, .ref y58, .ref y59]))] := hD
  refine lv_iload_n hx hb dM_byteAt_5 rfl (lv_at hl 1 rfl) ?_
  refine lv_if_lt (tgt := 17) hx hb dM_byteAt_6 rfl (fun hj1 => ?_) (fun hj1 => ?_)
  · refine lv_iconst (v := (-1)) hx hb dM_byteAt_17 (by decide) ?_
    refine lv_goto (tgt := 27) hx hb dM_byteAt_18 rfl ?_
    have hP9 := hP.sub (ws' := [(y, .inr (11, [.ref y0, .int 0, .int y2, .int y3, .ref y4, .ref y5, .ref y6, .ref y7, .ref y8, .ref y9, .int y10, .int y11, .int y12, .int y13, .int y14, .long y15, .int y16, .int y17, .ref y18, .ref y19, .ref y20, .ref y21, .ref y22, .ref y23, .ref y24, .ref y25, .ref y26, .ref y27, .ref y28, .ref y29, .ref y30, .ref y31, .ref y32, .ref y33, .ref y34, .ref y35, .ref y36, .ref y37, .ref y38, .ref y39, .ref y40, .ref y41, .ref y42, .ref y43, .ref y44, .ref y45, .ref y46, .int 0, .ref y48, .ref y49, .int y50, .int y51, .int y52, .int y53, .long y54, .int y55, .ref y56, .ref y57, .ref y58, .ref y59]))]) [0] rfl
    have hD9 := hD.sub (ws' := [(y, .inr (11, [.ref y0, .int 0, .int y2, .int y3, .ref y4, .ref y5, .ref y6, .ref y7, .ref y8, .ref y9, .int y10, .int y11, .int y12, .int y13, .int y14, .long y15, .int y16, .int y17, .ref y18, .ref y19, .ref y20, .ref y21, .ref y22, .ref y23, .ref y24, .ref y25, .ref y26, .ref y27, .ref y28, .ref y29, .ref y30, .ref y31, .ref y32, .ref y33, .ref y34, .ref y35, .ref y36, .ref y37, .ref y38, .ref y39, .ref y40, .ref y41, .ref y42, .ref y43, .ref y44, .ref y45, .ref y46, .int 0, .ref y48, .ref y49, .int y50, .int y51, .int y52, .int y53, .long y54, .int y55, .ref y56, .ref y57, .ref y58, .ref y59]))]) [0] (by decide) rfl
    refine W.widen (k := 0) (n := 0) (Nat.le_of_ble_eq_true rfl) (Nat.le_of_ble_eq_true rfl) ?_
    exact W.iret (v := (-1)) hx hb hr (fun t ht hW => ⟨⟨(-1), (fun _ => 0), rfl, rfl, by rw [ht]; exact hP9, hD9⟩, hS.F ht⟩) hS.2.2 dM_byteAt_27
  · refine lv_iload_n hx hb dM_byteAt_9 rfl (lv_at hl 1 rfl) ?_
    refine lv_aload_n hx hb dM_byteAt_10 rfl (lv_at hl 0 rfl) ?_
    refine va_get (D := D) (ci := 11) (v := .int 0) (C := R_M) (T := T_M) (N := 60) hx hb hT in_M hown hK hP 0 rfl rfl 47 (by decide) (hT _ w1151) (fun _ h9 => h9) rfl dM_byteAt_11 ?_
    refine lv_icmp_lt (tgt := 21) hx hb dM_byteAt_14 rfl (fun hj2 => absurd hj2 (Int32.not_lt.mpr (Int32.not_lt.mp hj1))) (fun _ => ?_)
    refine lv_iconst (v := (-1)) hx hb dM_byteAt_17 (by decide) ?_
    refine lv_goto (tgt := 27) hx hb dM_byteAt_18 rfl ?_
    have hP9 := hP.sub (ws' := [(y, .inr (11, [.ref y0, .int 0, .int y2, .int y3, .ref y4, .ref y5, .ref y6, .ref y7, .ref y8, .ref y9, .int y10, .int y11, .int y12, .int y13, .int y14, .long y15, .int y16, .int y17, .ref y18, .ref y19, .ref y20, .ref y21, .ref y22, .ref y23, .ref y24, .ref y25, .ref y26, .ref y27, .ref y28, .ref y29, .ref y30, .ref y31, .ref y32, .ref y33, .ref y34, .ref y35, .ref y36, .ref y37, .ref y38, .ref y39, .ref y40, .ref y41, .ref y42, .ref y43, .ref y44, .ref y45, .ref y46, .int 0, .ref y48, .ref y49, .int y50, .int y51, .int y52, .int y53, .long y54, .int y55, .ref y56, .ref y57, .ref y58, .ref y59]))]) [0] rfl
    have hD9 := hD.sub (ws' := [(y, .inr (11, [.ref y0, .int 0, .int y2, .int y3, .ref y4, .ref y5, .ref y6, .ref y7, .ref y8, .ref y9, .int y10, .int y11, .int y12, .int y13, .int y14, .long y15, .int y16, .int y17, .ref y18, .ref y19, .ref y20, .ref y21, .ref y22, .ref y23, .ref y24, .ref y25, .ref y26, .ref y27, .ref y28, .ref y29, .ref y30, .ref y31, .ref y32, .ref y33, .ref y34, .ref y35, .ref y36, .ref y37, .ref y38, .ref y39, .ref y40, .ref y41, .ref y42, .ref y43, .ref y44, .ref y45, .ref y46, .int 0, .ref y48, .ref y49, .int y50, .int y51, .int y52, .int y53, .long y54, .int y55, .ref y56, .ref y57, .ref y58, .ref y59]))]) [0] (by decide) rfl
    refine W.widen (k := 0) (n := 0) (Nat.le_of_ble_eq_true rfl) (Nat.le_of_ble_eq_true rfl) ?_
    exact W.iret (v := (-1)) hx hb hr (fun t ht hW => ⟨⟨(-1), (fun _ => 0), rfl, rfl, by rw [ht]; exact hP9, hD9⟩, hS.F ht⟩) hS.2.2 dM_byteAt_27
