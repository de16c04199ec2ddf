set_option maxHeartbeats 4000000 in
set_option maxRecDepth 100000 in
theorem k_setVal (l : Launch) (D : va_G) (cT : Nat → ClassId) (t9 : Nat) (tl : Nat) (tk : Int32) (wt : Nat) (ru : Nat) (rl : Nat) (sc : Nat) (vl : Nat) (vlw : Nat) (vln : Int32) (vlb : Int32) (vlf : Nat → Int32) (nd : Nat) (nq0 : Int32) (nq1 : Int32) (nq2 : Int32) (nq3 : Int32) (nq4 : Int32) (nq5 : Int32) (nq6 : Int32) (nq7 : Int32) (ns : Nat) (nsw : Nat) (nsn : Int32) (nsb : Int32) (nsf : Nat → Int32) (nr : Nat) (SS : Int) (lv : Int) (hru : ru ≤ 16) (hrl : rl ≤ 16) (hrl0 : 0 < rl) (hwt : wt ≤ 20) (hnr : nq6 = nI nr) (hnr2 : 1 ≤ nr ∧ nr ≤ 48) (hsc : sc ≤ 1788279292800) (hNs : WN 24 nsn nsb nsf (SS)) (hv9 : lv * ((rl * (nr + wt) : Nat) : Int) = SS * ((ru * sc : Nat) : Int)) (hfit : SS.natAbs * (ru * sc + 1) < 1000000000 ^ 24) (sz : Nat) : Met l yTr_setToValue WTr_setToValue ({ frames := 2, cells := 0, slots := 0, locals := 61 } : Room) (RW D vwCl [.ref t9, .ref vl, .ref nd] [(t9, .inr (9, [.ref tl, .int tk, .int (nI wt), .int (nI ru), .int (nI rl), .long (lN sc)])), (vl, .inr (4, [.ref vlw, .int vln, .int vlb])), (vlw, .inl (cT 0, 24, .inl vlf)), (nd, .inr (10, [.int nq0, .int nq1, .int nq2, .int nq3, .int nq4, .int nq5, .int nq6, .int nq7, .ref ns])), (ns, .inr (4, [.ref nsw, .int nsn, .int nsb])), (nsw, .inl (cT 0, 24, .inl nsf))] (TY cT) sz) (va_Qv (fun u9 : Int32 × Int32 × (Nat → Int32) => WN 24 u9.1 u9.2.1 u9.2.2 (lv)) (BW D vwCl (va_A [(t9, .inr (9, [.ref tl, .int tk, .int (nI wt), .int (nI ru), .int (nI rl), .long (lN sc)])), (vl, .inr (4, [.ref vlw, .int vln, .int vlb])), (vlw, .inl (cT 0, 24, .inl vlf)), (nd, .inr (10, [.int nq0, .int nq1, .int nq2, .int nq3, .int nq4, .int nq5, .int nq6, .int nq7, .ref ns])), (ns, .inr (4, [.ref nsw, .int nsn, .int nsb])), (nsw, .inl (cT 0, 24, .inl nsf))] sz) (fun u9 : Int32 × Int32 × (Nat → Int32) => [(t9, .inr (9, [.ref tl, .int tk, .int (nI wt), .int (nI ru), .int (nI rl), .long (lN sc)])), (vl, .inr (4, [.ref vlw, .int u9.1, .int u9.2.1])), (vlw, .inl (cT 0, 24, .inl u9.2.2)), (nd, .inr (10, [.int nq0, .int nq1, .int nq2, .int nq3, .int nq4, .int nq5, .int nq6, .int nq7, .ref ns])), (ns, .inr (4, [.ref nsw, .int nsn, .int nsb])), (nsw, .inl (cT 0, 24, .inl nsf))])) (va_A [(t9, .inr (9, [.ref tl, .int tk, .int (nI wt), .int (nI ru), .int (nI rl), .long (lN sc)])), (vl, .inr (4, [.ref vlw, .int vln, .int vlb])), (vlw, .inl (cT 0, 24, .inl vlf)), (nd, .inr (10, [.int nq0, .int nq1, .int nq2, .int nq3, .int nq4, .int nq5, .int nq6, .int nq7, .ref ns])), (ns, .inr (4, [.ref nsw, .int nsn, .int nsb])), (nsw, .inl (cT 0, 24, .inl nsf))] sz)) 0 0 (va_A [(t9, .inr (9, [.ref tl, .int tk, .int (nI wt), .int (nI ru), .int (nI rl), .long (lN sc)])), (vl, .inr (4, [.ref vlw, .int vln, .int vlb])), (vlw, .inl (cT 0, 24, .inl vlf)), (nd, .inr (10, [.int nq0, .int nq1, .int nq2, .int nq3, .int nq4, .int nq5, .int nq6, .int nq7, .ref ns])), (ns, .inr (4, [.ref nsw, .int nsn, .int nsb])), (nsw, .inl (cT 0, 24, .inl nsf))] sz) := by
  refine Met.ofW (cc := cTr_setToValue) (maxL := 6) (ret := none) (by decide) rfl ?_
  intro p e s m args below meth c s₁ B hml hv
  obtain ⟨rfl, hsz, hZ, hP, hK, hD0⟩ := hv
  have hx := B.exec
  have hb := B.bytes
  have hr := B.returns
  have hts := atoms_spec (ws := WTr_setToValue) B.pre
  have hT : ∀ w ∈ TB, w.before _ s = true := fun w h => hts w (List.mem_cons_of_mem _ h)
  have hown : s.vm.findClass R_Tr = some m.cls := findClass_of_methodNamed B.named
  have hlocks := B.notSynchronized
  subst hsz
  have hD := hD0.self (sz := s.heap.size)
  generalize hAe : va_A [(t9, .inr (9, [.ref tl, .int tk, .int (nI wt), .int (nI ru), .int (nI rl), .long (lN sc)])), (vl, .inr (4, [.ref vlw, .int vln, .int vlb])), (vlw, .inl (cT 0, 24, .inl vlf)), (nd, .inr (10, [.int nq0, .int nq1, .int nq2, .int nq3, .int nq4, .int nq5, .int nq6, .int nq7, .ref ns])), (ns, .inr (4, [.ref nsw, .int nsn, .int nsb])), (nsw, .inl (cT 0, 24, .inl nsf))] s.heap.size = A at hD hZ ⊢
  have hA : ∀ q : Nat, s.heap.size ≤ q → A q := fun q h => by rw [← hAe]; exact Or.inr h
  have hS : va_S A s.heap s.heap [] := va_S.rf
  have hl := lv_entry ([.ref t9, .ref vl, .ref nd]) (n := 6) (Nat.le_of_ble_eq_true rfl)
  rw [lg_entry_eq]
  generalize (lg_sl ([.ref t9, .ref vl, .ref nd]) ++ List.replicate (6 - (lg_sl ([.ref t9, .ref vl, .ref nd])).length) Slot.unset).toArray = ls at hl ⊢
  have hl : lv_has ls 6 [(0, .ref t9), (1, .ref vl), (2, .ref nd)] := hl
  have hU : ru * sc ≤ 16 * 1788279292800 := Nat.mul_le_mul hru hsc
  have hun : rl * (nr + wt) ≤ 16 * 68 := Nat.mul_le_mul hrl (by omega)
  have hu0 : 0 < rl * (nr + wt) := Nat.mul_pos (by omega) (by omega)
  obtain ⟨U9, hU9⟩ : ∃ q9 : Nat, q9 = ru * sc := ⟨_, rfl⟩
  obtain ⟨u9, hu9⟩ : ∃ q9 : Nat, q9 = rl * (nr + wt) := ⟨_, rfl⟩
  rw [← hU9] at hU hv9 hfit
  rw [← hu9] at hun hu0 hv9
  have hg0 : 0 < Nat.gcd U9 u9 := Nat.gcd_pos_of_pos_right _ hu0
  obtain ⟨g9, hg9⟩ : ∃ q9 : Nat, q9 = Nat.gcd U9 u9 := ⟨_, rfl⟩
  rw [← hg9] at hg0
  have hgU : g9 ∣ U9 := by rw [hg9]; exact Nat.gcd_dvd_left _ _
  have hgu : g9 ∣ u9 := by rw [hg9]; exact Nat.gcd_dvd_right _ _
  have hgl : g9 ≤ u9 := Nat.le_of_dvd hu0 hgu
  have hq1 : U9 / g9 ≤ U9 := Nat.div_le_self _ _
  have hq2 : u9 / g9 ≤ u9 := Nat.div_le_self _ _
  have hq3 : 0 < u9 / g9 := Nat.div_pos hgl hg0
  obtain ⟨F9, hF9⟩ : ∃ q9 : Nat, q9 = U9 / g9 := ⟨_, rfl⟩
  obtain ⟨d9, hd9⟩ : ∃ q9 : Nat, q9 = u9 / g9 := ⟨_, rfl⟩
  rw [← hF9] at hq1
  rw [← hd9] at hq2 hq3
  have hlv : (SS * (F9 : Int)).tdiv (d9 : Int) = lv := by rw [hF9, hd9]; exact lv_t hg0 hgU hgu hu0 hv9
  refine lv_aload_n hx hb dTr_setToValue_0 rfl (lv_at hl 0 rfl) ?_
  refine va_get (D := D) (ci := 9) (v := .int (nI rl)) (C := R_Tr) (T := T_Tr) (N := 6) hx hb hT in_Tr hown hK hP 0 rfl rfl 4 (by decide) (hT _ w737) (fun _ h9 => h9) rfl dTr_setToValue_1 ?_
  refine lv_aload_n hx hb dTr_setToValue_4 rfl (lv_at hl 2 rfl) ?_
  refine va_get (D := D) (ci := 10) (v := .int nq6) (C := R_N) (T := T_N) (N := 9) hx hb hT in_N hown hK hP 3 rfl rfl 6 (by decide) (hT _ w850) (fun _ h9 => h9) rfl dTr_setToValue_5 ?_
  refine lv_topi (fun y9 e9 => ?_)
  cases (show y9 = nI nr from e9.trans hnr)
  refine lv_aload_n hx hb dTr_setToValue_8 rfl (lv_at hl 0 rfl) ?_
  refine va_get (D := D) (ci := 9) (v := .int (nI wt)) (C := R_Tr) (T := T_Tr) (N := 6) hx hb hT in_Tr hown hK hP 0 rfl rfl 2 (by decide) (hT _ w733) (fun _ h9 => h9) rfl dTr_setToValue_9 ?_
  refine lv_iadd hx hb dTr_setToValue_12 ?_
  refine lv_topi (fun y9 e9 => ?_)
  cases (show y9 = nI (nr + wt) from e9.trans (nI_add nr wt))
  refine lv_imul hx hb dTr_setToValue_13 ?_
  refine lv_topi (fun y9 e9 => ?_)
  cases (show y9 = nI (rl * (nr + wt)) from e9.trans (pk_mul rl (nr + wt)))
  refine lv_topi (fun y9 e9 => ?_)
  cases (show y9 = nI u9 from e9.trans (congrArg nI hu9.symm))
  refine lv_istore_n hx hb dTr_setToValue_14 rfl hl (by decide) rfl (fun ls hl => ?_)
  have hl : lv_has ls 6 [(3, .int (nI u9)), (0, .ref t9), (1, .ref vl), (2, .ref nd)] := hl
  refine lv_aload_n hx hb dTr_setToValue_15 rfl (lv_at hl 1 rfl) ?_
  refine va_get (D := D) (ci := 9) (v := .int (nI ru)) (C := R_Tr) (T := T_Tr) (N := 6) hx hb hT in_Tr hown hK hP 0 rfl rfl 3 (by decide) (hT _ w735) (fun _ h9 => h9) rfl dTr_setToValue_16 ?_
  refine lv_i2l hx hb dTr_setToValue_19 rfl ?_
  refine lv_topl (fun y9 e9 => ?_)
  cases (show y9 = lN ru from e9.trans (nI_l (n := ru) (by omega)))
  refine lv_aload_n hx hb dTr_setToValue_20 rfl (lv_at hl 1 rfl) ?_
  refine va_get (D := D) (ci := 9) (v := .long (lN sc)) (C := R_Tr) (T := T_Tr) (N := 6) hx hb hT in_Tr hown hK hP 0 rfl rfl 5 (by decide) (hT _ w739) (fun _ h9 => h9) rfl dTr_setToValue_21 ?_
  refine lv_lmul hx hb dTr_setToValue_24 ?_
  refine lv_topl (fun y9 e9 => ?_)
  cases (show y9 = lN (ru * sc) from e9.trans (lN_mul ru sc))
  refine lv_topl (fun y9 e9 => ?_)
  cases (show y9 = lN U9 from e9.trans (congrArg lN hU9.symm))
  refine lv_iload_n hx hb dTr_setToValue_25 rfl (lv_at hl 0 rfl) ?_
  refine lv_i2l hx hb dTr_setToValue_26 rfl ?_
  refine lv_topl (fun y9 e9 => ?_)
  cases (show y9 = lN u9 from e9.trans (nI_l (n := u9) (by omega)))
  refine ro_l (va_Run.run (va_runSN (As := [.long (lN U9), .long (lN u9)]) (rest := []) ⟨hx, hb, hml, hown, hT⟩ (k_gdiv l D cT U9 u9 (by omega) (by omega)) ⟨va_cnB 2 hT (tb_gd w442) rfl rfl rfl (hZ.1.2.1 ("ResidualTrees$Tree", 77, ⟨"ResidualTrees", "greatestDivisor", "(JJ)J"⟩, "ResidualTrees") (List.mem_of_getElem? (i := 6) rfl)) (hT _ w1) hR_greatestDivisor ⟨Nat.le_of_ble_eq_true rfl, Nat.le_of_ble_eq_true rfl⟩, (hT _ w441), trivial⟩ (RO.preS hZ hS ((show va_P D vwCl [] _ from fun _ _ h => nomatch h)) hK) rfl rfl hl.1 rfl (lv_room (Nat.le_of_ble_eq_true rfl)) dTr_setToValue_27 ⟨Nat.le_of_ble_eq_true rfl, Nat.le_of_ble_eq_true rfl⟩)) ?_
  refine lv_topl (fun y9 e9 => ?_)
  cases (show y9 = lN g9 from e9.trans (congrArg lN hg9.symm))
  refine lv_lstore hx hb dTr_setToValue_30 hl (by decide) rfl (fun ls hl => ?_)
  have hl : lv_has ls 6 [(4, .long (lN g9)), (3, .int (nI u9)), (0, .ref t9), (1, .ref vl), (2, .ref nd)] := hl
  refine lv_aload_n hx hb dTr_setToValue_32 rfl (lv_at hl 3 rfl) ?_
  refine lv_aload_n hx hb dTr_setToValue_33 rfl (lv_at hl 4 rfl) ?_
  refine va_get (D := D) (ci := 10) (v := .ref ns) (C := R_N) (T := T_N) (N := 9) hx hb hT in_N hown hK hP 3 rfl rfl 8 (by decide) (hT _ w857) (fun _ h9 => h9) rfl dTr_setToValue_34 ?_
  refine rw_v (wc := [(vl, .inr (4, [.ref vlw, .int vln, .int vlb])), (vlw, .inl (cT 0, 24, .inl vlf)), (ns, .inr (4, [.ref nsw, .int nsn, .int nsb])), (nsw, .inl (cT 0, 24, .inl nsf))]) (wr := [(t9, .inr (9, [.ref tl, .int tk, .int (nI wt), .int (nI ru), .int (nI rl), .long (lN sc)])), (nd, .inr (10, [.int nq0, .int nq1, .int nq2, .int nq3, .int nq4, .int nq5, .int nq6, .int nq7, .ref ns]))]) hP hD hS hA [1, 2, 4, 5] [0, 3] rfl rfl (by decide) (by decide) (va_runV (As := [.ref ns]) (rest := []) ⟨hx, hb, hml, hown, hT⟩ (k_setW l D cT vl vlw 24 vln vlb vlf ns nsw 24 nsn nsb nsf SS (by decide) (by decide) hNs (Nat.lt_of_le_of_lt (Nat.le_mul_of_pos_right _ (by omega)) hfit) _) ⟨callB_of 1 hT (tb_gd w446) rfl rfl rfl (hT _ w5) (hT _ w443) hW_setb ⟨Nat.le_of_ble_eq_true rfl, Nat.le_of_ble_eq_true rfl⟩, (hT _ w444), (hT _ w445)⟩ (RW.preV (ci := 4) (q0 := 0) hZ hS (va_free (wc := [(vl, .inr (4, [.ref vlw, .int vln, .int vlb])), (vlw, .inl (cT 0, 24, .inl vlf)), (ns, .inr (4, [.ref nsw, .int nsn, .int nsb])), (nsw, .inl (cT 0, 24, .inl nsf))]) hD hS hA [1, 2, 4, 5] rfl) (hP.sub (ws' := [(vl, .inr (4, [.ref vlw, .int vln, .int vlb])), (vlw, .inl (cT 0, 24, .inl vlf)), (ns, .inr (4, [.ref nsw, .int nsn, .int nsb])), (nsw, .inl (cT 0, 24, .inl nsf))]) [1, 2, 4, 5] rfl) hK (hD.sub (ws' := [(vl, .inr (4, [.ref vlw, .int vln, .int vlb])), (vlw, .inl (cT 0, 24, .inl vlf)), (ns, .inr (4, [.ref nsw, .int nsn, .int nsb])), (nsw, .inl (cT 0, 24, .inl nsf))]) [1, 2, 4, 5] (by decide) rfl) rfl rfl) rfl rfl hl.1 rfl (lv_room (Nat.le_of_ble_eq_true rfl)) dTr_setToValue_37 ⟨Nat.le_of_ble_eq_true rfl, Nat.le_of_ble_eq_true rfl⟩) (fun u9 H locs hpu1 hP hD hS => ?_)
  obtain ⟨f1u1, rfl⟩ : ∃ q9, q9 = u9 := ⟨_, rfl⟩
  have hpu1 : WN 24 nsn nsb f1u1 SS := hpu1
  have hP : va_P D vwCl [(t9, .inr (9, [.ref tl, .int tk, .int (nI wt), .int (nI ru), .int (nI rl), .long (lN sc)])), (nd, .inr (10, [.int nq0, .int nq1, .int nq2, .int nq3, .int nq4, .int nq5, .int nq6, .int nq7, .ref ns])), (vl, .inr (4, [.ref vlw, .int nsn, .int nsb])), (vlw, .inl (cT 0, 24, .inl f1u1)), (ns, .inr (4, [.ref nsw, .int nsn, .int nsb])), (nsw, .inl (cT 0, 24, .inl nsf))] _ := hP
  have hD : va_D A [(t9, .inr (9, [.ref tl, .int tk, .int (nI wt), .int (nI ru), .int (nI rl), .long (lN sc)])), (nd, .inr (10, [.int nq0, .int nq1, .int nq2, .int nq3, .int nq4, .int nq5, .int nq6, .int nq7, .ref ns])), (vl, .inr (4, [.ref vlw, .int nsn, .int nsb])), (vlw, .inl (cT 0, 24, .inl f1u1)), (ns, .inr (4, [.ref nsw, .int nsn, .int nsb])), (nsw, .inl (cT 0, 24, .inl nsf))] := hD
  have b1 := hpu1
  refine lv_aload_n hx hb dTr_setToValue_40 rfl (lv_at hl 3 rfl) ?_
  refine lv_aload_n hx hb dTr_setToValue_41 rfl (lv_at hl 2 rfl) ?_
  refine va_get (D := D) (ci := 9) (v := .int (nI ru)) (C := R_Tr) (T := T_Tr) (N := 6) hx hb hT in_Tr hown hK hP 0 rfl rfl 3 (by decide) (hT _ w735) (fun _ h9 => h9) rfl dTr_setToValue_42 ?_
  refine lv_i2l hx hb dTr_setToValue_45 rfl ?_
  refine lv_topl (fun y9 e9 => ?_)
  cases (show y9 = lN ru from e9.trans (nI_l (n := ru) (by omega)))
  refine lv_aload_n hx hb dTr_setToValue_46 rfl (lv_at hl 2 rfl) ?_
  refine va_get (D := D) (ci := 9) (v := .long (lN sc)) (C := R_Tr) (T := T_Tr) (N := 6) hx hb hT in_Tr hown hK hP 0 rfl rfl 5 (by decide) (hT _ w739) (fun _ h9 => h9) rfl dTr_setToValue_47 ?_
  refine lv_lmul hx hb dTr_setToValue_50 ?_
  refine lv_topl (fun y9 e9 => ?_)
  cases (show y9 = lN (ru * sc) from e9.trans (lN_mul ru sc))
  refine lv_topl (fun y9 e9 => ?_)
  cases (show y9 = lN U9 from e9.trans (congrArg lN hU9.symm))
  refine lv_lload hx hb dTr_setToValue_51 (lv_at hl 0 rfl) ?_
  refine lv_ldiv hx hb dTr_setToValue_53 (fun q => absurd ((pk_lEQ (a := g9) (b := 0) (by omega) (by omega)).mp q) (by omega)) ?_
  refine lv_topl (fun y9 e9 => ?_)
  cases (show y9 = lN (U9 / g9) from e9.trans (pk_lDiv (a := U9) (b := g9) (by omega) (by omega) (by omega)))
  refine lv_topl (fun y9 e9 => ?_)
  cases (show y9 = lN F9 from e9.trans (congrArg lN hF9.symm))
  refine rw_v (wc := [(vl, .inr (4, [.ref vlw, .int nsn, .int nsb])), (vlw, .inl (cT 0, 24, .inl f1u1))]) (wr := [(t9, .inr (9, [.ref tl, .int tk, .int (nI wt), .int (nI ru), .int (nI rl), .long (lN sc)])), (nd, .inr (10, [.int nq0, .int nq1, .int nq2, .int nq3, .int nq4, .int nq5, .int nq6, .int nq7, .ref ns])), (ns, .inr (4, [.ref nsw, .int nsn, .int nsb])), (nsw, .inl (cT 0, 24, .inl nsf))]) hP hD hS hA [2, 3] [0, 1, 4, 5] rfl rfl (by decide) (by decide) (va_runV (As := [.long (lN F9)]) (rest := []) ⟨hx, hb, hml, hown, hT⟩ (k_times l D cT vl vlw 24 nsn nsb f1u1 SS F9 (by decide) b1 (by omega) (Nat.lt_of_le_of_lt (Nat.mul_le_mul_left _ (Nat.le_trans hq1 (Nat.le_add_right _ 1))) hfit) _) ⟨callB_of 1 hT (tb_gd w420) rfl rfl rfl (hT _ w5) (hT _ w453) hW_times ⟨Nat.le_of_ble_eq_true rfl, Nat.le_of_ble_eq_true rfl⟩, (hT _ w418), (hT _ w419)⟩ (RW.preV (ci := 4) (q0 := 0) hZ hS (va_free (wc := [(vl, .inr (4, [.ref vlw, .int nsn, .int nsb])), (vlw, .inl (cT 0, 24, .inl f1u1))]) hD hS hA [2, 3] rfl) (hP.sub (ws' := [(vl, .inr (4, [.ref vlw, .int nsn, .int nsb])), (vlw, .inl (cT 0, 24, .inl f1u1))]) [2, 3] rfl) hK (hD.sub (ws' := [(vl, .inr (4, [.ref vlw, .int nsn, .int nsb])), (vlw, .inl (cT 0, 24, .inl f1u1))]) [2, 3] (by decide) rfl) rfl rfl) rfl rfl hl.1 rfl (lv_room (Nat.le_of_ble_eq_true rfl)) dTr_setToValue_54 ⟨Nat.le_of_ble_eq_true rfl, Nat.le_of_ble_eq_true rfl⟩) (fun u9 H locs hpu2 hP hD hS => ?_)
  obtain ⟨n1u2, f1u2⟩ := u9
  have hpu2 : WN 24 n1u2 nsb f1u2 (SS * F9) := hpu2
  have hP : va_P D vwCl [(t9, .inr (9, [.ref tl, .int tk, .int (nI wt), .int (nI ru), .int (nI rl), .long (lN sc)])), (nd, .inr (10, [.int nq0, .int nq1, .int nq2, .int nq3, .int nq4, .int nq5, .int nq6, .int nq7, .ref ns])), (ns, .inr (4, [.ref nsw, .int nsn, .int nsb])), (nsw, .inl (cT 0, 24, .inl nsf)), (vl, .inr (4, [.ref vlw, .int n1u2, .int nsb])), (vlw, .inl (cT 0, 24, .inl f1u2))] _ := hP
  have hD : va_D A [(t9, .inr (9, [.ref tl, .int tk, .int (nI wt), .int (nI ru), .int (nI rl), .long (lN sc)])), (nd, .inr (10, [.int nq0, .int nq1, .int nq2, .int nq3, .int nq4, .int nq5, .int nq6, .int nq7, .ref ns])), (ns, .inr (4, [.ref nsw, .int nsn, .int nsb])), (nsw, .inl (cT 0, 24, .inl nsf)), (vl, .inr (4, [.ref vlw, .int n1u2, .int nsb])), (vlw, .inl (cT 0, 24, .inl f1u2))] := hD
  have b2 := hpu2
  refine lv_aload_n hx hb dTr_setToValue_57 rfl (lv_at hl 3 rfl) ?_
  refine lv_iload_n hx hb dTr_setToValue_58 rfl (lv_at hl 1 rfl) ?_
  refine lv_i2l hx hb dTr_setToValue_59 rfl ?_
  refine lv_topl (fun y9 e9 => ?_)
  cases (show y9 = lN u9 from e9.trans (nI_l (n := u9) (by omega)))
  refine lv_lload hx hb dTr_setToValue_60 (lv_at hl 0 rfl) ?_
  refine lv_ldiv hx hb dTr_setToValue_62 (fun q => absurd ((pk_lEQ (a := g9) (b := 0) (by omega) (by omega)).mp q) (by omega)) ?_
  refine lv_topl (fun y9 e9 => ?_)
  cases (show y9 = lN (u9 / g9) from e9.trans (pk_lDiv (a := u9) (b := g9) (by omega) (by omega) (by omega)))
  refine lv_l2i hx hb dTr_setToValue_63 rfl ?_
  refine lv_topi (fun y9 e9 => ?_)
  cases (show y9 = nI (u9 / g9) from e9.trans (lN_i (u9 / g9)))
  refine lv_topi (fun y9 e9 => ?_)
  cases (show y9 = nI d9 from e9.trans (congrArg nI hd9.symm))
  refine rw_v (wc := [(vl, .inr (4, [.ref vlw, .int n1u2, .int nsb])), (vlw, .inl (cT 0, 24, .inl f1u2))]) (wr := [(t9, .inr (9, [.ref tl, .int tk, .int (nI wt), .int (nI ru), .int (nI rl), .long (lN sc)])), (nd, .inr (10, [.int nq0, .int nq1, .int nq2, .int nq3, .int nq4, .int nq5, .int nq6, .int nq7, .ref ns])), (ns, .inr (4, [.ref nsw, .int nsn, .int nsb])), (nsw, .inl (cT 0, 24, .inl nsf))]) hP hD hS hA [4, 5] [0, 1, 2, 3] rfl rfl (by decide) (by decide) (va_runV (As := [.int (nI d9)]) (rest := []) ⟨hx, hb, hml, hown, hT⟩ (k_divide l D cT vl vlw 24 n1u2 nsb f1u2 (SS * (F9 : Int)) d9 (by decide) b2 hq3 (by omega) _) ⟨callB_of 1 hT (tb_gd w457) rfl rfl rfl (hT _ w5) (hT _ w454) hW_divide ⟨Nat.le_of_ble_eq_true rfl, Nat.le_of_ble_eq_true rfl⟩, (hT _ w455), (hT _ w456)⟩ (RW.preV (ci := 4) (q0 := 0) hZ hS (va_free (wc := [(vl, .inr (4, [.ref vlw, .int n1u2, .int nsb])), (vlw, .inl (cT 0, 24, .inl f1u2))]) hD hS hA [4, 5] rfl) (hP.sub (ws' := [(vl, .inr (4, [.ref vlw, .int n1u2, .int nsb])), (vlw, .inl (cT 0, 24, .inl f1u2))]) [4, 5] rfl) hK (hD.sub (ws' := [(vl, .inr (4, [.ref vlw, .int n1u2, .int nsb])), (vlw, .inl (cT 0, 24, .inl f1u2))]) [4, 5] (by decide) rfl) rfl rfl) rfl rfl hl.1 rfl (lv_room (Nat.le_of_ble_eq_true rfl)) dTr_setToValue_64 ⟨Nat.le_of_ble_eq_true rfl, Nat.le_of_ble_eq_true rfl⟩) (fun u9 H locs hpu3 hP hD hS => ?_)
  obtain ⟨n1u3, f1u3⟩ := u9
  have hpu3 : WN 24 n1u3 nsb f1u3 ((SS * (F9 : Int)).tdiv d9) := hpu3
  have hP : va_P D vwCl [(t9, .inr (9, [.ref tl, .int tk, .int (nI wt), .int (nI ru), .int (nI rl), .long (lN sc)])), (nd, .inr (10, [.int nq0, .int nq1, .int nq2, .int nq3, .int nq4, .int nq5, .int nq6, .int nq7, .ref ns])), (ns, .inr (4, [.ref nsw, .int nsn, .int nsb])), (nsw, .inl (cT 0, 24, .inl nsf)), (vl, .inr (4, [.ref vlw, .int n1u3, .int nsb])), (vlw, .inl (cT 0, 24, .inl f1u3))] _ := hP
  have hD : va_D A [(t9, .inr (9, [.ref tl, .int tk, .int (nI wt), .int (nI ru), .int (nI rl), .long (lN sc)])), (nd, .inr (10, [.int nq0, .int nq1, .int nq2, .int nq3, .int nq4, .int nq5, .int nq6, .int nq7, .ref ns])), (ns, .inr (4, [.ref nsw, .int nsn, .int nsb])), (nsw, .inl (cT 0, 24, .inl nsf)), (vl, .inr (4, [.ref vlw, .int n1u3, .int nsb])), (vlw, .inl (cT 0, 24, .inl f1u3))] := hD
  have hP9 := hP.sub (ws' := [(t9, .inr (9, [.ref tl, .int tk, .int (nI wt), .int (nI ru), .int (nI rl), .long (lN sc)])), (vl, .inr (4, [.ref vlw, .int n1u3, .int nsb])), (vlw, .inl (cT 0, 24, .inl f1u3)), (nd, .inr (10, [.int nq0, .int nq1, .int nq2, .int nq3, .int nq4, .int nq5, .int nq6, .int nq7, .ref ns])), (ns, .inr (4, [.ref nsw, .int nsn, .int nsb])), (nsw, .inl (cT 0, 24, .inl nsf))]) [0, 4, 5, 1, 2, 3] rfl
  have hD9 := hD.sub (ws' := [(t9, .inr (9, [.ref tl, .int tk, .int (nI wt), .int (nI ru), .int (nI rl), .long (lN sc)])), (vl, .inr (4, [.ref vlw, .int n1u3, .int nsb])), (vlw, .inl (cT 0, 24, .inl f1u3)), (nd, .inr (10, [.int nq0, .int nq1, .int nq2, .int nq3, .int nq4, .int nq5, .int nq6, .int nq7, .ref ns])), (ns, .inr (4, [.ref nsw, .int nsn, .int nsb])), (nsw, .inl (cT 0, 24, .inl nsf))]) [0, 4, 5, 1, 2, 3] (by decide) rfl
  refine W.widen (k := 0) (n := 0) (Nat.le_of_ble_eq_true rfl) (Nat.le_of_ble_eq_true rfl) ?_
  exact W.vret hx hb hr (fun t9 ht9 hW9 => ⟨⟨(n1u3, nsb, f1u3), rfl, (show WN 24 n1u3 nsb f1u3 (lv) from (by have q9 := hpu3; rw [hlv] at q9; exact q9)), by rw [ht9]; exact hP9, hD9⟩, hS.F ht9⟩) hS.2.2 dTr_setToValue_67
set_option maxHeartbeats 4000000 in
set_option maxRecDepth 100000 in
theorem k_append (l : Launch) (D : va_G) (cT : Nat → ClassId) (h : Nat) (ob : Nat) (ou : Nat) (ow : Nat) (L9 : Nat) (fo : Nat → Int32) (ch : Nat) (hL : L9 < 866) (hch : ch < 128) (sz : Nat) : Met l yO_append WO_append ({ frames := 0, cells := 0, slots := 0, locals := 0 } : Room) (RW D vwCl [.ref h, .int (nI ch)] [(h, .inr (8, [.ref ob, .int (nI L9), .ref ou, .ref ow])), (ob, .inl (cT 2, 866, .inl fo))] (TY cT) sz) (va_Qv (fun u9 : Unit => True) (BW D vwCl (va_A [(h, .inr (8, [.ref ob, .int (nI L9), .ref ou, .ref ow])), (ob, .inl (cT 2, 866, .inl fo))] sz) (fun u9 : Unit => [(h, .inr (8, [.ref ob, .int (nI (L9 + 1)), .ref ou, .ref ow])), (ob, .inl (cT 2, 866, .inl (upd fo L9 (vp_nar .byte (nI ch)))))])) (va_A [(h, .inr (8, [.ref ob, .int (nI L9), .ref ou, .ref ow])), (ob, .inl (cT 2, 866, .inl fo))] sz)) 0 0 (va_A [(h, .inr (8, [.ref ob, .int (nI L9), .ref ou, .ref ow])), (ob, .inl (cT 2, 866, .inl fo))] sz) := by
  refine Met.ofW (cc := cO_append) (maxL := 2) (ret := none) (by decide) rfl ?_
  intro p e s m args below meth c s₁ B hml hv
  obtain ⟨rfl, hsz, hZ, hP, hK, hD0⟩ := hv
  have hx := B.exec
  have hb := B.bytes
  have hr := B.returns
  have hts := atoms_spec (ws := WO_append) B.pre
  have hT : ∀ w ∈ TB, w.before _ s = true := fun w h => hts w (List.mem_cons_of_mem _ h)
  have hown : s.vm.findClass R_O = some m.cls := findClass_of_methodNamed B.named
  have hlocks := B.notSynchronized
  subst hsz
  have hD := hD0.self (sz := s.heap.size)
  generalize hAe : va_A [(h, .inr (8, [.ref ob, .int (nI L9), .ref ou, .ref ow])), (ob, .inl (cT 2, 866, .inl fo))] s.heap.size = A at hD hZ ⊢
  have hA : ∀ q : Nat, s.heap.size ≤ q → A q := fun q h => by rw [← hAe]; exact Or.inr h
  have hS : va_S A s.heap s.heap [] := va_S.rf
  have hl := lv_entry ([.ref h, .int (nI ch)]) (n := 2) (Nat.le_of_ble_eq_true rfl)
  rw [lg_entry_eq]
  generalize (lg_sl ([.ref h, .int (nI ch)]) ++ List.replicate (2 - (lg_sl ([.ref h, .int (nI ch)])).length) Slot.unset).toArray = ls at hl ⊢
  have hl : lv_has ls 2 [(0, .ref h), (1, .int (nI ch))] := hl
  refine lv_aload_n hx hb dO_append_0 rfl (lv_at hl 0 rfl) ?_
  refine va_get (D := D) (ci := 8) (v := .int (nI L9)) (C := R_O) (T := T_O) (N := 4) hx hb hT in_O hown hK hP 0 rfl rfl 1 (by decide) (hT _ w290) (fun _ h9 => h9) rfl dO_append_1 ?_
  refine lv_aload_n hx hb dO_append_4 rfl (lv_at hl 0 rfl) ?_
  refine va_get (D := D) (ci := 8) (v := .ref ob) (C := R_O) (T := T_O) (N := 4) hx hb hT in_O hown hK hP 0 rfl rfl 0 (by decide) (hT _ w288) (fun _ h9 => h9) rfl dO_append_5 ?_
  refine va_alen (v := 866) hx hb hK hP 1 2 rfl rfl rfl dO_append_8 ?_
  refine lv_icmp_ge (tgt := 30) hx hb dO_append_9 rfl (fun h1 => absurd h1 (fun q => absurd ((nI_leI (a := 866) (b := L9) (by decide) (by omega)).mp q) (by omega))) (fun _ => ?_)
  refine lv_aload_n hx hb dO_append_12 rfl (lv_at hl 0 rfl) ?_
  refine va_get (D := D) (ci := 8) (v := .ref ob) (C := R_O) (T := T_O) (N := 4) hx hb hT in_O hown hK hP 0 rfl rfl 0 (by decide) (hT _ w288) (fun _ h9 => h9) rfl dO_append_13 ?_
  refine lv_aload_n hx hb dO_append_16 rfl (lv_at hl 0 rfl) ?_
  refine lv_dup hx hb dO_append_17 rfl ?_
  refine va_get (D := D) (ci := 8) (v := .int (nI L9)) (C := R_O) (T := T_O) (N := 4) hx hb hT in_O hown hK hP 0 rfl rfl 1 (by decide) (hT _ w290) (fun _ h9 => h9) rfl dO_append_18 ?_
  refine lv_dup_x1 hx hb dO_append_21 rfl rfl ?_
  refine lv_iconst (v := 1) hx hb dO_append_22 (by decide) ?_
  refine lv_iadd hx hb dO_append_23 ?_
  refine lv_topi (fun y9 e9 => ?_)
  cases (show y9 = nI (L9 + 1) from e9.trans (nI_add L9 1))
  refine va_put (D := D) (ci := 8) (v := .int (nI (L9 + 1))) (ty := .int) (C := R_O) (T := T_O) (N := 4) hx hb hT in_O ty_O ty_O_ok m_O hown hK hP hD hS 0 rfl rfl 1 (by decide) (hT _ w290) (fun _ h9 => h9) rfl (by decide +kernel) rfl rfl (Nat.le_of_ble_eq_true rfl) dO_append_24 (fun H locs hP hD hS => ?_)
  have hP : va_P D vwCl [(h, .inr (8, [.ref ob, .int (nI (L9 + 1)), .ref ou, .ref ow])), (ob, .inl (cT 2, 866, .inl fo))] _ := hP
  have hD : va_D A [(h, .inr (8, [.ref ob, .int (nI (L9 + 1)), .ref ou, .ref ow])), (ob, .inl (cT 2, 866, .inl fo))] := hD
  refine lv_iload_n hx hb dO_append_27 rfl (lv_at hl 1 rfl) ?_
  refine lv_i2b hx hb dO_append_28 rfl ?_
  refine lv_topi (fun y9 e9 => ?_)
  cases (show y9 = nI ch from e9.trans (i2b_s ch hch))
  refine lq_bast (j := L9) hx hb hK hP hD hS 1 2 rfl rfl rfl (by omega) (by omega) dO_append_29 (fun H locs hP hD hS => ?_)
  have hP : va_P D vwCl [(h, .inr (8, [.ref ob, .int (nI (L9 + 1)), .ref ou, .ref ow])), (ob, .inl (cT 2, 866, .inl (upd fo L9 (vp_nar .byte (nI ch)))))] _ := hP
  have hD : va_D A [(h, .inr (8, [.ref ob, .int (nI (L9 + 1)), .ref ou, .ref ow])), (ob, .inl (cT 2, 866, .inl (upd fo L9 (vp_nar .byte (nI ch)))))] := hD
  have hP9 := hP.sub (ws' := [(h, .inr (8, [.ref ob, .int (nI (L9 + 1)), .ref ou, .ref ow])), (ob, .inl (cT 2, 866, .inl (upd fo L9 (vp_nar .byte (nI ch)))))]) [0, 1] rfl
  have hD9 := hD.sub (ws' := [(h, .inr (8, [.ref ob, .int (nI (L9 + 1)), .ref ou, .ref ow])), (ob, .inl (cT 2, 866, .inl (upd fo L9 (vp_nar .byte (nI ch)))))]) [0, 1] (by decide) rfl
  refine W.widen (k := 0) (n := 0) (Nat.le_of_ble_eq_true rfl) (Nat.le_of_ble_eq_true rfl) ?_
  exact W.vret hx hb hr (fun t9 ht9 hW9 => ⟨⟨(), rfl, (show True from trivial), by rw [ht9]; exact hP9, hD9⟩, hS.F ht9⟩) hS.2.2 dO_append_30
