set_option maxHeartbeats 4000000 in
set_option maxRecDepth 100000 in
theorem k_train_no1 (l : Launch) (D : va_G) (cT : Nat → ClassId) (cds : List Nat) (ad : Nat → Nat) (gg : Nat → Option va_E) (v : Int32) (hlt : l.stackTraces = false) (hq : ¬ (1 ≤ v ∧ v ≤ 16)) : MetT l yR_train WR_train ({ frames := 7, cells := 1, slots := 6, locals := 111 } : Room) (RO D vwCl [.ref (ad 0), .int v] ([] ++ pg cds ad gg) (TY cT)) "java/lang/IllegalArgumentException" 1 6 := by
  refine MetT.ofW (cc := cR_train) (maxL := 7) (ret := (some .int)) (by decide) rfl ?_
  intro p e s m args below meth c s₁ B hml hno hv
  obtain ⟨rfl, hZ, hP, hK⟩ := hv
  have hx := B.exec
  have hb := B.bytes
  have hr := B.returns
  have hts := atoms_spec (ws := WR_train) B.pre
  have hT : ∀ w ∈ TB, w.before _ s = true := fun w h => hts w (List.mem_cons_of_mem _ h)
  have hown : s.vm.findClass R_R = some m.cls := findClass_of_methodNamed B.named
  have hlocks := B.notSynchronized
  have hS : va_S (fun _ => False) s.heap s.heap [] := va_S.rf
  have hl := lv_entry ([.ref (ad 0), .int v]) (n := 7) (Nat.le_of_ble_eq_true rfl)
  rw [lg_entry_eq]
  generalize (lg_sl ([.ref (ad 0), .int v]) ++ List.replicate (7 - (lg_sl ([.ref (ad 0), .int v])).length) Slot.unset).toArray = ls at hl ⊢
  have hl : lv_has ls 7 [(0, .ref (ad 0)), (1, .int v)] := hl
  refine lv_iload_n hx hb dR_train_0 rfl (lv_at hl 1 rfl) ?_
  refine lv_iconst (v := 1) hx hb dR_train_1 (by decide) ?_
  refine lv_bipush (v := 16) hx hb dR_train_2 (by decide) ?_
  refine ro_i (va_Run.run (va_runS (As := [.int v, .int 1, .int 16]) (rest := []) ⟨hx, hb, hml, hown, hT⟩ (k_isWithin l D cT v 1 16) ⟨callB_of 3 hT (tb_gd w499) rfl rfl rfl (hT _ w1) (hT _ w497) hR_isWithin ⟨Nat.le_of_ble_eq_true rfl, Nat.le_of_ble_eq_true rfl⟩, (hT _ w498)⟩ (RO.preS hZ hS ((show va_P D vwCl [] _ from fun _ _ h => nomatch h)) hK) rfl rfl hl.1 rfl (lv_room (Nat.le_of_ble_eq_true rfl)) dR_train_4 ⟨Nat.le_of_ble_eq_true rfl, Nat.le_of_ble_eq_true rfl⟩)) ?_
  exact tx_out (tx_goS (As := [.int (bi (1 ≤ v ∧ v ≤ 16))]) (rest := []) ⟨hx, hb, hml, hown, hT⟩ (k_demand_no l D cT (bi (1 ≤ v ∧ v ≤ 16)) hlt (bi_f hq)) ⟨callB_of 1 hT (tb_gd w510) rfl rfl rfl (hT _ w1) (hT _ w508) hR_demand ⟨Nat.le_of_ble_eq_true rfl, Nat.le_of_ble_eq_true rfl⟩, (hT _ w509)⟩ (RO.preS hZ hS ((show va_P D vwCl [] _ from fun _ _ h => nomatch h)) hK) rfl hl.1 rfl (Nat.le_of_ble_eq_true rfl) dR_train_7 ⟨Nat.le_of_ble_eq_true rfl, Nat.le_of_ble_eq_true rfl⟩) hno hlocks
set_option maxHeartbeats 4000000 in
set_option maxRecDepth 100000 in
theorem k_train_no2 (l : Launch) (D : va_G) (cT : Nat → ClassId) (cds : List Nat) (ad : Nat → Nat) (gg : Nat → Option va_E) (T : Nat) (n : Nat) (wd : Nat) (pd : Int32) (pl9 : Int32) (pw : Int32) (pu : Int32) (pq9 : Int32) (psb : Int64) (pcb : Int32) (rr : Nat) (hlt : l.stackTraces = false) (hcd : CD cds) (hob : gg 0 = some (eOB ad (nI T))) (htb : gg 1 = some (eTB ad (nI wd) (nI n))) (hpl : gg 4 = some (ePL pd pl9 pw pu pq9 psb pcb)) (hn48 : n ≤ 48) (hT16 : T ≤ 16) (hr16 : rr ≤ 16) (hc0 : 1 ≤ nI rr ∧ nI rr ≤ 16) (hq : psb &&& (thr n) = 0 ∨ pcb &&& (((1 : Int32) <<< (nI wd &&& 31)) - 1) = 0 ∨ 16 < T + rr) : MetT l yR_train WR_train ({ frames := 7, cells := 1, slots := 6, locals := 111 } : Room) (RO D vwCl [.ref (ad 0), .int (nI rr)] ([] ++ pg cds ad gg) (TY cT)) "java/lang/IllegalStateException" 1 6 := by
  refine MetT.ofW (cc := cR_train) (maxL := 7) (ret := (some .int)) (by decide) rfl ?_
  intro p e s m args below meth c s₁ B hml hno hv
  obtain ⟨rfl, hZ, hP, hK⟩ := hv
  have hx := B.exec
  have hb := B.bytes
  have hr := B.returns
  have hts := atoms_spec (ws := WR_train) B.pre
  have hT : ∀ w ∈ TB, w.before _ s = true := fun w h => hts w (List.mem_cons_of_mem _ h)
  have hown : s.vm.findClass R_R = some m.cls := findClass_of_methodNamed B.named
  have hlocks := B.notSynchronized
  have hS : va_S (fun _ => False) s.heap s.heap [] := va_S.rf
  have hl := lv_entry ([.ref (ad 0), .int (nI rr)]) (n := 7) (Nat.le_of_ble_eq_true rfl)
  rw [lg_entry_eq]
  generalize (lg_sl ([.ref (ad 0), .int (nI rr)]) ++ List.replicate (7 - (lg_sl ([.ref (ad 0), .int (nI rr)])).length) Slot.unset).toArray = ls at hl ⊢
  have hl : lv_has ls 7 [(0, .ref (ad 0)), (1, .int (nI rr))] := hl
  refine lv_iload_n hx hb dR_train_0 rfl (lv_at hl 1 rfl) ?_
  refine lv_iconst (v := 1) hx hb dR_train_1 (by decide) ?_
  refine lv_bipush (v := 16) hx hb dR_train_2 (by decide) ?_
  refine ro_i (va_Run.run (va_runS (As := [.int (nI rr), .int 1, .int 16]) (rest := []) ⟨hx, hb, hml, hown, hT⟩ (k_isWithin l D cT (nI rr) 1 16) ⟨callB_of 3 hT (tb_gd w499) rfl rfl rfl (hT _ w1) (hT _ w497) hR_isWithin ⟨Nat.le_of_ble_eq_true rfl, Nat.le_of_ble_eq_true rfl⟩, (hT _ w498)⟩ (RO.preS hZ hS ((show va_P D vwCl [] _ from fun _ _ h => nomatch h)) hK) rfl rfl hl.1 rfl (lv_room (Nat.le_of_ble_eq_true rfl)) dR_train_4 ⟨Nat.le_of_ble_eq_true rfl, Nat.le_of_ble_eq_true rfl⟩)) ?_
  refine ro_v (va_Run.run (va_runS (As := [.int (bi (1 ≤ (nI rr) ∧ (nI rr) ≤ 16))]) (rest := []) ⟨hx, hb, hml, hown, hT⟩ (k_demand_ok l D cT (bi (1 ≤ (nI rr) ∧ (nI rr) ≤ 16)) (by rw [bi_t hc0]; decide)) ⟨callB_of 1 hT (tb_gd w510) rfl rfl rfl (hT _ w1) (hT _ w508) hR_demand ⟨Nat.le_of_ble_eq_true rfl, Nat.le_of_ble_eq_true rfl⟩, (hT _ w509)⟩ (RO.preS hZ hS ((show va_P D vwCl [] _ from fun _ _ h => nomatch h)) hK) rfl rfl hl.1 rfl (lv_room (Nat.le_of_ble_eq_true rfl)) dR_train_7 ⟨Nat.le_of_ble_eq_true rfl, Nat.le_of_ble_eq_true rfl⟩)) ?_
  refine lv_aload_n hx hb dR_train_10 rfl (lv_at hl 0 rfl) ?_
  refine va_get (D := D) (ci := 0) (v := .ref (ad 4)) (C := R_R) (T := T_R) (N := 13) hx hb hT in_R hown hK (pg_1 (x := 0) hcd hP (by decide) hob) 0 rfl rfl 1 (by decide) (hT _ w325) (fun _ h9 => h9) rfl dR_train_11 ?_
  refine va_get (D := D) (ci := 3) (v := .long psb) (C := R_P) (T := T_P) (N := 7) hx hb hT in_P hown hK (pg_1 (x := 4) hcd hP (by decide) hpl) 0 rfl rfl 5 (by decide) (hT _ w116) (fun _ h9 => h9) rfl dR_train_14 ?_
  refine lv_aload_n hx hb dR_train_17 rfl (lv_at hl 0 rfl) ?_
  refine va_get (D := D) (ci := 0) (v := .ref (ad 1)) (C := R_R) (T := T_R) (N := 13) hx hb hT in_R hown hK (pg_1 (x := 0) hcd hP (by decide) hob) 0 rfl rfl 0 (by decide) (hT _ w324) (fun _ h9 => h9) rfl dR_train_18 ?_
  refine ro_l (va_Run.run (va_runV (As := []) (rest := [.long psb]) ⟨hx, hb, hml, hown, hT⟩ (k_rowBits l D cT (ad 1) (ad 2) (ad 3) (nI wd) (nI n)) ⟨callB_of 0 hT (tb_gd w371) rfl rfl rfl (hT _ w2) (hT _ w368) hT_rowBits ⟨Nat.le_of_ble_eq_true rfl, Nat.le_of_ble_eq_true rfl⟩, (hT _ w369), (hT _ w370)⟩ (RO.preV (ci := 2) (q0 := 0) hZ hS ((show va_P D vwCl [(ad 1, .inr (2, [.ref (ad 2), .ref (ad 3), .int (nI wd), .int (nI n)]))] _ from (pv_c (pg_1 (x := 1) hcd hP (by decide) htb) pv_0))) hK rfl rfl) rfl rfl hl.1 rfl (lv_room (Nat.le_of_ble_eq_true rfl)) dR_train_21 ⟨Nat.le_of_ble_eq_true rfl, Nat.le_of_ble_eq_true rfl⟩)) ?_
  refine lv_topl (fun y9 e9 => ?_)
  cases (show y9 = thr n from e9.trans (rb_thr hn48))
  refine lv_land hx hb dR_train_24 ?_
  refine lv_lstore_n hx hb dR_train_25 rfl hl (by decide) rfl (fun ls hl => ?_)
  have hl : lv_has ls 7 [(2, .long (psb &&& (thr n))), (0, .ref (ad 0)), (1, .int (nI rr))] := hl
  refine lv_lload_n hx hb dR_train_26 rfl (lv_at hl 0 rfl) ?_
  refine lv_lconst (v := 0) hx hb dR_train_27 (by decide) ?_
  refine W.lcmp hx hb dR_train_28 ?_
  refine lv_if_eq (tgt := 54) hx hb dR_train_29 rfl (fun h1 => ?_) (fun h1 => ?_)
  · have b29 := h1
    refine lv_iconst (v := 0) hx hb dR_train_54 (by decide) ?_
    exact tx_out (tx_goS (As := [.int 0]) (rest := []) ⟨hx, hb, hml, hown, hT⟩ (k_demandState_no l D cT 0 hlt rfl) ⟨callB_of 1 hT (tb_gd w586) rfl rfl rfl (hT _ w1) (hT _ w584) hR_demandState ⟨Nat.le_of_ble_eq_true rfl, Nat.le_of_ble_eq_true rfl⟩, (hT _ w585)⟩ (RO.preS hZ hS ((show va_P D vwCl [] _ from fun _ _ h => nomatch h)) hK) rfl hl.1 rfl (Nat.le_of_ble_eq_true rfl) dR_train_55 ⟨Nat.le_of_ble_eq_true rfl, Nat.le_of_ble_eq_true rfl⟩) hno hlocks
  · have b29 := h1
    refine lv_aload_n hx hb dR_train_32 rfl (lv_at hl 1 rfl) ?_
    refine va_get (D := D) (ci := 0) (v := .ref (ad 4)) (C := R_R) (T := T_R) (N := 13) hx hb hT in_R hown hK (pg_1 (x := 0) hcd hP (by decide) hob) 0 rfl rfl 1 (by decide) (hT _ w325) (fun _ h9 => h9) rfl dR_train_33 ?_
    refine va_get (D := D) (ci := 3) (v := .int pcb) (C := R_P) (T := T_P) (N := 7) hx hb hT in_P hown hK (pg_1 (x := 4) hcd hP (by decide) hpl) 0 rfl rfl 6 (by decide) (hT _ w119) (fun _ h9 => h9) rfl dR_train_36 ?_
    refine lv_aload_n hx hb dR_train_39 rfl (lv_at hl 1 rfl) ?_
    refine va_get (D := D) (ci := 0) (v := .ref (ad 1)) (C := R_R) (T := T_R) (N := 13) hx hb hT in_R hown hK (pg_1 (x := 0) hcd hP (by decide) hob) 0 rfl rfl 0 (by decide) (hT _ w324) (fun _ h9 => h9) rfl dR_train_40 ?_
    refine ro_i (va_Run.run (va_runV (As := []) (rest := [.int pcb]) ⟨hx, hb, hml, hown, hT⟩ (k_colBits l D cT (ad 1) (ad 2) (ad 3) (nI wd) (nI n)) ⟨callB_of 0 hT (tb_gd w714) rfl rfl rfl (hT _ w2) (hT _ w711) hT_columnBits ⟨Nat.le_of_ble_eq_true rfl, Nat.le_of_ble_eq_true rfl⟩, (hT _ w712), (hT _ w713)⟩ (RO.preV (ci := 2) (q0 := 0) hZ hS ((show va_P D vwCl [(ad 1, .inr (2, [.ref (ad 2), .ref (ad 3), .int (nI wd), .int (nI n)]))] _ from (pv_c (pg_1 (x := 1) hcd hP (by decide) htb) pv_0))) hK rfl rfl) rfl rfl hl.1 rfl (lv_room (Nat.le_of_ble_eq_true rfl)) dR_train_43 ⟨Nat.le_of_ble_eq_true rfl, Nat.le_of_ble_eq_true rfl⟩)) ?_
    refine lv_iand hx hb dR_train_46 ?_
    refine lv_if_eq (tgt := 54) hx hb dR_train_47 rfl (fun h2 => ?_) (fun h2 => ?_)
    · have b47 := h2
      refine lv_iconst (v := 0) hx hb dR_train_54 (by decide) ?_
      exact tx_out (tx_goS (As := [.int 0]) (rest := []) ⟨hx, hb, hml, hown, hT⟩ (k_demandState_no l D cT 0 hlt rfl) ⟨callB_of 1 hT (tb_gd w586) rfl rfl rfl (hT _ w1) (hT _ w584) hR_demandState ⟨Nat.le_of_ble_eq_true rfl, Nat.le_of_ble_eq_true rfl⟩, (hT _ w585)⟩ (RO.preS hZ hS ((show va_P D vwCl [] _ from fun _ _ h => nomatch h)) hK) rfl hl.1 rfl (Nat.le_of_ble_eq_true rfl) dR_train_55 ⟨Nat.le_of_ble_eq_true rfl, Nat.le_of_ble_eq_true rfl⟩) hno hlocks
    · have b47 := h2
      refine lv_iconst (v := 1) hx hb dR_train_50 (by decide) ?_
      refine lv_goto (tgt := 55) hx hb dR_train_51 rfl ?_
      refine ro_v (va_Run.run (va_runS (As := [.int 1]) (rest := []) ⟨hx, hb, hml, hown, hT⟩ (k_demandState_ok l D cT 1 (by decide)) ⟨callB_of 1 hT (tb_gd w586) rfl rfl rfl (hT _ w1) (hT _ w584) hR_demandState ⟨Nat.le_of_ble_eq_true rfl, Nat.le_of_ble_eq_true rfl⟩, (hT _ w585)⟩ (RO.preS hZ hS ((show va_P D vwCl [] _ from fun _ _ h => nomatch h)) hK) rfl rfl hl.1 rfl (lv_room (Nat.le_of_ble_eq_true rfl)) dR_train_55 ⟨Nat.le_of_ble_eq_true rfl, Nat.le_of_ble_eq_true rfl⟩)) ?_
      refine lv_aload_n hx hb dR_train_58 rfl (lv_at hl 1 rfl) ?_
      refine va_get (D := D) (ci := 0) (v := .int (nI T)) (C := R_R) (T := T_R) (N := 13) hx hb hT in_R hown hK (pg_1 (x := 0) hcd hP (by decide) hob) 0 rfl rfl 5 (by decide) (hT _ w329) (fun _ h9 => h9) rfl dR_train_59 ?_
      refine lv_iload_n hx hb dR_train_62 rfl (lv_at hl 2 rfl) ?_
      refine lv_iadd hx hb dR_train_63 ?_
      refine lv_topi (fun y9 e9 => ?_)
      cases (show y9 = nI (T + rr) from e9.trans (nI_add T rr))
      refine lv_bipush (v := 16) hx hb dR_train_64 (by decide) ?_
      refine lv_icmp_gt (tgt := 73) hx hb dR_train_66 rfl (fun h3 => ?_) (fun h3 => ?_)
      · have gh3 : 16 < T + rr := (nI_ltI (a := 16) (b := T + rr) (by omega) (by omega)).mp h3
        refine lv_iconst (v := 0) hx hb dR_train_73 (by decide) ?_
        exact tx_out (tx_goS (As := [.int 0]) (rest := []) ⟨hx, hb, hml, hown, hT⟩ (k_demandState_no l D cT 0 hlt rfl) ⟨callB_of 1 hT (tb_gd w586) rfl rfl rfl (hT _ w1) (hT _ w584) hR_demandState ⟨Nat.le_of_ble_eq_true rfl, Nat.le_of_ble_eq_true rfl⟩, (hT _ w585)⟩ (RO.preS hZ hS ((show va_P D vwCl [] _ from fun _ _ h => nomatch h)) hK) rfl hl.1 rfl (Nat.le_of_ble_eq_true rfl) dR_train_74 ⟨Nat.le_of_ble_eq_true rfl, Nat.le_of_ble_eq_true rfl⟩) hno hlocks
      · have gh3 : T + rr ≤ 16 := Nat.not_lt.mp (fun q => h3 ((nI_ltI (a := 16) (b := T + rr) (by omega) (by omega)).mpr q))
        refine lv_iconst (v := 1) hx hb dR_train_69 (by decide) ?_
        refine lv_goto (tgt := 74) hx hb dR_train_70 rfl ?_
        exact absurd hq (fun q => q.elim (fun r => b29 ((lg_cmp_eq _ _).mpr r)) (fun r => r.elim (fun r => b47 r) (fun r => absurd r (by omega))))
