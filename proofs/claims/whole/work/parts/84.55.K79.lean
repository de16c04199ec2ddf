set_option maxHeartbeats 4000000 in
set_option maxRecDepth 100000 in
theorem k_treeAtX (l : Launch) (D : va_G) (cT : Nat → ClassId) (cds : List Nat) (ad : Nat → Nat) (gg : Nat → Option va_E) (tE : Nat) (mk : Nat) (kc : Nat) (t : Nat) (k : Nat) (tw : Int32) (tu : Int32) (tl : Int32) (tsc : Int64) (hcd : CD cds) (ht16 : t < 16) (hTc : gg (1000 + t) = some (eTR (ad (1020 + t)) (nI kc) tw tu tl tsc)) (hTm : TMD cT ad gg tE t mk) (hkm : k < mk) : Met l yTr_at WTr_at ({ frames := 3, cells := 0, slots := 0, locals := 64 } : Room) (RO D vwCl [.ref (ad (1000 + t)), .int (nI k)] ([] ++ pg cds ad gg) (TY cT)) (QcReadR (ad (2000 + 32 * t + k))) 0 0 (fun _ => False) := by
  refine Met.ofW (cc := cTr_at) (maxL := 2) (ret := (some (.object "ResidualTrees$Node"))) (by decide) rfl ?_
  intro p e s m args below meth c s₁ B hml hv
  obtain ⟨rfl, hZ, hP, hK⟩ := hv
  have hx := B.exec
  have hb := B.bytes
  have hr := B.returns
  have hts := atoms_spec (ws := WTr_at) B.pre
  have hT : ∀ w ∈ TB, w.before _ s = true := fun w h => hts w (List.mem_cons_of_mem _ h)
  have hown : s.vm.findClass R_Tr = some m.cls := findClass_of_methodNamed B.named
  have hlocks := B.notSynchronized
  have hS : va_S (fun _ => False) s.heap s.heap [] := va_S.rf
  have hl := lv_entry ([.ref (ad (1000 + t)), .int (nI k)]) (n := 2) (Nat.le_of_ble_eq_true rfl)
  rw [lg_entry_eq]
  generalize (lg_sl ([.ref (ad (1000 + t)), .int (nI k)]) ++ List.replicate (2 - (lg_sl ([.ref (ad (1000 + t)), .int (nI k)])).length) Slot.unset).toArray = ls at hl ⊢
  have hl : lv_has ls 2 [(0, .ref (ad (1000 + t))), (1, .int (nI k))] := hl
  obtain ⟨hLQ9, hm9, hNX9, hNN9⟩ := hTm
  obtain ⟨cap9, md9, lf9, l1, l2, l3, l4, l5⟩ := hLQ9.full (by omega)
  obtain ⟨⟨q0, q1, q2, q3, q4, q5, q6, q7, hnd9⟩, z9, hwz9⟩ := hNX9 k (by omega)
  refine lv_aload_n hx hb dTr_at_0 rfl (lv_at hl 0 rfl) ?_
  refine va_get (D := D) (ci := 9) (v := .ref (ad (1020 + t))) (C := R_Tr) (T := T_Tr) (N := 6) hx hb hT in_Tr hown hK (pg_1 (x := 1000 + t) hcd hP (by omega) hTc) 0 rfl rfl 0 (by decide) (hT _ w730) (fun _ h9 => h9) rfl dTr_at_1 ?_
  refine lv_iload_n hx hb dTr_at_4 rfl (lv_at hl 1 rfl) ?_
  refine ro_r (va_Run.run (va_runV (As := [.int (nI k)]) (rest := []) ⟨hx, hb, hml, hown, hT⟩ (k_alGet l D cT (ad (1020 + t)) (ad (1040 + t)) mk md9 cap9 lf9 k (ad (2000 + 32 * t + k)) (by omega) l3 (by omega) (l5 _ (by omega))) ⟨callB_of 1 hT (tb_gd w401) rfl rfl rfl (hT _ w11) (hT _ w426) hAL_get ⟨Nat.le_of_ble_eq_true rfl, Nat.le_of_ble_eq_true rfl⟩, (hT _ w399), (hT _ w400)⟩ (RO.preV (ci := 12) (q0 := 0) hZ hS ((show va_P D vwCl [(ad (1020 + t), .inr (12, [.ref (ad (1040 + t)), .int (nI mk), .int md9])), (ad (1040 + t), .inl (cT 7, cap9, .inr (.inr (.inr (.inr lf9)))))] _ from (pv_c (pg_1 (x := 1020 + t) hcd hP (by omega) l1) (pv_c (pg_1 (x := 1040 + t) hcd hP (by omega) l2) pv_0)))) hK rfl rfl) rfl rfl hl.1 rfl (lv_room (Nat.le_of_ble_eq_true rfl)) dTr_at_5 ⟨Nat.le_of_ble_eq_true rfl, Nat.le_of_ble_eq_true rfl⟩)) ?_
  refine va_castY (C := "ResidualTrees$Node") hx hb hown (hT _ w427) (hZ.1.1 ("ResidualTrees$Node", "ResidualTrees$Node") (List.mem_of_getElem? (i := 3) rfl)) (va_recv (ci := 10) (q0 := 0) hK (pg_1 (x := 2000 + 32 * t + k) hcd hP (by omega) hnd9) rfl rfl) dTr_at_8 ?_
  exact W.aret (v := .ref (ad (2000 + 32 * t + k))) hx hb hr (Or.inl ⟨_, rfl⟩) (Or.inr ⟨_, rfl⟩) (fun t9 ht9 hW9 => ⟨rfl, ht9⟩) (fun q h => nomatch h) dTr_at_11
set_option maxHeartbeats 4000000 in
set_option maxRecDepth 100000 in
theorem k_newLeaf (l : Launch) (D : va_G) (cT : Nat → ClassId) (cds : List Nat) (ad : Nat → Nat) (gg : Nat → Option va_E) (tE : Nat) (mE : Nat) (mk : Nat) (t : Nat) (k : Nat) (tw : Int32) (tu : Int32) (tl : Int32) (tsc : Int64) (rws : Int32) (dd : Int32) (hcd : CD cds) (ht16 : t < 16) (hTc : gg (1000 + t) = some (eTR (ad (1020 + t)) (nI k) tw tu tl tsc)) (hTm : TMD cT ad gg tE t mk) (hkm : k ≤ mk) (hk31 : k < 31) (sz : Nat) : Met l yTr_newLeaf WTr_newLeaf ({ frames := 7, cells := 4 * (max mk (k + 1) - mk), slots := 69 * (max mk (k + 1) - mk), locals := 171 } : Room) (RWE tE mE D vwCl [.ref (ad (1000 + t)), .int rws, .int dd] ([] ++ pg cds ad gg) (TY cT) sz) (va_Qi (fun (r9 : Int32) (u9 : (Nat → Nat) × (Nat → Option va_E)) => r9 = nI k ∧ (∀ z8, z8 ≠ 1000 + t → z8 ≠ 1020 + t → z8 ≠ 1040 + t → z8 ≠ 2000 + 32 * t + k → z8 ≠ 3000 + 32 * t + k → z8 ≠ 4000 + 32 * t + k → u9.2 z8 = gg z8) ∧ (∀ z8, z8 ≠ 1040 + t → z8 ≠ 2000 + 32 * t + k → z8 ≠ 3000 + 32 * t + k → z8 ≠ 4000 + 32 * t + k → u9.1 z8 = ad z8) ∧ u9.2 (1000 + t) = some (eTR (u9.1 (1020 + t)) (nI (k + 1)) tw tu tl tsc) ∧ TMD cT u9.1 u9.2 tE t (max mk (k + 1)) ∧ u9.2 (2000 + 32 * t + k) = some (eND (-1) 0 0 0 (-1) (-1) rws dd (u9.1 (3000 + 32 * t + k)))) (BW D vwCl (va_A ([] ++ pg cds ad gg) sz) (fun u9 : (Nat → Nat) × (Nat → Option va_E) => ([] ++ pg cds u9.1 u9.2))) (va_A ([] ++ pg cds ad gg) sz)) (4 * (max mk (k + 1) - mk)) (69 * (max mk (k + 1) - mk)) (va_A ([] ++ pg cds ad gg) sz) := by
  refine Met.ofW (cc := cTr_newLeaf) (maxL := 4) (ret := (some .int)) (by decide) rfl ?_
  intro p e s m args below meth c s₁ B hml hv
  obtain ⟨rfl, ⟨hsz, hZ, hP, hK, hD0⟩, hE0⟩ := hv
  have hx := B.exec
  have hb := B.bytes
  have hr := B.returns
  have hts := atoms_spec (ws := WTr_newLeaf) B.pre
  have hT : ∀ w ∈ TB, w.before _ s = true := fun w h => hts w (List.mem_cons_of_mem _ h)
  have hown : s.vm.findClass R_Tr = some m.cls := findClass_of_methodNamed B.named
  have hlocks := B.notSynchronized
  subst hsz
  have hD := hD0.self (sz := s.heap.size)
  generalize hAe : va_A ([] ++ pg cds ad gg) s.heap.size = A at hD hZ hE0 ⊢
  have hA : ∀ q : Nat, s.heap.size ≤ q → A q := fun q h => by rw [← hAe]; exact Or.inr h
  have hS : va_S A s.heap s.heap [] := va_S.rf
  have hl := lv_entry ([.ref (ad (1000 + t)), .int rws, .int dd]) (n := 4) (Nat.le_of_ble_eq_true rfl)
  rw [lg_entry_eq]
  generalize (lg_sl ([.ref (ad (1000 + t)), .int rws, .int dd]) ++ List.replicate (4 - (lg_sl ([.ref (ad (1000 + t)), .int rws, .int dd])).length) Slot.unset).toArray = ls at hl ⊢
  have hl : lv_has ls 4 [(0, .ref (ad (1000 + t))), (1, .int rws), (2, .int dd)] := hl
  obtain ⟨hLQ0, hm0, hNX0, hNN0⟩ := id hTm
  obtain ⟨la0, md0, hli⟩ := hLQ0.li
  refine lv_aload_n hx hb dTr_newLeaf_0 rfl (lv_at hl 0 rfl) ?_
  refine va_get (D := D) (ci := 9) (v := .int (nI k)) (C := R_Tr) (T := T_Tr) (N := 6) hx hb hT in_Tr hown hK (pg_1 (x := 1000 + t) hcd hP (by omega) hTc) 0 rfl rfl 1 (by decide) (hT _ w731) (fun _ h9 => h9) rfl dTr_newLeaf_1 ?_
  refine lv_aload_n hx hb dTr_newLeaf_4 rfl (lv_at hl 0 rfl) ?_
  refine va_get (D := D) (ci := 9) (v := .ref (ad (1020 + t))) (C := R_Tr) (T := T_Tr) (N := 6) hx hb hT in_Tr hown hK (pg_1 (x := 1000 + t) hcd hP (by omega) hTc) 0 rfl rfl 0 (by decide) (hT _ w730) (fun _ h9 => h9) rfl dTr_newLeaf_5 ?_
  refine ro_i (va_Run.run (va_runV (As := []) (rest := [.int (nI k)]) ⟨hx, hb, hml, hown, hT⟩ (k_alSize l D cT (ad (1020 + t)) la0 mk md0) ⟨callB_of 0 hT (tb_gd w722) rfl rfl rfl (hT _ w11) (hT _ w821) hAL_size ⟨Nat.le_of_ble_eq_true rfl, Nat.le_of_ble_eq_true rfl⟩, (hT _ w720), (hT _ w721)⟩ (RO.preV (ci := 12) (q0 := 0) hZ hS ((show va_P D vwCl [(ad (1020 + t), .inr (12, [.ref la0, .int (nI mk), .int md0]))] _ from (pv_c (pg_1 (x := 1020 + t) hcd hP (by omega) hli) pv_0))) hK rfl rfl) rfl rfl hl.1 rfl (lv_room (Nat.le_of_ble_eq_true rfl)) dTr_newLeaf_8 ⟨(by show 0 + 0 ≤ (4 * (max mk (k + 1) - mk)); omega), (by show 0 + 0 ≤ (69 * (max mk (k + 1) - mk)); omega)⟩)) ?_
  refine lv_icmp_ne (tgt := 29) hx hb dTr_newLeaf_11 rfl (fun h1 => ?_) (fun h1 => ?_)
  · have gh1 : ¬ (k = mk) := fun q => h1 (congrArg nI q)
    have hTm2 := hTm
    have hTc2 := hTc
    obtain ⟨hLQ9, hm9, hNX9, hNN9⟩ := id hTm2
    obtain ⟨cap9, md9, lf9, l1, l2, l3, l4, l5⟩ := hLQ9.full (by omega)
    obtain ⟨⟨q0, q1, q2, q3, q4, q5, q6, q7, hnd9⟩, z9, hwz9⟩ := hNX9 k (by omega)
    refine lv_aload_n hx hb dTr_newLeaf_29 rfl (lv_at hl 0 rfl) ?_
    refine va_get (D := D) (ci := 9) (v := .ref (ad (1020 + t))) (C := R_Tr) (T := T_Tr) (N := 6) hx hb hT in_Tr hown hK (pg_1 (x := 1000 + t) hcd hP (by omega) hTc2) 0 rfl rfl 0 (by decide) (hT _ w730) (fun _ h9 => h9) rfl dTr_newLeaf_30 ?_
    refine lv_aload_n hx hb dTr_newLeaf_33 rfl (lv_at hl 0 rfl) ?_
    refine va_get (D := D) (ci := 9) (v := .int (nI k)) (C := R_Tr) (T := T_Tr) (N := 6) hx hb hT in_Tr hown hK (pg_1 (x := 1000 + t) hcd hP (by omega) hTc2) 0 rfl rfl 1 (by decide) (hT _ w731) (fun _ h9 => h9) rfl dTr_newLeaf_34 ?_
    refine ro_r (va_Run.run (va_runV (As := [.int (nI k)]) (rest := []) ⟨hx, hb, hml, hown, hT⟩ (k_alGet l D cT (ad (1020 + t)) (ad (1040 + t)) mk md9 cap9 lf9 k (ad (2000 + 32 * t + k)) (by omega) l3 (by omega) (l5 _ (by omega))) ⟨callB_of 1 hT (tb_gd w401) rfl rfl rfl (hT _ w11) (hT _ w426) hAL_get ⟨Nat.le_of_ble_eq_true rfl, Nat.le_of_ble_eq_true rfl⟩, (hT _ w399), (hT _ w400)⟩ (RO.preV (ci := 12) (q0 := 0) hZ hS ((show va_P D vwCl [(ad (1020 + t), .inr (12, [.ref (ad (1040 + t)), .int (nI mk), .int md9])), (ad (1040 + t), .inl (cT 7, cap9, .inr (.inr (.inr (.inr lf9)))))] _ from (pv_c (pg_1 (x := 1020 + t) hcd hP (by omega) l1) (pv_c (pg_1 (x := 1040 + t) hcd hP (by omega) l2) pv_0)))) hK rfl rfl) rfl rfl hl.1 rfl (lv_room (Nat.le_of_ble_eq_true rfl)) dTr_newLeaf_37 ⟨(by show 0 + 0 ≤ (4 * (max mk (k + 1) - mk)); omega), (by show 0 + 0 ≤ (69 * (max mk (k + 1) - mk)); omega)⟩)) ?_
    refine va_castY (C := "ResidualTrees$Node") hx hb hown (hT _ w427) (hZ.1.1 ("ResidualTrees$Node", "ResidualTrees$Node") (List.mem_of_getElem? (i := 3) rfl)) (va_recv (ci := 10) (q0 := 0) hK (pg_1 (x := 2000 + 32 * t + k) hcd hP (by omega) hnd9) rfl rfl) dTr_newLeaf_40 ?_
    refine lv_astore_n hx hb dTr_newLeaf_43 rfl hl (by decide) rfl (fun ls hl => ?_)
    have hl : lv_has ls 4 [(3, .ref (ad (2000 + 32 * t + k))), (0, .ref (ad (1000 + t))), (1, .int rws), (2, .int dd)] := hl
    have hB9 : QI gg [(2000 + 32 * t + k, .inr (10, [.int q0, .int q1, .int q2, .int q3, .int q4, .int q5, .int q6, .int q7, .ref (ad (3000 + 32 * t + k))]))] := (qi_c (by omega) hnd9 qi_0)
    have hN9 := (show NDc [2000 + 32 * t + k] from (nd_c na_0 nd_0))
    have hP := bo_P (wc := [(2000 + 32 * t + k, .inr (10, [.int q0, .int q1, .int q2, .int q3, .int q4, .int q5, .int q6, .int q7, .ref (ad (3000 + 32 * t + k))]))]) (X := []) hcd hN9 hB9 hP
    have hD := bo_D (wc := [(2000 + 32 * t + k, .inr (10, [.int q0, .int q1, .int q2, .int q3, .int q4, .int q5, .int q6, .int q7, .ref (ad (3000 + 32 * t + k))]))]) (X := []) hcd hN9 hB9 hD
    have hP : va_P D vwCl ([(ad (2000 + 32 * t + k), .inr (10, [.int q0, .int q1, .int q2, .int q3, .int q4, .int q5, .int q6, .int q7, .ref (ad (3000 + 32 * t + k))]))] ++ pg cds ad (upo gg [2000 + 32 * t + k])) _ := hP
    have hD : va_D A ([(ad (2000 + 32 * t + k), .inr (10, [.int q0, .int q1, .int q2, .int q3, .int q4, .int q5, .int q6, .int q7, .ref (ad (3000 + 32 * t + k))]))] ++ pg cds ad (upo gg [2000 + 32 * t + k])) := hD
    refine lv_aload_n hx hb dTr_newLeaf_44 rfl (lv_at hl 0 rfl) ?_
    refine hy_vQ (X := [(ad (2000 + 32 * t + k), .inr (10, [.int q0, .int q1, .int q2, .int q3, .int q4, .int q5, .int q6, .int q7, .ref (ad (3000 + 32 * t + k))]))]) (pl := pg cds ad (upo gg [2000 + 32 * t + k])) (cx := [(ad (2000 + 32 * t + k), .inr (10, [.int q0, .int q1, .int q2, .int q3, .int q4, .int q5, .int q6, .int q7, .ref (ad (3000 + 32 * t + k))]))]) (wr := []) hP hD hS hA [0] [] rfl rfl (by decide) (by decide) (va_runV (As := []) (rest := []) ⟨hx, hb, hml, hown, hT⟩ (k_becomeLeaf l D cT (ad (2000 + 32 * t + k)) (ad (3000 + 32 * t + k)) q0 q1 q2 q3 q4 q5 q6 q7 _) ⟨callB_of 0 hT (tb_gd w882) rfl rfl rfl (hT _ w27) (hT _ w879) hN_becomeLeaf ⟨Nat.le_of_ble_eq_true rfl, Nat.le_of_ble_eq_true rfl⟩, (hT _ w880), (hT _ w881)⟩ (RW.preV (ci := 10) (q0 := 0) hZ hS (hy_free (cx := [(ad (2000 + 32 * t + k), .inr (10, [.int q0, .int q1, .int q2, .int q3, .int q4, .int q5, .int q6, .int q7, .ref (ad (3000 + 32 * t + k))]))]) hD hS hA [0] rfl) (hP.sub (ws' := [(ad (2000 + 32 * t + k), .inr (10, [.int q0, .int q1, .int q2, .int q3, .int q4, .int q5, .int q6, .int q7, .ref (ad (3000 + 32 * t + k))]))]) [0] rfl) hK (hD.sub (ws' := [(ad (2000 + 32 * t + k), .inr (10, [.int q0, .int q1, .int q2, .int q3, .int q4, .int q5, .int q6, .int q7, .ref (ad (3000 + 32 * t + k))]))]) [0] (by decide) rfl) rfl rfl) rfl rfl hl.1 rfl (lv_room (Nat.le_of_ble_eq_true rfl)) dTr_newLeaf_45 ⟨(by show 0 + 0 ≤ (4 * (max mk (k + 1) - mk)); omega), (by show 0 + 0 ≤ (69 * (max mk (k + 1) - mk)); omega)⟩) (fun u9 H locs hpu2 hP hD hS => ?_)
    have hpu2 : True := hpu2
    have hP : va_P D vwCl ([(ad (2000 + 32 * t + k), .inr (10, [.int (-1), .int 0, .int 0, .int 0, .int (-1), .int (-1), .int q6, .int q7, .ref (ad (3000 + 32 * t + k))]))] ++ pg cds ad (upo gg [2000 + 32 * t + k])) _ := hP
    have hD : va_D A ([(ad (2000 + 32 * t + k), .inr (10, [.int (-1), .int 0, .int 0, .int 0, .int (-1), .int (-1), .int q6, .int q7, .ref (ad (3000 + 32 * t + k))]))] ++ pg cds ad (upo gg [2000 + 32 * t + k])) := hD
    refine lv_aload_n hx hb dTr_newLeaf_48 rfl (lv_at hl 0 rfl) ?_
    refine lv_iload_n hx hb dTr_newLeaf_49 rfl (lv_at hl 2 rfl) ?_
    refine va_put (D := D) (ci := 10) (v := .int rws) (ty := .int) (C := R_N) (T := T_N) (N := 9) hx hb hT in_N ty_N ty_N_ok m_N hown hK hP hD hS 0 rfl rfl 6 (by decide) (hT _ w850) (fun _ h9 => h9) rfl (by decide +kernel) rfl rfl (Nat.le_of_ble_eq_true rfl) dTr_newLeaf_50 (fun H locs hP hD hS => ?_)
    have hP : va_P D vwCl ([(ad (2000 + 32 * t + k), .inr (10, [.int (-1), .int 0, .int 0, .int 0, .int (-1), .int (-1), .int rws, .int q7, .ref (ad (3000 + 32 * t + k))]))] ++ pg cds ad (upo gg [2000 + 32 * t + k])) _ := hP
    have hD : va_D A ([(ad (2000 + 32 * t + k), .inr (10, [.int (-1), .int 0, .int 0, .int 0, .int (-1), .int (-1), .int rws, .int q7, .ref (ad (3000 + 32 * t + k))]))] ++ pg cds ad (upo gg [2000 + 32 * t + k])) := hD
    refine lv_aload_n hx hb dTr_newLeaf_53 rfl (lv_at hl 0 rfl) ?_
    refine lv_iload_n hx hb dTr_newLeaf_54 rfl (lv_at hl 3 rfl) ?_
    refine va_put (D := D) (ci := 10) (v := .int dd) (ty := .int) (C := R_N) (T := T_N) (N := 9) hx hb hT in_N ty_N ty_N_ok m_N hown hK hP hD hS 0 rfl rfl 7 (by decide) (hT _ w853) (fun _ h9 => h9) rfl (by decide +kernel) rfl rfl (Nat.le_of_ble_eq_true rfl) dTr_newLeaf_55 (fun H locs hP hD hS => ?_)
    have hP : va_P D vwCl ([(ad (2000 + 32 * t + k), .inr (10, [.int (-1), .int 0, .int 0, .int 0, .int (-1), .int (-1), .int rws, .int dd, .ref (ad (3000 + 32 * t + k))]))] ++ pg cds ad (upo gg [2000 + 32 * t + k])) _ := hP
    have hD : va_D A ([(ad (2000 + 32 * t + k), .inr (10, [.int (-1), .int 0, .int 0, .int 0, .int (-1), .int (-1), .int rws, .int dd, .ref (ad (3000 + 32 * t + k))]))] ++ pg cds ad (upo gg [2000 + 32 * t + k])) := hD
    have hN9 := (show NDc [2000 + 32 * t + k] from (nd_c na_0 nd_0))
    have hP := gb_P (w9 := [(2000 + 32 * t + k, .inr (10, [.int (-1), .int 0, .int 0, .int 0, .int (-1), .int (-1), .int rws, .int dd, .ref (ad (3000 + 32 * t + k))]))]) (X := []) (g := gg) hcd hN9 (show QB [(2000 + 32 * t + k, .inr (10, [.int (-1), .int 0, .int 0, .int 0, .int (-1), .int (-1), .int rws, .int dd, .ref (ad (3000 + 32 * t + k))]))] from (qb_c (by omega) qb_0)) (hP.part (cx := [(ad (2000 + 32 * t + k), .inr (10, [.int (-1), .int 0, .int 0, .int 0, .int (-1), .int (-1), .int rws, .int dd, .ref (ad (3000 + 32 * t + k))]))]) [0] rfl)
    have hD := gb_D (w9 := [(2000 + 32 * t + k, .inr (10, [.int (-1), .int 0, .int 0, .int 0, .int (-1), .int (-1), .int rws, .int dd, .ref (ad (3000 + 32 * t + k))]))]) (X := []) (g := gg) hcd hN9 (show QB [(2000 + 32 * t + k, .inr (10, [.int (-1), .int 0, .int 0, .int 0, .int (-1), .int (-1), .int rws, .int dd, .ref (ad (3000 + 32 * t + k))]))] from (qb_c (by omega) qb_0)) (hD.part (cx := [(ad (2000 + 32 * t + k), .inr (10, [.int (-1), .int 0, .int 0, .int 0, .int (-1), .int (-1), .int rws, .int dd, .ref (ad (3000 + 32 * t + k))]))]) [0] (by decide) rfl)
    obtain ⟨g3, hg3⟩ : ∃ q9, q9 = ups gg [(2000 + 32 * t + k, .inr (10, [.int (-1), .int 0, .int 0, .int 0, .int (-1), .int (-1), .int rws, .int dd, .ref (ad (3000 + 32 * t + k))]))] := ⟨_, rfl⟩
    rw [← hg3] at hP hD
    have hP : va_P D vwCl ([] ++ pg cds ad g3) _ := hP
    have hD : va_D A ([] ++ pg cds ad g3) := hD
    have fg3 : ∀ z8, z8 ≠ 2000 + 32 * t + k → g3 z8 = gg z8 := fun z8 z1 => by rw [hg3]; exact ups_k (kp_n z1 kp_0)
    have g3_0 : g3 (2000 + 32 * t + k) = some (.inr (10, [.int (-1), .int 0, .int 0, .int 0, .int (-1), .int (-1), .int rws, .int dd, .ref (ad (3000 + 32 * t + k))])) := by rw [hg3]; exact ups_1
    refine lv_aload_n hx hb dTr_newLeaf_58 rfl (lv_at hl 1 rfl) ?_
    refine lv_dup hx hb dTr_newLeaf_59 rfl ?_
    refine va_get (D := D) (ci := 9) (v := .int (nI k)) (C := R_Tr) (T := T_Tr) (N := 6) hx hb hT in_Tr hown hK (pg_1 (x := 1000 + t) hcd hP (by omega) ((fg3 _ (by omega)).trans hTc2)) 0 rfl rfl 1 (by decide) (hT _ w731) (fun _ h9 => h9) rfl dTr_newLeaf_60 ?_
    refine lv_dup_x1 hx hb dTr_newLeaf_63 rfl rfl ?_
    refine lv_iconst (v := 1) hx hb dTr_newLeaf_64 (by decide) ?_
    refine lv_iadd hx hb dTr_newLeaf_65 ?_
    refine lv_topi (fun y9 e9 => ?_)
    cases (show y9 = nI (k + 1) from e9.trans (nI_add k 1))
    have hB9 : QI g3 [(1000 + t, .inr (9, [.ref (ad (1020 + t)), .int (nI k), .int tw, .int tu, .int tl, .long tsc]))] := (qi_c (by omega) ((fg3 _ (by omega)).trans hTc2) qi_0)
    have hN9 := (show NDc [1000 + t] from (nd_c na_0 nd_0))
    have hP := bo_P (wc := [(1000 + t, .inr (9, [.ref (ad (1020 + t)), .int (nI k), .int tw, .int tu, .int tl, .long tsc]))]) (X := []) hcd hN9 hB9 hP
    have hD := bo_D (wc := [(1000 + t, .inr (9, [.ref (ad (1020 + t)), .int (nI k), .int tw, .int tu, .int tl, .long tsc]))]) (X := []) hcd hN9 hB9 hD
    have hP : va_P D vwCl ([(ad (1000 + t), .inr (9, [.ref (ad (1020 + t)), .int (nI k), .int tw, .int tu, .int tl, .long tsc]))] ++ pg cds ad (upo g3 [1000 + t])) _ := hP
    have hD : va_D A ([(ad (1000 + t), .inr (9, [.ref (ad (1020 + t)), .int (nI k), .int tw, .int tu, .int tl, .long tsc]))] ++ pg cds ad (upo g3 [1000 + t])) := hD
    refine va_put (D := D) (ci := 9) (v := .int (nI (k + 1))) (ty := .int) (C := R_Tr) (T := T_Tr) (N := 6) hx hb hT in_Tr ty_Tr ty_Tr_ok m_Tr hown hK hP hD hS 0 rfl rfl 1 (by decide) (hT _ w731) (fun _ h9 => h9) rfl (by decide +kernel) rfl rfl (Nat.le_of_ble_eq_true rfl) dTr_newLeaf_66 (fun H locs hP hD hS => ?_)
    have hP : va_P D vwCl ([(ad (1000 + t), .inr (9, [.ref (ad (1020 + t)), .int (nI (k + 1)), .int tw, .int tu, .int tl, .long tsc]))] ++ pg cds ad (upo g3 [1000 + t])) _ := hP
    have hD : va_D A ([(ad (1000 + t), .inr (9, [.ref (ad (1020 + t)), .int (nI (k + 1)), .int tw, .int tu, .int tl, .long tsc]))] ++ pg cds ad (upo g3 [1000 + t])) := hD
    have hN9 := (show NDc [1000 + t] from (nd_c na_0 nd_0))
    have hP := gb_P (w9 := [(1000 + t, .inr (9, [.ref (ad (1020 + t)), .int (nI (k + 1)), .int tw, .int tu, .int tl, .long tsc]))]) (X := []) (g := g3) hcd hN9 (show QB [(1000 + t, .inr (9, [.ref (ad (1020 + t)), .int (nI (k + 1)), .int tw, .int tu, .int tl, .long tsc]))] from (qb_c (by omega) qb_0)) (hP.part (cx := [(ad (1000 + t), .inr (9, [.ref (ad (1020 + t)), .int (nI (k + 1)), .int tw, .int tu, .int tl, .long tsc]))]) [0] rfl)
    have hD := gb_D (w9 := [(1000 + t, .inr (9, [.ref (ad (1020 + t)), .int (nI (k + 1)), .int tw, .int tu, .int tl, .long tsc]))]) (X := []) (g := g3) hcd hN9 (show QB [(1000 + t, .inr (9, [.ref (ad (1020 + t)), .int (nI (k + 1)), .int tw, .int tu, .int tl, .long tsc]))] from (qb_c (by omega) qb_0)) (hD.part (cx := [(ad (1000 + t), .inr (9, [.ref (ad (1020 + t)), .int (nI (k + 1)), .int tw, .int tu, .int tl, .long tsc]))]) [0] (by decide) rfl)
    obtain ⟨g4, hg4⟩ : ∃ q9, q9 = ups g3 [(1000 + t, .inr (9, [.ref (ad (1020 + t)), .int (nI (k + 1)), .int tw, .int tu, .int tl, .long tsc]))] := ⟨_, rfl⟩
    rw [← hg4] at hP hD
    have hP : va_P D vwCl ([] ++ pg cds ad g4) _ := hP
    have hD : va_D A ([] ++ pg cds ad g4) := hD
    have fg4 : ∀ z8, z8 ≠ 1000 + t → g4 z8 = g3 z8 := fun z8 z1 => by rw [hg4]; exact ups_k (kp_n z1 kp_0)
    have g4_0 : g4 (1000 + t) = some (.inr (9, [.ref (ad (1020 + t)), .int (nI (k + 1)), .int tw, .int tu, .int tl, .long tsc])) := by rw [hg4]; exact ups_1
    have hP9 : va_P D vwCl ([] ++ pg cds ad g4) _ := hP.part (cx := []) [] rfl
    have hD9 : va_D A ([] ++ pg cds ad g4) := hD.part (cx := []) [] (by decide) rfl
    refine W.widen (k := 4 * (max mk (k + 1) - mk)) (n := 69 * (max mk (k + 1) - mk)) ((by show 0 ≤ 4 * (max mk (k + 1) - mk); omega)) ((by show 0 ≤ 69 * (max mk (k + 1) - mk); omega)) ?_
    exact W.iret (v := nI k) hx hb hr (fun t9 ht9 hW9 => ⟨⟨nI k, (ad, g4), rfl, (show (nI k) = nI k ∧ (∀ z8, z8 ≠ 1000 + t → z8 ≠ 1020 + t → z8 ≠ 1040 + t → z8 ≠ 2000 + 32 * t + k → z8 ≠ 3000 + 32 * t + k → z8 ≠ 4000 + 32 * t + k → g4 z8 = gg z8) ∧ (∀ z8, z8 ≠ 1040 + t → z8 ≠ 2000 + 32 * t + k → z8 ≠ 3000 + 32 * t + k → z8 ≠ 4000 + 32 * t + k → ad z8 = ad z8) ∧ g4 (1000 + t) = some (eTR (ad (1020 + t)) (nI (k + 1)) tw tu tl tsc) ∧ TMD cT ad g4 tE t (max mk (k + 1)) ∧ g4 (2000 + 32 * t + k) = some (eND (-1) 0 0 0 (-1) (-1) rws dd (ad (3000 + 32 * t + k))) from ⟨rfl, (fun z8 n1 n2 n3 n4 n5 n6 => (fg4 z8 n1).trans (fg3 z8 n4)), (fun _ _ _ _ _ => rfl), g4_0, (by rw [show max mk (k + 1) = mk by omega]; exact tmd_nd ht16 hTm2 (k := k) (by omega) (fun z8 n1 n2 => (fg4 z8 n1).trans (fg3 z8 n2)) ((fg4 _ (by omega)).trans g3_0)), (fg4 _ (by omega)).trans g3_0⟩), by rw [ht9]; exact hP9, hD9⟩, hS.F ht9⟩) hS.2.2 dTr_newLeaf_69
  · have gh1 : k = mk := (nI_eq (a := k) (b := mk) (by omega) (by omega)).mp h1
    refine lv_aload_n hx hb dTr_newLeaf_14 rfl (lv_at hl 0 rfl) ?_
    refine va_get (D := D) (ci := 9) (v := .ref (ad (1020 + t))) (C := R_Tr) (T := T_Tr) (N := 6) hx hb hT in_Tr hown hK (pg_1 (x := 1000 + t) hcd hP (by omega) hTc) 0 rfl rfl 0 (by decide) (hT _ w730) (fun _ h9 => h9) rfl dTr_newLeaf_15 ?_
    refine va_new (ci := 10) (fs := [.int 0, .int 0, .int 0, .int 0, .int 0, .int 0, .int 0, .int 0, .null]) (C := R_N) (T := T_N) (N := 9) hx hb hT in_N ty_N ty_N_ok hown (hT _ w427) (hT _ w822) (hT _ w27) hK hP hD hS hA rfl (fun j hj => match j, hj with | 0, _ => rfl | 1, _ => rfl | 2, _ => rfl | 3, _ => rfl | 4, _ => rfl | 5, _ => rfl | 6, _ => rfl | 7, _ => rfl | 8, _ => rfl | _ + 9, hj => absurd hj (by omega)) ((by show 0 + 1 ≤ (4 * (max mk (k + 1) - mk)); omega)) ((by show 0 + 9 ≤ (69 * (max mk (k + 1) - mk)); omega)) dTr_newLeaf_18 (fun q18 H hP hD hS => ?_)
    have hP := hy_push hP
    have hD := hy_pushD hD
    have hP : va_P D vwCl ([(q18, .inr (10, [.int 0, .int 0, .int 0, .int 0, .int 0, .int 0, .int 0, .int 0, .null]))] ++ pg cds ad gg) _ := hP
    have hD : va_D A ([(q18, .inr (10, [.int 0, .int 0, .int 0, .int 0, .int 0, .int 0, .int 0, .int 0, .null]))] ++ pg cds ad gg) := hD
    refine lv_dup hx hb dTr_newLeaf_21 rfl ?_
    refine hy_vQ (X := [(q18, .inr (10, [.int 0, .int 0, .int 0, .int 0, .int 0, .int 0, .int 0, .int 0, .null]))]) (pl := pg cds ad gg) (cx := [(q18, .inr (10, [.int 0, .int 0, .int 0, .int 0, .int 0, .int 0, .int 0, .int 0, .null]))]) (wr := []) hP hD hS hA [0] [] rfl rfl (by decide) (by decide) (va_runIN (As := []) (rest := [.ref q18, .ref (ad (1020 + t))]) ⟨hx, hb, hml, hown, hT⟩ (k_NodeX l D cT q18 _) ⟨va_cnB 0 hT (tb_gd w825) rfl rfl rfl (hZ.1.2.1 ("ResidualTrees$Tree", 32, ⟨"ResidualTrees$Node", "<init>", "()V"⟩, "ResidualTrees") (List.mem_of_getElem? (i := 12) rfl)) (hT _ w27) hN_init ⟨Nat.le_of_ble_eq_true rfl, Nat.le_of_ble_eq_true rfl⟩, rfl, (hT _ w824)⟩ (RW.preS hZ hS (hy_free (cx := [(q18, .inr (10, [.int 0, .int 0, .int 0, .int 0, .int 0, .int 0, .int 0, .int 0, .null]))]) hD hS hA [0] rfl) (hP.sub (ws' := [(q18, .inr (10, [.int 0, .int 0, .int 0, .int 0, .int 0, .int 0, .int 0, .int 0, .null]))]) [0] rfl) hK (hD.sub (ws' := [(q18, .inr (10, [.int 0, .int 0, .int 0, .int 0, .int 0, .int 0, .int 0, .int 0, .null]))]) [0] (by decide) rfl)) rfl rfl hl.1 rfl (lv_room (Nat.le_of_ble_eq_true rfl)) dTr_newLeaf_22 ⟨(by show 1 + 2 ≤ (4 * (max mk (k + 1) - mk)); omega), (by show 9 + 27 ≤ (69 * (max mk (k + 1) - mk)); omega)⟩) (fun u9 H locs hpu3 hP hD hS => ?_)
    obtain ⟨nsu3, nwu3⟩ := u9
    have hpu3 : True := hpu3
    have hP : va_P D vwCl ([(q18, .inr (10, [.int 0, .int 0, .int 0, .int 0, .int 0, .int 0, .int 0, .int 0, .ref nsu3])), (nsu3, .inr (4, [.ref nwu3, .int 0, .int 0])), (nwu3, .inl (cT 0, 24, .inl (fun _ => 0)))] ++ pg cds ad gg) _ := hP
    have hD : va_D A ([(q18, .inr (10, [.int 0, .int 0, .int 0, .int 0, .int 0, .int 0, .int 0, .int 0, .ref nsu3])), (nsu3, .inr (4, [.ref nwu3, .int 0, .int 0])), (nwu3, .inl (cT 0, 24, .inl (fun _ => 0)))] ++ pg cds ad gg) := hD
    refine hy_iP (X := [(q18, .inr (10, [.int 0, .int 0, .int 0, .int 0, .int 0, .int 0, .int 0, .int 0, .ref nsu3])), (nsu3, .inr (4, [.ref nwu3, .int 0, .int 0])), (nwu3, .inl (cT 0, 24, .inl (fun _ => 0)))]) (pl := pg cds ad gg) (cx := [(q18, .inr (10, [.int 0, .int 0, .int 0, .int 0, .int 0, .int 0, .int 0, .int 0, .ref nsu3]))]) (wr := [(nsu3, .inr (4, [.ref nwu3, .int 0, .int 0])), (nwu3, .inl (cT 0, 24, .inl (fun _ => 0)))]) hP hD hS hA [0] [1, 2] rfl rfl (by decide) (by decide) (va_runV (As := [.ref q18]) (rest := []) ⟨hx, hb, hml, hown, hT⟩ (k_alAddPN l D cT cds ad gg tE mE (1020 + t) (1040 + t) (2000 + 32 * t) mk q18 0 0 0 0 0 0 0 0 nsu3 hcd (by omega) (by omega) hLQ0 (fun k8 hk8 => (by obtain ⟨⟨q0, q1, q2, q3, q4, q5, q6, q7, e9⟩, _⟩ := hNX0 k8 hk8; exact ⟨_, by omega, e9⟩)) _) ⟨callB_of 1 hT (tb_gd w757) rfl rfl rfl (hT _ w11) (hT _ w878) hAL_add ⟨Nat.le_of_ble_eq_true rfl, Nat.le_of_ble_eq_true rfl⟩, (hT _ w755), (hT _ w756)⟩ (RWE.preW (ci := 12) (q0 := 0) hE0 hZ hS (va_freeP (cx := [(q18, .inr (10, [.int 0, .int 0, .int 0, .int 0, .int 0, .int 0, .int 0, .int 0, .ref nsu3]))]) hD hS hA [0] rfl) (hP.part (cx := [(q18, .inr (10, [.int 0, .int 0, .int 0, .int 0, .int 0, .int 0, .int 0, .int 0, .ref nsu3]))]) [0] rfl) hK (hD.part (cx := [(q18, .inr (10, [.int 0, .int 0, .int 0, .int 0, .int 0, .int 0, .int 0, .int 0, .ref nsu3]))]) [0] (by decide) rfl) (pg_1 (x := 1020 + t) hcd hP (by omega) hli) rfl rfl) rfl rfl hl.1 rfl (lv_room (Nat.le_of_ble_eq_true rfl)) dTr_newLeaf_25 ⟨(by show 3 + 1 ≤ (4 * (max mk (k + 1) - mk)); omega), (by show 36 + 33 ≤ (69 * (max mk (k + 1) - mk)); omega)⟩) (fun ru4 u9 H locs hpu4 hP hD hS => ?_)
    obtain ⟨ad7u4, gg7u4⟩ := u9
    have hpu4 : ru4 = 1 ∧ (∀ z8, z8 ≠ (1020 + t) → z8 ≠ (1040 + t) → gg7u4 z8 = gg z8) ∧ (∀ z8, z8 ≠ (1040 + t) → ad7u4 z8 = ad z8) ∧ LQv cT ad ad7u4 gg7u4 (1020 + t) (1040 + t) (2000 + 32 * t) mk q18 := hpu4
    have hP : va_P D vwCl ([(nsu3, .inr (4, [.ref nwu3, .int 0, .int 0])), (nwu3, .inl (cT 0, 24, .inl (fun _ => 0))), (q18, .inr (10, [.int 0, .int 0, .int 0, .int 0, .int 0, .int 0, .int 0, .int 0, .ref nsu3]))] ++ pg cds ad7u4 gg7u4) _ := hP
    have hD : va_D A ([(nsu3, .inr (4, [.ref nwu3, .int 0, .int 0])), (nwu3, .inl (cT 0, 24, .inl (fun _ => 0))), (q18, .inr (10, [.int 0, .int 0, .int 0, .int 0, .int 0, .int 0, .int 0, .int 0, .ref nsu3]))] ++ pg cds ad7u4 gg7u4) := hD
    obtain ⟨hr1, fr1, fa1, hv1⟩ := hpu4
    have hl : lv_has ls 4 [(0, .ref (ad7u4 (1000 + t))), (1, .int rws), (2, .int dd)] := by rw [fa1 (1000 + t) (by omega)]; exact hl
    refine lv_pop hx hb dTr_newLeaf_28 rfl ?_
    obtain ⟨ad2, had2⟩ : ∃ f9 : Nat → Nat, f9 = va_up (va_up (va_up ad7u4 (2000 + 32 * t + mk) q18) (3000 + 32 * t + mk) nsu3) (4000 + 32 * t + mk) nwu3 := ⟨_, rfl⟩
    have ead2_0 : ad2 (2000 + 32 * t + mk) = q18 := by rw [had2]; exact (va_up_ne _ _ (by omega)).trans ((va_up_ne _ _ (by omega)).trans (va_up_self _ _ _))
    have ead2_1 : ad2 (3000 + 32 * t + mk) = nsu3 := by rw [had2]; exact (va_up_ne _ _ (by omega)).trans (va_up_self _ _ _)
    have ead2_2 : ad2 (4000 + 32 * t + mk) = nwu3 := by rw [had2]; exact va_up_self _ _ _
    have aad2 : ∀ z8, z8 ≠ 2000 + 32 * t + mk → z8 ≠ 3000 + 32 * t + mk → z8 ≠ 4000 + 32 * t + mk → ad2 z8 = ad7u4 z8 := fun z8 n0 n1 n2 => by rw [had2]; exact (va_up_ne _ _ n2).trans ((va_up_ne _ _ n1).trans ((va_up_ne _ _ n0).trans (rfl)))
    have pad2 : pg cds ad2 gg7u4 = pg cds ad7u4 gg7u4 := by rw [had2]; exact (pg_ad ((fr1 _ (by omega) (by omega)).trans (hNN0 mk (by omega) (by omega)).2.2)).trans ((pg_ad ((fr1 _ (by omega) (by omega)).trans (hNN0 mk (by omega) (by omega)).2.1)).trans ((pg_ad ((fr1 _ (by omega) (by omega)).trans (hNN0 mk (by omega) (by omega)).1)).trans (rfl)))
    have hw9 : ([(ad2 (3000 + 32 * t + mk), .inr (4, [.ref (ad2 (4000 + 32 * t + mk)), .int 0, .int 0])), (ad2 (4000 + 32 * t + mk), .inl (cT 0, 24, .inl (fun _ => 0))), (ad2 (2000 + 32 * t + mk), .inr (10, [.int 0, .int 0, .int 0, .int 0, .int 0, .int 0, .int 0, .int 0, .ref (ad2 (3000 + 32 * t + mk))]))] ++ pg cds ad2 gg7u4) = ([(nsu3, .inr (4, [.ref nwu3, .int 0, .int 0])), (nwu3, .inl (cT 0, 24, .inl (fun _ => 0))), (q18, .inr (10, [.int 0, .int 0, .int 0, .int 0, .int 0, .int 0, .int 0, .int 0, .ref nsu3]))] ++ pg cds ad7u4 gg7u4) := by rw [pad2, ead2_1, ead2_2, ead2_0]
    have hP := vP_eq hw9 hP
    have hD := vD_eq hw9 hD
    have hP : va_P D vwCl ([(ad2 (3000 + 32 * t + mk), .inr (4, [.ref (ad2 (4000 + 32 * t + mk)), .int 0, .int 0])), (ad2 (4000 + 32 * t + mk), .inl (cT 0, 24, .inl (fun _ => 0))), (ad2 (2000 + 32 * t + mk), .inr (10, [.int 0, .int 0, .int 0, .int 0, .int 0, .int 0, .int 0, .int 0, .ref (ad2 (3000 + 32 * t + mk))]))] ++ pg cds ad2 gg7u4) _ := hP
    have hD : va_D A ([(ad2 (3000 + 32 * t + mk), .inr (4, [.ref (ad2 (4000 + 32 * t + mk)), .int 0, .int 0])), (ad2 (4000 + 32 * t + mk), .inl (cT 0, 24, .inl (fun _ => 0))), (ad2 (2000 + 32 * t + mk), .inr (10, [.int 0, .int 0, .int 0, .int 0, .int 0, .int 0, .int 0, .int 0, .ref (ad2 (3000 + 32 * t + mk))]))] ++ pg cds ad2 gg7u4) := hD
    have hl : lv_has ls 4 [(0, .ref (ad2 (1000 + t))), (1, .int rws), (2, .int dd)] := by rw [aad2 (1000 + t) (by omega) (by omega) (by omega)]; exact hl
    have hup : upo gg7u4 [2000 + 32 * t + mk, 3000 + 32 * t + mk, 4000 + 32 * t + mk] = gg7u4 := upo_nn (nn_c ((fr1 _ (by omega) (by omega)).trans (hNN0 mk (by omega) (by omega)).1) (nn_c ((fr1 _ (by omega) (by omega)).trans (hNN0 mk (by omega) (by omega)).2.1) (nn_c ((fr1 _ (by omega) (by omega)).trans (hNN0 mk (by omega) (by omega)).2.2) nn_0)))
    have hw9 : ([(ad2 (3000 + 32 * t + mk), .inr (4, [.ref (ad2 (4000 + 32 * t + mk)), .int 0, .int 0])), (ad2 (4000 + 32 * t + mk), .inl (cT 0, 24, .inl (fun _ => 0))), (ad2 (2000 + 32 * t + mk), .inr (10, [.int 0, .int 0, .int 0, .int 0, .int 0, .int 0, .int 0, .int 0, .ref (ad2 (3000 + 32 * t + mk))]))] ++ pg cds ad2 (upo gg7u4 [2000 + 32 * t + mk, 3000 + 32 * t + mk, 4000 + 32 * t + mk])) = ([(ad2 (3000 + 32 * t + mk), .inr (4, [.ref (ad2 (4000 + 32 * t + mk)), .int 0, .int 0])), (ad2 (4000 + 32 * t + mk), .inl (cT 0, 24, .inl (fun _ => 0))), (ad2 (2000 + 32 * t + mk), .inr (10, [.int 0, .int 0, .int 0, .int 0, .int 0, .int 0, .int 0, .int 0, .ref (ad2 (3000 + 32 * t + mk))]))] ++ pg cds ad2 gg7u4) := by rw [hup]
    have hP := vP_eq hw9 hP
    have hD := vD_eq hw9 hD
    have hN9 := (show NDc [2000 + 32 * t + mk, 3000 + 32 * t + mk, 4000 + 32 * t + mk] from (nd_c (na_c (by omega) (na_c (by omega) na_0)) (nd_c (na_c (by omega) na_0) (nd_c na_0 nd_0))))
    have hP := gb_P (w9 := [(2000 + 32 * t + mk, .inr (10, [.int 0, .int 0, .int 0, .int 0, .int 0, .int 0, .int 0, .int 0, .ref (ad2 (3000 + 32 * t + mk))])), (3000 + 32 * t + mk, .inr (4, [.ref (ad2 (4000 + 32 * t + mk)), .int 0, .int 0])), (4000 + 32 * t + mk, .inl (cT 0, 24, .inl (fun _ => 0)))]) (X := []) (g := gg7u4) hcd hN9 (show QB [(2000 + 32 * t + mk, .inr (10, [.int 0, .int 0, .int 0, .int 0, .int 0, .int 0, .int 0, .int 0, .ref (ad2 (3000 + 32 * t + mk))])), (3000 + 32 * t + mk, .inr (4, [.ref (ad2 (4000 + 32 * t + mk)), .int 0, .int 0])), (4000 + 32 * t + mk, .inl (cT 0, 24, .inl (fun _ => 0)))] from (qb_c (by omega) (qb_c (by omega) (qb_c (by omega) qb_0)))) (hP.part (cx := [(ad2 (2000 + 32 * t + mk), .inr (10, [.int 0, .int 0, .int 0, .int 0, .int 0, .int 0, .int 0, .int 0, .ref (ad2 (3000 + 32 * t + mk))])), (ad2 (3000 + 32 * t + mk), .inr (4, [.ref (ad2 (4000 + 32 * t + mk)), .int 0, .int 0])), (ad2 (4000 + 32 * t + mk), .inl (cT 0, 24, .inl (fun _ => 0)))]) [2, 0, 1] rfl)
    have hD := gb_D (w9 := [(2000 + 32 * t + mk, .inr (10, [.int 0, .int 0, .int 0, .int 0, .int 0, .int 0, .int 0, .int 0, .ref (ad2 (3000 + 32 * t + mk))])), (3000 + 32 * t + mk, .inr (4, [.ref (ad2 (4000 + 32 * t + mk)), .int 0, .int 0])), (4000 + 32 * t + mk, .inl (cT 0, 24, .inl (fun _ => 0)))]) (X := []) (g := gg7u4) hcd hN9 (show QB [(2000 + 32 * t + mk, .inr (10, [.int 0, .int 0, .int 0, .int 0, .int 0, .int 0, .int 0, .int 0, .ref (ad2 (3000 + 32 * t + mk))])), (3000 + 32 * t + mk, .inr (4, [.ref (ad2 (4000 + 32 * t + mk)), .int 0, .int 0])), (4000 + 32 * t + mk, .inl (cT 0, 24, .inl (fun _ => 0)))] from (qb_c (by omega) (qb_c (by omega) (qb_c (by omega) qb_0)))) (hD.part (cx := [(ad2 (2000 + 32 * t + mk), .inr (10, [.int 0, .int 0, .int 0, .int 0, .int 0, .int 0, .int 0, .int 0, .ref (ad2 (3000 + 32 * t + mk))])), (ad2 (3000 + 32 * t + mk), .inr (4, [.ref (ad2 (4000 + 32 * t + mk)), .int 0, .int 0])), (ad2 (4000 + 32 * t + mk), .inl (cT 0, 24, .inl (fun _ => 0)))]) [2, 0, 1] (by decide) rfl)
    obtain ⟨g2, hg2⟩ : ∃ q9, q9 = ups gg7u4 [(2000 + 32 * t + mk, .inr (10, [.int 0, .int 0, .int 0, .int 0, .int 0, .int 0, .int 0, .int 0, .ref (ad2 (3000 + 32 * t + mk))])), (3000 + 32 * t + mk, .inr (4, [.ref (ad2 (4000 + 32 * t + mk)), .int 0, .int 0])), (4000 + 32 * t + mk, .inl (cT 0, 24, .inl (fun _ => 0)))] := ⟨_, rfl⟩
    rw [← hg2] at hP hD
    have hP : va_P D vwCl ([] ++ pg cds ad2 g2) _ := hP
    have hD : va_D A ([] ++ pg cds ad2 g2) := hD
    have fg2 : ∀ z8, z8 ≠ 2000 + 32 * t + mk → z8 ≠ 3000 + 32 * t + mk → z8 ≠ 4000 + 32 * t + mk → g2 z8 = gg7u4 z8 := fun z8 z1 z2 z3 => by rw [hg2]; exact ups_k (kp_n z1 (kp_n z2 (kp_n z3 kp_0)))
    have g2_0 : g2 (2000 + 32 * t + mk) = some (.inr (10, [.int 0, .int 0, .int 0, .int 0, .int 0, .int 0, .int 0, .int 0, .ref (ad2 (3000 + 32 * t + mk))])) := by rw [hg2]; exact ups_1
    have g2_1 : g2 (3000 + 32 * t + mk) = some (.inr (4, [.ref (ad2 (4000 + 32 * t + mk)), .int 0, .int 0])) := by rw [hg2]; exact ups_2 (by omega)
    have g2_2 : g2 (4000 + 32 * t + mk) = some (.inl (cT 0, 24, .inl (fun _ => 0))) := by rw [hg2]; exact ups_3 (by omega) (by omega)
    have hTm2 : TMD cT ad2 g2 tE t (mk + 1) := tmd_add ht16 hTm (by omega) fr1 fa1 hv1 fg2 aad2 ead2_0 g2_0 ⟨0, 0, _, g2_1, g2_2, wn_0⟩
    have hTc2 : g2 (1000 + t) = some (eTR (ad2 (1020 + t)) (nI k) tw tu tl tsc) := by rw [aad2 _ (by omega) (by omega) (by omega), fa1 _ (by omega)]; exact (fg2 _ (by omega) (by omega) (by omega)).trans ((fr1 _ (by omega) (by omega)).trans hTc)
    obtain ⟨hLQ9, hm9, hNX9, hNN9⟩ := id hTm2
    obtain ⟨cap9, md9, lf9, l1, l2, l3, l4, l5⟩ := hLQ9.full (by omega)
    obtain ⟨⟨q0, q1, q2, q3, q4, q5, q6, q7, hnd9⟩, z9, hwz9⟩ := hNX9 k (by omega)
    refine lv_aload_n hx hb dTr_newLeaf_29 rfl (lv_at hl 0 rfl) ?_
    refine va_get (D := D) (ci := 9) (v := .ref (ad2 (1020 + t))) (C := R_Tr) (T := T_Tr) (N := 6) hx hb hT in_Tr hown hK (pg_1 (x := 1000 + t) hcd hP (by omega) hTc2) 0 rfl rfl 0 (by decide) (hT _ w730) (fun _ h9 => h9) rfl dTr_newLeaf_30 ?_
    refine lv_aload_n hx hb dTr_newLeaf_33 rfl (lv_at hl 0 rfl) ?_
    refine va_get (D := D) (ci := 9) (v := .int (nI k)) (C := R_Tr) (T := T_Tr) (N := 6) hx hb hT in_Tr hown hK (pg_1 (x := 1000 + t) hcd hP (by omega) hTc2) 0 rfl rfl 1 (by decide) (hT _ w731) (fun _ h9 => h9) rfl dTr_newLeaf_34 ?_
    refine ro_r (va_Run.run (va_runV (As := [.int (nI k)]) (rest := []) ⟨hx, hb, hml, hown, hT⟩ (k_alGet l D cT (ad2 (1020 + t)) (ad2 (1040 + t)) (mk + 1) md9 cap9 lf9 k (ad2 (2000 + 32 * t + k)) (by omega) l3 (by omega) (l5 _ (by omega))) ⟨callB_of 1 hT (tb_gd w401) rfl rfl rfl (hT _ w11) (hT _ w426) hAL_get ⟨Nat.le_of_ble_eq_true rfl, Nat.le_of_ble_eq_true rfl⟩, (hT _ w399), (hT _ w400)⟩ (RO.preV (ci := 12) (q0 := 0) hZ hS ((show va_P D vwCl [(ad2 (1020 + t), .inr (12, [.ref (ad2 (1040 + t)), .int (nI (mk + 1)), .int md9])), (ad2 (1040 + t), .inl (cT 7, cap9, .inr (.inr (.inr (.inr lf9)))))] _ from (pv_c (pg_1 (x := 1020 + t) hcd hP (by omega) l1) (pv_c (pg_1 (x := 1040 + t) hcd hP (by omega) l2) pv_0)))) hK rfl rfl) rfl rfl hl.1 rfl (lv_room (Nat.le_of_ble_eq_true rfl)) dTr_newLeaf_37 ⟨(by show 4 + 0 ≤ (4 * (max mk (k + 1) - mk)); omega), (by show 69 + 0 ≤ (69 * (max mk (k + 1) - mk)); omega)⟩)) ?_
    refine va_castY (C := "ResidualTrees$Node") hx hb hown (hT _ w427) (hZ.1.1 ("ResidualTrees$Node", "ResidualTrees$Node") (List.mem_of_getElem? (i := 3) rfl)) (va_recv (ci := 10) (q0 := 0) hK (pg_1 (x := 2000 + 32 * t + k) hcd hP (by omega) hnd9) rfl rfl) dTr_newLeaf_40 ?_
    refine lv_astore_n hx hb dTr_newLeaf_43 rfl hl (by decide) rfl (fun ls hl => ?_)
    have hl : lv_has ls 4 [(3, .ref (ad2 (2000 + 32 * t + k))), (0, .ref (ad2 (1000 + t))), (1, .int rws), (2, .int dd)] := hl
    have hB9 : QI g2 [(2000 + 32 * t + k, .inr (10, [.int q0, .int q1, .int q2, .int q3, .int q4, .int q5, .int q6, .int q7, .ref (ad2 (3000 + 32 * t + k))]))] := (qi_c (by omega) hnd9 qi_0)
    have hN9 := (show NDc [2000 + 32 * t + k] from (nd_c na_0 nd_0))
    have hP := bo_P (wc := [(2000 + 32 * t + k, .inr (10, [.int q0, .int q1, .int q2, .int q3, .int q4, .int q5, .int q6, .int q7, .ref (ad2 (3000 + 32 * t + k))]))]) (X := []) hcd hN9 hB9 hP
    have hD := bo_D (wc := [(2000 + 32 * t + k, .inr (10, [.int q0, .int q1, .int q2, .int q3, .int q4, .int q5, .int q6, .int q7, .ref (ad2 (3000 + 32 * t + k))]))]) (X := []) hcd hN9 hB9 hD
    have hP : va_P D vwCl ([(ad2 (2000 + 32 * t + k), .inr (10, [.int q0, .int q1, .int q2, .int q3, .int q4, .int q5, .int q6, .int q7, .ref (ad2 (3000 + 32 * t + k))]))] ++ pg cds ad2 (upo g2 [2000 + 32 * t + k])) _ := hP
    have hD : va_D A ([(ad2 (2000 + 32 * t + k), .inr (10, [.int q0, .int q1, .int q2, .int q3, .int q4, .int q5, .int q6, .int q7, .ref (ad2 (3000 + 32 * t + k))]))] ++ pg cds ad2 (upo g2 [2000 + 32 * t + k])) := hD
    refine lv_aload_n hx hb dTr_newLeaf_44 rfl (lv_at hl 0 rfl) ?_
    refine hy_vQ (X := [(ad2 (2000 + 32 * t + k), .inr (10, [.int q0, .int q1, .int q2, .int q3, .int q4, .int q5, .int q6, .int q7, .ref (ad2 (3000 + 32 * t + k))]))]) (pl := pg cds ad2 (upo g2 [2000 + 32 * t + k])) (cx := [(ad2 (2000 + 32 * t + k), .inr (10, [.int q0, .int q1, .int q2, .int q3, .int q4, .int q5, .int q6, .int q7, .ref (ad2 (3000 + 32 * t + k))]))]) (wr := []) hP hD hS hA [0] [] rfl rfl (by decide) (by decide) (va_runV (As := []) (rest := []) ⟨hx, hb, hml, hown, hT⟩ (k_becomeLeaf l D cT (ad2 (2000 + 32 * t + k)) (ad2 (3000 + 32 * t + k)) q0 q1 q2 q3 q4 q5 q6 q7 _) ⟨callB_of 0 hT (tb_gd w882) rfl rfl rfl (hT _ w27) (hT _ w879) hN_becomeLeaf ⟨Nat.le_of_ble_eq_true rfl, Nat.le_of_ble_eq_true rfl⟩, (hT _ w880), (hT _ w881)⟩ (RW.preV (ci := 10) (q0 := 0) hZ hS (hy_free (cx := [(ad2 (2000 + 32 * t + k), .inr (10, [.int q0, .int q1, .int q2, .int q3, .int q4, .int q5, .int q6, .int q7, .ref (ad2 (3000 + 32 * t + k))]))]) hD hS hA [0] rfl) (hP.sub (ws' := [(ad2 (2000 + 32 * t + k), .inr (10, [.int q0, .int q1, .int q2, .int q3, .int q4, .int q5, .int q6, .int q7, .ref (ad2 (3000 + 32 * t + k))]))]) [0] rfl) hK (hD.sub (ws' := [(ad2 (2000 + 32 * t + k), .inr (10, [.int q0, .int q1, .int q2, .int q3, .int q4, .int q5, .int q6, .int q7, .ref (ad2 (3000 + 32 * t + k))]))]) [0] (by decide) rfl) rfl rfl) rfl rfl hl.1 rfl (lv_room (Nat.le_of_ble_eq_true rfl)) dTr_newLeaf_45 ⟨(by show 4 + 0 ≤ (4 * (max mk (k + 1) - mk)); omega), (by show 69 + 0 ≤ (69 * (max mk (k + 1) - mk)); omega)⟩) (fun u9 H locs hpu5 hP hD hS => ?_)
    have hpu5 : True := hpu5
    have hP : va_P D vwCl ([(ad2 (2000 + 32 * t + k), .inr (10, [.int (-1), .int 0, .int 0, .int 0, .int (-1), .int (-1), .int q6, .int q7, .ref (ad2 (3000 + 32 * t + k))]))] ++ pg cds ad2 (upo g2 [2000 + 32 * t + k])) _ := hP
    have hD : va_D A ([(ad2 (2000 + 32 * t + k), .inr (10, [.int (-1), .int 0, .int 0, .int 0, .int (-1), .int (-1), .int q6, .int q7, .ref (ad2 (3000 + 32 * t + k))]))] ++ pg cds ad2 (upo g2 [2000 + 32 * t + k])) := hD
    refine lv_aload_n hx hb dTr_newLeaf_48 rfl (lv_at hl 0 rfl) ?_
    refine lv_iload_n hx hb dTr_newLeaf_49 rfl (lv_at hl 2 rfl) ?_
    refine va_put (D := D) (ci := 10) (v := .int rws) (ty := .int) (C := R_N) (T := T_N) (N := 9) hx hb hT in_N ty_N ty_N_ok m_N hown hK hP hD hS 0 rfl rfl 6 (by decide) (hT _ w850) (fun _ h9 => h9) rfl (by decide +kernel) rfl rfl (Nat.le_of_ble_eq_true rfl) dTr_newLeaf_50 (fun H locs hP hD hS => ?_)
    have hP : va_P D vwCl ([(ad2 (2000 + 32 * t + k), .inr (10, [.int (-1), .int 0, .int 0, .int 0, .int (-1), .int (-1), .int rws, .int q7, .ref (ad2 (3000 + 32 * t + k))]))] ++ pg cds ad2 (upo g2 [2000 + 32 * t + k])) _ := hP
    have hD : va_D A ([(ad2 (2000 + 32 * t + k), .inr (10, [.int (-1), .int 0, .int 0, .int 0, .int (-1), .int (-1), .int rws, .int q7, .ref (ad2 (3000 + 32 * t + k))]))] ++ pg cds ad2 (upo g2 [2000 + 32 * t + k])) := hD
    refine lv_aload_n hx hb dTr_newLeaf_53 rfl (lv_at hl 0 rfl) ?_
    refine lv_iload_n hx hb dTr_newLeaf_54 rfl (lv_at hl 3 rfl) ?_
    refine va_put (D := D) (ci := 10) (v := .int dd) (ty := .int) (C := R_N) (T := T_N) (N := 9) hx hb hT in_N ty_N ty_N_ok m_N hown hK hP hD hS 0 rfl rfl 7 (by decide) (hT _ w853) (fun _ h9 => h9) rfl (by decide +kernel) rfl rfl (Nat.le_of_ble_eq_true rfl) dTr_newLeaf_55 (fun H locs hP hD hS => ?_)
    have hP : va_P D vwCl ([(ad2 (2000 + 32 * t + k), .inr (10, [.int (-1), .int 0, .int 0, .int 0, .int (-1), .int (-1), .int rws, .int dd, .ref (ad2 (3000 + 32 * t + k))]))] ++ pg cds ad2 (upo g2 [2000 + 32 * t + k])) _ := hP
    have hD : va_D A ([(ad2 (2000 + 32 * t + k), .inr (10, [.int (-1), .int 0, .int 0, .int 0, .int (-1), .int (-1), .int rws, .int dd, .ref (ad2 (3000 + 32 * t + k))]))] ++ pg cds ad2 (upo g2 [2000 + 32 * t + k])) := hD
    have hN9 := (show NDc [2000 + 32 * t + k] from (nd_c na_0 nd_0))
    have hP := gb_P (w9 := [(2000 + 32 * t + k, .inr (10, [.int (-1), .int 0, .int 0, .int 0, .int (-1), .int (-1), .int rws, .int dd, .ref (ad2 (3000 + 32 * t + k))]))]) (X := []) (g := g2) hcd hN9 (show QB [(2000 + 32 * t + k, .inr (10, [.int (-1), .int 0, .int 0, .int 0, .int (-1), .int (-1), .int rws, .int dd, .ref (ad2 (3000 + 32 * t + k))]))] from (qb_c (by omega) qb_0)) (hP.part (cx := [(ad2 (2000 + 32 * t + k), .inr (10, [.int (-1), .int 0, .int 0, .int 0, .int (-1), .int (-1), .int rws, .int dd, .ref (ad2 (3000 + 32 * t + k))]))]) [0] rfl)
    have hD := gb_D (w9 := [(2000 + 32 * t + k, .inr (10, [.int (-1), .int 0, .int 0, .int 0, .int (-1), .int (-1), .int rws, .int dd, .ref (ad2 (3000 + 32 * t + k))]))]) (X := []) (g := g2) hcd hN9 (show QB [(2000 + 32 * t + k, .inr (10, [.int (-1), .int 0, .int 0, .int 0, .int (-1), .int (-1), .int rws, .int dd, .ref (ad2 (3000 + 32 * t + k))]))] from (qb_c (by omega) qb_0)) (hD.part (cx := [(ad2 (2000 + 32 * t + k), .inr (10, [.int (-1), .int 0, .int 0, .int 0, .int (-1), .int (-1), .int rws, .int dd, .ref (ad2 (3000 + 32 * t + k))]))]) [0] (by decide) rfl)
    obtain ⟨g3, hg3⟩ : ∃ q9, q9 = ups g2 [(2000 + 32 * t + k, .inr (10, [.int (-1), .int 0, .int 0, .int 0, .int (-1), .int (-1), .int rws, .int dd, .ref (ad2 (3000 + 32 * t + k))]))] := ⟨_, rfl⟩
    rw [← hg3] at hP hD
    have hP : va_P D vwCl ([] ++ pg cds ad2 g3) _ := hP
    have hD : va_D A ([] ++ pg cds ad2 g3) := hD
    have fg3 : ∀ z8, z8 ≠ 2000 + 32 * t + k → g3 z8 = g2 z8 := fun z8 z1 => by rw [hg3]; exact ups_k (kp_n z1 kp_0)
    have g3_0 : g3 (2000 + 32 * t + k) = some (.inr (10, [.int (-1), .int 0, .int 0, .int 0, .int (-1), .int (-1), .int rws, .int dd, .ref (ad2 (3000 + 32 * t + k))])) := by rw [hg3]; exact ups_1
    refine lv_aload_n hx hb dTr_newLeaf_58 rfl (lv_at hl 1 rfl) ?_
    refine lv_dup hx hb dTr_newLeaf_59 rfl ?_
    refine va_get (D := D) (ci := 9) (v := .int (nI k)) (C := R_Tr) (T := T_Tr) (N := 6) hx hb hT in_Tr hown hK (pg_1 (x := 1000 + t) hcd hP (by omega) ((fg3 _ (by omega)).trans hTc2)) 0 rfl rfl 1 (by decide) (hT _ w731) (fun _ h9 => h9) rfl dTr_newLeaf_60 ?_
    refine lv_dup_x1 hx hb dTr_newLeaf_63 rfl rfl ?_
    refine lv_iconst (v := 1) hx hb dTr_newLeaf_64 (by decide) ?_
    refine lv_iadd hx hb dTr_newLeaf_65 ?_
    refine lv_topi (fun y9 e9 => ?_)
    cases (show y9 = nI (k + 1) from e9.trans (nI_add k 1))
    have hB9 : QI g3 [(1000 + t, .inr (9, [.ref (ad2 (1020 + t)), .int (nI k), .int tw, .int tu, .int tl, .long tsc]))] := (qi_c (by omega) ((fg3 _ (by omega)).trans hTc2) qi_0)
    have hN9 := (show NDc [1000 + t] from (nd_c na_0 nd_0))
    have hP := bo_P (wc := [(1000 + t, .inr (9, [.ref (ad2 (1020 + t)), .int (nI k), .int tw, .int tu, .int tl, .long tsc]))]) (X := []) hcd hN9 hB9 hP
    have hD := bo_D (wc := [(1000 + t, .inr (9, [.ref (ad2 (1020 + t)), .int (nI k), .int tw, .int tu, .int tl, .long tsc]))]) (X := []) hcd hN9 hB9 hD
    have hP : va_P D vwCl ([(ad2 (1000 + t), .inr (9, [.ref (ad2 (1020 + t)), .int (nI k), .int tw, .int tu, .int tl, .long tsc]))] ++ pg cds ad2 (upo g3 [1000 + t])) _ := hP
    have hD : va_D A ([(ad2 (1000 + t), .inr (9, [.ref (ad2 (1020 + t)), .int (nI k), .int tw, .int tu, .int tl, .long tsc]))] ++ pg cds ad2 (upo g3 [1000 + t])) := hD
    refine va_put (D := D) (ci := 9) (v := .int (nI (k + 1))) (ty := .int) (C := R_Tr) (T := T_Tr) (N := 6) hx hb hT in_Tr ty_Tr ty_Tr_ok m_Tr hown hK hP hD hS 0 rfl rfl 1 (by decide) (hT _ w731) (fun _ h9 => h9) rfl (by decide +kernel) rfl rfl (Nat.le_of_ble_eq_true rfl) dTr_newLeaf_66 (fun H locs hP hD hS => ?_)
    have hP : va_P D vwCl ([(ad2 (1000 + t), .inr (9, [.ref (ad2 (1020 + t)), .int (nI (k + 1)), .int tw, .int tu, .int tl, .long tsc]))] ++ pg cds ad2 (upo g3 [1000 + t])) _ := hP
    have hD : va_D A ([(ad2 (1000 + t), .inr (9, [.ref (ad2 (1020 + t)), .int (nI (k + 1)), .int tw, .int tu, .int tl, .long tsc]))] ++ pg cds ad2 (upo g3 [1000 + t])) := hD
    have hN9 := (show NDc [1000 + t] from (nd_c na_0 nd_0))
    have hP := gb_P (w9 := [(1000 + t, .inr (9, [.ref (ad2 (1020 + t)), .int (nI (k + 1)), .int tw, .int tu, .int tl, .long tsc]))]) (X := []) (g := g3) hcd hN9 (show QB [(1000 + t, .inr (9, [.ref (ad2 (1020 + t)), .int (nI (k + 1)), .int tw, .int tu, .int tl, .long tsc]))] from (qb_c (by omega) qb_0)) (hP.part (cx := [(ad2 (1000 + t), .inr (9, [.ref (ad2 (1020 + t)), .int (nI (k + 1)), .int tw, .int tu, .int tl, .long tsc]))]) [0] rfl)
    have hD := gb_D (w9 := [(1000 + t, .inr (9, [.ref (ad2 (1020 + t)), .int (nI (k + 1)), .int tw, .int tu, .int tl, .long tsc]))]) (X := []) (g := g3) hcd hN9 (show QB [(1000 + t, .inr (9, [.ref (ad2 (1020 + t)), .int (nI (k + 1)), .int tw, .int tu, .int tl, .long tsc]))] from (qb_c (by omega) qb_0)) (hD.part (cx := [(ad2 (1000 + t), .inr (9, [.ref (ad2 (1020 + t)), .int (nI (k + 1)), .int tw, .int tu, .int tl, .long tsc]))]) [0] (by decide) rfl)
    obtain ⟨g4, hg4⟩ : ∃ q9, q9 = ups g3 [(1000 + t, .inr (9, [.ref (ad2 (1020 + t)), .int (nI (k + 1)), .int tw, .int tu, .int tl, .long tsc]))] := ⟨_, rfl⟩
    rw [← hg4] at hP hD
    have hP : va_P D vwCl ([] ++ pg cds ad2 g4) _ := hP
    have hD : va_D A ([] ++ pg cds ad2 g4) := hD
    have fg4 : ∀ z8, z8 ≠ 1000 + t → g4 z8 = g3 z8 := fun z8 z1 => by rw [hg4]; exact ups_k (kp_n z1 kp_0)
    have g4_0 : g4 (1000 + t) = some (.inr (9, [.ref (ad2 (1020 + t)), .int (nI (k + 1)), .int tw, .int tu, .int tl, .long tsc])) := by rw [hg4]; exact ups_1
    have hP9 : va_P D vwCl ([] ++ pg cds ad2 g4) _ := hP.part (cx := []) [] rfl
    have hD9 : va_D A ([] ++ pg cds ad2 g4) := hD.part (cx := []) [] (by decide) rfl
    refine W.widen (k := 4 * (max mk (k + 1) - mk)) (n := 69 * (max mk (k + 1) - mk)) ((by show 4 ≤ 4 * (max mk (k + 1) - mk); omega)) ((by show 69 ≤ 69 * (max mk (k + 1) - mk); omega)) ?_
    exact W.iret (v := nI k) hx hb hr (fun t9 ht9 hW9 => ⟨⟨nI k, (ad2, g4), rfl, (show (nI k) = nI k ∧ (∀ z8, z8 ≠ 1000 + t → z8 ≠ 1020 + t → z8 ≠ 1040 + t → z8 ≠ 2000 + 32 * t + k → z8 ≠ 3000 + 32 * t + k → z8 ≠ 4000 + 32 * t + k → g4 z8 = gg z8) ∧ (∀ z8, z8 ≠ 1040 + t → z8 ≠ 2000 + 32 * t + k → z8 ≠ 3000 + 32 * t + k → z8 ≠ 4000 + 32 * t + k → ad2 z8 = ad z8) ∧ g4 (1000 + t) = some (eTR (ad2 (1020 + t)) (nI (k + 1)) tw tu tl tsc) ∧ TMD cT ad2 g4 tE t (max mk (k + 1)) ∧ g4 (2000 + 32 * t + k) = some (eND (-1) 0 0 0 (-1) (-1) rws dd (ad2 (3000 + 32 * t + k))) from ⟨rfl, (fun z8 n1 n2 n3 n4 n5 n6 => (fg4 z8 n1).trans ((fg3 z8 n4).trans ((fg2 z8 (by omega) (by omega) (by omega)).trans (fr1 z8 n2 n3)))), (fun z8 n1 n2 n3 n4 => (aad2 z8 (by omega) (by omega) (by omega)).trans (fa1 z8 n1)), g4_0, (by rw [show max mk (k + 1) = mk + 1 by omega]; exact tmd_nd ht16 hTm2 (k := k) (by omega) (fun z8 n1 n2 => (fg4 z8 n1).trans (fg3 z8 n2)) ((fg4 _ (by omega)).trans g3_0)), (fg4 _ (by omega)).trans g3_0⟩), by rw [ht9]; exact hP9, hD9⟩, hS.F ht9⟩) hS.2.2 dTr_newLeaf_69
