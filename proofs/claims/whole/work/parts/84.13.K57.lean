set_option maxHeartbeats 4000000 in
set_option maxRecDepth 100000 in
theorem k_treeAt (l : Launch) (D : va_G) (cT : Nat → ClassId) (cds : List Nat) (ad : Nat → Nat) (gg : Nat → Option va_E) (F : TFR) (t : Nat) (k : Nat) (hcd : CD cds) (hTr : TRp cT ad gg F t) (ht16 : t < 16) (hkm : k < tM F t) : Met l yTr_at WTr_at ({ frames := 3, cells := 0, slots := 0, locals := 64 } : Room) (RO D vwCl [.ref (ad (1000 + t)), .int (nI k)] ([] ++ pg cds ad gg) (TY cT)) (QcReadR (ad (2000 + 32 * t + k))) 0 0 (fun _ => False) := by
  refine Met.ofW (cc := cTr_at) (maxL := 2) (ret := (some (.object "ResidualTrees$Node"))) (by decide) rfl ?_
  intro p e s m args below meth c s₁ B hml hv
  obtain ⟨rfl, hZ, hP, hK⟩ := hv
  have hx := B.exec
  have hb := B.bytes
  have hr := B.returns
  have hts := atoms_spec (ws := WTr_at) B.pre
  have hT : ∀ w ∈ TB, w.before _ s = true := fun w h => hts w (List.mem_cons_of_mem _ h)
  have hown : s.vm.findClass R_Tr = some m.cls := findClass_of_methodNamed B.named
  have hlocks := B.notSynchronized
  have hS : va_S (fun _ => False) s.heap s.heap [] := va_S.rf
  have hl := lv_entry ([.ref (ad (1000 + t)), .int (nI k)]) (n := 2) (Nat.le_of_ble_eq_true rfl)
  rw [lg_entry_eq]
  generalize (lg_sl ([.ref (ad (1000 + t)), .int (nI k)]) ++ List.replicate (2 - (lg_sl ([.ref (ad (1000 + t)), .int (nI k)])).length) Slot.unset).toArray = ls at hl ⊢
  have hl : lv_has ls 2 [(0, .ref (ad (1000 + t))), (1, .int (nI k))] := hl
  obtain ⟨mm, tr1, ⟨cap, md, lf, ls1, ls2, ls3, ls4, ls5⟩, tr3, tr4, tr5⟩ := hTr
  refine lv_aload_n hx hb dTr_at_0 rfl (lv_at hl 0 rfl) ?_
  refine va_get (D := D) (ci := 9) (v := .ref (ad (1020 + t))) (C := R_Tr) (T := T_Tr) (N := 6) hx hb hT in_Tr hown hK (pg_1 (x := 1000 + t) hcd hP (by omega) tr1) 0 rfl rfl 0 (by decide) (hT _ w730) (fun _ h9 => h9) rfl dTr_at_1 ?_
  refine lv_iload_n hx hb dTr_at_4 rfl (lv_at hl 1 rfl) ?_
  refine ro_r (va_Run.run (va_runV (As := [.int (nI k)]) (rest := []) ⟨hx, hb, hml, hown, hT⟩ (k_alGet l D cT (ad (1020 + t)) (ad (1040 + t)) mm md cap lf k (ad (2000 + 32 * t + k)) (by omega) ls3 (by omega) (ls5 _ (by omega))) ⟨callB_of 1 hT (tb_gd w401) rfl rfl rfl (hT _ w11) (hT _ w426) hAL_get ⟨Nat.le_of_ble_eq_true rfl, Nat.le_of_ble_eq_true rfl⟩, (hT _ w399), (hT _ w400)⟩ (RO.preV (ci := 12) (q0 := 0) hZ hS ((show va_P D vwCl [(ad (1020 + t), .inr (12, [.ref (ad (1040 + t)), .int (nI mm), .int md])), (ad (1040 + t), .inl (cT 7, cap, .inr (.inr (.inr (.inr lf)))))] _ from (pv_c (pg_1 (x := 1020 + t) hcd hP (by omega) ls1) (pv_c (pg_1 (x := 1040 + t) hcd hP (by omega) ls2) pv_0)))) hK rfl rfl) rfl rfl hl.1 rfl (lv_room (Nat.le_of_ble_eq_true rfl)) dTr_at_5 ⟨Nat.le_of_ble_eq_true rfl, Nat.le_of_ble_eq_true rfl⟩)) ?_
  refine va_castY (C := "ResidualTrees$Node") hx hb hown (hT _ w427) (hZ.1.1 ("ResidualTrees$Node", "ResidualTrees$Node") (List.mem_of_getElem? (i := 3) rfl)) (va_recv (ci := 10) (q0 := 0) hK (pg_1 (x := 2000 + 32 * t + k) hcd hP (by omega) ((tr5 k hkm).1)) rfl rfl) dTr_at_8 ?_
  exact W.aret (v := .ref (ad (2000 + 32 * t + k))) hx hb hr (Or.inl ⟨_, rfl⟩) (Or.inr ⟨_, rfl⟩) (fun t9 ht9 hW9 => ⟨rfl, ht9⟩) (fun q h => nomatch h) dTr_at_11
set_option maxHeartbeats 4000000 in
set_option maxRecDepth 100000 in
theorem k_hasNodeY (l : Launch) (D : va_G) (cT : Nat → ClassId) (cds : List Nat) (ad : Nat → Nat) (gg : Nat → Option va_E) (T : Nat) (fm : Nat) (F : TFR) (t : Nat) (k : Nat) (hcd : CD cds) (hob : gg 0 = some (eOB ad (nI T))) (hFr : FRp cT ad gg fm) (hTm : T ≤ fm) (hTs : TRS cT ad gg F T) (hT16 : T ≤ 16) (htT : t < T) (hc0 : 0 ≤ nI t ∧ nI t ≤ nI T - 1) (hk0 : 0 ≤ nI k ∧ nI k ≤ nI (tM F t) - 1) : Met l yR_hasNode WR_hasNode ({ frames := 3, cells := 0, slots := 0, locals := 64 } : Room) (RO D vwCl [.ref (ad 0), .int (nI t), .int (nI k)] ([] ++ pg cds ad gg) (TY cT)) (QcRead 1) 0 0 (fun _ => False) := by
  refine Met.ofW (cc := cR_hasNode) (maxL := 3) (ret := (some .boolean)) (by decide) rfl ?_
  intro p e s m args below meth c s₁ B hml hv
  obtain ⟨rfl, hZ, hP, hK⟩ := hv
  have hx := B.exec
  have hb := B.bytes
  have hr := B.returns
  have hts := atoms_spec (ws := WR_hasNode) B.pre
  have hT : ∀ w ∈ TB, w.before _ s = true := fun w h => hts w (List.mem_cons_of_mem _ h)
  have hown : s.vm.findClass R_R = some m.cls := findClass_of_methodNamed B.named
  have hlocks := B.notSynchronized
  have hS : va_S (fun _ => False) s.heap s.heap [] := va_S.rf
  have hl := lv_entry ([.ref (ad 0), .int (nI t), .int (nI k)]) (n := 3) (Nat.le_of_ble_eq_true rfl)
  rw [lg_entry_eq]
  generalize (lg_sl ([.ref (ad 0), .int (nI t), .int (nI k)]) ++ List.replicate (3 - (lg_sl ([.ref (ad 0), .int (nI t), .int (nI k)])).length) Slot.unset).toArray = ls at hl ⊢
  have hl : lv_has ls 3 [(0, .ref (ad 0)), (1, .int (nI t)), (2, .int (nI k))] := hl
  refine lv_iload_n hx hb dR_hasNode_0 rfl (lv_at hl 1 rfl) ?_
  refine lv_iconst (v := 0) hx hb dR_hasNode_1 (by decide) ?_
  refine lv_aload_n hx hb dR_hasNode_2 rfl (lv_at hl 0 rfl) ?_
  refine va_get (D := D) (ci := 0) (v := .int (nI T)) (C := R_R) (T := T_R) (N := 13) hx hb hT in_R hown hK (pg_1 (x := 0) hcd hP (by decide) hob) 0 rfl rfl 5 (by decide) (hT _ w329) (fun _ h9 => h9) rfl dR_hasNode_3 ?_
  refine lv_iconst (v := 1) hx hb dR_hasNode_6 (by decide) ?_
  refine lv_isub hx hb dR_hasNode_7 ?_
  refine ro_i (va_Run.run (va_runS (As := [.int (nI t), .int 0, .int ((nI T) - 1)]) (rest := []) ⟨hx, hb, hml, hown, hT⟩ (k_isWithin l D cT (nI t) 0 ((nI T) - 1)) ⟨callB_of 3 hT (tb_gd w499) rfl rfl rfl (hT _ w1) (hT _ w497) hR_isWithin ⟨Nat.le_of_ble_eq_true rfl, Nat.le_of_ble_eq_true rfl⟩, (hT _ w498)⟩ (RO.preS hZ hS ((show va_P D vwCl [] _ from fun _ _ h => nomatch h)) hK) rfl rfl hl.1 rfl (lv_room (Nat.le_of_ble_eq_true rfl)) dR_hasNode_8 ⟨Nat.le_of_ble_eq_true rfl, Nat.le_of_ble_eq_true rfl⟩)) ?_
  refine lv_if_eq (tgt := 42) hx hb dR_hasNode_11 rfl (fun h1 => absurd h1 (by rw [bi_t hc0]; decide)) (fun _ => ?_)
  obtain ⟨fcap, fmd, flf, f1, f2, f3, f4, f5⟩ := hFr.2 (by omega)
  have hTr1 := hTs t htT
  obtain ⟨mm, tr1, ⟨cap, md, lf, ls1, ls2, ls3, ls4, ls5⟩, tr3, tr4, tr5⟩ := hTr1
  refine lv_iload_n hx hb dR_hasNode_14 rfl (lv_at hl 2 rfl) ?_
  refine lv_iconst (v := 0) hx hb dR_hasNode_15 (by decide) ?_
  refine lv_aload_n hx hb dR_hasNode_16 rfl (lv_at hl 0 rfl) ?_
  refine va_get (D := D) (ci := 0) (v := .ref (ad 9)) (C := R_R) (T := T_R) (N := 13) hx hb hT in_R hown hK (pg_1 (x := 0) hcd hP (by decide) hob) 0 rfl rfl 4 (by decide) (hT _ w328) (fun _ h9 => h9) rfl dR_hasNode_17 ?_
  refine lv_iload_n hx hb dR_hasNode_20 rfl (lv_at hl 1 rfl) ?_
  refine ro_r (va_Run.run (va_runV (As := [.int (nI t)]) (rest := [.int 0, .int (nI k)]) ⟨hx, hb, hml, hown, hT⟩ (k_alGet l D cT (ad 9) (ad 40) fm fmd fcap flf t (ad (1000 + t)) (by omega) f3 (by omega) (f5 _ (by omega))) ⟨callB_of 1 hT (tb_gd w401) rfl rfl rfl (hT _ w11) (hT _ w398) hAL_get ⟨Nat.le_of_ble_eq_true rfl, Nat.le_of_ble_eq_true rfl⟩, (hT _ w399), (hT _ w400)⟩ (RO.preV (ci := 12) (q0 := 0) hZ hS ((show va_P D vwCl [(ad 9, .inr (12, [.ref (ad 40), .int (nI fm), .int fmd])), (ad 40, .inl (cT 7, fcap, .inr (.inr (.inr (.inr flf)))))] _ from (pv_c (pg_1 (x := 9) hcd hP (by decide) f1) (pv_c (pg_1 (x := 40) hcd hP (by decide) f2) pv_0)))) hK rfl rfl) rfl rfl hl.1 rfl (lv_room (Nat.le_of_ble_eq_true rfl)) dR_hasNode_21 ⟨Nat.le_of_ble_eq_true rfl, Nat.le_of_ble_eq_true rfl⟩)) ?_
  refine va_castY (C := "ResidualTrees$Tree") hx hb hown (hT _ w412) (hZ.1.1 ("ResidualTrees$Tree", "ResidualTrees$Tree") (List.mem_of_getElem? (i := 2) rfl)) (va_recv (ci := 9) (q0 := 0) hK (pg_1 (x := 1000 + t) hcd hP (by omega) tr1) rfl rfl) dR_hasNode_24 ?_
  refine va_get (D := D) (ci := 9) (v := .int (nI (tM F t))) (C := R_Tr) (T := T_Tr) (N := 6) hx hb hT in_Tr hown hK (pg_1 (x := 1000 + t) hcd hP (by omega) tr1) 0 rfl rfl 1 (by decide) (hT _ w732) (fun _ h9 => h9) rfl dR_hasNode_27 ?_
  refine lv_iconst (v := 1) hx hb dR_hasNode_30 (by decide) ?_
  refine lv_isub hx hb dR_hasNode_31 ?_
  refine ro_i (va_Run.run (va_runS (As := [.int (nI k), .int 0, .int ((nI (tM F t)) - 1)]) (rest := []) ⟨hx, hb, hml, hown, hT⟩ (k_isWithin l D cT (nI k) 0 ((nI (tM F t)) - 1)) ⟨callB_of 3 hT (tb_gd w499) rfl rfl rfl (hT _ w1) (hT _ w497) hR_isWithin ⟨Nat.le_of_ble_eq_true rfl, Nat.le_of_ble_eq_true rfl⟩, (hT _ w498)⟩ (RO.preS hZ hS ((show va_P D vwCl [] _ from fun _ _ h => nomatch h)) hK) rfl rfl hl.1 rfl (lv_room (Nat.le_of_ble_eq_true rfl)) dR_hasNode_32 ⟨Nat.le_of_ble_eq_true rfl, Nat.le_of_ble_eq_true rfl⟩)) ?_
  refine lv_if_eq (tgt := 42) hx hb dR_hasNode_35 rfl (fun h2 => absurd h2 (by rw [bi_t hk0]; decide)) (fun _ => ?_)
  refine lv_iconst (v := 1) hx hb dR_hasNode_38 (by decide) ?_
  refine lv_goto (tgt := 43) hx hb dR_hasNode_39 rfl ?_
  exact W.zret (v := 1) hx hb hr rfl (fun t9 ht9 hW9 => ⟨rfl, ht9⟩) (fun q h => nomatch h) dR_hasNode_43
set_option maxHeartbeats 4000000 in
set_option maxRecDepth 100000 in
theorem k_hasNodeT (l : Launch) (D : va_G) (cT : Nat → ClassId) (cds : List Nat) (ad : Nat → Nat) (gg : Nat → Option va_E) (T : Nat) (fm : Nat) (F : TFR) (v : Int32) (a2 : Int32) (hcd : CD cds) (hob : gg 0 = some (eOB ad (nI T))) (hFr : FRp cT ad gg fm) (hTm : T ≤ fm) (hTs : TRS cT ad gg F T) (hT16 : T ≤ 16) (hq : ¬ (0 ≤ v ∧ v ≤ nI T - 1)) : Met l yR_hasNode WR_hasNode ({ frames := 1, cells := 0, slots := 0, locals := 22 } : Room) (RO D vwCl [.ref (ad 0), .int v, .int a2] ([] ++ pg cds ad gg) (TY cT)) (QcRead 0) 0 0 (fun _ => False) := by
  refine Met.ofW (cc := cR_hasNode) (maxL := 3) (ret := (some .boolean)) (by decide) rfl ?_
  intro p e s m args below meth c s₁ B hml hv
  obtain ⟨rfl, hZ, hP, hK⟩ := hv
  have hx := B.exec
  have hb := B.bytes
  have hr := B.returns
  have hts := atoms_spec (ws := WR_hasNode) B.pre
  have hT : ∀ w ∈ TB, w.before _ s = true := fun w h => hts w (List.mem_cons_of_mem _ h)
  have hown : s.vm.findClass R_R = some m.cls := findClass_of_methodNamed B.named
  have hlocks := B.notSynchronized
  have hS : va_S (fun _ => False) s.heap s.heap [] := va_S.rf
  have hl := lv_entry ([.ref (ad 0), .int v, .int a2]) (n := 3) (Nat.le_of_ble_eq_true rfl)
  rw [lg_entry_eq]
  generalize (lg_sl ([.ref (ad 0), .int v, .int a2]) ++ List.replicate (3 - (lg_sl ([.ref (ad 0), .int v, .int a2])).length) Slot.unset).toArray = ls at hl ⊢
  have hl : lv_has ls 3 [(0, .ref (ad 0)), (1, .int v), (2, .int a2)] := hl
  refine lv_iload_n hx hb dR_hasNode_0 rfl (lv_at hl 1 rfl) ?_
  refine lv_iconst (v := 0) hx hb dR_hasNode_1 (by decide) ?_
  refine lv_aload_n hx hb dR_hasNode_2 rfl (lv_at hl 0 rfl) ?_
  refine va_get (D := D) (ci := 0) (v := .int (nI T)) (C := R_R) (T := T_R) (N := 13) hx hb hT in_R hown hK (pg_1 (x := 0) hcd hP (by decide) hob) 0 rfl rfl 5 (by decide) (hT _ w329) (fun _ h9 => h9) rfl dR_hasNode_3 ?_
  refine lv_iconst (v := 1) hx hb dR_hasNode_6 (by decide) ?_
  refine lv_isub hx hb dR_hasNode_7 ?_
  refine ro_i (va_Run.run (va_runS (As := [.int v, .int 0, .int ((nI T) - 1)]) (rest := []) ⟨hx, hb, hml, hown, hT⟩ (k_isWithin l D cT v 0 ((nI T) - 1)) ⟨callB_of 3 hT (tb_gd w499) rfl rfl rfl (hT _ w1) (hT _ w497) hR_isWithin ⟨Nat.le_of_ble_eq_true rfl, Nat.le_of_ble_eq_true rfl⟩, (hT _ w498)⟩ (RO.preS hZ hS ((show va_P D vwCl [] _ from fun _ _ h => nomatch h)) hK) rfl rfl hl.1 rfl (lv_room (Nat.le_of_ble_eq_true rfl)) dR_hasNode_8 ⟨Nat.le_of_ble_eq_true rfl, Nat.le_of_ble_eq_true rfl⟩)) ?_
  refine lv_if_eq (tgt := 42) hx hb dR_hasNode_11 rfl (fun _ => ?_) (fun h1 => absurd (bi_f hq) h1)
  refine lv_iconst (v := 0) hx hb dR_hasNode_42 (by decide) ?_
  exact W.zret (v := 0) hx hb hr rfl (fun t9 ht9 hW9 => ⟨rfl, ht9⟩) (fun q h => nomatch h) dR_hasNode_43
set_option maxHeartbeats 4000000 in
set_option maxRecDepth 100000 in
theorem k_hasNodeK (l : Launch) (D : va_G) (cT : Nat → ClassId) (cds : List Nat) (ad : Nat → Nat) (gg : Nat → Option va_E) (T : Nat) (fm : Nat) (F : TFR) (t : Nat) (a2 : Int32) (hcd : CD cds) (hob : gg 0 = some (eOB ad (nI T))) (hFr : FRp cT ad gg fm) (hTm : T ≤ fm) (hTs : TRS cT ad gg F T) (hT16 : T ≤ 16) (htT : t < T) (hc0 : 0 ≤ nI t ∧ nI t ≤ nI T - 1) (hq : ¬ (0 ≤ a2 ∧ a2 ≤ nI (tM F t) - 1)) : Met l yR_hasNode WR_hasNode ({ frames := 3, cells := 0, slots := 0, locals := 64 } : Room) (RO D vwCl [.ref (ad 0), .int (nI t), .int a2] ([] ++ pg cds ad gg) (TY cT)) (QcRead 0) 0 0 (fun _ => False) := by
  refine Met.ofW (cc := cR_hasNode) (maxL := 3) (ret := (some .boolean)) (by decide) rfl ?_
  intro p e s m args below meth c s₁ B hml hv
  obtain ⟨rfl, hZ, hP, hK⟩ := hv
  have hx := B.exec
  have hb := B.bytes
  have hr := B.returns
  have hts := atoms_spec (ws := WR_hasNode) B.pre
  have hT : ∀ w ∈ TB, w.before _ s = true := fun w h => hts w (List.mem_cons_of_mem _ h)
  have hown : s.vm.findClass R_R = some m.cls := findClass_of_methodNamed B.named
  have hlocks := B.notSynchronized
  have hS : va_S (fun _ => False) s.heap s.heap [] := va_S.rf
  have hl := lv_entry ([.ref (ad 0), .int (nI t), .int a2]) (n := 3) (Nat.le_of_ble_eq_true rfl)
  rw [lg_entry_eq]
  generalize (lg_sl ([.ref (ad 0), .int (nI t), .int a2]) ++ List.replicate (3 - (lg_sl ([.ref (ad 0), .int (nI t), .int a2])).length) Slot.unset).toArray = ls at hl ⊢
  have hl : lv_has ls 3 [(0, .ref (ad 0)), (1, .int (nI t)), (2, .int a2)] := hl
  refine lv_iload_n hx hb dR_hasNode_0 rfl (lv_at hl 1 rfl) ?_
  refine lv_iconst (v := 0) hx hb dR_hasNode_1 (by decide) ?_
  refine lv_aload_n hx hb dR_hasNode_2 rfl (lv_at hl 0 rfl) ?_
  refine va_get (D := D) (ci := 0) (v := .int (nI T)) (C := R_R) (T := T_R) (N := 13) hx hb hT in_R hown hK (pg_1 (x := 0) hcd hP (by decide) hob) 0 rfl rfl 5 (by decide) (hT _ w329) (fun _ h9 => h9) rfl dR_hasNode_3 ?_
  refine lv_iconst (v := 1) hx hb dR_hasNode_6 (by decide) ?_
  refine lv_isub hx hb dR_hasNode_7 ?_
  refine ro_i (va_Run.run (va_runS (As := [.int (nI t), .int 0, .int ((nI T) - 1)]) (rest := []) ⟨hx, hb, hml, hown, hT⟩ (k_isWithin l D cT (nI t) 0 ((nI T) - 1)) ⟨callB_of 3 hT (tb_gd w499) rfl rfl rfl (hT _ w1) (hT _ w497) hR_isWithin ⟨Nat.le_of_ble_eq_true rfl, Nat.le_of_ble_eq_true rfl⟩, (hT _ w498)⟩ (RO.preS hZ hS ((show va_P D vwCl [] _ from fun _ _ h => nomatch h)) hK) rfl rfl hl.1 rfl (lv_room (Nat.le_of_ble_eq_true rfl)) dR_hasNode_8 ⟨Nat.le_of_ble_eq_true rfl, Nat.le_of_ble_eq_true rfl⟩)) ?_
  refine lv_if_eq (tgt := 42) hx hb dR_hasNode_11 rfl (fun h1 => absurd h1 (by rw [bi_t hc0]; decide)) (fun _ => ?_)
  obtain ⟨fcap, fmd, flf, f1, f2, f3, f4, f5⟩ := hFr.2 (by omega)
  have hTr1 := hTs t htT
  obtain ⟨mm, tr1, ⟨cap, md, lf, ls1, ls2, ls3, ls4, ls5⟩, tr3, tr4, tr5⟩ := hTr1
  refine lv_iload_n hx hb dR_hasNode_14 rfl (lv_at hl 2 rfl) ?_
  refine lv_iconst (v := 0) hx hb dR_hasNode_15 (by decide) ?_
  refine lv_aload_n hx hb dR_hasNode_16 rfl (lv_at hl 0 rfl) ?_
  refine va_get (D := D) (ci := 0) (v := .ref (ad 9)) (C := R_R) (T := T_R) (N := 13) hx hb hT in_R hown hK (pg_1 (x := 0) hcd hP (by decide) hob) 0 rfl rfl 4 (by decide) (hT _ w328) (fun _ h9 => h9) rfl dR_hasNode_17 ?_
  refine lv_iload_n hx hb dR_hasNode_20 rfl (lv_at hl 1 rfl) ?_
  refine ro_r (va_Run.run (va_runV (As := [.int (nI t)]) (rest := [.int 0, .int a2]) ⟨hx, hb, hml, hown, hT⟩ (k_alGet l D cT (ad 9) (ad 40) fm fmd fcap flf t (ad (1000 + t)) (by omega) f3 (by omega) (f5 _ (by omega))) ⟨callB_of 1 hT (tb_gd w401) rfl rfl rfl (hT _ w11) (hT _ w398) hAL_get ⟨Nat.le_of_ble_eq_true rfl, Nat.le_of_ble_eq_true rfl⟩, (hT _ w399), (hT _ w400)⟩ (RO.preV (ci := 12) (q0 := 0) hZ hS ((show va_P D vwCl [(ad 9, .inr (12, [.ref (ad 40), .int (nI fm), .int fmd])), (ad 40, .inl (cT 7, fcap, .inr (.inr (.inr (.inr flf)))))] _ from (pv_c (pg_1 (x := 9) hcd hP (by decide) f1) (pv_c (pg_1 (x := 40) hcd hP (by decide) f2) pv_0)))) hK rfl rfl) rfl rfl hl.1 rfl (lv_room (Nat.le_of_ble_eq_true rfl)) dR_hasNode_21 ⟨Nat.le_of_ble_eq_true rfl, Nat.le_of_ble_eq_true rfl⟩)) ?_
  refine va_castY (C := "ResidualTrees$Tree") hx hb hown (hT _ w412) (hZ.1.1 ("ResidualTrees$Tree", "ResidualTrees$Tree") (List.mem_of_getElem? (i := 2) rfl)) (va_recv (ci := 9) (q0 := 0) hK (pg_1 (x := 1000 + t) hcd hP (by omega) tr1) rfl rfl) dR_hasNode_24 ?_
  refine va_get (D := D) (ci := 9) (v := .int (nI (tM F t))) (C := R_Tr) (T := T_Tr) (N := 6) hx hb hT in_Tr hown hK (pg_1 (x := 1000 + t) hcd hP (by omega) tr1) 0 rfl rfl 1 (by decide) (hT _ w732) (fun _ h9 => h9) rfl dR_hasNode_27 ?_
  refine lv_iconst (v := 1) hx hb dR_hasNode_30 (by decide) ?_
  refine lv_isub hx hb dR_hasNode_31 ?_
  refine ro_i (va_Run.run (va_runS (As := [.int a2, .int 0, .int ((nI (tM F t)) - 1)]) (rest := []) ⟨hx, hb, hml, hown, hT⟩ (k_isWithin l D cT a2 0 ((nI (tM F t)) - 1)) ⟨callB_of 3 hT (tb_gd w499) rfl rfl rfl (hT _ w1) (hT _ w497) hR_isWithin ⟨Nat.le_of_ble_eq_true rfl, Nat.le_of_ble_eq_true rfl⟩, (hT _ w498)⟩ (RO.preS hZ hS ((show va_P D vwCl [] _ from fun _ _ h => nomatch h)) hK) rfl rfl hl.1 rfl (lv_room (Nat.le_of_ble_eq_true rfl)) dR_hasNode_32 ⟨Nat.le_of_ble_eq_true rfl, Nat.le_of_ble_eq_true rfl⟩)) ?_
  refine lv_if_eq (tgt := 42) hx hb dR_hasNode_35 rfl (fun _ => ?_) (fun h2 => absurd (bi_f hq) h2)
  refine lv_iconst (v := 0) hx hb dR_hasNode_42 (by decide) ?_
  exact W.zret (v := 0) hx hb hr rfl (fun t9 ht9 hW9 => ⟨rfl, ht9⟩) (fun q h => nomatch h) dR_hasNode_43
set_option maxHeartbeats 4000000 in
set_option maxRecDepth 100000 in
theorem k_node0 (l : Launch) (D : va_G) (cT : Nat → ClassId) (cds : List Nat) (ad : Nat → Nat) (gg : Nat → Option va_E) (T : Nat) (fm : Nat) (F : TFR) (t : Nat) (k : Nat) (hcd : CD cds) (hob : gg 0 = some (eOB ad (nI T))) (hFr : FRp cT ad gg fm) (hTm : T ≤ fm) (hTs : TRS cT ad gg F T) (hT16 : T ≤ 16) (htT : t < T) (hc0 : 0 ≤ nI t ∧ nI t ≤ nI T - 1) (hk0 : 0 ≤ nI k ∧ nI k ≤ nI (tM F t) - 1) (hkm : k < tM F t) : Met l yR_node WR_node ({ frames := 4, cells := 0, slots := 0, locals := 86 } : Room) (RO D vwCl [.ref (ad 0), .int (nI t), .int (nI k), .int 0] ([] ++ pg cds ad gg) (TY cT)) (QcRead (tA F 0 (31 * t + k))) 0 0 (fun _ => False) := by
  refine Met.ofW (cc := cR_node) (maxL := 5) (ret := (some .int)) (by decide) rfl ?_
  intro p e s m args below meth c s₁ B hml hv
  obtain ⟨rfl, hZ, hP, hK⟩ := hv
  have hx := B.exec
  have hb := B.bytes
  have hr := B.returns
  have hts := atoms_spec (ws := WR_node) B.pre
  have hT : ∀ w ∈ TB, w.before _ s = true := fun w h => hts w (List.mem_cons_of_mem _ h)
  have hown : s.vm.findClass R_R = some m.cls := findClass_of_methodNamed B.named
  have hlocks := B.notSynchronized
  have hS : va_S (fun _ => False) s.heap s.heap [] := va_S.rf
  have hl := lv_entry ([.ref (ad 0), .int (nI t), .int (nI k), .int 0]) (n := 5) (Nat.le_of_ble_eq_true rfl)
  rw [lg_entry_eq]
  generalize (lg_sl ([.ref (ad 0), .int (nI t), .int (nI k), .int 0]) ++ List.replicate (5 - (lg_sl ([.ref (ad 0), .int (nI t), .int (nI k), .int 0])).length) Slot.unset).toArray = ls at hl ⊢
  have hl : lv_has ls 5 [(0, .ref (ad 0)), (1, .int (nI t)), (2, .int (nI k)), (3, .int 0)] := hl
  have hFr0 := hFr
  obtain ⟨fcap, fmd, flf, f1, f2, f3, f4, f5⟩ := hFr0.2 (by omega)
  have hTr1 := hTs t htT
  have hTr2 := hTs t htT
  obtain ⟨mm, tr1, ⟨cap, md, lf, ls1, ls2, ls3, ls4, ls5⟩, tr3, tr4, tr5⟩ := hTr1
  refine lv_aload_n hx hb dR_node_0 rfl (lv_at hl 0 rfl) ?_
  refine lv_iload_n hx hb dR_node_1 rfl (lv_at hl 1 rfl) ?_
  refine lv_iload_n hx hb dR_node_2 rfl (lv_at hl 2 rfl) ?_
  refine ro_i (va_Run.run (va_runV (As := [.int (nI t), .int (nI k)]) (rest := []) ⟨hx, hb, hml, hown, hT⟩ (k_hasNodeY l D cT cds ad gg T fm F t k hcd hob hFr hTm hTs hT16 htT hc0 hk0) ⟨callB_of 2 hT (tb_gd w1004) rfl rfl rfl (hT _ w1) (hT _ w1001) hR_hasNode ⟨Nat.le_of_ble_eq_true rfl, Nat.le_of_ble_eq_true rfl⟩, (hT _ w1003), (hT _ wp24)⟩ (RO.preW (ci := 0) (q0 := 0) hZ hS ((show va_P D vwCl ([] ++ pg cds ad gg) _ from (pv_p hP))) hK (pg_1 (x := 0) hcd hP (by decide) hob) rfl rfl) rfl rfl hl.1 rfl (lv_room (Nat.le_of_ble_eq_true rfl)) dR_node_3 ⟨Nat.le_of_ble_eq_true rfl, Nat.le_of_ble_eq_true rfl⟩)) ?_
  refine ro_v (va_Run.run (va_runS (As := [.int 1]) (rest := []) ⟨hx, hb, hml, hown, hT⟩ (k_demand_ok l D cT 1 (by decide)) ⟨callB_of 1 hT (tb_gd w510) rfl rfl rfl (hT _ w1) (hT _ w508) hR_demand ⟨Nat.le_of_ble_eq_true rfl, Nat.le_of_ble_eq_true rfl⟩, (hT _ w509)⟩ (RO.preS hZ hS ((show va_P D vwCl [] _ from fun _ _ h => nomatch h)) hK) rfl rfl hl.1 rfl (lv_room (Nat.le_of_ble_eq_true rfl)) dR_node_6 ⟨Nat.le_of_ble_eq_true rfl, Nat.le_of_ble_eq_true rfl⟩)) ?_
  refine lv_aload_n hx hb dR_node_9 rfl (lv_at hl 0 rfl) ?_
  refine va_get (D := D) (ci := 0) (v := .ref (ad 9)) (C := R_R) (T := T_R) (N := 13) hx hb hT in_R hown hK (pg_1 (x := 0) hcd hP (by decide) hob) 0 rfl rfl 4 (by decide) (hT _ w328) (fun _ h9 => h9) rfl dR_node_10 ?_
  refine lv_iload_n hx hb dR_node_13 rfl (lv_at hl 1 rfl) ?_
  refine ro_r (va_Run.run (va_runV (As := [.int (nI t)]) (rest := []) ⟨hx, hb, hml, hown, hT⟩ (k_alGet l D cT (ad 9) (ad 40) fm fmd fcap flf t (ad (1000 + t)) (by omega) f3 (by omega) (f5 _ (by omega))) ⟨callB_of 1 hT (tb_gd w401) rfl rfl rfl (hT _ w11) (hT _ w398) hAL_get ⟨Nat.le_of_ble_eq_true rfl, Nat.le_of_ble_eq_true rfl⟩, (hT _ w399), (hT _ w400)⟩ (RO.preV (ci := 12) (q0 := 0) hZ hS ((show va_P D vwCl [(ad 9, .inr (12, [.ref (ad 40), .int (nI fm), .int fmd])), (ad 40, .inl (cT 7, fcap, .inr (.inr (.inr (.inr flf)))))] _ from (pv_c (pg_1 (x := 9) hcd hP (by decide) f1) (pv_c (pg_1 (x := 40) hcd hP (by decide) f2) pv_0)))) hK rfl rfl) rfl rfl hl.1 rfl (lv_room (Nat.le_of_ble_eq_true rfl)) dR_node_14 ⟨Nat.le_of_ble_eq_true rfl, Nat.le_of_ble_eq_true rfl⟩)) ?_
  refine va_castY (C := "ResidualTrees$Tree") hx hb hown (hT _ w412) (hZ.1.1 ("ResidualTrees$Tree", "ResidualTrees$Tree") (List.mem_of_getElem? (i := 2) rfl)) (va_recv (ci := 9) (q0 := 0) hK (pg_1 (x := 1000 + t) hcd hP (by omega) tr1) rfl rfl) dR_node_17 ?_
  refine lv_iload_n hx hb dR_node_20 rfl (lv_at hl 2 rfl) ?_
  refine ro_r (va_Run.run (va_runV (As := [.int (nI k)]) (rest := []) ⟨hx, hb, hml, hown, hT⟩ (k_treeAt l D cT cds ad gg F t k hcd hTr2 (by omega) hkm) ⟨callB_of 1 hT (tb_gd w886) rfl rfl rfl (hT _ w24) (hT _ w1005) hTr_at ⟨Nat.le_of_ble_eq_true rfl, Nat.le_of_ble_eq_true rfl⟩, (hT _ w884), (hT _ w885)⟩ (RO.preW (ci := 9) (q0 := 0) hZ hS ((show va_P D vwCl ([] ++ pg cds ad gg) _ from (pv_p hP))) hK (pg_1 (x := 1000 + t) hcd hP (by omega) tr1) rfl rfl) rfl rfl hl.1 rfl (lv_room (Nat.le_of_ble_eq_true rfl)) dR_node_21 ⟨Nat.le_of_ble_eq_true rfl, Nat.le_of_ble_eq_true rfl⟩)) ?_
  refine lv_astore hx hb dR_node_24 hl (by decide) rfl (fun ls hl => ?_)
  have hl : lv_has ls 5 [(4, .ref (ad (2000 + 32 * t + k))), (0, .ref (ad 0)), (1, .int (nI t)), (2, .int (nI k)), (3, .int 0)] := hl
  refine lv_iload_n hx hb dR_node_26 rfl (lv_at hl 4 rfl) ?_
  refine lv_tableIn (off := 45) (tgt := 72) hx hb dR_node_27 (by decide) (by decide) rfl rfl ?_
  refine lv_aload hx hb dR_node_72 (lv_at hl 0 rfl) ?_
  refine va_get (D := D) (ci := 10) (v := .int (tA F 0 (31 * t + k))) (C := R_N) (T := T_N) (N := 9) hx hb hT in_N hown hK (pg_1 (x := 2000 + 32 * t + k) hcd hP (by omega) ((tr5 k hkm).1)) 0 rfl rfl 0 (by decide) (hT _ w832) (fun _ h9 => h9) rfl dR_node_74 ?_
  exact W.iret (v := tA F 0 (31 * t + k)) hx hb hr (fun t9 ht9 hW9 => ⟨rfl, ht9⟩) (fun q h => nomatch h) dR_node_77
set_option maxHeartbeats 4000000 in
set_option maxRecDepth 100000 in
theorem k_node1 (l : Launch) (D : va_G) (cT : Nat → ClassId) (cds : List Nat) (ad : Nat → Nat) (gg : Nat → Option va_E) (T : Nat) (fm : Nat) (F : TFR) (t : Nat) (k : Nat) (hcd : CD cds) (hob : gg 0 = some (eOB ad (nI T))) (hFr : FRp cT ad gg fm) (hTm : T ≤ fm) (hTs : TRS cT ad gg F T) (hT16 : T ≤ 16) (htT : t < T) (hc0 : 0 ≤ nI t ∧ nI t ≤ nI T - 1) (hk0 : 0 ≤ nI k ∧ nI k ≤ nI (tM F t) - 1) (hkm : k < tM F t) : Met l yR_node WR_node ({ frames := 4, cells := 0, slots := 0, locals := 86 } : Room) (RO D vwCl [.ref (ad 0), .int (nI t), .int (nI k), .int 1] ([] ++ pg cds ad gg) (TY cT)) (QcRead (tA F 1 (31 * t + k))) 0 0 (fun _ => False) := by
  refine Met.ofW (cc := cR_node) (maxL := 5) (ret := (some .int)) (by decide) rfl ?_
  intro p e s m args below meth c s₁ B hml hv
  obtain ⟨rfl, hZ, hP, hK⟩ := hv
  have hx := B.exec
  have hb := B.bytes
  have hr := B.returns
  have hts := atoms_spec (ws := WR_node) B.pre
  have hT : ∀ w ∈ TB, w.before _ s = true := fun w h => hts w (List.mem_cons_of_mem _ h)
  have hown : s.vm.findClass R_R = some m.cls := findClass_of_methodNamed B.named
  have hlocks := B.notSynchronized
  have hS : va_S (fun _ => False) s.heap s.heap [] := va_S.rf
  have hl := lv_entry ([.ref (ad 0), .int (nI t), .int (nI k), .int 1]) (n := 5) (Nat.le_of_ble_eq_true rfl)
  rw [lg_entry_eq]
  generalize (lg_sl ([.ref (ad 0), .int (nI t), .int (nI k), .int 1]) ++ List.replicate (5 - (lg_sl ([.ref (ad 0), .int (nI t), .int (nI k), .int 1])).length) Slot.unset).toArray = ls at hl ⊢
  have hl : lv_has ls 5 [(0, .ref (ad 0)), (1, .int (nI t)), (2, .int (nI k)), (3, .int 1)] := hl
  have hFr0 := hFr
  obtain ⟨fcap, fmd, flf, f1, f2, f3, f4, f5⟩ := hFr0.2 (by omega)
  have hTr1 := hTs t htT
  have hTr2 := hTs t htT
  obtain ⟨mm, tr1, ⟨cap, md, lf, ls1, ls2, ls3, ls4, ls5⟩, tr3, tr4, tr5⟩ := hTr1
  refine lv_aload_n hx hb dR_node_0 rfl (lv_at hl 0 rfl) ?_
  refine lv_iload_n hx hb dR_node_1 rfl (lv_at hl 1 rfl) ?_
  refine lv_iload_n hx hb dR_node_2 rfl (lv_at hl 2 rfl) ?_
  refine ro_i (va_Run.run (va_runV (As := [.int (nI t), .int (nI k)]) (rest := []) ⟨hx, hb, hml, hown, hT⟩ (k_hasNodeY l D cT cds ad gg T fm F t k hcd hob hFr hTm hTs hT16 htT hc0 hk0) ⟨callB_of 2 hT (tb_gd w1004) rfl rfl rfl (hT _ w1) (hT _ w1001) hR_hasNode ⟨Nat.le_of_ble_eq_true rfl, Nat.le_of_ble_eq_true rfl⟩, (hT _ w1003), (hT _ wp24)⟩ (RO.preW (ci := 0) (q0 := 0) hZ hS ((show va_P D vwCl ([] ++ pg cds ad gg) _ from (pv_p hP))) hK (pg_1 (x := 0) hcd hP (by decide) hob) rfl rfl) rfl rfl hl.1 rfl (lv_room (Nat.le_of_ble_eq_true rfl)) dR_node_3 ⟨Nat.le_of_ble_eq_true rfl, Nat.le_of_ble_eq_true rfl⟩)) ?_
  refine ro_v (va_Run.run (va_runS (As := [.int 1]) (rest := []) ⟨hx, hb, hml, hown, hT⟩ (k_demand_ok l D cT 1 (by decide)) ⟨callB_of 1 hT (tb_gd w510) rfl rfl rfl (hT _ w1) (hT _ w508) hR_demand ⟨Nat.le_of_ble_eq_true rfl, Nat.le_of_ble_eq_true rfl⟩, (hT _ w509)⟩ (RO.preS hZ hS ((show va_P D vwCl [] _ from fun _ _ h => nomatch h)) hK) rfl rfl hl.1 rfl (lv_room (Nat.le_of_ble_eq_true rfl)) dR_node_6 ⟨Nat.le_of_ble_eq_true rfl, Nat.le_of_ble_eq_true rfl⟩)) ?_
  refine lv_aload_n hx hb dR_node_9 rfl (lv_at hl 0 rfl) ?_
  refine va_get (D := D) (ci := 0) (v := .ref (ad 9)) (C := R_R) (T := T_R) (N := 13) hx hb hT in_R hown hK (pg_1 (x := 0) hcd hP (by decide) hob) 0 rfl rfl 4 (by decide) (hT _ w328) (fun _ h9 => h9) rfl dR_node_10 ?_
  refine lv_iload_n hx hb dR_node_13 rfl (lv_at hl 1 rfl) ?_
  refine ro_r (va_Run.run (va_runV (As := [.int (nI t)]) (rest := []) ⟨hx, hb, hml, hown, hT⟩ (k_alGet l D cT (ad 9) (ad 40) fm fmd fcap flf t (ad (1000 + t)) (by omega) f3 (by omega) (f5 _ (by omega))) ⟨callB_of 1 hT (tb_gd w401) rfl rfl rfl (hT _ w11) (hT _ w398) hAL_get ⟨Nat.le_of_ble_eq_true rfl, Nat.le_of_ble_eq_true rfl⟩, (hT _ w399), (hT _ w400)⟩ (RO.preV (ci := 12) (q0 := 0) hZ hS ((show va_P D vwCl [(ad 9, .inr (12, [.ref (ad 40), .int (nI fm), .int fmd])), (ad 40, .inl (cT 7, fcap, .inr (.inr (.inr (.inr flf)))))] _ from (pv_c (pg_1 (x := 9) hcd hP (by decide) f1) (pv_c (pg_1 (x := 40) hcd hP (by decide) f2) pv_0)))) hK rfl rfl) rfl rfl hl.1 rfl (lv_room (Nat.le_of_ble_eq_true rfl)) dR_node_14 ⟨Nat.le_of_ble_eq_true rfl, Nat.le_of_ble_eq_true rfl⟩)) ?_
  refine va_castY (C := "ResidualTrees$Tree") hx hb hown (hT _ w412) (hZ.1.1 ("ResidualTrees$Tree", "ResidualTrees$Tree") (List.mem_of_getElem? (i := 2) rfl)) (va_recv (ci := 9) (q0 := 0) hK (pg_1 (x := 1000 + t) hcd hP (by omega) tr1) rfl rfl) dR_node_17 ?_
  refine lv_iload_n hx hb dR_node_20 rfl (lv_at hl 2 rfl) ?_
  refine ro_r (va_Run.run (va_runV (As := [.int (nI k)]) (rest := []) ⟨hx, hb, hml, hown, hT⟩ (k_treeAt l D cT cds ad gg F t k hcd hTr2 (by omega) hkm) ⟨callB_of 1 hT (tb_gd w886) rfl rfl rfl (hT _ w24) (hT _ w1005) hTr_at ⟨Nat.le_of_ble_eq_true rfl, Nat.le_of_ble_eq_true rfl⟩, (hT _ w884), (hT _ w885)⟩ (RO.preW (ci := 9) (q0 := 0) hZ hS ((show va_P D vwCl ([] ++ pg cds ad gg) _ from (pv_p hP))) hK (pg_1 (x := 1000 + t) hcd hP (by omega) tr1) rfl rfl) rfl rfl hl.1 rfl (lv_room (Nat.le_of_ble_eq_true rfl)) dR_node_21 ⟨Nat.le_of_ble_eq_true rfl, Nat.le_of_ble_eq_true rfl⟩)) ?_
  refine lv_astore hx hb dR_node_24 hl (by decide) rfl (fun ls hl => ?_)
  have hl : lv_has ls 5 [(4, .ref (ad (2000 + 32 * t + k))), (0, .ref (ad 0)), (1, .int (nI t)), (2, .int (nI k)), (3, .int 1)] := hl
  refine lv_iload_n hx hb dR_node_26 rfl (lv_at hl 4 rfl) ?_
  refine lv_tableIn (off := 51) (tgt := 78) hx hb dR_node_27 (by decide) (by decide) rfl rfl ?_
  refine lv_aload hx hb dR_node_78 (lv_at hl 0 rfl) ?_
  refine va_get (D := D) (ci := 10) (v := .int (tA F 1 (31 * t + k))) (C := R_N) (T := T_N) (N := 9) hx hb hT in_N hown hK (pg_1 (x := 2000 + 32 * t + k) hcd hP (by omega) ((tr5 k hkm).1)) 0 rfl rfl 1 (by decide) (hT _ w835) (fun _ h9 => h9) rfl dR_node_80 ?_
  exact W.iret (v := tA F 1 (31 * t + k)) hx hb hr (fun t9 ht9 hW9 => ⟨rfl, ht9⟩) (fun q h => nomatch h) dR_node_83
set_option maxHeartbeats 4000000 in
set_option maxRecDepth 100000 in
theorem k_node2 (l : Launch) (D : va_G) (cT : Nat → ClassId) (cds : List Nat) (ad : Nat → Nat) (gg : Nat → Option va_E) (T : Nat) (fm : Nat) (F : TFR) (t : Nat) (k : Nat) (hcd : CD cds) (hob : gg 0 = some (eOB ad (nI T))) (hFr : FRp cT ad gg fm) (hTm : T ≤ fm) (hTs : TRS cT ad gg F T) (hT16 : T ≤ 16) (htT : t < T) (hc0 : 0 ≤ nI t ∧ nI t ≤ nI T - 1) (hk0 : 0 ≤ nI k ∧ nI k ≤ nI (tM F t) - 1) (hkm : k < tM F t) (hz9 : tA F 2 (31 * t + k) = 0 ∨ tA F 2 (31 * t + k) = 1) : Met l yR_node WR_node ({ frames := 4, cells := 0, slots := 0, locals := 86 } : Room) (RO D vwCl [.ref (ad 0), .int (nI t), .int (nI k), .int 2] ([] ++ pg cds ad gg) (TY cT)) (QcRead (tA F 2 (31 * t + k))) 0 0 (fun _ => False) := by
  refine Met.ofW (cc := cR_node) (maxL := 5) (ret := (some .int)) (by decide) rfl ?_
  intro p e s m args below meth c s₁ B hml hv
  obtain ⟨rfl, hZ, hP, hK⟩ := hv
  have hx := B.exec
  have hb := B.bytes
  have hr := B.returns
  have hts := atoms_spec (ws := WR_node) B.pre
  have hT : ∀ w ∈ TB, w.before _ s = true := fun w h => hts w (List.mem_cons_of_mem _ h)
  have hown : s.vm.findClass R_R = some m.cls := findClass_of_methodNamed B.named
  have hlocks := B.notSynchronized
  have hS : va_S (fun _ => False) s.heap s.heap [] := va_S.rf
  have hl := lv_entry ([.ref (ad 0), .int (nI t), .int (nI k), .int 2]) (n := 5) (Nat.le_of_ble_eq_true rfl)
  rw [lg_entry_eq]
  generalize (lg_sl ([.ref (ad 0), .int (nI t), .int (nI k), .int 2]) ++ List.replicate (5 - (lg_sl ([.ref (ad 0), .int (nI t), .int (nI k), .int 2])).length) Slot.unset).toArray = ls at hl ⊢
  have hl : lv_has ls 5 [(0, .ref (ad 0)), (1, .int (nI t)), (2, .int (nI k)), (3, .int 2)] := hl
  have hFr0 := hFr
  obtain ⟨fcap, fmd, flf, f1, f2, f3, f4, f5⟩ := hFr0.2 (by omega)
  have hTr1 := hTs t htT
  have hTr2 := hTs t htT
  obtain ⟨mm, tr1, ⟨cap, md, lf, ls1, ls2, ls3, ls4, ls5⟩, tr3, tr4, tr5⟩ := hTr1
  refine lv_aload_n hx hb dR_node_0 rfl (lv_at hl 0 rfl) ?_
  refine lv_iload_n hx hb dR_node_1 rfl (lv_at hl 1 rfl) ?_
  refine lv_iload_n hx hb dR_node_2 rfl (lv_at hl 2 rfl) ?_
  refine ro_i (va_Run.run (va_runV (As := [.int (nI t), .int (nI k)]) (rest := []) ⟨hx, hb, hml, hown, hT⟩ (k_hasNodeY l D cT cds ad gg T fm F t k hcd hob hFr hTm hTs hT16 htT hc0 hk0) ⟨callB_of 2 hT (tb_gd w1004) rfl rfl rfl (hT _ w1) (hT _ w1001) hR_hasNode ⟨Nat.le_of_ble_eq_true rfl, Nat.le_of_ble_eq_true rfl⟩, (hT _ w1003), (hT _ wp24)⟩ (RO.preW (ci := 0) (q0 := 0) hZ hS ((show va_P D vwCl ([] ++ pg cds ad gg) _ from (pv_p hP))) hK (pg_1 (x := 0) hcd hP (by decide) hob) rfl rfl) rfl rfl hl.1 rfl (lv_room (Nat.le_of_ble_eq_true rfl)) dR_node_3 ⟨Nat.le_of_ble_eq_true rfl, Nat.le_of_ble_eq_true rfl⟩)) ?_
  refine ro_v (va_Run.run (va_runS (As := [.int 1]) (rest := []) ⟨hx, hb, hml, hown, hT⟩ (k_demand_ok l D cT 1 (by decide)) ⟨callB_of 1 hT (tb_gd w510) rfl rfl rfl (hT _ w1) (hT _ w508) hR_demand ⟨Nat.le_of_ble_eq_true rfl, Nat.le_of_ble_eq_true rfl⟩, (hT _ w509)⟩ (RO.preS hZ hS ((show va_P D vwCl [] _ from fun _ _ h => nomatch h)) hK) rfl rfl hl.1 rfl (lv_room (Nat.le_of_ble_eq_true rfl)) dR_node_6 ⟨Nat.le_of_ble_eq_true rfl, Nat.le_of_ble_eq_true rfl⟩)) ?_
  refine lv_aload_n hx hb dR_node_9 rfl (lv_at hl 0 rfl) ?_
  refine va_get (D := D) (ci := 0) (v := .ref (ad 9)) (C := R_R) (T := T_R) (N := 13) hx hb hT in_R hown hK (pg_1 (x := 0) hcd hP (by decide) hob) 0 rfl rfl 4 (by decide) (hT _ w328) (fun _ h9 => h9) rfl dR_node_10 ?_
  refine lv_iload_n hx hb dR_node_13 rfl (lv_at hl 1 rfl) ?_
  refine ro_r (va_Run.run (va_runV (As := [.int (nI t)]) (rest := []) ⟨hx, hb, hml, hown, hT⟩ (k_alGet l D cT (ad 9) (ad 40) fm fmd fcap flf t (ad (1000 + t)) (by omega) f3 (by omega) (f5 _ (by omega))) ⟨callB_of 1 hT (tb_gd w401) rfl rfl rfl (hT _ w11) (hT _ w398) hAL_get ⟨Nat.le_of_ble_eq_true rfl, Nat.le_of_ble_eq_true rfl⟩, (hT _ w399), (hT _ w400)⟩ (RO.preV (ci := 12) (q0 := 0) hZ hS ((show va_P D vwCl [(ad 9, .inr (12, [.ref (ad 40), .int (nI fm), .int fmd])), (ad 40, .inl (cT 7, fcap, .inr (.inr (.inr (.inr flf)))))] _ from (pv_c (pg_1 (x := 9) hcd hP (by decide) f1) (pv_c (pg_1 (x := 40) hcd hP (by decide) f2) pv_0)))) hK rfl rfl) rfl rfl hl.1 rfl (lv_room (Nat.le_of_ble_eq_true rfl)) dR_node_14 ⟨Nat.le_of_ble_eq_true rfl, Nat.le_of_ble_eq_true rfl⟩)) ?_
  refine va_castY (C := "ResidualTrees$Tree") hx hb hown (hT _ w412) (hZ.1.1 ("ResidualTrees$Tree", "ResidualTrees$Tree") (List.mem_of_getElem? (i := 2) rfl)) (va_recv (ci := 9) (q0 := 0) hK (pg_1 (x := 1000 + t) hcd hP (by omega) tr1) rfl rfl) dR_node_17 ?_
  refine lv_iload_n hx hb dR_node_20 rfl (lv_at hl 2 rfl) ?_
  refine ro_r (va_Run.run (va_runV (As := [.int (nI k)]) (rest := []) ⟨hx, hb, hml, hown, hT⟩ (k_treeAt l D cT cds ad gg F t k hcd hTr2 (by omega) hkm) ⟨callB_of 1 hT (tb_gd w886) rfl rfl rfl (hT _ w24) (hT _ w1005) hTr_at ⟨Nat.le_of_ble_eq_true rfl, Nat.le_of_ble_eq_true rfl⟩, (hT _ w884), (hT _ w885)⟩ (RO.preW (ci := 9) (q0 := 0) hZ hS ((show va_P D vwCl ([] ++ pg cds ad gg) _ from (pv_p hP))) hK (pg_1 (x := 1000 + t) hcd hP (by omega) tr1) rfl rfl) rfl rfl hl.1 rfl (lv_room (Nat.le_of_ble_eq_true rfl)) dR_node_21 ⟨Nat.le_of_ble_eq_true rfl, Nat.le_of_ble_eq_true rfl⟩)) ?_
  refine lv_astore hx hb dR_node_24 hl (by decide) rfl (fun ls hl => ?_)
  have hl : lv_has ls 5 [(4, .ref (ad (2000 + 32 * t + k))), (0, .ref (ad 0)), (1, .int (nI t)), (2, .int (nI k)), (3, .int 2)] := hl
  refine lv_iload_n hx hb dR_node_26 rfl (lv_at hl 4 rfl) ?_
  refine lv_tableIn (off := 57) (tgt := 84) hx hb dR_node_27 (by decide) (by decide) rfl rfl ?_
  refine lv_aload hx hb dR_node_84 (lv_at hl 0 rfl) ?_
  refine va_get (D := D) (ci := 10) (v := .int (tA F 2 (31 * t + k))) (C := R_N) (T := T_N) (N := 9) hx hb hT in_N hown hK (pg_1 (x := 2000 + 32 * t + k) hcd hP (by omega) ((tr5 k hkm).1)) 0 rfl rfl 3 (by decide) (hT _ w841) (fun _ h9 => h9) rfl dR_node_86 ?_
  refine lv_if_eq (tgt := 96) hx hb dR_node_89 rfl (fun h1 => ?_) (fun h1 => ?_)
  · refine lv_iconst (v := 0) hx hb dR_node_96 (by decide) ?_
    exact W.iret (v := 0) hx hb hr (fun t9 ht9 hW9 => ⟨(by rw [h1]), ht9⟩) (fun q h => nomatch h) dR_node_97
  · refine lv_iconst (v := 1) hx hb dR_node_92 (by decide) ?_
    refine lv_goto (tgt := 97) hx hb dR_node_93 rfl ?_
    exact W.iret (v := 1) hx hb hr (fun t9 ht9 hW9 => ⟨(by rw [(hz9.resolve_left h1)]), ht9⟩) (fun q h => nomatch h) dR_node_97
set_option maxHeartbeats 4000000 in
set_option maxRecDepth 100000 in
theorem k_node3 (l : Launch) (D : va_G) (cT : Nat → ClassId) (cds : List Nat) (ad : Nat → Nat) (gg : Nat → Option va_E) (T : Nat) (fm : Nat) (F : TFR) (t : Nat) (k : Nat) (hcd : CD cds) (hob : gg 0 = some (eOB ad (nI T))) (hFr : FRp cT ad gg fm) (hTm : T ≤ fm) (hTs : TRS cT ad gg F T) (hT16 : T ≤ 16) (htT : t < T) (hc0 : 0 ≤ nI t ∧ nI t ≤ nI T - 1) (hk0 : 0 ≤ nI k ∧ nI k ≤ nI (tM F t) - 1) (hkm : k < tM F t) : Met l yR_node WR_node ({ frames := 4, cells := 0, slots := 0, locals := 86 } : Room) (RO D vwCl [.ref (ad 0), .int (nI t), .int (nI k), .int 3] ([] ++ pg cds ad gg) (TY cT)) (QcRead (tA F 3 (31 * t + k))) 0 0 (fun _ => False) := by
  refine Met.ofW (cc := cR_node) (maxL := 5) (ret := (some .int)) (by decide) rfl ?_
  intro p e s m args below meth c s₁ B hml hv
  obtain ⟨rfl, hZ, hP, hK⟩ := hv
  have hx := B.exec
  have hb := B.bytes
  have hr := B.returns
  have hts := atoms_spec (ws := WR_node) B.pre
  have hT : ∀ w ∈ TB, w.before _ s = true := fun w h => hts w (List.mem_cons_of_mem _ h)
  have hown : s.vm.findClass R_R = some m.cls := findClass_of_methodNamed B.named
  have hlocks := B.notSynchronized
  have hS : va_S (fun _ => False) s.heap s.heap [] := va_S.rf
  have hl := lv_entry ([.ref (ad 0), .int (nI t), .int (nI k), .int 3]) (n := 5) (Nat.le_of_ble_eq_true rfl)
  rw [lg_entry_eq]
  generalize (lg_sl ([.ref (ad 0), .int (nI t), .int (nI k), .int 3]) ++ List.replicate (5 - (lg_sl ([.ref (ad 0), .int (nI t), .int (nI k), .int 3])).length) Slot.unset).toArray = ls at hl ⊢
  have hl : lv_has ls 5 [(0, .ref (ad 0)), (1, .int (nI t)), (2, .int (nI k)), (3, .int 3)] := hl
  have hFr0 := hFr
  obtain ⟨fcap, fmd, flf, f1, f2, f3, f4, f5⟩ := hFr0.2 (by omega)
  have hTr1 := hTs t htT
  have hTr2 := hTs t htT
  obtain ⟨mm, tr1, ⟨cap, md, lf, ls1, ls2, ls3, ls4, ls5⟩, tr3, tr4, tr5⟩ := hTr1
  refine lv_aload_n hx hb dR_node_0 rfl (lv_at hl 0 rfl) ?_
  refine lv_iload_n hx hb dR_node_1 rfl (lv_at hl 1 rfl) ?_
  refine lv_iload_n hx hb dR_node_2 rfl (lv_at hl 2 rfl) ?_
  refine ro_i (va_Run.run (va_runV (As := [.int (nI t), .int (nI k)]) (rest := []) ⟨hx, hb, hml, hown, hT⟩ (k_hasNodeY l D cT cds ad gg T fm F t k hcd hob hFr hTm hTs hT16 htT hc0 hk0) ⟨callB_of 2 hT (tb_gd w1004) rfl rfl rfl (hT _ w1) (hT _ w1001) hR_hasNode ⟨Nat.le_of_ble_eq_true rfl, Nat.le_of_ble_eq_true rfl⟩, (hT _ w1003), (hT _ wp24)⟩ (RO.preW (ci := 0) (q0 := 0) hZ hS ((show va_P D vwCl ([] ++ pg cds ad gg) _ from (pv_p hP))) hK (pg_1 (x := 0) hcd hP (by decide) hob) rfl rfl) rfl rfl hl.1 rfl (lv_room (Nat.le_of_ble_eq_true rfl)) dR_node_3 ⟨Nat.le_of_ble_eq_true rfl, Nat.le_of_ble_eq_true rfl⟩)) ?_
  refine ro_v (va_Run.run (va_runS (As := [.int 1]) (rest := []) ⟨hx, hb, hml, hown, hT⟩ (k_demand_ok l D cT 1 (by decide)) ⟨callB_of 1 hT (tb_gd w510) rfl rfl rfl (hT _ w1) (hT _ w508) hR_demand ⟨Nat.le_of_ble_eq_true rfl, Nat.le_of_ble_eq_true rfl⟩, (hT _ w509)⟩ (RO.preS hZ hS ((show va_P D vwCl [] _ from fun _ _ h => nomatch h)) hK) rfl rfl hl.1 rfl (lv_room (Nat.le_of_ble_eq_true rfl)) dR_node_6 ⟨Nat.le_of_ble_eq_true rfl, Nat.le_of_ble_eq_true rfl⟩)) ?_
  refine lv_aload_n hx hb dR_node_9 rfl (lv_at hl 0 rfl) ?_
  refine va_get (D := D) (ci := 0) (v := .ref (ad 9)) (C := R_R) (T := T_R) (N := 13) hx hb hT in_R hown hK (pg_1 (x := 0) hcd hP (by decide) hob) 0 rfl rfl 4 (by decide) (hT _ w328) (fun _ h9 => h9) rfl dR_node_10 ?_
  refine lv_iload_n hx hb dR_node_13 rfl (lv_at hl 1 rfl) ?_
  refine ro_r (va_Run.run (va_runV (As := [.int (nI t)]) (rest := []) ⟨hx, hb, hml, hown, hT⟩ (k_alGet l D cT (ad 9) (ad 40) fm fmd fcap flf t (ad (1000 + t)) (by omega) f3 (by omega) (f5 _ (by omega))) ⟨callB_of 1 hT (tb_gd w401) rfl rfl rfl (hT _ w11) (hT _ w398) hAL_get ⟨Nat.le_of_ble_eq_true rfl, Nat.le_of_ble_eq_true rfl⟩, (hT _ w399), (hT _ w400)⟩ (RO.preV (ci := 12) (q0 := 0) hZ hS ((show va_P D vwCl [(ad 9, .inr (12, [.ref (ad 40), .int (nI fm), .int fmd])), (ad 40, .inl (cT 7, fcap, .inr (.inr (.inr (.inr flf)))))] _ from (pv_c (pg_1 (x := 9) hcd hP (by decide) f1) (pv_c (pg_1 (x := 40) hcd hP (by decide) f2) pv_0)))) hK rfl rfl) rfl rfl hl.1 rfl (lv_room (Nat.le_of_ble_eq_true rfl)) dR_node_14 ⟨Nat.le_of_ble_eq_true rfl, Nat.le_of_ble_eq_true rfl⟩)) ?_
  refine va_castY (C := "ResidualTrees$Tree") hx hb hown (hT _ w412) (hZ.1.1 ("ResidualTrees$Tree", "ResidualTrees$Tree") (List.mem_of_getElem? (i := 2) rfl)) (va_recv (ci := 9) (q0 := 0) hK (pg_1 (x := 1000 + t) hcd hP (by omega) tr1) rfl rfl) dR_node_17 ?_
  refine lv_iload_n hx hb dR_node_20 rfl (lv_at hl 2 rfl) ?_
  refine ro_r (va_Run.run (va_runV (As := [.int (nI k)]) (rest := []) ⟨hx, hb, hml, hown, hT⟩ (k_treeAt l D cT cds ad gg F t k hcd hTr2 (by omega) hkm) ⟨callB_of 1 hT (tb_gd w886) rfl rfl rfl (hT _ w24) (hT _ w1005) hTr_at ⟨Nat.le_of_ble_eq_true rfl, Nat.le_of_ble_eq_true rfl⟩, (hT _ w884), (hT _ w885)⟩ (RO.preW (ci := 9) (q0 := 0) hZ hS ((show va_P D vwCl ([] ++ pg cds ad gg) _ from (pv_p hP))) hK (pg_1 (x := 1000 + t) hcd hP (by omega) tr1) rfl rfl) rfl rfl hl.1 rfl (lv_room (Nat.le_of_ble_eq_true rfl)) dR_node_21 ⟨Nat.le_of_ble_eq_true rfl, Nat.le_of_ble_eq_true rfl⟩)) ?_
  refine lv_astore hx hb dR_node_24 hl (by decide) rfl (fun ls hl => ?_)
  have hl : lv_has ls 5 [(4, .ref (ad (2000 + 32 * t + k))), (0, .ref (ad 0)), (1, .int (nI t)), (2, .int (nI k)), (3, .int 3)] := hl
  refine lv_iload_n hx hb dR_node_26 rfl (lv_at hl 4 rfl) ?_
  refine lv_tableIn (off := 71) (tgt := 98) hx hb dR_node_27 (by decide) (by decide) rfl rfl ?_
  refine lv_aload hx hb dR_node_98 (lv_at hl 0 rfl) ?_
  refine va_get (D := D) (ci := 10) (v := .int (tA F 3 (31 * t + k))) (C := R_N) (T := T_N) (N := 9) hx hb hT in_N hown hK (pg_1 (x := 2000 + 32 * t + k) hcd hP (by omega) ((tr5 k hkm).1)) 0 rfl rfl 4 (by decide) (hT _ w845) (fun _ h9 => h9) rfl dR_node_100 ?_
  exact W.iret (v := tA F 3 (31 * t + k)) hx hb hr (fun t9 ht9 hW9 => ⟨rfl, ht9⟩) (fun q h => nomatch h) dR_node_103
set_option maxHeartbeats 4000000 in
set_option maxRecDepth 100000 in
theorem k_node4 (l : Launch) (D : va_G) (cT : Nat → ClassId) (cds : List Nat) (ad : Nat → Nat) (gg : Nat → Option va_E) (T : Nat) (fm : Nat) (F : TFR) (t : Nat) (k : Nat) (hcd : CD cds) (hob : gg 0 = some (eOB ad (nI T))) (hFr : FRp cT ad gg fm) (hTm : T ≤ fm) (hTs : TRS cT ad gg F T) (hT16 : T ≤ 16) (htT : t < T) (hc0 : 0 ≤ nI t ∧ nI t ≤ nI T - 1) (hk0 : 0 ≤ nI k ∧ nI k ≤ nI (tM F t) - 1) (hkm : k < tM F t) : Met l yR_node WR_node ({ frames := 4, cells := 0, slots := 0, locals := 86 } : Room) (RO D vwCl [.ref (ad 0), .int (nI t), .int (nI k), .int 4] ([] ++ pg cds ad gg) (TY cT)) (QcRead (tA F 4 (31 * t + k))) 0 0 (fun _ => False) := by
  refine Met.ofW (cc := cR_node) (maxL := 5) (ret := (some .int)) (by decide) rfl ?_
  intro p e s m args below meth c s₁ B hml hv
  obtain ⟨rfl, hZ, hP, hK⟩ := hv
  have hx := B.exec
  have hb := B.bytes
  have hr := B.returns
  have hts := atoms_spec (ws := WR_node) B.pre
  have hT : ∀ w ∈ TB, w.before _ s = true := fun w h => hts w (List.mem_cons_of_mem _ h)
  have hown : s.vm.findClass R_R = some m.cls := findClass_of_methodNamed B.named
  have hlocks := B.notSynchronized
  have hS : va_S (fun _ => False) s.heap s.heap [] := va_S.rf
  have hl := lv_entry ([.ref (ad 0), .int (nI t), .int (nI k), .int 4]) (n := 5) (Nat.le_of_ble_eq_true rfl)
  rw [lg_entry_eq]
  generalize (lg_sl ([.ref (ad 0), .int (nI t), .int (nI k), .int 4]) ++ List.replicate (5 - (lg_sl ([.ref (ad 0), .int (nI t), .int (nI k), .int 4])).length) Slot.unset).toArray = ls at hl ⊢
  have hl : lv_has ls 5 [(0, .ref (ad 0)), (1, .int (nI t)), (2, .int (nI k)), (3, .int 4)] := hl
  have hFr0 := hFr
  obtain ⟨fcap, fmd, flf, f1, f2, f3, f4, f5⟩ := hFr0.2 (by omega)
  have hTr1 := hTs t htT
  have hTr2 := hTs t htT
  obtain ⟨mm, tr1, ⟨cap, md, lf, ls1, ls2, ls3, ls4, ls5⟩, tr3, tr4, tr5⟩ := hTr1
  refine lv_aload_n hx hb dR_node_0 rfl (lv_at hl 0 rfl) ?_
  refine lv_iload_n hx hb dR_node_1 rfl (lv_at hl 1 rfl) ?_
  refine lv_iload_n hx hb dR_node_2 rfl (lv_at hl 2 rfl) ?_
  refine ro_i (va_Run.run (va_runV (As := [.int (nI t), .int (nI k)]) (rest := []) ⟨hx, hb, hml, hown, hT⟩ (k_hasNodeY l D cT cds ad gg T fm F t k hcd hob hFr hTm hTs hT16 htT hc0 hk0) ⟨callB_of 2 hT (tb_gd w1004) rfl rfl rfl (hT _ w1) (hT _ w1001) hR_hasNode ⟨Nat.le_of_ble_eq_true rfl, Nat.le_of_ble_eq_true rfl⟩, (hT _ w1003), (hT _ wp24)⟩ (RO.preW (ci := 0) (q0 := 0) hZ hS ((show va_P D vwCl ([] ++ pg cds ad gg) _ from (pv_p hP))) hK (pg_1 (x := 0) hcd hP (by decide) hob) rfl rfl) rfl rfl hl.1 rfl (lv_room (Nat.le_of_ble_eq_true rfl)) dR_node_3 ⟨Nat.le_of_ble_eq_true rfl, Nat.le_of_ble_eq_true rfl⟩)) ?_
  refine ro_v (va_Run.run (va_runS (As := [.int 1]) (rest := []) ⟨hx, hb, hml, hown, hT⟩ (k_demand_ok l D cT 1 (by decide)) ⟨callB_of 1 hT (tb_gd w510) rfl rfl rfl (hT _ w1) (hT _ w508) hR_demand ⟨Nat.le_of_ble_eq_true rfl, Nat.le_of_ble_eq_true rfl⟩, (hT _ w509)⟩ (RO.preS hZ hS ((show va_P D vwCl [] _ from fun _ _ h => nomatch h)) hK) rfl rfl hl.1 rfl (lv_room (Nat.le_of_ble_eq_true rfl)) dR_node_6 ⟨Nat.le_of_ble_eq_true rfl, Nat.le_of_ble_eq_true rfl⟩)) ?_
  refine lv_aload_n hx hb dR_node_9 rfl (lv_at hl 0 rfl) ?_
  refine va_get (D := D) (ci := 0) (v := .ref (ad 9)) (C := R_R) (T := T_R) (N := 13) hx hb hT in_R hown hK (pg_1 (x := 0) hcd hP (by decide) hob) 0 rfl rfl 4 (by decide) (hT _ w328) (fun _ h9 => h9) rfl dR_node_10 ?_
  refine lv_iload_n hx hb dR_node_13 rfl (lv_at hl 1 rfl) ?_
  refine ro_r (va_Run.run (va_runV (As := [.int (nI t)]) (rest := []) ⟨hx, hb, hml, hown, hT⟩ (k_alGet l D cT (ad 9) (ad 40) fm fmd fcap flf t (ad (1000 + t)) (by omega) f3 (by omega) (f5 _ (by omega))) ⟨callB_of 1 hT (tb_gd w401) rfl rfl rfl (hT _ w11) (hT _ w398) hAL_get ⟨Nat.le_of_ble_eq_true rfl, Nat.le_of_ble_eq_true rfl⟩, (hT _ w399), (hT _ w400)⟩ (RO.preV (ci := 12) (q0 := 0) hZ hS ((show va_P D vwCl [(ad 9, .inr (12, [.ref (ad 40), .int (nI fm), .int fmd])), (ad 40, .inl (cT 7, fcap, .inr (.inr (.inr (.inr flf)))))] _ from (pv_c (pg_1 (x := 9) hcd hP (by decide) f1) (pv_c (pg_1 (x := 40) hcd hP (by decide) f2) pv_0)))) hK rfl rfl) rfl rfl hl.1 rfl (lv_room (Nat.le_of_ble_eq_true rfl)) dR_node_14 ⟨Nat.le_of_ble_eq_true rfl, Nat.le_of_ble_eq_true rfl⟩)) ?_
  refine va_castY (C := "ResidualTrees$Tree") hx hb hown (hT _ w412) (hZ.1.1 ("ResidualTrees$Tree", "ResidualTrees$Tree") (List.mem_of_getElem? (i := 2) rfl)) (va_recv (ci := 9) (q0 := 0) hK (pg_1 (x := 1000 + t) hcd hP (by omega) tr1) rfl rfl) dR_node_17 ?_
  refine lv_iload_n hx hb dR_node_20 rfl (lv_at hl 2 rfl) ?_
  refine ro_r (va_Run.run (va_runV (As := [.int (nI k)]) (rest := []) ⟨hx, hb, hml, hown, hT⟩ (k_treeAt l D cT cds ad gg F t k hcd hTr2 (by omega) hkm) ⟨callB_of 1 hT (tb_gd w886) rfl rfl rfl (hT _ w24) (hT _ w1005) hTr_at ⟨Nat.le_of_ble_eq_true rfl, Nat.le_of_ble_eq_true rfl⟩, (hT _ w884), (hT _ w885)⟩ (RO.preW (ci := 9) (q0 := 0) hZ hS ((show va_P D vwCl ([] ++ pg cds ad gg) _ from (pv_p hP))) hK (pg_1 (x := 1000 + t) hcd hP (by omega) tr1) rfl rfl) rfl rfl hl.1 rfl (lv_room (Nat.le_of_ble_eq_true rfl)) dR_node_21 ⟨Nat.le_of_ble_eq_true rfl, Nat.le_of_ble_eq_true rfl⟩)) ?_
  refine lv_astore hx hb dR_node_24 hl (by decide) rfl (fun ls hl => ?_)
  have hl : lv_has ls 5 [(4, .ref (ad (2000 + 32 * t + k))), (0, .ref (ad 0)), (1, .int (nI t)), (2, .int (nI k)), (3, .int 4)] := hl
  refine lv_iload_n hx hb dR_node_26 rfl (lv_at hl 4 rfl) ?_
  refine lv_tableIn (off := 77) (tgt := 104) hx hb dR_node_27 (by decide) (by decide) rfl rfl ?_
  refine lv_aload hx hb dR_node_104 (lv_at hl 0 rfl) ?_
  refine va_get (D := D) (ci := 10) (v := .int (tA F 4 (31 * t + k))) (C := R_N) (T := T_N) (N := 9) hx hb hT in_N hown hK (pg_1 (x := 2000 + 32 * t + k) hcd hP (by omega) ((tr5 k hkm).1)) 0 rfl rfl 5 (by decide) (hT _ w849) (fun _ h9 => h9) rfl dR_node_106 ?_
  exact W.iret (v := tA F 4 (31 * t + k)) hx hb hr (fun t9 ht9 hW9 => ⟨rfl, ht9⟩) (fun q h => nomatch h) dR_node_109
set_option maxHeartbeats 4000000 in
set_option maxRecDepth 100000 in
theorem k_node5 (l : Launch) (D : va_G) (cT : Nat → ClassId) (cds : List Nat) (ad : Nat → Nat) (gg : Nat → Option va_E) (T : Nat) (fm : Nat) (F : TFR) (t : Nat) (k : Nat) (hcd : CD cds) (hob : gg 0 = some (eOB ad (nI T))) (hFr : FRp cT ad gg fm) (hTm : T ≤ fm) (hTs : TRS cT ad gg F T) (hT16 : T ≤ 16) (htT : t < T) (hc0 : 0 ≤ nI t ∧ nI t ≤ nI T - 1) (hk0 : 0 ≤ nI k ∧ nI k ≤ nI (tM F t) - 1) (hkm : k < tM F t) : Met l yR_node WR_node ({ frames := 4, cells := 0, slots := 0, locals := 86 } : Room) (RO D vwCl [.ref (ad 0), .int (nI t), .int (nI k), .int 5] ([] ++ pg cds ad gg) (TY cT)) (QcRead (tA F 5 (31 * t + k))) 0 0 (fun _ => False) := by
  refine Met.ofW (cc := cR_node) (maxL := 5) (ret := (some .int)) (by decide) rfl ?_
  intro p e s m args below meth c s₁ B hml hv
  obtain ⟨rfl, hZ, hP, hK⟩ := hv
  have hx := B.exec
  have hb := B.bytes
  have hr := B.returns
  have hts := atoms_spec (ws := WR_node) B.pre
  have hT : ∀ w ∈ TB, w.before _ s = true := fun w h => hts w (List.mem_cons_of_mem _ h)
  have hown : s.vm.findClass R_R = some m.cls := findClass_of_methodNamed B.named
  have hlocks := B.notSynchronized
  have hS : va_S (fun _ => False) s.heap s.heap [] := va_S.rf
  have hl := lv_entry ([.ref (ad 0), .int (nI t), .int (nI k), .int 5]) (n := 5) (Nat.le_of_ble_eq_true rfl)
  rw [lg_entry_eq]
  generalize (lg_sl ([.ref (ad 0), .int (nI t), .int (nI k), .int 5]) ++ List.replicate (5 - (lg_sl ([.ref (ad 0), .int (nI t), .int (nI k), .int 5])).length) Slot.unset).toArray = ls at hl ⊢
  have hl : lv_has ls 5 [(0, .ref (ad 0)), (1, .int (nI t)), (2, .int (nI k)), (3, .int 5)] := hl
  have hFr0 := hFr
  obtain ⟨fcap, fmd, flf, f1, f2, f3, f4, f5⟩ := hFr0.2 (by omega)
  have hTr1 := hTs t htT
  have hTr2 := hTs t htT
  obtain ⟨mm, tr1, ⟨cap, md, lf, ls1, ls2, ls3, ls4, ls5⟩, tr3, tr4, tr5⟩ := hTr1
  refine lv_aload_n hx hb dR_node_0 rfl (lv_at hl 0 rfl) ?_
  refine lv_iload_n hx hb dR_node_1 rfl (lv_at hl 1 rfl) ?_
  refine lv_iload_n hx hb dR_node_2 rfl (lv_at hl 2 rfl) ?_
  refine ro_i (va_Run.run (va_runV (As := [.int (nI t), .int (nI k)]) (rest := []) ⟨hx, hb, hml, hown, hT⟩ (k_hasNodeY l D cT cds ad gg T fm F t k hcd hob hFr hTm hTs hT16 htT hc0 hk0) ⟨callB_of 2 hT (tb_gd w1004) rfl rfl rfl (hT _ w1) (hT _ w1001) hR_hasNode ⟨Nat.le_of_ble_eq_true rfl, Nat.le_of_ble_eq_true rfl⟩, (hT _ w1003), (hT _ wp24)⟩ (RO.preW (ci := 0) (q0 := 0) hZ hS ((show va_P D vwCl ([] ++ pg cds ad gg) _ from (pv_p hP))) hK (pg_1 (x := 0) hcd hP (by decide) hob) rfl rfl) rfl rfl hl.1 rfl (lv_room (Nat.le_of_ble_eq_true rfl)) dR_node_3 ⟨Nat.le_of_ble_eq_true rfl, Nat.le_of_ble_eq_true rfl⟩)) ?_
  refine ro_v (va_Run.run (va_runS (As := [.int 1]) (rest := []) ⟨hx, hb, hml, hown, hT⟩ (k_demand_ok l D cT 1 (by decide)) ⟨callB_of 1 hT (tb_gd w510) rfl rfl rfl (hT _ w1) (hT _ w508) hR_demand ⟨Nat.le_of_ble_eq_true rfl, Nat.le_of_ble_eq_true rfl⟩, (hT _ w509)⟩ (RO.preS hZ hS ((show va_P D vwCl [] _ from fun _ _ h => nomatch h)) hK) rfl rfl hl.1 rfl (lv_room (Nat.le_of_ble_eq_true rfl)) dR_node_6 ⟨Nat.le_of_ble_eq_true rfl, Nat.le_of_ble_eq_true rfl⟩)) ?_
  refine lv_aload_n hx hb dR_node_9 rfl (lv_at hl 0 rfl) ?_
  refine va_get (D := D) (ci := 0) (v := .ref (ad 9)) (C := R_R) (T := T_R) (N := 13) hx hb hT in_R hown hK (pg_1 (x := 0) hcd hP (by decide) hob) 0 rfl rfl 4 (by decide) (hT _ w328) (fun _ h9 => h9) rfl dR_node_10 ?_
  refine lv_iload_n hx hb dR_node_13 rfl (lv_at hl 1 rfl) ?_
  refine ro_r (va_Run.run (va_runV (As := [.int (nI t)]) (rest := []) ⟨hx, hb, hml, hown, hT⟩ (k_alGet l D cT (ad 9) (ad 40) fm fmd fcap flf t (ad (1000 + t)) (by omega) f3 (by omega) (f5 _ (by omega))) ⟨callB_of 1 hT (tb_gd w401) rfl rfl rfl (hT _ w11) (hT _ w398) hAL_get ⟨Nat.le_of_ble_eq_true rfl, Nat.le_of_ble_eq_true rfl⟩, (hT _ w399), (hT _ w400)⟩ (RO.preV (ci := 12) (q0 := 0) hZ hS ((show va_P D vwCl [(ad 9, .inr (12, [.ref (ad 40), .int (nI fm), .int fmd])), (ad 40, .inl (cT 7, fcap, .inr (.inr (.inr (.inr flf)))))] _ from (pv_c (pg_1 (x := 9) hcd hP (by decide) f1) (pv_c (pg_1 (x := 40) hcd hP (by decide) f2) pv_0)))) hK rfl rfl) rfl rfl hl.1 rfl (lv_room (Nat.le_of_ble_eq_true rfl)) dR_node_14 ⟨Nat.le_of_ble_eq_true rfl, Nat.le_of_ble_eq_true rfl⟩)) ?_
  refine va_castY (C := "ResidualTrees$Tree") hx hb hown (hT _ w412) (hZ.1.1 ("ResidualTrees$Tree", "ResidualTrees$Tree") (List.mem_of_getElem? (i := 2) rfl)) (va_recv (ci := 9) (q0 := 0) hK (pg_1 (x := 1000 + t) hcd hP (by omega) tr1) rfl rfl) dR_node_17 ?_
  refine lv_iload_n hx hb dR_node_20 rfl (lv_at hl 2 rfl) ?_
  refine ro_r (va_Run.run (va_runV (As := [.int (nI k)]) (rest := []) ⟨hx, hb, hml, hown, hT⟩ (k_treeAt l D cT cds ad gg F t k hcd hTr2 (by omega) hkm) ⟨callB_of 1 hT (tb_gd w886) rfl rfl rfl (hT _ w24) (hT _ w1005) hTr_at ⟨Nat.le_of_ble_eq_true rfl, Nat.le_of_ble_eq_true rfl⟩, (hT _ w884), (hT _ w885)⟩ (RO.preW (ci := 9) (q0 := 0) hZ hS ((show va_P D vwCl ([] ++ pg cds ad gg) _ from (pv_p hP))) hK (pg_1 (x := 1000 + t) hcd hP (by omega) tr1) rfl rfl) rfl rfl hl.1 rfl (lv_room (Nat.le_of_ble_eq_true rfl)) dR_node_21 ⟨Nat.le_of_ble_eq_true rfl, Nat.le_of_ble_eq_true rfl⟩)) ?_
  refine lv_astore hx hb dR_node_24 hl (by decide) rfl (fun ls hl => ?_)
  have hl : lv_has ls 5 [(4, .ref (ad (2000 + 32 * t + k))), (0, .ref (ad 0)), (1, .int (nI t)), (2, .int (nI k)), (3, .int 5)] := hl
  refine lv_iload_n hx hb dR_node_26 rfl (lv_at hl 4 rfl) ?_
  refine lv_tableIn (off := 83) (tgt := 110) hx hb dR_node_27 (by decide) (by decide) rfl rfl ?_
  refine lv_aload hx hb dR_node_110 (lv_at hl 0 rfl) ?_
  refine va_get (D := D) (ci := 10) (v := .int (tA F 5 (31 * t + k))) (C := R_N) (T := T_N) (N := 9) hx hb hT in_N hown hK (pg_1 (x := 2000 + 32 * t + k) hcd hP (by omega) ((tr5 k hkm).1)) 0 rfl rfl 6 (by decide) (hT _ w852) (fun _ h9 => h9) rfl dR_node_112 ?_
  exact W.iret (v := tA F 5 (31 * t + k)) hx hb hr (fun t9 ht9 hW9 => ⟨rfl, ht9⟩) (fun q h => nomatch h) dR_node_115
set_option maxHeartbeats 4000000 in
set_option maxRecDepth 100000 in
theorem k_node6 (l : Launch) (D : va_G) (cT : Nat → ClassId) (cds : List Nat) (ad : Nat → Nat) (gg : Nat → Option va_E) (T : Nat) (fm : Nat) (F : TFR) (t : Nat) (k : Nat) (hcd : CD cds) (hob : gg 0 = some (eOB ad (nI T))) (hFr : FRp cT ad gg fm) (hTm : T ≤ fm) (hTs : TRS cT ad gg F T) (hT16 : T ≤ 16) (htT : t < T) (hc0 : 0 ≤ nI t ∧ nI t ≤ nI T - 1) (hk0 : 0 ≤ nI k ∧ nI k ≤ nI (tM F t) - 1) (hkm : k < tM F t) : Met l yR_node WR_node ({ frames := 4, cells := 0, slots := 0, locals := 86 } : Room) (RO D vwCl [.ref (ad 0), .int (nI t), .int (nI k), .int 6] ([] ++ pg cds ad gg) (TY cT)) (QcRead (tA F 6 (31 * t + k))) 0 0 (fun _ => False) := by
  refine Met.ofW (cc := cR_node) (maxL := 5) (ret := (some .int)) (by decide) rfl ?_
  intro p e s m args below meth c s₁ B hml hv
  obtain ⟨rfl, hZ, hP, hK⟩ := hv
  have hx := B.exec
  have hb := B.bytes
  have hr := B.returns
  have hts := atoms_spec (ws := WR_node) B.pre
  have hT : ∀ w ∈ TB, w.before _ s = true := fun w h => hts w (List.mem_cons_of_mem _ h)
  have hown : s.vm.findClass R_R = some m.cls := findClass_of_methodNamed B.named
  have hlocks := B.notSynchronized
  have hS : va_S (fun _ => False) s.heap s.heap [] := va_S.rf
  have hl := lv_entry ([.ref (ad 0), .int (nI t), .int (nI k), .int 6]) (n := 5) (Nat.le_of_ble_eq_true rfl)
  rw [lg_entry_eq]
  generalize (lg_sl ([.ref (ad 0), .int (nI t), .int (nI k), .int 6]) ++ List.replicate (5 - (lg_sl ([.ref (ad 0), .int (nI t), .int (nI k), .int 6])).length) Slot.unset).toArray = ls at hl ⊢
  have hl : lv_has ls 5 [(0, .ref (ad 0)), (1, .int (nI t)), (2, .int (nI k)), (3, .int 6)] := hl
  have hFr0 := hFr
  obtain ⟨fcap, fmd, flf, f1, f2, f3, f4, f5⟩ := hFr0.2 (by omega)
  have hTr1 := hTs t htT
  have hTr2 := hTs t htT
  obtain ⟨mm, tr1, ⟨cap, md, lf, ls1, ls2, ls3, ls4, ls5⟩, tr3, tr4, tr5⟩ := hTr1
  refine lv_aload_n hx hb dR_node_0 rfl (lv_at hl 0 rfl) ?_
  refine lv_iload_n hx hb dR_node_1 rfl (lv_at hl 1 rfl) ?_
  refine lv_iload_n hx hb dR_node_2 rfl (lv_at hl 2 rfl) ?_
  refine ro_i (va_Run.run (va_runV (As := [.int (nI t), .int (nI k)]) (rest := []) ⟨hx, hb, hml, hown, hT⟩ (k_hasNodeY l D cT cds ad gg T fm F t k hcd hob hFr hTm hTs hT16 htT hc0 hk0) ⟨callB_of 2 hT (tb_gd w1004) rfl rfl rfl (hT _ w1) (hT _ w1001) hR_hasNode ⟨Nat.le_of_ble_eq_true rfl, Nat.le_of_ble_eq_true rfl⟩, (hT _ w1003), (hT _ wp24)⟩ (RO.preW (ci := 0) (q0 := 0) hZ hS ((show va_P D vwCl ([] ++ pg cds ad gg) _ from (pv_p hP))) hK (pg_1 (x := 0) hcd hP (by decide) hob) rfl rfl) rfl rfl hl.1 rfl (lv_room (Nat.le_of_ble_eq_true rfl)) dR_node_3 ⟨Nat.le_of_ble_eq_true rfl, Nat.le_of_ble_eq_true rfl⟩)) ?_
  refine ro_v (va_Run.run (va_runS (As := [.int 1]) (rest := []) ⟨hx, hb, hml, hown, hT⟩ (k_demand_ok l D cT 1 (by decide)) ⟨callB_of 1 hT (tb_gd w510) rfl rfl rfl (hT _ w1) (hT _ w508) hR_demand ⟨Nat.le_of_ble_eq_true rfl, Nat.le_of_ble_eq_true rfl⟩, (hT _ w509)⟩ (RO.preS hZ hS ((show va_P D vwCl [] _ from fun _ _ h => nomatch h)) hK) rfl rfl hl.1 rfl (lv_room (Nat.le_of_ble_eq_true rfl)) dR_node_6 ⟨Nat.le_of_ble_eq_true rfl, Nat.le_of_ble_eq_true rfl⟩)) ?_
  refine lv_aload_n hx hb dR_node_9 rfl (lv_at hl 0 rfl) ?_
  refine va_get (D := D) (ci := 0) (v := .ref (ad 9)) (C := R_R) (T := T_R) (N := 13) hx hb hT in_R hown hK (pg_1 (x := 0) hcd hP (by decide) hob) 0 rfl rfl 4 (by decide) (hT _ w328) (fun _ h9 => h9) rfl dR_node_10 ?_
  refine lv_iload_n hx hb dR_node_13 rfl (lv_at hl 1 rfl) ?_
  refine ro_r (va_Run.run (va_runV (As := [.int (nI t)]) (rest := []) ⟨hx, hb, hml, hown, hT⟩ (k_alGet l D cT (ad 9) (ad 40) fm fmd fcap flf t (ad (1000 + t)) (by omega) f3 (by omega) (f5 _ (by omega))) ⟨callB_of 1 hT (tb_gd w401) rfl rfl rfl (hT _ w11) (hT _ w398) hAL_get ⟨Nat.le_of_ble_eq_true rfl, Nat.le_of_ble_eq_true rfl⟩, (hT _ w399), (hT _ w400)⟩ (RO.preV (ci := 12) (q0 := 0) hZ hS ((show va_P D vwCl [(ad 9, .inr (12, [.ref (ad 40), .int (nI fm), .int fmd])), (ad 40, .inl (cT 7, fcap, .inr (.inr (.inr (.inr flf)))))] _ from (pv_c (pg_1 (x := 9) hcd hP (by decide) f1) (pv_c (pg_1 (x := 40) hcd hP (by decide) f2) pv_0)))) hK rfl rfl) rfl rfl hl.1 rfl (lv_room (Nat.le_of_ble_eq_true rfl)) dR_node_14 ⟨Nat.le_of_ble_eq_true rfl, Nat.le_of_ble_eq_true rfl⟩)) ?_
  refine va_castY (C := "ResidualTrees$Tree") hx hb hown (hT _ w412) (hZ.1.1 ("ResidualTrees$Tree", "ResidualTrees$Tree") (List.mem_of_getElem? (i := 2) rfl)) (va_recv (ci := 9) (q0 := 0) hK (pg_1 (x := 1000 + t) hcd hP (by omega) tr1) rfl rfl) dR_node_17 ?_
  refine lv_iload_n hx hb dR_node_20 rfl (lv_at hl 2 rfl) ?_
  refine ro_r (va_Run.run (va_runV (As := [.int (nI k)]) (rest := []) ⟨hx, hb, hml, hown, hT⟩ (k_treeAt l D cT cds ad gg F t k hcd hTr2 (by omega) hkm) ⟨callB_of 1 hT (tb_gd w886) rfl rfl rfl (hT _ w24) (hT _ w1005) hTr_at ⟨Nat.le_of_ble_eq_true rfl, Nat.le_of_ble_eq_true rfl⟩, (hT _ w884), (hT _ w885)⟩ (RO.preW (ci := 9) (q0 := 0) hZ hS ((show va_P D vwCl ([] ++ pg cds ad gg) _ from (pv_p hP))) hK (pg_1 (x := 1000 + t) hcd hP (by omega) tr1) rfl rfl) rfl rfl hl.1 rfl (lv_room (Nat.le_of_ble_eq_true rfl)) dR_node_21 ⟨Nat.le_of_ble_eq_true rfl, Nat.le_of_ble_eq_true rfl⟩)) ?_
  refine lv_astore hx hb dR_node_24 hl (by decide) rfl (fun ls hl => ?_)
  have hl : lv_has ls 5 [(4, .ref (ad (2000 + 32 * t + k))), (0, .ref (ad 0)), (1, .int (nI t)), (2, .int (nI k)), (3, .int 6)] := hl
  refine lv_iload_n hx hb dR_node_26 rfl (lv_at hl 4 rfl) ?_
  refine lv_tableIn (off := 89) (tgt := 116) hx hb dR_node_27 (by decide) (by decide) rfl rfl ?_
  refine lv_aload hx hb dR_node_116 (lv_at hl 0 rfl) ?_
  refine va_get (D := D) (ci := 10) (v := .int (tA F 6 (31 * t + k))) (C := R_N) (T := T_N) (N := 9) hx hb hT in_N hown hK (pg_1 (x := 2000 + 32 * t + k) hcd hP (by omega) ((tr5 k hkm).1)) 0 rfl rfl 7 (by decide) (hT _ w854) (fun _ h9 => h9) rfl dR_node_118 ?_
  exact W.iret (v := tA F 6 (31 * t + k)) hx hb hr (fun t9 ht9 hW9 => ⟨rfl, ht9⟩) (fun q h => nomatch h) dR_node_121
set_option maxHeartbeats 4000000 in
set_option maxRecDepth 100000 in
theorem k_node7 (l : Launch) (D : va_G) (cT : Nat → ClassId) (cds : List Nat) (ad : Nat → Nat) (gg : Nat → Option va_E) (T : Nat) (fm : Nat) (F : TFR) (t : Nat) (k : Nat) (hcd : CD cds) (hob : gg 0 = some (eOB ad (nI T))) (hFr : FRp cT ad gg fm) (hTm : T ≤ fm) (hTs : TRS cT ad gg F T) (hT16 : T ≤ 16) (htT : t < T) (hc0 : 0 ≤ nI t ∧ nI t ≤ nI T - 1) (hk0 : 0 ≤ nI k ∧ nI k ≤ nI (tM F t) - 1) (hkm : k < tM F t) (hz9 : tA F 7 (31 * t + k) = 0 ∨ tA F 7 (31 * t + k) = 1) : Met l yR_node WR_node ({ frames := 4, cells := 0, slots := 0, locals := 86 } : Room) (RO D vwCl [.ref (ad 0), .int (nI t), .int (nI k), .int 7] ([] ++ pg cds ad gg) (TY cT)) (QcRead (tA F 7 (31 * t + k))) 0 0 (fun _ => False) := by
  refine Met.ofW (cc := cR_node) (maxL := 5) (ret := (some .int)) (by decide) rfl ?_
  intro p e s m args below meth c s₁ B hml hv
  obtain ⟨rfl, hZ, hP, hK⟩ := hv
  have hx := B.exec
  have hb := B.bytes
  have hr := B.returns
  have hts := atoms_spec (ws := WR_node) B.pre
  have hT : ∀ w ∈ TB, w.before _ s = true := fun w h => hts w (List.mem_cons_of_mem _ h)
  have hown : s.vm.findClass R_R = some m.cls := findClass_of_methodNamed B.named
  have hlocks := B.notSynchronized
  have hS : va_S (fun _ => False) s.heap s.heap [] := va_S.rf
  have hl := lv_entry ([.ref (ad 0), .int (nI t), .int (nI k), .int 7]) (n := 5) (Nat.le_of_ble_eq_true rfl)
  rw [lg_entry_eq]
  generalize (lg_sl ([.ref (ad 0), .int (nI t), .int (nI k), .int 7]) ++ List.replicate (5 - (lg_sl ([.ref (ad 0), .int (nI t), .int (nI k), .int 7])).length) Slot.unset).toArray = ls at hl ⊢
  have hl : lv_has ls 5 [(0, .ref (ad 0)), (1, .int (nI t)), (2, .int (nI k)), (3, .int 7)] := hl
  have hFr0 := hFr
  obtain ⟨fcap, fmd, flf, f1, f2, f3, f4, f5⟩ := hFr0.2 (by omega)
  have hTr1 := hTs t htT
  have hTr2 := hTs t htT
  obtain ⟨mm, tr1, ⟨cap, md, lf, ls1, ls2, ls3, ls4, ls5⟩, tr3, tr4, tr5⟩ := hTr1
  refine lv_aload_n hx hb dR_node_0 rfl (lv_at hl 0 rfl) ?_
  refine lv_iload_n hx hb dR_node_1 rfl (lv_at hl 1 rfl) ?_
  refine lv_iload_n hx hb dR_node_2 rfl (lv_at hl 2 rfl) ?_
  refine ro_i (va_Run.run (va_runV (As := [.int (nI t), .int (nI k)]) (rest := []) ⟨hx, hb, hml, hown, hT⟩ (k_hasNodeY l D cT cds ad gg T fm F t k hcd hob hFr hTm hTs hT16 htT hc0 hk0) ⟨callB_of 2 hT (tb_gd w1004) rfl rfl rfl (hT _ w1) (hT _ w1001) hR_hasNode ⟨Nat.le_of_ble_eq_true rfl, Nat.le_of_ble_eq_true rfl⟩, (hT _ w1003), (hT _ wp24)⟩ (RO.preW (ci := 0) (q0 := 0) hZ hS ((show va_P D vwCl ([] ++ pg cds ad gg) _ from (pv_p hP))) hK (pg_1 (x := 0) hcd hP (by decide) hob) rfl rfl) rfl rfl hl.1 rfl (lv_room (Nat.le_of_ble_eq_true rfl)) dR_node_3 ⟨Nat.le_of_ble_eq_true rfl, Nat.le_of_ble_eq_true rfl⟩)) ?_
  refine ro_v (va_Run.run (va_runS (As := [.int 1]) (rest := []) ⟨hx, hb, hml, hown, hT⟩ (k_demand_ok l D cT 1 (by decide)) ⟨callB_of 1 hT (tb_gd w510) rfl rfl rfl (hT _ w1) (hT _ w508) hR_demand ⟨Nat.le_of_ble_eq_true rfl, Nat.le_of_ble_eq_true rfl⟩, (hT _ w509)⟩ (RO.preS hZ hS ((show va_P D vwCl [] _ from fun _ _ h => nomatch h)) hK) rfl rfl hl.1 rfl (lv_room (Nat.le_of_ble_eq_true rfl)) dR_node_6 ⟨Nat.le_of_ble_eq_true rfl, Nat.le_of_ble_eq_true rfl⟩)) ?_
  refine lv_aload_n hx hb dR_node_9 rfl (lv_at hl 0 rfl) ?_
  refine va_get (D := D) (ci := 0) (v := .ref (ad 9)) (C := R_R) (T := T_R) (N := 13) hx hb hT in_R hown hK (pg_1 (x := 0) hcd hP (by decide) hob) 0 rfl rfl 4 (by decide) (hT _ w328) (fun _ h9 => h9) rfl dR_node_10 ?_
  refine lv_iload_n hx hb dR_node_13 rfl (lv_at hl 1 rfl) ?_
  refine ro_r (va_Run.run (va_runV (As := [.int (nI t)]) (rest := []) ⟨hx, hb, hml, hown, hT⟩ (k_alGet l D cT (ad 9) (ad 40) fm fmd fcap flf t (ad (1000 + t)) (by omega) f3 (by omega) (f5 _ (by omega))) ⟨callB_of 1 hT (tb_gd w401) rfl rfl rfl (hT _ w11) (hT _ w398) hAL_get ⟨Nat.le_of_ble_eq_true rfl, Nat.le_of_ble_eq_true rfl⟩, (hT _ w399), (hT _ w400)⟩ (RO.preV (ci := 12) (q0 := 0) hZ hS ((show va_P D vwCl [(ad 9, .inr (12, [.ref (ad 40), .int (nI fm), .int fmd])), (ad 40, .inl (cT 7, fcap, .inr (.inr (.inr (.inr flf)))))] _ from (pv_c (pg_1 (x := 9) hcd hP (by decide) f1) (pv_c (pg_1 (x := 40) hcd hP (by decide) f2) pv_0)))) hK rfl rfl) rfl rfl hl.1 rfl (lv_room (Nat.le_of_ble_eq_true rfl)) dR_node_14 ⟨Nat.le_of_ble_eq_true rfl, Nat.le_of_ble_eq_true rfl⟩)) ?_
  refine va_castY (C := "ResidualTrees$Tree") hx hb hown (hT _ w412) (hZ.1.1 ("ResidualTrees$Tree", "ResidualTrees$Tree") (List.mem_of_getElem? (i := 2) rfl)) (va_recv (ci := 9) (q0 := 0) hK (pg_1 (x := 1000 + t) hcd hP (by omega) tr1) rfl rfl) dR_node_17 ?_
  refine lv_iload_n hx hb dR_node_20 rfl (lv_at hl 2 rfl) ?_
  refine ro_r (va_Run.run (va_runV (As := [.int (nI k)]) (rest := []) ⟨hx, hb, hml, hown, hT⟩ (k_treeAt l D cT cds ad gg F t k hcd hTr2 (by omega) hkm) ⟨callB_of 1 hT (tb_gd w886) rfl rfl rfl (hT _ w24) (hT _ w1005) hTr_at ⟨Nat.le_of_ble_eq_true rfl, Nat.le_of_ble_eq_true rfl⟩, (hT _ w884), (hT _ w885)⟩ (RO.preW (ci := 9) (q0 := 0) hZ hS ((show va_P D vwCl ([] ++ pg cds ad gg) _ from (pv_p hP))) hK (pg_1 (x := 1000 + t) hcd hP (by omega) tr1) rfl rfl) rfl rfl hl.1 rfl (lv_room (Nat.le_of_ble_eq_true rfl)) dR_node_21 ⟨Nat.le_of_ble_eq_true rfl, Nat.le_of_ble_eq_true rfl⟩)) ?_
  refine lv_astore hx hb dR_node_24 hl (by decide) rfl (fun ls hl => ?_)
  have hl : lv_has ls 5 [(4, .ref (ad (2000 + 32 * t + k))), (0, .ref (ad 0)), (1, .int (nI t)), (2, .int (nI k)), (3, .int 7)] := hl
  refine lv_iload_n hx hb dR_node_26 rfl (lv_at hl 4 rfl) ?_
  refine lv_tableIn (off := 95) (tgt := 122) hx hb dR_node_27 (by decide) (by decide) rfl rfl ?_
  refine lv_aload hx hb dR_node_122 (lv_at hl 0 rfl) ?_
  refine va_get (D := D) (ci := 10) (v := .int (tA F 7 (31 * t + k))) (C := R_N) (T := T_N) (N := 9) hx hb hT in_N hown hK (pg_1 (x := 2000 + 32 * t + k) hcd hP (by omega) ((tr5 k hkm).1)) 0 rfl rfl 2 (by decide) (hT _ w838) (fun _ h9 => h9) rfl dR_node_124 ?_
  refine lv_if_eq (tgt := 134) hx hb dR_node_127 rfl (fun h1 => ?_) (fun h1 => ?_)
  · refine lv_iconst (v := 0) hx hb dR_node_134 (by decide) ?_
    exact W.iret (v := 0) hx hb hr (fun t9 ht9 hW9 => ⟨(by rw [h1]), ht9⟩) (fun q h => nomatch h) dR_node_135
  · refine lv_iconst (v := 1) hx hb dR_node_130 (by decide) ?_
    refine lv_goto (tgt := 135) hx hb dR_node_131 rfl ?_
    exact W.iret (v := 1) hx hb hr (fun t9 ht9 hW9 => ⟨(by rw [(hz9.resolve_left h1)]), ht9⟩) (fun q h => nomatch h) dR_node_135
set_option maxHeartbeats 4000000 in
set_option maxRecDepth 100000 in
theorem k_node_not (l : Launch) (D : va_G) (cT : Nat → ClassId) (cds : List Nat) (ad : Nat → Nat) (gg : Nat → Option va_E) (T : Nat) (fm : Nat) (F : TFR) (v : Int32) (a2 : Int32) (a3 : Int32) (hlt : l.stackTraces = false) (hcd : CD cds) (hob : gg 0 = some (eOB ad (nI T))) (hFr : FRp cT ad gg fm) (hTm : T ≤ fm) (hTs : TRS cT ad gg F T) (hT16 : T ≤ 16) (hq : ¬ (0 ≤ v ∧ v ≤ nI T - 1)) : MetT l yR_node WR_node ({ frames := 7, cells := 1, slots := 6, locals := 111 } : Room) (RO D vwCl [.ref (ad 0), .int v, .int a2, .int a3] ([] ++ pg cds ad gg) (TY cT)) "java/lang/IllegalArgumentException" 1 6 := by
  refine MetT.ofW (cc := cR_node) (maxL := 5) (ret := (some .int)) (by decide) rfl ?_
  intro p e s m args below meth c s₁ B hml hno hv
  obtain ⟨rfl, hZ, hP, hK⟩ := hv
  have hx := B.exec
  have hb := B.bytes
  have hr := B.returns
  have hts := atoms_spec (ws := WR_node) B.pre
  have hT : ∀ w ∈ TB, w.before _ s = true := fun w h => hts w (List.mem_cons_of_mem _ h)
  have hown : s.vm.findClass R_R = some m.cls := findClass_of_methodNamed B.named
  have hlocks := B.notSynchronized
  have hS : va_S (fun _ => False) s.heap s.heap [] := va_S.rf
  have hl := lv_entry ([.ref (ad 0), .int v, .int a2, .int a3]) (n := 5) (Nat.le_of_ble_eq_true rfl)
  rw [lg_entry_eq]
  generalize (lg_sl ([.ref (ad 0), .int v, .int a2, .int a3]) ++ List.replicate (5 - (lg_sl ([.ref (ad 0), .int v, .int a2, .int a3])).length) Slot.unset).toArray = ls at hl ⊢
  have hl : lv_has ls 5 [(0, .ref (ad 0)), (1, .int v), (2, .int a2), (3, .int a3)] := hl
  refine lv_aload_n hx hb dR_node_0 rfl (lv_at hl 0 rfl) ?_
  refine lv_iload_n hx hb dR_node_1 rfl (lv_at hl 1 rfl) ?_
  refine lv_iload_n hx hb dR_node_2 rfl (lv_at hl 2 rfl) ?_
  refine ro_i (va_Run.run (va_runV (As := [.int v, .int a2]) (rest := []) ⟨hx, hb, hml, hown, hT⟩ (k_hasNodeT l D cT cds ad gg T fm F v a2 hcd hob hFr hTm hTs hT16 hq) ⟨callB_of 2 hT (tb_gd w1004) rfl rfl rfl (hT _ w1) (hT _ w1001) hR_hasNode ⟨Nat.le_of_ble_eq_true rfl, Nat.le_of_ble_eq_true rfl⟩, (hT _ w1003), (hT _ wp24)⟩ (RO.preW (ci := 0) (q0 := 0) hZ hS ((show va_P D vwCl ([] ++ pg cds ad gg) _ from (pv_p hP))) hK (pg_1 (x := 0) hcd hP (by decide) hob) rfl rfl) rfl rfl hl.1 rfl (lv_room (Nat.le_of_ble_eq_true rfl)) dR_node_3 ⟨Nat.le_of_ble_eq_true rfl, Nat.le_of_ble_eq_true rfl⟩)) ?_
  exact tx_out (tx_goS (As := [.int 0]) (rest := []) ⟨hx, hb, hml, hown, hT⟩ (k_demand_no l D cT 0 hlt rfl) ⟨callB_of 1 hT (tb_gd w510) rfl rfl rfl (hT _ w1) (hT _ w508) hR_demand ⟨Nat.le_of_ble_eq_true rfl, Nat.le_of_ble_eq_true rfl⟩, (hT _ w509)⟩ (RO.preS hZ hS ((show va_P D vwCl [] _ from fun _ _ h => nomatch h)) hK) rfl hl.1 rfl (Nat.le_of_ble_eq_true rfl) dR_node_6 ⟨Nat.le_of_ble_eq_true rfl, Nat.le_of_ble_eq_true rfl⟩) hno hlocks
set_option maxHeartbeats 4000000 in
set_option maxRecDepth 100000 in
theorem k_node_nok (l : Launch) (D : va_G) (cT : Nat → ClassId) (cds : List Nat) (ad : Nat → Nat) (gg : Nat → Option va_E) (T : Nat) (fm : Nat) (F : TFR) (t : Nat) (a2 : Int32) (a3 : Int32) (hlt : l.stackTraces = false) (hcd : CD cds) (hob : gg 0 = some (eOB ad (nI T))) (hFr : FRp cT ad gg fm) (hTm : T ≤ fm) (hTs : TRS cT ad gg F T) (hT16 : T ≤ 16) (htT : t < T) (hc0 : 0 ≤ nI t ∧ nI t ≤ nI T - 1) (hq : ¬ (0 ≤ a2 ∧ a2 ≤ nI (tM F t) - 1)) : MetT l yR_node WR_node ({ frames := 7, cells := 1, slots := 6, locals := 111 } : Room) (RO D vwCl [.ref (ad 0), .int (nI t), .int a2, .int a3] ([] ++ pg cds ad gg) (TY cT)) "java/lang/IllegalArgumentException" 1 6 := by
  refine MetT.ofW (cc := cR_node) (maxL := 5) (ret := (some .int)) (by decide) rfl ?_
  intro p e s m args below meth c s₁ B hml hno hv
  obtain ⟨rfl, hZ, hP, hK⟩ := hv
  have hx := B.exec
  have hb := B.bytes
  have hr := B.returns
  have hts := atoms_spec (ws := WR_node) B.pre
  have hT : ∀ w ∈ TB, w.before _ s = true := fun w h => hts w (List.mem_cons_of_mem _ h)
  have hown : s.vm.findClass R_R = some m.cls := findClass_of_methodNamed B.named
  have hlocks := B.notSynchronized
  have hS : va_S (fun _ => False) s.heap s.heap [] := va_S.rf
  have hl := lv_entry ([.ref (ad 0), .int (nI t), .int a2, .int a3]) (n := 5) (Nat.le_of_ble_eq_true rfl)
  rw [lg_entry_eq]
  generalize (lg_sl ([.ref (ad 0), .int (nI t), .int a2, .int a3]) ++ List.replicate (5 - (lg_sl ([.ref (ad 0), .int (nI t), .int a2, .int a3])).length) Slot.unset).toArray = ls at hl ⊢
  have hl : lv_has ls 5 [(0, .ref (ad 0)), (1, .int (nI t)), (2, .int a2), (3, .int a3)] := hl
  refine lv_aload_n hx hb dR_node_0 rfl (lv_at hl 0 rfl) ?_
  refine lv_iload_n hx hb dR_node_1 rfl (lv_at hl 1 rfl) ?_
  refine lv_iload_n hx hb dR_node_2 rfl (lv_at hl 2 rfl) ?_
  refine ro_i (va_Run.run (va_runV (As := [.int (nI t), .int a2]) (rest := []) ⟨hx, hb, hml, hown, hT⟩ (k_hasNodeK l D cT cds ad gg T fm F t a2 hcd hob hFr hTm hTs hT16 htT hc0 hq) ⟨callB_of 2 hT (tb_gd w1004) rfl rfl rfl (hT _ w1) (hT _ w1001) hR_hasNode ⟨Nat.le_of_ble_eq_true rfl, Nat.le_of_ble_eq_true rfl⟩, (hT _ w1003), (hT _ wp24)⟩ (RO.preW (ci := 0) (q0 := 0) hZ hS ((show va_P D vwCl ([] ++ pg cds ad gg) _ from (pv_p hP))) hK (pg_1 (x := 0) hcd hP (by decide) hob) rfl rfl) rfl rfl hl.1 rfl (lv_room (Nat.le_of_ble_eq_true rfl)) dR_node_3 ⟨Nat.le_of_ble_eq_true rfl, Nat.le_of_ble_eq_true rfl⟩)) ?_
  exact tx_out (tx_goS (As := [.int 0]) (rest := []) ⟨hx, hb, hml, hown, hT⟩ (k_demand_no l D cT 0 hlt rfl) ⟨callB_of 1 hT (tb_gd w510) rfl rfl rfl (hT _ w1) (hT _ w508) hR_demand ⟨Nat.le_of_ble_eq_true rfl, Nat.le_of_ble_eq_true rfl⟩, (hT _ w509)⟩ (RO.preS hZ hS ((show va_P D vwCl [] _ from fun _ _ h => nomatch h)) hK) rfl hl.1 rfl (Nat.le_of_ble_eq_true rfl) dR_node_6 ⟨Nat.le_of_ble_eq_true rfl, Nat.le_of_ble_eq_true rfl⟩) hno hlocks
set_option maxHeartbeats 4000000 in
set_option maxRecDepth 100000 in
theorem k_node_now (l : Launch) (D : va_G) (cT : Nat → ClassId) (cds : List Nat) (ad : Nat → Nat) (gg : Nat → Option va_E) (T : Nat) (fm : Nat) (F : TFR) (t : Nat) (k : Nat) (a3 : Int32) (hlt : l.stackTraces = false) (hcd : CD cds) (hob : gg 0 = some (eOB ad (nI T))) (hFr : FRp cT ad gg fm) (hTm : T ≤ fm) (hTs : TRS cT ad gg F T) (hT16 : T ≤ 16) (htT : t < T) (hc0 : 0 ≤ nI t ∧ nI t ≤ nI T - 1) (hk0 : 0 ≤ nI k ∧ nI k ≤ nI (tM F t) - 1) (hkm : k < tM F t) (hsw : a3.toInt < 0 ∨ 7 < a3.toInt) : MetT l yR_node WR_node ({ frames := 6, cells := 1, slots := 6, locals := 91 } : Room) (RO D vwCl [.ref (ad 0), .int (nI t), .int (nI k), .int a3] ([] ++ pg cds ad gg) (TY cT)) "java/lang/IllegalArgumentException" 1 6 := by
  refine MetT.ofW (cc := cR_node) (maxL := 5) (ret := (some .int)) (by decide) rfl ?_
  intro p e s m args below meth c s₁ B hml hno hv
  obtain ⟨rfl, hZ, hP, hK⟩ := hv
  have hx := B.exec
  have hb := B.bytes
  have hr := B.returns
  have hts := atoms_spec (ws := WR_node) B.pre
  have hT : ∀ w ∈ TB, w.before _ s = true := fun w h => hts w (List.mem_cons_of_mem _ h)
  have hown : s.vm.findClass R_R = some m.cls := findClass_of_methodNamed B.named
  have hlocks := B.notSynchronized
  have hS : va_S (fun _ => False) s.heap s.heap [] := va_S.rf
  have hl := lv_entry ([.ref (ad 0), .int (nI t), .int (nI k), .int a3]) (n := 5) (Nat.le_of_ble_eq_true rfl)
  rw [lg_entry_eq]
  generalize (lg_sl ([.ref (ad 0), .int (nI t), .int (nI k), .int a3]) ++ List.replicate (5 - (lg_sl ([.ref (ad 0), .int (nI t), .int (nI k), .int a3])).length) Slot.unset).toArray = ls at hl ⊢
  have hl : lv_has ls 5 [(0, .ref (ad 0)), (1, .int (nI t)), (2, .int (nI k)), (3, .int a3)] := hl
  have hFr0 := hFr
  obtain ⟨fcap, fmd, flf, f1, f2, f3, f4, f5⟩ := hFr0.2 (by omega)
  have hTr1 := hTs t htT
  have hTr2 := hTs t htT
  obtain ⟨mm, tr1, ⟨cap, md, lf, ls1, ls2, ls3, ls4, ls5⟩, tr3, tr4, tr5⟩ := hTr1
  refine lv_aload_n hx hb dR_node_0 rfl (lv_at hl 0 rfl) ?_
  refine lv_iload_n hx hb dR_node_1 rfl (lv_at hl 1 rfl) ?_
  refine lv_iload_n hx hb dR_node_2 rfl (lv_at hl 2 rfl) ?_
  refine ro_i (va_Run.run (va_runV (As := [.int (nI t), .int (nI k)]) (rest := []) ⟨hx, hb, hml, hown, hT⟩ (k_hasNodeY l D cT cds ad gg T fm F t k hcd hob hFr hTm hTs hT16 htT hc0 hk0) ⟨callB_of 2 hT (tb_gd w1004) rfl rfl rfl (hT _ w1) (hT _ w1001) hR_hasNode ⟨Nat.le_of_ble_eq_true rfl, Nat.le_of_ble_eq_true rfl⟩, (hT _ w1003), (hT _ wp24)⟩ (RO.preW (ci := 0) (q0 := 0) hZ hS ((show va_P D vwCl ([] ++ pg cds ad gg) _ from (pv_p hP))) hK (pg_1 (x := 0) hcd hP (by decide) hob) rfl rfl) rfl rfl hl.1 rfl (lv_room (Nat.le_of_ble_eq_true rfl)) dR_node_3 ⟨Nat.le_of_ble_eq_true rfl, Nat.le_of_ble_eq_true rfl⟩)) ?_
  refine ro_v (va_Run.run (va_runS (As := [.int 1]) (rest := []) ⟨hx, hb, hml, hown, hT⟩ (k_demand_ok l D cT 1 (by decide)) ⟨callB_of 1 hT (tb_gd w510) rfl rfl rfl (hT _ w1) (hT _ w508) hR_demand ⟨Nat.le_of_ble_eq_true rfl, Nat.le_of_ble_eq_true rfl⟩, (hT _ w509)⟩ (RO.preS hZ hS ((show va_P D vwCl [] _ from fun _ _ h => nomatch h)) hK) rfl rfl hl.1 rfl (lv_room (Nat.le_of_ble_eq_true rfl)) dR_node_6 ⟨Nat.le_of_ble_eq_true rfl, Nat.le_of_ble_eq_true rfl⟩)) ?_
  refine lv_aload_n hx hb dR_node_9 rfl (lv_at hl 0 rfl) ?_
  refine va_get (D := D) (ci := 0) (v := .ref (ad 9)) (C := R_R) (T := T_R) (N := 13) hx hb hT in_R hown hK (pg_1 (x := 0) hcd hP (by decide) hob) 0 rfl rfl 4 (by decide) (hT _ w328) (fun _ h9 => h9) rfl dR_node_10 ?_
  refine lv_iload_n hx hb dR_node_13 rfl (lv_at hl 1 rfl) ?_
  refine ro_r (va_Run.run (va_runV (As := [.int (nI t)]) (rest := []) ⟨hx, hb, hml, hown, hT⟩ (k_alGet l D cT (ad 9) (ad 40) fm fmd fcap flf t (ad (1000 + t)) (by omega) f3 (by omega) (f5 _ (by omega))) ⟨callB_of 1 hT (tb_gd w401) rfl rfl rfl (hT _ w11) (hT _ w398) hAL_get ⟨Nat.le_of_ble_eq_true rfl, Nat.le_of_ble_eq_true rfl⟩, (hT _ w399), (hT _ w400)⟩ (RO.preV (ci := 12) (q0 := 0) hZ hS ((show va_P D vwCl [(ad 9, .inr (12, [.ref (ad 40), .int (nI fm), .int fmd])), (ad 40, .inl (cT 7, fcap, .inr (.inr (.inr (.inr flf)))))] _ from (pv_c (pg_1 (x := 9) hcd hP (by decide) f1) (pv_c (pg_1 (x := 40) hcd hP (by decide) f2) pv_0)))) hK rfl rfl) rfl rfl hl.1 rfl (lv_room (Nat.le_of_ble_eq_true rfl)) dR_node_14 ⟨Nat.le_of_ble_eq_true rfl, Nat.le_of_ble_eq_true rfl⟩)) ?_
  refine va_castY (C := "ResidualTrees$Tree") hx hb hown (hT _ w412) (hZ.1.1 ("ResidualTrees$Tree", "ResidualTrees$Tree") (List.mem_of_getElem? (i := 2) rfl)) (va_recv (ci := 9) (q0 := 0) hK (pg_1 (x := 1000 + t) hcd hP (by omega) tr1) rfl rfl) dR_node_17 ?_
  refine lv_iload_n hx hb dR_node_20 rfl (lv_at hl 2 rfl) ?_
  refine ro_r (va_Run.run (va_runV (As := [.int (nI k)]) (rest := []) ⟨hx, hb, hml, hown, hT⟩ (k_treeAt l D cT cds ad gg F t k hcd hTr2 (by omega) hkm) ⟨callB_of 1 hT (tb_gd w886) rfl rfl rfl (hT _ w24) (hT _ w1005) hTr_at ⟨Nat.le_of_ble_eq_true rfl, Nat.le_of_ble_eq_true rfl⟩, (hT _ w884), (hT _ w885)⟩ (RO.preW (ci := 9) (q0 := 0) hZ hS ((show va_P D vwCl ([] ++ pg cds ad gg) _ from (pv_p hP))) hK (pg_1 (x := 1000 + t) hcd hP (by omega) tr1) rfl rfl) rfl rfl hl.1 rfl (lv_room (Nat.le_of_ble_eq_true rfl)) dR_node_21 ⟨Nat.le_of_ble_eq_true rfl, Nat.le_of_ble_eq_true rfl⟩)) ?_
  refine lv_astore hx hb dR_node_24 hl (by decide) rfl (fun ls hl => ?_)
  have hl : lv_has ls 5 [(4, .ref (ad (2000 + 32 * t + k))), (0, .ref (ad 0)), (1, .int (nI t)), (2, .int (nI k)), (3, .int a3)] := hl
  refine lv_iload_n hx hb dR_node_26 rfl (lv_at hl 4 rfl) ?_
  refine lv_tableOut (tgt := 136) hx hb dR_node_27 hsw rfl ?_
  exact tx_throw (names := ["java/lang/RuntimeException", "java/lang/Exception"]) hx hb hlt hown (by decide +kernel) (by decide +kernel) (hT _ w511) (hT _ w17) (at_R_249 hT hZ) (hl.1.trans hml.symm) dR_node_136 dR_node_139 dR_node_140 dR_node_143 hno (Nat.le_of_ble_eq_true rfl) (Nat.le_of_ble_eq_true rfl) (Nat.le_of_ble_eq_true rfl) (Nat.le_of_ble_eq_true rfl) hlocks
set_option maxHeartbeats 4000000 in
set_option maxRecDepth 100000 in
theorem k_nodes (l : Launch) (D : va_G) (cT : Nat → ClassId) (cds : List Nat) (ad : Nat → Nat) (gg : Nat → Option va_E) (T : Nat) (fm : Nat) (F : TFR) (t : Nat) (hcd : CD cds) (hob : gg 0 = some (eOB ad (nI T))) (hFr : FRp cT ad gg fm) (hTm : T ≤ fm) (hTs : TRS cT ad gg F T) (hT16 : T ≤ 16) (htT : t < T) (hc0 : 0 ≤ nI t ∧ nI t ≤ nI T - 1) : Met l yR_nodes WR_nodes ({ frames := 3, cells := 0, slots := 0, locals := 64 } : Room) (RO D vwCl [.ref (ad 0), .int (nI t)] ([] ++ pg cds ad gg) (TY cT)) (QcRead (nI (tM F t))) 0 0 (fun _ => False) := by
  refine Met.ofW (cc := cR_nodes) (maxL := 2) (ret := (some .int)) (by decide) rfl ?_
  intro p e s m args below meth c s₁ B hml hv
  obtain ⟨rfl, hZ, hP, hK⟩ := hv
  have hx := B.exec
  have hb := B.bytes
  have hr := B.returns
  have hts := atoms_spec (ws := WR_nodes) B.pre
  have hT : ∀ w ∈ TB, w.before _ s = true := fun w h => hts w (List.mem_cons_of_mem _ h)
  have hown : s.vm.findClass R_R = some m.cls := findClass_of_methodNamed B.named
  have hlocks := B.notSynchronized
  have hS : va_S (fun _ => False) s.heap s.heap [] := va_S.rf
  have hl := lv_entry ([.ref (ad 0), .int (nI t)]) (n := 2) (Nat.le_of_ble_eq_true rfl)
  rw [lg_entry_eq]
  generalize (lg_sl ([.ref (ad 0), .int (nI t)]) ++ List.replicate (2 - (lg_sl ([.ref (ad 0), .int (nI t)])).length) Slot.unset).toArray = ls at hl ⊢
  have hl : lv_has ls 2 [(0, .ref (ad 0)), (1, .int (nI t))] := hl
  obtain ⟨fcap, fmd, flf, f1, f2, f3, f4, f5⟩ := hFr.2 (by omega)
  have hTr1 := hTs t htT
  obtain ⟨mm, tr1, ⟨cap, md, lf, ls1, ls2, ls3, ls4, ls5⟩, tr3, tr4, tr5⟩ := hTr1
  refine lv_iload_n hx hb dR_nodes_0 rfl (lv_at hl 1 rfl) ?_
  refine lv_iconst (v := 0) hx hb dR_nodes_1 (by decide) ?_
  refine lv_aload_n hx hb dR_nodes_2 rfl (lv_at hl 0 rfl) ?_
  refine va_get (D := D) (ci := 0) (v := .int (nI T)) (C := R_R) (T := T_R) (N := 13) hx hb hT in_R hown hK (pg_1 (x := 0) hcd hP (by decide) hob) 0 rfl rfl 5 (by decide) (hT _ w329) (fun _ h9 => h9) rfl dR_nodes_3 ?_
  refine lv_iconst (v := 1) hx hb dR_nodes_6 (by decide) ?_
  refine lv_isub hx hb dR_nodes_7 ?_
  refine ro_i (va_Run.run (va_runS (As := [.int (nI t), .int 0, .int ((nI T) - 1)]) (rest := []) ⟨hx, hb, hml, hown, hT⟩ (k_isWithin l D cT (nI t) 0 ((nI T) - 1)) ⟨callB_of 3 hT (tb_gd w499) rfl rfl rfl (hT _ w1) (hT _ w497) hR_isWithin ⟨Nat.le_of_ble_eq_true rfl, Nat.le_of_ble_eq_true rfl⟩, (hT _ w498)⟩ (RO.preS hZ hS ((show va_P D vwCl [] _ from fun _ _ h => nomatch h)) hK) rfl rfl hl.1 rfl (lv_room (Nat.le_of_ble_eq_true rfl)) dR_nodes_8 ⟨Nat.le_of_ble_eq_true rfl, Nat.le_of_ble_eq_true rfl⟩)) ?_
  refine ro_v (va_Run.run (va_runS (As := [.int (bi (0 ≤ (nI t) ∧ (nI t) ≤ ((nI T) - 1)))]) (rest := []) ⟨hx, hb, hml, hown, hT⟩ (k_demand_ok l D cT (bi (0 ≤ (nI t) ∧ (nI t) ≤ ((nI T) - 1))) (by rw [bi_t hc0]; decide)) ⟨callB_of 1 hT (tb_gd w510) rfl rfl rfl (hT _ w1) (hT _ w508) hR_demand ⟨Nat.le_of_ble_eq_true rfl, Nat.le_of_ble_eq_true rfl⟩, (hT _ w509)⟩ (RO.preS hZ hS ((show va_P D vwCl [] _ from fun _ _ h => nomatch h)) hK) rfl rfl hl.1 rfl (lv_room (Nat.le_of_ble_eq_true rfl)) dR_nodes_11 ⟨Nat.le_of_ble_eq_true rfl, Nat.le_of_ble_eq_true rfl⟩)) ?_
  refine lv_aload_n hx hb dR_nodes_14 rfl (lv_at hl 0 rfl) ?_
  refine va_get (D := D) (ci := 0) (v := .ref (ad 9)) (C := R_R) (T := T_R) (N := 13) hx hb hT in_R hown hK (pg_1 (x := 0) hcd hP (by decide) hob) 0 rfl rfl 4 (by decide) (hT _ w328) (fun _ h9 => h9) rfl dR_nodes_15 ?_
  refine lv_iload_n hx hb dR_nodes_18 rfl (lv_at hl 1 rfl) ?_
  refine ro_r (va_Run.run (va_runV (As := [.int (nI t)]) (rest := []) ⟨hx, hb, hml, hown, hT⟩ (k_alGet l D cT (ad 9) (ad 40) fm fmd fcap flf t (ad (1000 + t)) (by omega) f3 (by omega) (f5 _ (by omega))) ⟨callB_of 1 hT (tb_gd w401) rfl rfl rfl (hT _ w11) (hT _ w398) hAL_get ⟨Nat.le_of_ble_eq_true rfl, Nat.le_of_ble_eq_true rfl⟩, (hT _ w399), (hT _ w400)⟩ (RO.preV (ci := 12) (q0 := 0) hZ hS ((show va_P D vwCl [(ad 9, .inr (12, [.ref (ad 40), .int (nI fm), .int fmd])), (ad 40, .inl (cT 7, fcap, .inr (.inr (.inr (.inr flf)))))] _ from (pv_c (pg_1 (x := 9) hcd hP (by decide) f1) (pv_c (pg_1 (x := 40) hcd hP (by decide) f2) pv_0)))) hK rfl rfl) rfl rfl hl.1 rfl (lv_room (Nat.le_of_ble_eq_true rfl)) dR_nodes_19 ⟨Nat.le_of_ble_eq_true rfl, Nat.le_of_ble_eq_true rfl⟩)) ?_
  refine va_castY (C := "ResidualTrees$Tree") hx hb hown (hT _ w412) (hZ.1.1 ("ResidualTrees$Tree", "ResidualTrees$Tree") (List.mem_of_getElem? (i := 2) rfl)) (va_recv (ci := 9) (q0 := 0) hK (pg_1 (x := 1000 + t) hcd hP (by omega) tr1) rfl rfl) dR_nodes_22 ?_
  refine va_get (D := D) (ci := 9) (v := .int (nI (tM F t))) (C := R_Tr) (T := T_Tr) (N := 6) hx hb hT in_Tr hown hK (pg_1 (x := 1000 + t) hcd hP (by omega) tr1) 0 rfl rfl 1 (by decide) (hT _ w732) (fun _ h9 => h9) rfl dR_nodes_25 ?_
  exact W.iret (v := nI (tM F t)) hx hb hr (fun t9 ht9 hW9 => ⟨rfl, ht9⟩) (fun q h => nomatch h) dR_nodes_28
set_option maxHeartbeats 4000000 in
set_option maxRecDepth 100000 in
theorem k_nodes_no (l : Launch) (D : va_G) (cT : Nat → ClassId) (cds : List Nat) (ad : Nat → Nat) (gg : Nat → Option va_E) (T : Nat) (v : Int32) (hlt : l.stackTraces = false) (hcd : CD cds) (hob : gg 0 = some (eOB ad (nI T))) (hq : ¬ (0 ≤ v ∧ v ≤ nI T - 1)) : MetT l yR_nodes WR_nodes ({ frames := 7, cells := 1, slots := 6, locals := 111 } : Room) (RO D vwCl [.ref (ad 0), .int v] ([] ++ pg cds ad gg) (TY cT)) "java/lang/IllegalArgumentException" 1 6 := by
  refine MetT.ofW (cc := cR_nodes) (maxL := 2) (ret := (some .int)) (by decide) rfl ?_
  intro p e s m args below meth c s₁ B hml hno hv
  obtain ⟨rfl, hZ, hP, hK⟩ := hv
  have hx := B.exec
  have hb := B.bytes
  have hr := B.returns
  have hts := atoms_spec (ws := WR_nodes) B.pre
  have hT : ∀ w ∈ TB, w.before _ s = true := fun w h => hts w (List.mem_cons_of_mem _ h)
  have hown : s.vm.findClass R_R = some m.cls := findClass_of_methodNamed B.named
  have hlocks := B.notSynchronized
  have hS : va_S (fun _ => False) s.heap s.heap [] := va_S.rf
  have hl := lv_entry ([.ref (ad 0), .int v]) (n := 2) (Nat.le_of_ble_eq_true rfl)
  rw [lg_entry_eq]
  generalize (lg_sl ([.ref (ad 0), .int v]) ++ List.replicate (2 - (lg_sl ([.ref (ad 0), .int v])).length) Slot.unset).toArray = ls at hl ⊢
  have hl : lv_has ls 2 [(0, .ref (ad 0)), (1, .int v)] := hl
  refine lv_iload_n hx hb dR_nodes_0 rfl (lv_at hl 1 rfl) ?_
  refine lv_iconst (v := 0) hx hb dR_nodes_1 (by decide) ?_
  refine lv_aload_n hx hb dR_nodes_2 rfl (lv_at hl 0 rfl) ?_
  refine va_get (D := D) (ci := 0) (v := .int (nI T)) (C := R_R) (T := T_R) (N := 13) hx hb hT in_R hown hK (pg_1 (x := 0) hcd hP (by decide) hob) 0 rfl rfl 5 (by decide) (hT _ w329) (fun _ h9 => h9) rfl dR_nodes_3 ?_
  refine lv_iconst (v := 1) hx hb dR_nodes_6 (by decide) ?_
  refine lv_isub hx hb dR_nodes_7 ?_
  refine ro_i (va_Run.run (va_runS (As := [.int v, .int 0, .int ((nI T) - 1)]) (rest := []) ⟨hx, hb, hml, hown, hT⟩ (k_isWithin l D cT v 0 ((nI T) - 1)) ⟨callB_of 3 hT (tb_gd w499) rfl rfl rfl (hT _ w1) (hT _ w497) hR_isWithin ⟨Nat.le_of_ble_eq_true rfl, Nat.le_of_ble_eq_true rfl⟩, (hT _ w498)⟩ (RO.preS hZ hS ((show va_P D vwCl [] _ from fun _ _ h => nomatch h)) hK) rfl rfl hl.1 rfl (lv_room (Nat.le_of_ble_eq_true rfl)) dR_nodes_8 ⟨Nat.le_of_ble_eq_true rfl, Nat.le_of_ble_eq_true rfl⟩)) ?_
  exact tx_out (tx_goS (As := [.int (bi (0 ≤ v ∧ v ≤ ((nI T) - 1)))]) (rest := []) ⟨hx, hb, hml, hown, hT⟩ (k_demand_no l D cT (bi (0 ≤ v ∧ v ≤ ((nI T) - 1))) hlt (bi_f hq)) ⟨callB_of 1 hT (tb_gd w510) rfl rfl rfl (hT _ w1) (hT _ w508) hR_demand ⟨Nat.le_of_ble_eq_true rfl, Nat.le_of_ble_eq_true rfl⟩, (hT _ w509)⟩ (RO.preS hZ hS ((show va_P D vwCl [] _ from fun _ _ h => nomatch h)) hK) rfl hl.1 rfl (Nat.le_of_ble_eq_true rfl) dR_nodes_11 ⟨Nat.le_of_ble_eq_true rfl, Nat.le_of_ble_eq_true rfl⟩) hno hlocks
set_option maxHeartbeats 4000000 in
set_option maxRecDepth 100000 in
theorem k_uses (l : Launch) (D : va_G) (cT : Nat → ClassId) (cds : List Nat) (ad : Nat → Nat) (gg : Nat → Option va_E) (T : Nat) (fm : Nat) (F : TFR) (wd9 : Int32) (rw9 : Int32) (v : Int32) (hcd : CD cds) (hob : gg 0 = some (eOB ad (nI T))) (hFr : FRp cT ad gg fm) (hTm : T ≤ fm) (hTs : TRS cT ad gg F T) (hT16 : T ≤ 16) (htb : gg 1 = some (eTB ad wd9 rw9)) (hTOK : TOK F T) (hc0 : 0 ≤ v ∧ v ≤ wd9 - 1) : Met l yR_uses WR_uses ({ frames := 4, cells := 0, slots := 0, locals := 87 } : Room) (RO D vwCl [.ref (ad 0), .int v] ([] ++ pg cds ad gg) (TY cT)) (QcRead (nI (usf F v T))) 0 0 (fun _ => False) := by
  refine Met.ofW (cc := cR_uses) (maxL := 4) (ret := (some .int)) (by decide) rfl ?_
  intro p e s m args below meth c s₁ B hml hv
  obtain ⟨rfl, hZ, hP, hK⟩ := hv
  have hx := B.exec
  have hb := B.bytes
  have hr := B.returns
  have hts := atoms_spec (ws := WR_uses) B.pre
  have hT : ∀ w ∈ TB, w.before _ s = true := fun w h => hts w (List.mem_cons_of_mem _ h)
  have hown : s.vm.findClass R_R = some m.cls := findClass_of_methodNamed B.named
  have hlocks := B.notSynchronized
  have hS : va_S (fun _ => False) s.heap s.heap [] := va_S.rf
  have hl := lv_entry ([.ref (ad 0), .int v]) (n := 4) (Nat.le_of_ble_eq_true rfl)
  rw [lg_entry_eq]
  generalize (lg_sl ([.ref (ad 0), .int v]) ++ List.replicate (4 - (lg_sl ([.ref (ad 0), .int v])).length) Slot.unset).toArray = ls at hl ⊢
  have hl : lv_has ls 4 [(0, .ref (ad 0)), (1, .int v)] := hl
  refine lv_aload_n hx hb dR_uses_0 rfl (lv_at hl 0 rfl) ?_
  refine va_get (D := D) (ci := 0) (v := .ref (ad 1)) (C := R_R) (T := T_R) (N := 13) hx hb hT in_R hown hK (pg_1 (x := 0) hcd hP (by decide) hob) 0 rfl rfl 0 (by decide) (hT _ w324) (fun _ h9 => h9) rfl dR_uses_1 ?_
  refine lv_iload_n hx hb dR_uses_4 rfl (lv_at hl 1 rfl) ?_
  refine ro_i (va_Run.run (va_runV (As := [.int v]) (rest := []) ⟨hx, hb, hml, hown, hT⟩ (k_hasColumn l D cT (ad 1) (ad 2) (ad 3) wd9 rw9 v) ⟨callB_of 1 hT (tb_gd w621) rfl rfl rfl (hT _ w2) (hT _ w618) hT_hasColumn ⟨Nat.le_of_ble_eq_true rfl, Nat.le_of_ble_eq_true rfl⟩, (hT _ w619), (hT _ w620)⟩ (RO.preV (ci := 2) (q0 := 0) hZ hS ((show va_P D vwCl [(ad 1, .inr (2, [.ref (ad 2), .ref (ad 3), .int wd9, .int rw9]))] _ from (pv_c (pg_1 (x := 1) hcd hP (by decide) htb) pv_0))) hK rfl rfl) rfl rfl hl.1 rfl (lv_room (Nat.le_of_ble_eq_true rfl)) dR_uses_5 ⟨Nat.le_of_ble_eq_true rfl, Nat.le_of_ble_eq_true rfl⟩)) ?_
  refine ro_v (va_Run.run (va_runS (As := [.int (bi (0 ≤ v ∧ v ≤ wd9 - 1))]) (rest := []) ⟨hx, hb, hml, hown, hT⟩ (k_demand_ok l D cT (bi (0 ≤ v ∧ v ≤ wd9 - 1)) (by rw [bi_t hc0]; decide)) ⟨callB_of 1 hT (tb_gd w510) rfl rfl rfl (hT _ w1) (hT _ w508) hR_demand ⟨Nat.le_of_ble_eq_true rfl, Nat.le_of_ble_eq_true rfl⟩, (hT _ w509)⟩ (RO.preS hZ hS ((show va_P D vwCl [] _ from fun _ _ h => nomatch h)) hK) rfl rfl hl.1 rfl (lv_room (Nat.le_of_ble_eq_true rfl)) dR_uses_8 ⟨Nat.le_of_ble_eq_true rfl, Nat.le_of_ble_eq_true rfl⟩)) ?_
  refine lv_iconst (v := 0) hx hb dR_uses_11 (by decide) ?_
  refine lv_istore_n hx hb dR_uses_12 rfl hl (by decide) rfl (fun ls hl => ?_)
  have hl : lv_has ls 4 [(2, .int 0), (0, .ref (ad 0)), (1, .int v)] := hl
  refine lv_iconst (v := 0) hx hb dR_uses_13 (by decide) ?_
  refine lv_istore_n hx hb dR_uses_14 rfl hl (by decide) rfl (fun ls hl => ?_)
  have hl : lv_has ls 4 [(3, .int 0), (2, .int 0), (0, .ref (ad 0)), (1, .int v)] := hl
  have hl : lv_has ls 4 [(3, .int 0), (2, .int (nI (usf F v 0))), (0, .ref (ad 0)), (1, .int v)] := by
    rw [(show nI (usf F v 0) = 0 from rfl)]; exact hl
  have hl : lv_has ls 4 [(3, .int (nI 0)), (2, .int (nI (usf F v 0))), (0, .ref (ad 0)), (1, .int v)] := by
    rw [(show nI 0 = 0 from rfl)]; exact hl
  refine lp_r (α := Nat) (fun a9 => a9 ≤ T) (fun a9 => T - a9) (fun a9 => [(0, .ref (ad 0)), (1, .int v), (2, .int (nI (usf F v a9))), (3, .int (nI a9))]) 15 ?_ 0 (show 0 ≤ T from Nat.zero_le _) (lv_sub hl [2, 3, 1, 0] rfl)
  intro a9 hI15 ih15 ls hl
  obtain ⟨t, rfl⟩ : ∃ q9, q9 = a9 := ⟨_, rfl⟩
  have hI15 : t ≤ T := hI15
  have hl : lv_has ls 4 [(0, .ref (ad 0)), (1, .int v), (2, .int (nI (usf F v t))), (3, .int (nI t))] := hl
  refine lv_iload_n hx hb dR_uses_15 rfl (lv_at hl 3 rfl) ?_
  refine lv_aload_n hx hb dR_uses_16 rfl (lv_at hl 0 rfl) ?_
  refine va_get (D := D) (ci := 0) (v := .int (nI T)) (C := R_R) (T := T_R) (N := 13) hx hb hT in_R hown hK (pg_1 (x := 0) hcd hP (by decide) hob) 0 rfl rfl 5 (by decide) (hT _ w329) (fun _ h9 => h9) rfl dR_uses_17 ?_
  refine lv_icmp_ge (tgt := 47) hx hb dR_uses_20 rfl (fun h1 => ?_) (fun h1 => ?_)
  · have gh1 : T ≤ t := (nI_leI (a := T) (b := t) (by omega) (by omega)).mp h1
    refine lv_iload_n hx hb dR_uses_47 rfl (lv_at hl 2 rfl) ?_
    exact W.iret (v := nI (usf F v t)) hx hb hr (fun t9 ht9 hW9 => ⟨(by rw [show t = T by omega]), ht9⟩) (fun q h => nomatch h) dR_uses_48
  · have gh1 : t < T := Nat.not_le.mp (fun q => h1 ((nI_leI (a := T) (b := t) (by omega) (by omega)).mpr q))
    have htT : t < T := by omega
    obtain ⟨fcap, fmd, flf, f1, f2, f3, f4, f5⟩ := hFr.2 (by omega)
    have hTr1 := hTs t htT
    have hTr2 := hTs t htT
    obtain ⟨mm, tr1, ⟨cap, md, lf, ls1, ls2, ls3, ls4, ls5⟩, tr3, tr4, tr5⟩ := hTr1
    refine lv_iload_n hx hb dR_uses_23 rfl (lv_at hl 2 rfl) ?_
    refine lv_aload_n hx hb dR_uses_24 rfl (lv_at hl 0 rfl) ?_
    refine va_get (D := D) (ci := 0) (v := .ref (ad 9)) (C := R_R) (T := T_R) (N := 13) hx hb hT in_R hown hK (pg_1 (x := 0) hcd hP (by decide) hob) 0 rfl rfl 4 (by decide) (hT _ w328) (fun _ h9 => h9) rfl dR_uses_25 ?_
    refine lv_iload_n hx hb dR_uses_28 rfl (lv_at hl 3 rfl) ?_
    refine ro_r (va_Run.run (va_runV (As := [.int (nI t)]) (rest := [.int (nI (usf F v t))]) ⟨hx, hb, hml, hown, hT⟩ (k_alGet l D cT (ad 9) (ad 40) fm fmd fcap flf t (ad (1000 + t)) (by omega) f3 (by omega) (f5 _ (by omega))) ⟨callB_of 1 hT (tb_gd w401) rfl rfl rfl (hT _ w11) (hT _ w398) hAL_get ⟨Nat.le_of_ble_eq_true rfl, Nat.le_of_ble_eq_true rfl⟩, (hT _ w399), (hT _ w400)⟩ (RO.preV (ci := 12) (q0 := 0) hZ hS ((show va_P D vwCl [(ad 9, .inr (12, [.ref (ad 40), .int (nI fm), .int fmd])), (ad 40, .inl (cT 7, fcap, .inr (.inr (.inr (.inr flf)))))] _ from (pv_c (pg_1 (x := 9) hcd hP (by decide) f1) (pv_c (pg_1 (x := 40) hcd hP (by decide) f2) pv_0)))) hK rfl rfl) rfl rfl hl.1 rfl (lv_room (Nat.le_of_ble_eq_true rfl)) dR_uses_29 ⟨Nat.le_of_ble_eq_true rfl, Nat.le_of_ble_eq_true rfl⟩)) ?_
    refine va_castY (C := "ResidualTrees$Tree") hx hb hown (hT _ w412) (hZ.1.1 ("ResidualTrees$Tree", "ResidualTrees$Tree") (List.mem_of_getElem? (i := 2) rfl)) (va_recv (ci := 9) (q0 := 0) hK (pg_1 (x := 1000 + t) hcd hP (by omega) tr1) rfl rfl) dR_uses_32 ?_
    refine lv_iload_n hx hb dR_uses_35 rfl (lv_at hl 1 rfl) ?_
    refine ro_i (va_Run.run (va_runV (As := [.int v]) (rest := [.int (nI (usf F v t))]) ⟨hx, hb, hml, hown, hT⟩ (k_splitsOf l D cT cds ad gg F t v hcd hTr2 (by omega) (hTOK.2 t htT)) ⟨callB_of 1 hT (tb_gd w1030) rfl rfl rfl (hT _ w24) (hT _ w1027) hTr_splitsOf ⟨Nat.le_of_ble_eq_true rfl, Nat.le_of_ble_eq_true rfl⟩, (hT _ w1028), (hT _ w1029)⟩ (RO.preW (ci := 9) (q0 := 0) hZ hS ((show va_P D vwCl ([] ++ pg cds ad gg) _ from (pv_p hP))) hK (pg_1 (x := 1000 + t) hcd hP (by omega) tr1) rfl rfl) rfl rfl hl.1 rfl (lv_room (Nat.le_of_ble_eq_true rfl)) dR_uses_36 ⟨Nat.le_of_ble_eq_true rfl, Nat.le_of_ble_eq_true rfl⟩)) ?_
    refine lv_iadd hx hb dR_uses_39 ?_
    refine lv_topi (fun y9 e9 => ?_)
    cases (show y9 = nI ((usf F v t) + (spl (tA F) t v (tM F t))) from e9.trans (nI_add (usf F v t) (spl (tA F) t v (tM F t))))
    refine lv_topi (fun y9 e9 => ?_)
    cases (show y9 = nI (usf F v (t + 1)) from e9.trans rfl)
    refine lv_istore_n hx hb dR_uses_40 rfl hl (by decide) rfl (fun ls hl => ?_)
    have hl : lv_has ls 4 [(2, .int (nI (usf F v (t + 1)))), (0, .ref (ad 0)), (1, .int v), (3, .int (nI t))] := hl
    refine lv_iinc (k := 3) (v := nI (t + 1)) hx hb dR_uses_41 hl rfl (nI_1 t) (by decide) rfl (fun ls hl => ?_)
    have hl : lv_has ls 4 [(3, .int (nI (t + 1))), (2, .int (nI (usf F v (t + 1)))), (0, .ref (ad 0)), (1, .int v)] := hl
    refine lv_goto (tgt := 15) hx hb dR_uses_44 rfl ?_
    exact ih15 (t + 1) (show (t + 1) ≤ T from by omega) (show T - (t + 1) < T - t from (by omega)) ls (lv_sub hl [2, 3, 1, 0] rfl)
set_option maxHeartbeats 4000000 in
set_option maxRecDepth 100000 in
theorem k_uses_no (l : Launch) (D : va_G) (cT : Nat → ClassId) (cds : List Nat) (ad : Nat → Nat) (gg : Nat → Option va_E) (T : Nat) (wd9 : Int32) (rw9 : Int32) (v : Int32) (hlt : l.stackTraces = false) (hcd : CD cds) (hob : gg 0 = some (eOB ad (nI T))) (htb : gg 1 = some (eTB ad wd9 rw9)) (hq : ¬ (0 ≤ v ∧ v ≤ wd9 - 1)) : MetT l yR_uses WR_uses ({ frames := 7, cells := 1, slots := 6, locals := 111 } : Room) (RO D vwCl [.ref (ad 0), .int v] ([] ++ pg cds ad gg) (TY cT)) "java/lang/IllegalArgumentException" 1 6 := by
  refine MetT.ofW (cc := cR_uses) (maxL := 4) (ret := (some .int)) (by decide) rfl ?_
  intro p e s m args below meth c s₁ B hml hno hv
  obtain ⟨rfl, hZ, hP, hK⟩ := hv
  have hx := B.exec
  have hb := B.bytes
  have hr := B.returns
  have hts := atoms_spec (ws := WR_uses) B.pre
  have hT : ∀ w ∈ TB, w.before _ s = true := fun w h => hts w (List.mem_cons_of_mem _ h)
  have hown : s.vm.findClass R_R = some m.cls := findClass_of_methodNamed B.named
  have hlocks := B.notSynchronized
  have hS : va_S (fun _ => False) s.heap s.heap [] := va_S.rf
  have hl := lv_entry ([.ref (ad 0), .int v]) (n := 4) (Nat.le_of_ble_eq_true rfl)
  rw [lg_entry_eq]
  generalize (lg_sl ([.ref (ad 0), .int v]) ++ List.replicate (4 - (lg_sl ([.ref (ad 0), .int v])).length) Slot.unset).toArray = ls at hl ⊢
  have hl : lv_has ls 4 [(0, .ref (ad 0)), (1, .int v)] := hl
  refine lv_aload_n hx hb dR_uses_0 rfl (lv_at hl 0 rfl) ?_
  refine va_get (D := D) (ci := 0) (v := .ref (ad 1)) (C := R_R) (T := T_R) (N := 13) hx hb hT in_R hown hK (pg_1 (x := 0) hcd hP (by decide) hob) 0 rfl rfl 0 (by decide) (hT _ w324) (fun _ h9 => h9) rfl dR_uses_1 ?_
  refine lv_iload_n hx hb dR_uses_4 rfl (lv_at hl 1 rfl) ?_
  refine ro_i (va_Run.run (va_runV (As := [.int v]) (rest := []) ⟨hx, hb, hml, hown, hT⟩ (k_hasColumn l D cT (ad 1) (ad 2) (ad 3) wd9 rw9 v) ⟨callB_of 1 hT (tb_gd w621) rfl rfl rfl (hT _ w2) (hT _ w618) hT_hasColumn ⟨Nat.le_of_ble_eq_true rfl, Nat.le_of_ble_eq_true rfl⟩, (hT _ w619), (hT _ w620)⟩ (RO.preV (ci := 2) (q0 := 0) hZ hS ((show va_P D vwCl [(ad 1, .inr (2, [.ref (ad 2), .ref (ad 3), .int wd9, .int rw9]))] _ from (pv_c (pg_1 (x := 1) hcd hP (by decide) htb) pv_0))) hK rfl rfl) rfl rfl hl.1 rfl (lv_room (Nat.le_of_ble_eq_true rfl)) dR_uses_5 ⟨Nat.le_of_ble_eq_true rfl, Nat.le_of_ble_eq_true rfl⟩)) ?_
  exact tx_out (tx_goS (As := [.int (bi (0 ≤ v ∧ v ≤ wd9 - 1))]) (rest := []) ⟨hx, hb, hml, hown, hT⟩ (k_demand_no l D cT (bi (0 ≤ v ∧ v ≤ wd9 - 1)) hlt (bi_f hq)) ⟨callB_of 1 hT (tb_gd w510) rfl rfl rfl (hT _ w1) (hT _ w508) hR_demand ⟨Nat.le_of_ble_eq_true rfl, Nat.le_of_ble_eq_true rfl⟩, (hT _ w509)⟩ (RO.preS hZ hS ((show va_P D vwCl [] _ from fun _ _ h => nomatch h)) hK) rfl hl.1 rfl (Nat.le_of_ble_eq_true rfl) dR_uses_8 ⟨Nat.le_of_ble_eq_true rfl, Nat.le_of_ble_eq_true rfl⟩) hno hlocks
set_option maxHeartbeats 4000000 in
set_option maxRecDepth 100000 in
theorem k_count0 (l : Launch) (D : va_G) (cT : Nat → ClassId) (cds : List Nat) (ad : Nat → Nat) (gg : Nat → Option va_E) (T : Nat) (wd9 : Int32) (rw9 : Int32) (hcd : CD cds) (hob : gg 0 = some (eOB ad (nI T))) (htb : gg 1 = some (eTB ad wd9 rw9)) : Met l yR_count WR_count ({ frames := 0, cells := 0, slots := 0, locals := 0 } : Room) (RO D vwCl [.ref (ad 0), .int 0] ([] ++ pg cds ad gg) (TY cT)) (QcRead wd9) 0 0 (fun _ => False) := by
  refine Met.ofW (cc := cR_count) (maxL := 2) (ret := (some .int)) (by decide) rfl ?_
  intro p e s m args below meth c s₁ B hml hv
  obtain ⟨rfl, hZ, hP, hK⟩ := hv
  have hx := B.exec
  have hb := B.bytes
  have hr := B.returns
  have hts := atoms_spec (ws := WR_count) B.pre
  have hT : ∀ w ∈ TB, w.before _ s = true := fun w h => hts w (List.mem_cons_of_mem _ h)
  have hown : s.vm.findClass R_R = some m.cls := findClass_of_methodNamed B.named
  have hlocks := B.notSynchronized
  have hS : va_S (fun _ => False) s.heap s.heap [] := va_S.rf
  have hl := lv_entry ([.ref (ad 0), .int 0]) (n := 2) (Nat.le_of_ble_eq_true rfl)
  rw [lg_entry_eq]
  generalize (lg_sl ([.ref (ad 0), .int 0]) ++ List.replicate (2 - (lg_sl ([.ref (ad 0), .int 0])).length) Slot.unset).toArray = ls at hl ⊢
  have hl : lv_has ls 2 [(0, .ref (ad 0)), (1, .int 0)] := hl
  refine lv_iload_n hx hb dR_count_0 rfl (lv_at hl 1 rfl) ?_
  refine lv_tableIn (off := 35) (tgt := 36) hx hb dR_count_1 (by decide) (by decide) rfl rfl ?_
  refine lv_aload_n hx hb dR_count_36 rfl (lv_at hl 0 rfl) ?_
  refine va_get (D := D) (ci := 0) (v := .ref (ad 1)) (C := R_R) (T := T_R) (N := 13) hx hb hT in_R hown hK (pg_1 (x := 0) hcd hP (by decide) hob) 0 rfl rfl 0 (by decide) (hT _ w324) (fun _ h9 => h9) rfl dR_count_37 ?_
  refine va_get (D := D) (ci := 2) (v := .int wd9) (C := R_T) (T := T_T) (N := 4) hx hb hT in_T hown hK (pg_1 (x := 1) hcd hP (by decide) htb) 0 rfl rfl 2 (by decide) (hT _ w80) (fun _ h9 => h9) rfl dR_count_40 ?_
  exact W.iret (v := wd9) hx hb hr (fun t9 ht9 hW9 => ⟨rfl, ht9⟩) (fun q h => nomatch h) dR_count_43
set_option maxHeartbeats 4000000 in
set_option maxRecDepth 100000 in
theorem k_count1 (l : Launch) (D : va_G) (cT : Nat → ClassId) (cds : List Nat) (ad : Nat → Nat) (gg : Nat → Option va_E) (T : Nat) (wd9 : Int32) (rw9 : Int32) (hcd : CD cds) (hob : gg 0 = some (eOB ad (nI T))) (htb : gg 1 = some (eTB ad wd9 rw9)) : Met l yR_count WR_count ({ frames := 0, cells := 0, slots := 0, locals := 0 } : Room) (RO D vwCl [.ref (ad 0), .int 1] ([] ++ pg cds ad gg) (TY cT)) (QcRead rw9) 0 0 (fun _ => False) := by
  refine Met.ofW (cc := cR_count) (maxL := 2) (ret := (some .int)) (by decide) rfl ?_
  intro p e s m args below meth c s₁ B hml hv
  obtain ⟨rfl, hZ, hP, hK⟩ := hv
  have hx := B.exec
  have hb := B.bytes
  have hr := B.returns
  have hts := atoms_spec (ws := WR_count) B.pre
  have hT : ∀ w ∈ TB, w.before _ s = true := fun w h => hts w (List.mem_cons_of_mem _ h)
  have hown : s.vm.findClass R_R = some m.cls := findClass_of_methodNamed B.named
  have hlocks := B.notSynchronized
  have hS : va_S (fun _ => False) s.heap s.heap [] := va_S.rf
  have hl := lv_entry ([.ref (ad 0), .int 1]) (n := 2) (Nat.le_of_ble_eq_true rfl)
  rw [lg_entry_eq]
  generalize (lg_sl ([.ref (ad 0), .int 1]) ++ List.replicate (2 - (lg_sl ([.ref (ad 0), .int 1])).length) Slot.unset).toArray = ls at hl ⊢
  have hl : lv_has ls 2 [(0, .ref (ad 0)), (1, .int 1)] := hl
  refine lv_iload_n hx hb dR_count_0 rfl (lv_at hl 1 rfl) ?_
  refine lv_tableIn (off := 43) (tgt := 44) hx hb dR_count_1 (by decide) (by decide) rfl rfl ?_
  refine lv_aload_n hx hb dR_count_44 rfl (lv_at hl 0 rfl) ?_
  refine va_get (D := D) (ci := 0) (v := .ref (ad 1)) (C := R_R) (T := T_R) (N := 13) hx hb hT in_R hown hK (pg_1 (x := 0) hcd hP (by decide) hob) 0 rfl rfl 0 (by decide) (hT _ w324) (fun _ h9 => h9) rfl dR_count_45 ?_
  refine va_get (D := D) (ci := 2) (v := .int rw9) (C := R_T) (T := T_T) (N := 4) hx hb hT in_T hown hK (pg_1 (x := 1) hcd hP (by decide) htb) 0 rfl rfl 3 (by decide) (hT _ w82) (fun _ h9 => h9) rfl dR_count_48 ?_
  exact W.iret (v := rw9) hx hb hr (fun t9 ht9 hW9 => ⟨rfl, ht9⟩) (fun q h => nomatch h) dR_count_51
set_option maxHeartbeats 4000000 in
set_option maxRecDepth 100000 in
theorem k_count2 (l : Launch) (D : va_G) (cT : Nat → ClassId) (cds : List Nat) (ad : Nat → Nat) (gg : Nat → Option va_E) (T : Nat) (wd9 : Int32) (rw9 : Int32) (hcd : CD cds) (hob : gg 0 = some (eOB ad (nI T))) (htb : gg 1 = some (eTB ad wd9 rw9)) : Met l yR_count WR_count ({ frames := 0, cells := 0, slots := 0, locals := 0 } : Room) (RO D vwCl [.ref (ad 0), .int 2] ([] ++ pg cds ad gg) (TY cT)) (QcRead (nI T)) 0 0 (fun _ => False) := by
  refine Met.ofW (cc := cR_count) (maxL := 2) (ret := (some .int)) (by decide) rfl ?_
  intro p e s m args below meth c s₁ B hml hv
  obtain ⟨rfl, hZ, hP, hK⟩ := hv
  have hx := B.exec
  have hb := B.bytes
  have hr := B.returns
  have hts := atoms_spec (ws := WR_count) B.pre
  have hT : ∀ w ∈ TB, w.before _ s = true := fun w h => hts w (List.mem_cons_of_mem _ h)
  have hown : s.vm.findClass R_R = some m.cls := findClass_of_methodNamed B.named
  have hlocks := B.notSynchronized
  have hS : va_S (fun _ => False) s.heap s.heap [] := va_S.rf
  have hl := lv_entry ([.ref (ad 0), .int 2]) (n := 2) (Nat.le_of_ble_eq_true rfl)
  rw [lg_entry_eq]
  generalize (lg_sl ([.ref (ad 0), .int 2]) ++ List.replicate (2 - (lg_sl ([.ref (ad 0), .int 2])).length) Slot.unset).toArray = ls at hl ⊢
  have hl : lv_has ls 2 [(0, .ref (ad 0)), (1, .int 2)] := hl
  refine lv_iload_n hx hb dR_count_0 rfl (lv_at hl 1 rfl) ?_
  refine lv_tableIn (off := 51) (tgt := 52) hx hb dR_count_1 (by decide) (by decide) rfl rfl ?_
  refine lv_aload_n hx hb dR_count_52 rfl (lv_at hl 0 rfl) ?_
  refine va_get (D := D) (ci := 0) (v := .int (nI T)) (C := R_R) (T := T_R) (N := 13) hx hb hT in_R hown hK (pg_1 (x := 0) hcd hP (by decide) hob) 0 rfl rfl 5 (by decide) (hT _ w329) (fun _ h9 => h9) rfl dR_count_53 ?_
  exact W.iret (v := nI T) hx hb hr (fun t9 ht9 hW9 => ⟨rfl, ht9⟩) (fun q h => nomatch h) dR_count_56
set_option maxHeartbeats 4000000 in
set_option maxRecDepth 100000 in
theorem k_count4 (l : Launch) (D : va_G) (cT : Nat → ClassId) (cds : List Nat) (ad : Nat → Nat) (gg : Nat → Option va_E) (T : Nat) (wd9 : Int32) (rw9 : Int32) (L0 : Nat) (fo : Nat → Int32) (hcd : CD cds) (hob : gg 0 = some (eOB ad (nI T))) (htb : gg 1 = some (eTB ad wd9 rw9)) (hOut : OUTp cT ad gg L0 fo) : Met l yR_count WR_count ({ frames := 0, cells := 0, slots := 0, locals := 0 } : Room) (RO D vwCl [.ref (ad 0), .int 4] ([] ++ pg cds ad gg) (TY cT)) (QcRead (nI L0)) 0 0 (fun _ => False) := by
  refine Met.ofW (cc := cR_count) (maxL := 2) (ret := (some .int)) (by decide) rfl ?_
  intro p e s m args below meth c s₁ B hml hv
  obtain ⟨rfl, hZ, hP, hK⟩ := hv
  have hx := B.exec
  have hb := B.bytes
  have hr := B.returns
  have hts := atoms_spec (ws := WR_count) B.pre
  have hT : ∀ w ∈ TB, w.before _ s = true := fun w h => hts w (List.mem_cons_of_mem _ h)
  have hown : s.vm.findClass R_R = some m.cls := findClass_of_methodNamed B.named
  have hlocks := B.notSynchronized
  have hS : va_S (fun _ => False) s.heap s.heap [] := va_S.rf
  have hl := lv_entry ([.ref (ad 0), .int 4]) (n := 2) (Nat.le_of_ble_eq_true rfl)
  rw [lg_entry_eq]
  generalize (lg_sl ([.ref (ad 0), .int 4]) ++ List.replicate (2 - (lg_sl ([.ref (ad 0), .int 4])).length) Slot.unset).toArray = ls at hl ⊢
  have hl : lv_has ls 2 [(0, .ref (ad 0)), (1, .int 4)] := hl
  have o1 := hOut.1
  refine lv_iload_n hx hb dR_count_0 rfl (lv_at hl 1 rfl) ?_
  refine lv_tableIn (off := 61) (tgt := 62) hx hb dR_count_1 (by decide) (by decide) rfl rfl ?_
  refine lv_aload_n hx hb dR_count_62 rfl (lv_at hl 0 rfl) ?_
  refine va_get (D := D) (ci := 0) (v := .ref (ad 41)) (C := R_R) (T := T_R) (N := 13) hx hb hT in_R hown hK (pg_1 (x := 0) hcd hP (by decide) hob) 0 rfl rfl 6 (by decide) (hT _ w330) (fun _ h9 => h9) rfl dR_count_63 ?_
  refine va_get (D := D) (ci := 8) (v := .int (nI L0)) (C := R_O) (T := T_O) (N := 4) hx hb hT in_O hown hK (pg_1 (x := 41) hcd hP (by decide) o1) 0 rfl rfl 1 (by decide) (hT _ w291) (fun _ h9 => h9) rfl dR_count_66 ?_
  exact W.iret (v := nI L0) hx hb hr (fun t9 ht9 hW9 => ⟨rfl, ht9⟩) (fun q h => nomatch h) dR_count_69
set_option maxHeartbeats 4000000 in
set_option maxRecDepth 100000 in
theorem k_count_no (l : Launch) (D : va_G) (cT : Nat → ClassId) (cds : List Nat) (ad : Nat → Nat) (gg : Nat → Option va_E) (v : Int32) (hlt : l.stackTraces = false) (hsw : v.toInt < 0 ∨ 4 < v.toInt) : MetT l yR_count WR_count ({ frames := 6, cells := 1, slots := 6, locals := 91 } : Room) (RO D vwCl [.ref (ad 0), .int v] ([] ++ pg cds ad gg) (TY cT)) "java/lang/IllegalArgumentException" 1 6 := by
  refine MetT.ofW (cc := cR_count) (maxL := 2) (ret := (some .int)) (by decide) rfl ?_
  intro p e s m args below meth c s₁ B hml hno hv
  obtain ⟨rfl, hZ, hP, hK⟩ := hv
  have hx := B.exec
  have hb := B.bytes
  have hr := B.returns
  have hts := atoms_spec (ws := WR_count) B.pre
  have hT : ∀ w ∈ TB, w.before _ s = true := fun w h => hts w (List.mem_cons_of_mem _ h)
  have hown : s.vm.findClass R_R = some m.cls := findClass_of_methodNamed B.named
  have hlocks := B.notSynchronized
  have hS : va_S (fun _ => False) s.heap s.heap [] := va_S.rf
  have hl := lv_entry ([.ref (ad 0), .int v]) (n := 2) (Nat.le_of_ble_eq_true rfl)
  rw [lg_entry_eq]
  generalize (lg_sl ([.ref (ad 0), .int v]) ++ List.replicate (2 - (lg_sl ([.ref (ad 0), .int v])).length) Slot.unset).toArray = ls at hl ⊢
  have hl : lv_has ls 2 [(0, .ref (ad 0)), (1, .int v)] := hl
  refine lv_iload_n hx hb dR_count_0 rfl (lv_at hl 1 rfl) ?_
  refine lv_tableOut (tgt := 70) hx hb dR_count_1 hsw rfl ?_
  exact tx_throw (names := ["java/lang/RuntimeException", "java/lang/Exception"]) hx hb hlt hown (by decide +kernel) (by decide +kernel) (hT _ w511) (hT _ w17) (at_R_249 hT hZ) (hl.1.trans hml.symm) dR_count_70 dR_count_73 dR_count_74 dR_count_77 hno (Nat.le_of_ble_eq_true rfl) (Nat.le_of_ble_eq_true rfl) (Nat.le_of_ble_eq_true rfl) (Nat.le_of_ble_eq_true rfl) hlocks
set_option maxHeartbeats 4000000 in
set_option maxRecDepth 100000 in
theorem k_count3 (l : Launch) (D : va_G) (cT : Nat → ClassId) (cds : List Nat) (ad : Nat → Nat) (gg : Nat → Option va_E) (wd9 : Int32) (rw9 : Int32) (fm : Nat) (F : TFR) (T : Nat) (n : Nat) (vv : Nat → Int32) (vq : Nat → Int32) (tg : Nat → Int32) (n0 : Nat) (zs0 : Nat → Int) (zf : Int) (zc : Int) (hcd : CD cds) (hob : gg 0 = some (eOB ad (nI T))) (htb : gg 1 = some (eTB ad wd9 rw9)) (hrn : rw9 = nI n) (hn48 : n ≤ 48) (hFr : FRp cT ad gg fm) (hTm : T ≤ fm) (hTs : TRS cT ad gg F T) (hTOK : TOK F T) (hT16 : T ≤ 16) (hCa : CAp cT ad gg) (hCo : COLa cT ad gg n vv vq) (hTg : TGp cT gg n tg) (htg : ∀ i, i < n → -1000 ≤ (tg i).toInt ∧ (tg i).toInt ≤ 1000) (hRs : RSp cT ad gg n0 zs0) (hLf : WHO cT ad gg 50 51 24 zf) (hCm : WHO cT ad gg 52 53 24 zc) (sz : Nat) : Met l yR_count WR_count ({ frames := 8, cells := 0, slots := 0, locals := 178 } : Room) (RW D vwCl [.ref (ad 0), .int 3] ([] ++ pg cds ad gg) (TY cT) sz) (va_Qi (fun (r9 : Int32) (u9 : (Nat → Option va_E) × Nat) => r9 = nI (bl u9.2) ∧ CMD n (xR F vv tg T) (Ppf F T) u9.2 ∧ (∀ z8, (z8 < 100 ∨ 200 ≤ z8) → z8 ≠ 50 → z8 ≠ 51 → z8 ≠ 52 → z8 ≠ 53 → u9.1 z8 = gg z8) ∧ (∃ y8, RSp cT ad u9.1 n y8) ∧ (∃ z8, WHO cT ad u9.1 50 51 24 z8) ∧ ∃ z8, WHO cT ad u9.1 52 53 24 z8) (BW D vwCl (va_A ([] ++ pg cds ad gg) sz) (fun u9 : (Nat → Option va_E) × Nat => ([] ++ pg cds ad u9.1))) (va_A ([] ++ pg cds ad gg) sz)) 0 0 (va_A ([] ++ pg cds ad gg) sz) := by
  refine Met.ofW (cc := cR_count) (maxL := 2) (ret := (some .int)) (by decide) rfl ?_
  intro p e s m args below meth c s₁ B hml hv
  obtain ⟨rfl, hsz, hZ, hP, hK, hD0⟩ := hv
  have hx := B.exec
  have hb := B.bytes
  have hr := B.returns
  have hts := atoms_spec (ws := WR_count) B.pre
  have hT : ∀ w ∈ TB, w.before _ s = true := fun w h => hts w (List.mem_cons_of_mem _ h)
  have hown : s.vm.findClass R_R = some m.cls := findClass_of_methodNamed B.named
  have hlocks := B.notSynchronized
  subst hsz
  have hD := hD0.self (sz := s.heap.size)
  generalize hAe : va_A ([] ++ pg cds ad gg) s.heap.size = A at hD hZ ⊢
  have hA : ∀ q : Nat, s.heap.size ≤ q → A q := fun q h => by rw [← hAe]; exact Or.inr h
  have hS : va_S A s.heap s.heap [] := va_S.rf
  have hl := lv_entry ([.ref (ad 0), .int 3]) (n := 2) (Nat.le_of_ble_eq_true rfl)
  rw [lg_entry_eq]
  generalize (lg_sl ([.ref (ad 0), .int 3]) ++ List.replicate (2 - (lg_sl ([.ref (ad 0), .int 3])).length) Slot.unset).toArray = ls at hl ⊢
  have hl : lv_has ls 2 [(0, .ref (ad 0)), (1, .int 3)] := hl
  refine lv_iload_n hx hb dR_count_0 rfl (lv_at hl 1 rfl) ?_
  refine lv_tableIn (off := 56) (tgt := 57) hx hb dR_count_1 (by decide) (by decide) rfl rfl ?_
  refine lv_aload_n hx hb dR_count_57 rfl (lv_at hl 0 rfl) ?_
  refine hy_iP (X := []) (pl := pg cds ad gg) (cx := []) (wr := []) hP hD hS hA [] [] rfl rfl (by decide) (by decide) (va_runV (As := []) (rest := []) ⟨hx, hb, hml, hown, hT⟩ (k_commonBits l D cT cds ad gg wd9 rw9 fm F T n vv vq tg n0 zs0 zf zc hcd hob htb hrn hn48 hFr hTm hTs hTOK hT16 hCa hCo hTg htg hRs hLf hCm _) ⟨callB_of 0 hT (tb_gd w962) rfl rfl rfl (hT _ w1) (hT _ w959) hR_commonBits ⟨Nat.le_of_ble_eq_true rfl, Nat.le_of_ble_eq_true rfl⟩, (hT _ w961), (hT _ wp22)⟩ (RW.preW (ci := 0) (q0 := 0) hZ hS (va_freeP (cx := []) hD hS hA [] rfl) (hP.part (cx := []) [] rfl) hK (hD.part (cx := []) [] (by decide) rfl) (pg_1 (x := 0) hcd hP (by decide) hob) rfl rfl) rfl rfl hl.1 rfl (lv_room (Nat.le_of_ble_eq_true rfl)) dR_count_58 ⟨Nat.le_of_ble_eq_true rfl, Nat.le_of_ble_eq_true rfl⟩) (fun ru1 u9 H locs hpu1 hP hD hS => ?_)
  obtain ⟨gg7u1, d7u1⟩ := u9
  have hpu1 : ru1 = nI (bl d7u1) ∧ CMD n (xR F vv tg T) (Ppf F T) d7u1 ∧ (∀ z8, (z8 < 100 ∨ 200 ≤ z8) → z8 ≠ 50 → z8 ≠ 51 → z8 ≠ 52 → z8 ≠ 53 → gg7u1 z8 = gg z8) ∧ (∃ y8, RSp cT ad gg7u1 n y8) ∧ (∃ z8, WHO cT ad gg7u1 50 51 24 z8) ∧ ∃ z8, WHO cT ad gg7u1 52 53 24 z8 := hpu1
  have hP : va_P D vwCl ([] ++ pg cds ad gg7u1) _ := hP
  have hD : va_D A ([] ++ pg cds ad gg7u1) := hD
  have hP9 : va_P D vwCl ([] ++ pg cds ad gg7u1) _ := hP.part (cx := []) [] rfl
  have hD9 : va_D A ([] ++ pg cds ad gg7u1) := hD.part (cx := []) [] (by decide) rfl
  refine W.widen (k := 0) (n := 0) (Nat.le_of_ble_eq_true rfl) (Nat.le_of_ble_eq_true rfl) ?_
  exact W.iret (v := ru1) hx hb hr (fun t9 ht9 hW9 => ⟨⟨ru1, (gg7u1, d7u1), rfl, (show ru1 = nI (bl d7u1) ∧ CMD n (xR F vv tg T) (Ppf F T) d7u1 ∧ (∀ z8, (z8 < 100 ∨ 200 ≤ z8) → z8 ≠ 50 → z8 ≠ 51 → z8 ≠ 52 → z8 ≠ 53 → gg7u1 z8 = gg z8) ∧ (∃ y8, RSp cT ad gg7u1 n y8) ∧ (∃ z8, WHO cT ad gg7u1 50 51 24 z8) ∧ ∃ z8, WHO cT ad gg7u1 52 53 24 z8 from hpu1), by rw [ht9]; exact hP9, hD9⟩, hS.F ht9⟩) hS.2.2 dR_count_61
set_option maxHeartbeats 4000000 in
set_option maxRecDepth 100000 in
theorem k_byteY (l : Launch) (D : va_G) (cT : Nat → ClassId) (cds : List Nat) (ad : Nat → Nat) (gg : Nat → Option va_E) (T : Nat) (L0 : Nat) (fo : Nat → Int32) (i : Nat) (hcd : CD cds) (hob : gg 0 = some (eOB ad (nI T))) (hOut : OUTp cT ad gg L0 fo) (hc0 : 0 ≤ nI i ∧ nI i ≤ nI L0 - 1) (hi8 : i < 866) : Met l yR_byteAt WR_byteAt ({ frames := 1, cells := 0, slots := 0, locals := 22 } : Room) (RO D vwCl [.ref (ad 0), .int (nI i)] ([] ++ pg cds ad gg) (TY cT)) (QcRead (fo i)) 0 0 (fun _ => False) := by
  refine Met.ofW (cc := cR_byteAt) (maxL := 2) (ret := (some .int)) (by decide) rfl ?_
  intro p e s m args below meth c s₁ B hml hv
  obtain ⟨rfl, hZ, hP, hK⟩ := hv
  have hx := B.exec
  have hb := B.bytes
  have hr := B.returns
  have hts := atoms_spec (ws := WR_byteAt) B.pre
  have hT : ∀ w ∈ TB, w.before _ s = true := fun w h => hts w (List.mem_cons_of_mem _ h)
  have hown : s.vm.findClass R_R = some m.cls := findClass_of_methodNamed B.named
  have hlocks := B.notSynchronized
  have hS : va_S (fun _ => False) s.heap s.heap [] := va_S.rf
  have hl := lv_entry ([.ref (ad 0), .int (nI i)]) (n := 2) (Nat.le_of_ble_eq_true rfl)
  rw [lg_entry_eq]
  generalize (lg_sl ([.ref (ad 0), .int (nI i)]) ++ List.replicate (2 - (lg_sl ([.ref (ad 0), .int (nI i)])).length) Slot.unset).toArray = ls at hl ⊢
  have hl : lv_has ls 2 [(0, .ref (ad 0)), (1, .int (nI i))] := hl
  obtain ⟨o1, o2, _⟩ := hOut
  refine lv_iload_n hx hb dR_byteAt_0 rfl (lv_at hl 1 rfl) ?_
  refine lv_iconst (v := 0) hx hb dR_byteAt_1 (by decide) ?_
  refine lv_aload_n hx hb dR_byteAt_2 rfl (lv_at hl 0 rfl) ?_
  refine va_get (D := D) (ci := 0) (v := .ref (ad 41)) (C := R_R) (T := T_R) (N := 13) hx hb hT in_R hown hK (pg_1 (x := 0) hcd hP (by decide) hob) 0 rfl rfl 6 (by decide) (hT _ w330) (fun _ h9 => h9) rfl dR_byteAt_3 ?_
  refine va_get (D := D) (ci := 8) (v := .int (nI L0)) (C := R_O) (T := T_O) (N := 4) hx hb hT in_O hown hK (pg_1 (x := 41) hcd hP (by decide) o1) 0 rfl rfl 1 (by decide) (hT _ w291) (fun _ h9 => h9) rfl dR_byteAt_6 ?_
  refine lv_iconst (v := 1) hx hb dR_byteAt_9 (by decide) ?_
  refine lv_isub hx hb dR_byteAt_10 ?_
  refine ro_i (va_Run.run (va_runS (As := [.int (nI i), .int 0, .int ((nI L0) - 1)]) (rest := []) ⟨hx, hb, hml, hown, hT⟩ (k_isWithin l D cT (nI i) 0 ((nI L0) - 1)) ⟨callB_of 3 hT (tb_gd w499) rfl rfl rfl (hT _ w1) (hT _ w497) hR_isWithin ⟨Nat.le_of_ble_eq_true rfl, Nat.le_of_ble_eq_true rfl⟩, (hT _ w498)⟩ (RO.preS hZ hS ((show va_P D vwCl [] _ from fun _ _ h => nomatch h)) hK) rfl rfl hl.1 rfl (lv_room (Nat.le_of_ble_eq_true rfl)) dR_byteAt_11 ⟨Nat.le_of_ble_eq_true rfl, Nat.le_of_ble_eq_true rfl⟩)) ?_
  refine lv_if_eq (tgt := 29) hx hb dR_byteAt_14 rfl (fun h1 => absurd h1 (by rw [bi_t hc0]; decide)) (fun _ => ?_)
  refine lv_aload_n hx hb dR_byteAt_17 rfl (lv_at hl 0 rfl) ?_
  refine va_get (D := D) (ci := 0) (v := .ref (ad 41)) (C := R_R) (T := T_R) (N := 13) hx hb hT in_R hown hK (pg_1 (x := 0) hcd hP (by decide) hob) 0 rfl rfl 6 (by decide) (hT _ w330) (fun _ h9 => h9) rfl dR_byteAt_18 ?_
  refine va_get (D := D) (ci := 8) (v := .ref (ad 42)) (C := R_O) (T := T_O) (N := 4) hx hb hT in_O hown hK (pg_1 (x := 41) hcd hP (by decide) o1) 0 rfl rfl 0 (by decide) (hT _ w289) (fun _ h9 => h9) rfl dR_byteAt_21 ?_
  refine lv_iload_n hx hb dR_byteAt_24 rfl (lv_at hl 1 rfl) ?_
  refine lq_bald (j := i) hx hb hK (pg_1 (x := 42) hcd hP (by decide) o2) 0 2 rfl rfl rfl (by omega) (by omega) dR_byteAt_25 ?_
  refine lv_goto (tgt := 30) hx hb dR_byteAt_26 rfl ?_
  exact W.iret (v := fo i) hx hb hr (fun t9 ht9 hW9 => ⟨rfl, ht9⟩) (fun q h => nomatch h) dR_byteAt_30
set_option maxHeartbeats 4000000 in
set_option maxRecDepth 100000 in
theorem k_byteN (l : Launch) (D : va_G) (cT : Nat → ClassId) (cds : List Nat) (ad : Nat → Nat) (gg : Nat → Option va_E) (T : Nat) (L0 : Nat) (fo : Nat → Int32) (v : Int32) (hcd : CD cds) (hob : gg 0 = some (eOB ad (nI T))) (hOut : OUTp cT ad gg L0 fo) (hq : ¬ (0 ≤ v ∧ v ≤ nI L0 - 1)) : Met l yR_byteAt WR_byteAt ({ frames := 1, cells := 0, slots := 0, locals := 22 } : Room) (RO D vwCl [.ref (ad 0), .int v] ([] ++ pg cds ad gg) (TY cT)) (QcRead (-1)) 0 0 (fun _ => False) := by
  refine Met.ofW (cc := cR_byteAt) (maxL := 2) (ret := (some .int)) (by decide) rfl ?_
  intro p e s m args below meth c s₁ B hml hv
  obtain ⟨rfl, hZ, hP, hK⟩ := hv
  have hx := B.exec
  have hb := B.bytes
  have hr := B.returns
  have hts := atoms_spec (ws := WR_byteAt) B.pre
  have hT : ∀ w ∈ TB, w.before _ s = true := fun w h => hts w (List.mem_cons_of_mem _ h)
  have hown : s.vm.findClass R_R = some m.cls := findClass_of_methodNamed B.named
  have hlocks := B.notSynchronized
  have hS : va_S (fun _ => False) s.heap s.heap [] := va_S.rf
  have hl := lv_entry ([.ref (ad 0), .int v]) (n := 2) (Nat.le_of_ble_eq_true rfl)
  rw [lg_entry_eq]
  generalize (lg_sl ([.ref (ad 0), .int v]) ++ List.replicate (2 - (lg_sl ([.ref (ad 0), .int v])).length) Slot.unset).toArray = ls at hl ⊢
  have hl : lv_has ls 2 [(0, .ref (ad 0)), (1, .int v)] := hl
  obtain ⟨o1, o2, _⟩ := hOut
  refine lv_iload_n hx hb dR_byteAt_0 rfl (lv_at hl 1 rfl) ?_
  refine lv_iconst (v := 0) hx hb dR_byteAt_1 (by decide) ?_
  refine lv_aload_n hx hb dR_byteAt_2 rfl (lv_at hl 0 rfl) ?_
  refine va_get (D := D) (ci := 0) (v := .ref (ad 41)) (C := R_R) (T := T_R) (N := 13) hx hb hT in_R hown hK (pg_1 (x := 0) hcd hP (by decide) hob) 0 rfl rfl 6 (by decide) (hT _ w330) (fun _ h9 => h9) rfl dR_byteAt_3 ?_
  refine va_get (D := D) (ci := 8) (v := .int (nI L0)) (C := R_O) (T := T_O) (N := 4) hx hb hT in_O hown hK (pg_1 (x := 41) hcd hP (by decide) o1) 0 rfl rfl 1 (by decide) (hT _ w291) (fun _ h9 => h9) rfl dR_byteAt_6 ?_
  refine lv_iconst (v := 1) hx hb dR_byteAt_9 (by decide) ?_
  refine lv_isub hx hb dR_byteAt_10 ?_
  refine ro_i (va_Run.run (va_runS (As := [.int v, .int 0, .int ((nI L0) - 1)]) (rest := []) ⟨hx, hb, hml, hown, hT⟩ (k_isWithin l D cT v 0 ((nI L0) - 1)) ⟨callB_of 3 hT (tb_gd w499) rfl rfl rfl (hT _ w1) (hT _ w497) hR_isWithin ⟨Nat.le_of_ble_eq_true rfl, Nat.le_of_ble_eq_true rfl⟩, (hT _ w498)⟩ (RO.preS hZ hS ((show va_P D vwCl [] _ from fun _ _ h => nomatch h)) hK) rfl rfl hl.1 rfl (lv_room (Nat.le_of_ble_eq_true rfl)) dR_byteAt_11 ⟨Nat.le_of_ble_eq_true rfl, Nat.le_of_ble_eq_true rfl⟩)) ?_
  refine lv_if_eq (tgt := 29) hx hb dR_byteAt_14 rfl (fun _ => ?_) (fun h1 => absurd (bi_f hq) h1)
  refine lv_iconst (v := (-1)) hx hb dR_byteAt_29 (by decide) ?_
  exact W.iret (v := (-1)) hx hb hr (fun t9 ht9 hW9 => ⟨rfl, ht9⟩) (fun q h => nomatch h) dR_byteAt_30
