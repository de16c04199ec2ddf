set_option maxHeartbeats 4000000 in
set_option maxRecDepth 100000 in
theorem k_put (l : Launch) (D : va_G) (cT : Nat → ClassId) (cds : List Nat) (ad : Nat → Nat) (gg : Nat → Option va_E) (tc : Int32) (wd9 : Int32) (rw9 : Int32) (n : Nat) (vv : Nat → Int32) (vq : Nat → Int32) (eg : Nat → Int32) (ik : Nat → Int32) (ne : Nat → Nat) (r : Nat) (c0 : Nat) (v : Int32) (hcd : CD cds) (hob : gg 0 = some (eOB ad tc)) (htb : gg 1 = some (eTB ad wd9 rw9)) (hCa : CAp cT ad gg) (hCf : COLF cT ad gg n vv vq eg ik ne) (hne : ∀ c, c < 6 → ne c ≤ 11) (hn48 : n ≤ 48) (hr0 : 0 ≤ nI r ∧ nI r ≤ rw9 - 1) (hrn : r < n) (hc0 : 0 ≤ nI c0 ∧ nI c0 ≤ wd9 - 1) (hc6 : c0 < 6) (hv9 : takB (ik c0) v = true) (sz : Nat) : Met l yR_put WR_put ({ frames := 3, cells := 0, slots := 0, locals := 63 } : Room) (RW D vwCl [.ref (ad 0), .int (nI r), .int (nI c0), .int v] ([] ++ pg cds ad gg) (TY cT) sz) (va_Qi (fun (r9 : Int32) (u9 : (Nat → Option va_E)) => r9 = vv (6 * r + c0) ∧ (∀ z8, (z8 < 10 ∨ 40 ≤ z8) → u9 z8 = gg z8) ∧ COLF cT ad u9 n (upd vv (6 * r + c0) v) vq eg ik ne) (BW D vwCl (va_A ([] ++ pg cds ad gg) sz) (fun u9 : (Nat → Option va_E) => ([] ++ pg cds ad u9))) (va_A ([] ++ pg cds ad gg) sz)) 0 0 (va_A ([] ++ pg cds ad gg) sz) := by
  refine Met.ofW (cc := cR_put) (maxL := 4) (ret := (some .int)) (by decide) rfl ?_
  intro p e s m args below meth c s₁ B hml hv
  obtain ⟨rfl, hsz, hZ, hP, hK, hD0⟩ := hv
  have hx := B.exec
  have hb := B.bytes
  have hr := B.returns
  have hts := atoms_spec (ws := WR_put) B.pre
  have hT : ∀ w ∈ TB, w.before _ s = true := fun w h => hts w (List.mem_cons_of_mem _ h)
  have hown : s.vm.findClass R_R = some m.cls := findClass_of_methodNamed B.named
  have hlocks := B.notSynchronized
  subst hsz
  have hD := hD0.self (sz := s.heap.size)
  generalize hAe : va_A ([] ++ pg cds ad gg) s.heap.size = A at hD hZ ⊢
  have hA : ∀ q : Nat, s.heap.size ≤ q → A q := fun q h => by rw [← hAe]; exact Or.inr h
  have hS : va_S A s.heap s.heap [] := va_S.rf
  have hl := lv_entry ([.ref (ad 0), .int (nI r), .int (nI c0), .int v]) (n := 4) (Nat.le_of_ble_eq_true rfl)
  rw [lg_entry_eq]
  generalize (lg_sl ([.ref (ad 0), .int (nI r), .int (nI c0), .int v]) ++ List.replicate (4 - (lg_sl ([.ref (ad 0), .int (nI r), .int (nI c0), .int v])).length) Slot.unset).toArray = ls at hl ⊢
  have hl : lv_has ls 4 [(0, .ref (ad 0)), (1, .int (nI r)), (2, .int (nI c0)), (3, .int v)] := hl
  have hCf0 := hCf
  obtain ⟨qf, hca, hcb⟩ := hCa
  obtain ⟨fv, fe, hce, hcv, hcq, hcg⟩ := hCf c0 hc6
  obtain ⟨hc1, hc2, hc3⟩ := hce
  refine lv_aload_n hx hb dR_put_0 rfl (lv_at hl 0 rfl) ?_
  refine va_get (D := D) (ci := 0) (v := .ref (ad 1)) (C := R_R) (T := T_R) (N := 13) hx hb hT in_R hown hK (pg_1 (x := 0) hcd hP (by decide) hob) 0 rfl rfl 0 (by decide) (hT _ w324) (fun _ h9 => h9) rfl dR_put_1 ?_
  refine lv_iload_n hx hb dR_put_4 rfl (lv_at hl 1 rfl) ?_
  refine ro_i (va_Run.run (va_runV (As := [.int (nI r)]) (rest := []) ⟨hx, hb, hml, hown, hT⟩ (k_hasRow l D cT (ad 1) (ad 2) (ad 3) wd9 rw9 (nI r)) ⟨callB_of 1 hT (tb_gd w616) rfl rfl rfl (hT _ w2) (hT _ w613) hT_hasRow ⟨Nat.le_of_ble_eq_true rfl, Nat.le_of_ble_eq_true rfl⟩, (hT _ w614), (hT _ w615)⟩ (RO.preV (ci := 2) (q0 := 0) hZ hS ((show va_P D vwCl [(ad 1, .inr (2, [.ref (ad 2), .ref (ad 3), .int wd9, .int rw9]))] _ from (pv_c (pg_1 (x := 1) hcd hP (by decide) htb) pv_0))) hK rfl rfl) rfl rfl hl.1 rfl (lv_room (Nat.le_of_ble_eq_true rfl)) dR_put_5 ⟨Nat.le_of_ble_eq_true rfl, Nat.le_of_ble_eq_true rfl⟩)) ?_
  refine lv_if_eq (tgt := 26) hx hb dR_put_8 rfl (fun h1 => absurd h1 (by rw [bi_t hr0]; decide)) (fun _ => ?_)
  refine lv_aload_n hx hb dR_put_11 rfl (lv_at hl 0 rfl) ?_
  refine va_get (D := D) (ci := 0) (v := .ref (ad 1)) (C := R_R) (T := T_R) (N := 13) hx hb hT in_R hown hK (pg_1 (x := 0) hcd hP (by decide) hob) 0 rfl rfl 0 (by decide) (hT _ w324) (fun _ h9 => h9) rfl dR_put_12 ?_
  refine lv_iload_n hx hb dR_put_15 rfl (lv_at hl 2 rfl) ?_
  refine ro_i (va_Run.run (va_runV (As := [.int (nI c0)]) (rest := []) ⟨hx, hb, hml, hown, hT⟩ (k_hasColumn l D cT (ad 1) (ad 2) (ad 3) wd9 rw9 (nI c0)) ⟨callB_of 1 hT (tb_gd w621) rfl rfl rfl (hT _ w2) (hT _ w618) hT_hasColumn ⟨Nat.le_of_ble_eq_true rfl, Nat.le_of_ble_eq_true rfl⟩, (hT _ w619), (hT _ w620)⟩ (RO.preV (ci := 2) (q0 := 0) hZ hS ((show va_P D vwCl [(ad 1, .inr (2, [.ref (ad 2), .ref (ad 3), .int wd9, .int rw9]))] _ from (pv_c (pg_1 (x := 1) hcd hP (by decide) htb) pv_0))) hK rfl rfl) rfl rfl hl.1 rfl (lv_room (Nat.le_of_ble_eq_true rfl)) dR_put_16 ⟨Nat.le_of_ble_eq_true rfl, Nat.le_of_ble_eq_true rfl⟩)) ?_
  refine lv_if_eq (tgt := 26) hx hb dR_put_19 rfl (fun h2 => absurd h2 (by rw [bi_t hc0]; decide)) (fun _ => ?_)
  refine lv_iconst (v := 1) hx hb dR_put_22 (by decide) ?_
  refine lv_goto (tgt := 27) hx hb dR_put_23 rfl ?_
  refine ro_v (va_Run.run (va_runS (As := [.int 1]) (rest := []) ⟨hx, hb, hml, hown, hT⟩ (k_demand_ok l D cT 1 (by decide)) ⟨callB_of 1 hT (tb_gd w510) rfl rfl rfl (hT _ w1) (hT _ w508) hR_demand ⟨Nat.le_of_ble_eq_true rfl, Nat.le_of_ble_eq_true rfl⟩, (hT _ w509)⟩ (RO.preS hZ hS ((show va_P D vwCl [] _ from fun _ _ h => nomatch h)) hK) rfl rfl hl.1 rfl (lv_room (Nat.le_of_ble_eq_true rfl)) dR_put_27 ⟨Nat.le_of_ble_eq_true rfl, Nat.le_of_ble_eq_true rfl⟩)) ?_
  refine lv_aload_n hx hb dR_put_30 rfl (lv_at hl 0 rfl) ?_
  refine va_get (D := D) (ci := 0) (v := .ref (ad 1)) (C := R_R) (T := T_R) (N := 13) hx hb hT in_R hown hK (pg_1 (x := 0) hcd hP (by decide) hob) 0 rfl rfl 0 (by decide) (hT _ w324) (fun _ h9 => h9) rfl dR_put_31 ?_
  refine va_get (D := D) (ci := 2) (v := .ref (ad 2)) (C := R_T) (T := T_T) (N := 4) hx hb hT in_T hown hK (pg_1 (x := 1) hcd hP (by decide) htb) 0 rfl rfl 0 (by decide) (hT _ w74) (fun _ h9 => h9) rfl dR_put_34 ?_
  refine lv_iload_n hx hb dR_put_37 rfl (lv_at hl 2 rfl) ?_
  refine al_q (q := ad (10 + c0)) hx hb hK (pg_1 (x := 2) hcd hP (by decide) hca) 0 5 rfl rfl (vp_in_nI (by omega) (by decide)) (by rw [nI_clamp (by omega)]; exact hcb c0 hc6) dR_put_38 ?_
  refine lv_iload_n hx hb dR_put_39 rfl (lv_at hl 3 rfl) ?_
  refine ro_i (va_Run.run (va_runV (As := [.int v]) (rest := []) ⟨hx, hb, hml, hown, hT⟩ (k_takes l D cT (ad (10 + c0)) (ad (20 + c0)) (ad (30 + c0)) (nI (ne c0)) (ik c0) v) ⟨callB_of 1 hT (tb_gd w625) rfl rfl rfl (hT _ w3) (hT _ w622) hC_takes ⟨Nat.le_of_ble_eq_true rfl, Nat.le_of_ble_eq_true rfl⟩, (hT _ w623), (hT _ w624)⟩ (RO.preV (ci := 1) (q0 := 0) hZ hS ((show va_P D vwCl [(ad (10 + c0), .inr (1, [.ref (ad (20 + c0)), .ref (ad (30 + c0)), .int (nI (ne c0)), .int (ik c0)]))] _ from (pv_c (pg_1 (x := 10 + c0) hcd hP (by omega) hc1) pv_0))) hK rfl rfl) rfl rfl hl.1 rfl (lv_room (Nat.le_of_ble_eq_true rfl)) dR_put_40 ⟨Nat.le_of_ble_eq_true rfl, Nat.le_of_ble_eq_true rfl⟩)) ?_
  refine ro_v (va_Run.run (va_runS (As := [.int (bn (takB (ik c0) v))]) (rest := []) ⟨hx, hb, hml, hown, hT⟩ (k_demand_ok l D cT (bn (takB (ik c0) v)) (by rw [hv9]; decide)) ⟨callB_of 1 hT (tb_gd w510) rfl rfl rfl (hT _ w1) (hT _ w508) hR_demand ⟨Nat.le_of_ble_eq_true rfl, Nat.le_of_ble_eq_true rfl⟩, (hT _ w509)⟩ (RO.preS hZ hS ((show va_P D vwCl [] _ from fun _ _ h => nomatch h)) hK) rfl rfl hl.1 rfl (lv_room (Nat.le_of_ble_eq_true rfl)) dR_put_43 ⟨Nat.le_of_ble_eq_true rfl, Nat.le_of_ble_eq_true rfl⟩)) ?_
  refine lv_aload_n hx hb dR_put_46 rfl (lv_at hl 0 rfl) ?_
  refine va_get (D := D) (ci := 0) (v := .ref (ad 1)) (C := R_R) (T := T_R) (N := 13) hx hb hT in_R hown hK (pg_1 (x := 0) hcd hP (by decide) hob) 0 rfl rfl 0 (by decide) (hT _ w324) (fun _ h9 => h9) rfl dR_put_47 ?_
  refine va_get (D := D) (ci := 2) (v := .ref (ad 2)) (C := R_T) (T := T_T) (N := 4) hx hb hT in_T hown hK (pg_1 (x := 1) hcd hP (by decide) htb) 0 rfl rfl 0 (by decide) (hT _ w74) (fun _ h9 => h9) rfl dR_put_50 ?_
  refine lv_iload_n hx hb dR_put_53 rfl (lv_at hl 2 rfl) ?_
  refine al_q (q := ad (10 + c0)) hx hb hK (pg_1 (x := 2) hcd hP (by decide) hca) 0 5 rfl rfl (vp_in_nI (by omega) (by decide)) (by rw [nI_clamp (by omega)]; exact hcb c0 hc6) dR_put_54 ?_
  refine lv_iload_n hx hb dR_put_55 rfl (lv_at hl 1 rfl) ?_
  refine lv_iload_n hx hb dR_put_56 rfl (lv_at hl 3 rfl) ?_
  have hB9 : QI gg [(10 + c0, .inr (1, [.ref (ad (20 + c0)), .ref (ad (30 + c0)), .int (nI (ne c0)), .int (ik c0)])), (20 + c0, .inl (cT 0, 49, .inl fv))] := (qi_c (by omega) hc1 (qi_c (by omega) hc2 qi_0))
  have hN9 := (show NDc [10 + c0, 20 + c0] from (nd_c (na_c (by omega) na_0) (nd_c na_0 nd_0)))
  have hP := bo_P (wc := [(10 + c0, .inr (1, [.ref (ad (20 + c0)), .ref (ad (30 + c0)), .int (nI (ne c0)), .int (ik c0)])), (20 + c0, .inl (cT 0, 49, .inl fv))]) (X := []) hcd hN9 hB9 hP
  have hD := bo_D (wc := [(10 + c0, .inr (1, [.ref (ad (20 + c0)), .ref (ad (30 + c0)), .int (nI (ne c0)), .int (ik c0)])), (20 + c0, .inl (cT 0, 49, .inl fv))]) (X := []) hcd hN9 hB9 hD
  have hP : va_P D vwCl ([(ad (10 + c0), .inr (1, [.ref (ad (20 + c0)), .ref (ad (30 + c0)), .int (nI (ne c0)), .int (ik c0)])), (ad (20 + c0), .inl (cT 0, 49, .inl fv))] ++ pg cds ad (upo gg [10 + c0, 20 + c0])) _ := hP
  have hD : va_D A ([(ad (10 + c0), .inr (1, [.ref (ad (20 + c0)), .ref (ad (30 + c0)), .int (nI (ne c0)), .int (ik c0)])), (ad (20 + c0), .inl (cT 0, 49, .inl fv))] ++ pg cds ad (upo gg [10 + c0, 20 + c0])) := hD
  refine hy_iQ (X := [(ad (10 + c0), .inr (1, [.ref (ad (20 + c0)), .ref (ad (30 + c0)), .int (nI (ne c0)), .int (ik c0)])), (ad (20 + c0), .inl (cT 0, 49, .inl fv))]) (pl := pg cds ad (upo gg [10 + c0, 20 + c0])) (cx := [(ad (10 + c0), .inr (1, [.ref (ad (20 + c0)), .ref (ad (30 + c0)), .int (nI (ne c0)), .int (ik c0)])), (ad (20 + c0), .inl (cT 0, 49, .inl fv))]) (wr := []) hP hD hS hA [0, 1] [] rfl rfl (by decide) (by decide) (va_runV (As := [.int (nI r), .int v]) (rest := []) ⟨hx, hb, hml, hown, hT⟩ (k_exchange l D cT (ad (10 + c0)) (ad (20 + c0)) (ad (30 + c0)) (nI (ne c0)) (ik c0) fv r v (by omega) _) ⟨callB_of 2 hT (tb_gd w636) rfl rfl rfl (hT _ w3) (hT _ w633) hC_exchange ⟨Nat.le_of_ble_eq_true rfl, Nat.le_of_ble_eq_true rfl⟩, (hT _ w634), (hT _ w635)⟩ (RW.preV (ci := 1) (q0 := 0) hZ hS (hy_free (cx := [(ad (10 + c0), .inr (1, [.ref (ad (20 + c0)), .ref (ad (30 + c0)), .int (nI (ne c0)), .int (ik c0)])), (ad (20 + c0), .inl (cT 0, 49, .inl fv))]) hD hS hA [0, 1] rfl) (hP.sub (ws' := [(ad (10 + c0), .inr (1, [.ref (ad (20 + c0)), .ref (ad (30 + c0)), .int (nI (ne c0)), .int (ik c0)])), (ad (20 + c0), .inl (cT 0, 49, .inl fv))]) [0, 1] rfl) hK (hD.sub (ws' := [(ad (10 + c0), .inr (1, [.ref (ad (20 + c0)), .ref (ad (30 + c0)), .int (nI (ne c0)), .int (ik c0)])), (ad (20 + c0), .inl (cT 0, 49, .inl fv))]) [0, 1] (by decide) rfl) rfl rfl) rfl rfl hl.1 rfl (lv_room (Nat.le_of_ble_eq_true rfl)) dR_put_57 ⟨Nat.le_of_ble_eq_true rfl, Nat.le_of_ble_eq_true rfl⟩) (fun ru3 u9 H locs hpu3 hP hD hS => ?_)
  have hpu3 : ru3 = fv r := hpu3
  have hP : va_P D vwCl ([(ad (10 + c0), .inr (1, [.ref (ad (20 + c0)), .ref (ad (30 + c0)), .int (nI (ne c0)), .int (ik c0)])), (ad (20 + c0), .inl (cT 0, 49, .inl (upd fv r v)))] ++ pg cds ad (upo gg [10 + c0, 20 + c0])) _ := hP
  have hD : va_D A ([(ad (10 + c0), .inr (1, [.ref (ad (20 + c0)), .ref (ad (30 + c0)), .int (nI (ne c0)), .int (ik c0)])), (ad (20 + c0), .inl (cT 0, 49, .inl (upd fv r v)))] ++ pg cds ad (upo gg [10 + c0, 20 + c0])) := hD
  have p1 := hpu3
  have hN9 := (show NDc [10 + c0, 20 + c0] from (nd_c (na_c (by omega) na_0) (nd_c na_0 nd_0)))
  have hP := gb_P (w9 := [(10 + c0, .inr (1, [.ref (ad (20 + c0)), .ref (ad (30 + c0)), .int (nI (ne c0)), .int (ik c0)])), (20 + c0, .inl (cT 0, 49, .inl (upd fv r v)))]) (X := []) (g := gg) hcd hN9 (show QB [(10 + c0, .inr (1, [.ref (ad (20 + c0)), .ref (ad (30 + c0)), .int (nI (ne c0)), .int (ik c0)])), (20 + c0, .inl (cT 0, 49, .inl (upd fv r v)))] from (qb_c (by omega) (qb_c (by omega) qb_0))) (hP.part (cx := [(ad (10 + c0), .inr (1, [.ref (ad (20 + c0)), .ref (ad (30 + c0)), .int (nI (ne c0)), .int (ik c0)])), (ad (20 + c0), .inl (cT 0, 49, .inl (upd fv r v)))]) [0, 1] rfl)
  have hD := gb_D (w9 := [(10 + c0, .inr (1, [.ref (ad (20 + c0)), .ref (ad (30 + c0)), .int (nI (ne c0)), .int (ik c0)])), (20 + c0, .inl (cT 0, 49, .inl (upd fv r v)))]) (X := []) (g := gg) hcd hN9 (show QB [(10 + c0, .inr (1, [.ref (ad (20 + c0)), .ref (ad (30 + c0)), .int (nI (ne c0)), .int (ik c0)])), (20 + c0, .inl (cT 0, 49, .inl (upd fv r v)))] from (qb_c (by omega) (qb_c (by omega) qb_0))) (hD.part (cx := [(ad (10 + c0), .inr (1, [.ref (ad (20 + c0)), .ref (ad (30 + c0)), .int (nI (ne c0)), .int (ik c0)])), (ad (20 + c0), .inl (cT 0, 49, .inl (upd fv r v)))]) [0, 1] (by decide) rfl)
  obtain ⟨g1, hg1⟩ : ∃ q9, q9 = ups gg [(10 + c0, .inr (1, [.ref (ad (20 + c0)), .ref (ad (30 + c0)), .int (nI (ne c0)), .int (ik c0)])), (20 + c0, .inl (cT 0, 49, .inl (upd fv r v)))] := ⟨_, rfl⟩
  rw [← hg1] at hP hD
  have hP : va_P D vwCl ([] ++ pg cds ad g1) _ := hP
  have hD : va_D A ([] ++ pg cds ad g1) := hD
  have fg1 : ∀ z8, z8 ≠ 20 + c0 → g1 z8 = gg z8 := fun z8 z2 => by rw [hg1]; exact ups_k (kp_s hc1 (kp_n z2 kp_0))
  have g1_1 : g1 (20 + c0) = some (.inl (cT 0, 49, .inl (upd fv r v))) := by rw [hg1]; exact ups_2 (by omega)
  have hP9 : va_P D vwCl ([] ++ pg cds ad g1) _ := hP.part (cx := []) [] rfl
  have hD9 : va_D A ([] ++ pg cds ad g1) := hD.part (cx := []) [] (by decide) rfl
  refine W.widen (k := 0) (n := 0) (Nat.le_of_ble_eq_true rfl) (Nat.le_of_ble_eq_true rfl) ?_
  exact W.iret (v := ru3) hx hb hr (fun t9 ht9 hW9 => ⟨⟨ru3, g1, rfl, (show ru3 = vv (6 * r + c0) ∧ (∀ z8, (z8 < 10 ∨ 40 ≤ z8) → g1 z8 = gg z8) ∧ COLF cT ad g1 n (upd vv (6 * r + c0) v) vq eg ik ne from ⟨p1.trans (hcv r hrn), fun z8 n1 => fg1 z8 (by omega), colf_put hCf0 (fun x hx => fg1 x hx) hc6 hne hn48 hrn ⟨hc1, hc2, hc3⟩ hcv hcq hcg g1_1⟩), by rw [ht9]; exact hP9, hD9⟩, hS.F ht9⟩) hS.2.2 dR_put_60
set_option maxHeartbeats 4000000 in
set_option maxRecDepth 100000 in
theorem k_put_no (l : Launch) (D : va_G) (cT : Nat → ClassId) (cds : List Nat) (ad : Nat → Nat) (gg : Nat → Option va_E) (tc : Int32) (wd9 : Int32) (rw9 : Int32) (a1 : Int32) (a2 : Int32) (a3 : Int32) (hlt : l.stackTraces = false) (hcd : CD cds) (hob : gg 0 = some (eOB ad tc)) (htb : gg 1 = some (eTB ad wd9 rw9)) (hq : ¬ ((0 ≤ a1 ∧ a1 ≤ rw9 - 1) ∧ (0 ≤ a2 ∧ a2 ≤ wd9 - 1))) : MetT l yR_put WR_put ({ frames := 7, cells := 1, slots := 6, locals := 111 } : Room) (RO D vwCl [.ref (ad 0), .int a1, .int a2, .int a3] ([] ++ pg cds ad gg) (TY cT)) "java/lang/IllegalArgumentException" 1 6 := by
  refine MetT.ofW (cc := cR_put) (maxL := 4) (ret := (some .int)) (by decide) rfl ?_
  intro p e s m args below meth c s₁ B hml hno hv
  obtain ⟨rfl, hZ, hP, hK⟩ := hv
  have hx := B.exec
  have hb := B.bytes
  have hr := B.returns
  have hts := atoms_spec (ws := WR_put) B.pre
  have hT : ∀ w ∈ TB, w.before _ s = true := fun w h => hts w (List.mem_cons_of_mem _ h)
  have hown : s.vm.findClass R_R = some m.cls := findClass_of_methodNamed B.named
  have hlocks := B.notSynchronized
  have hS : va_S (fun _ => False) s.heap s.heap [] := va_S.rf
  have hl := lv_entry ([.ref (ad 0), .int a1, .int a2, .int a3]) (n := 4) (Nat.le_of_ble_eq_true rfl)
  rw [lg_entry_eq]
  generalize (lg_sl ([.ref (ad 0), .int a1, .int a2, .int a3]) ++ List.replicate (4 - (lg_sl ([.ref (ad 0), .int a1, .int a2, .int a3])).length) Slot.unset).toArray = ls at hl ⊢
  have hl : lv_has ls 4 [(0, .ref (ad 0)), (1, .int a1), (2, .int a2), (3, .int a3)] := hl
  refine lv_aload_n hx hb dR_put_0 rfl (lv_at hl 0 rfl) ?_
  refine va_get (D := D) (ci := 0) (v := .ref (ad 1)) (C := R_R) (T := T_R) (N := 13) hx hb hT in_R hown hK (pg_1 (x := 0) hcd hP (by decide) hob) 0 rfl rfl 0 (by decide) (hT _ w324) (fun _ h9 => h9) rfl dR_put_1 ?_
  refine lv_iload_n hx hb dR_put_4 rfl (lv_at hl 1 rfl) ?_
  refine ro_i (va_Run.run (va_runV (As := [.int a1]) (rest := []) ⟨hx, hb, hml, hown, hT⟩ (k_hasRow l D cT (ad 1) (ad 2) (ad 3) wd9 rw9 a1) ⟨callB_of 1 hT (tb_gd w616) rfl rfl rfl (hT _ w2) (hT _ w613) hT_hasRow ⟨Nat.le_of_ble_eq_true rfl, Nat.le_of_ble_eq_true rfl⟩, (hT _ w614), (hT _ w615)⟩ (RO.preV (ci := 2) (q0 := 0) hZ hS ((show va_P D vwCl [(ad 1, .inr (2, [.ref (ad 2), .ref (ad 3), .int wd9, .int rw9]))] _ from (pv_c (pg_1 (x := 1) hcd hP (by decide) htb) pv_0))) hK rfl rfl) rfl rfl hl.1 rfl (lv_room (Nat.le_of_ble_eq_true rfl)) dR_put_5 ⟨Nat.le_of_ble_eq_true rfl, Nat.le_of_ble_eq_true rfl⟩)) ?_
  refine lv_if_eq (tgt := 26) hx hb dR_put_8 rfl (fun h1 => ?_) (fun h1 => ?_)
  · refine lv_iconst (v := 0) hx hb dR_put_26 (by decide) ?_
    exact tx_out (tx_goS (As := [.int 0]) (rest := []) ⟨hx, hb, hml, hown, hT⟩ (k_demand_no l D cT 0 hlt rfl) ⟨callB_of 1 hT (tb_gd w510) rfl rfl rfl (hT _ w1) (hT _ w508) hR_demand ⟨Nat.le_of_ble_eq_true rfl, Nat.le_of_ble_eq_true rfl⟩, (hT _ w509)⟩ (RO.preS hZ hS ((show va_P D vwCl [] _ from fun _ _ h => nomatch h)) hK) rfl hl.1 rfl (Nat.le_of_ble_eq_true rfl) dR_put_27 ⟨Nat.le_of_ble_eq_true rfl, Nat.le_of_ble_eq_true rfl⟩) hno hlocks
  · refine lv_aload_n hx hb dR_put_11 rfl (lv_at hl 0 rfl) ?_
    refine va_get (D := D) (ci := 0) (v := .ref (ad 1)) (C := R_R) (T := T_R) (N := 13) hx hb hT in_R hown hK (pg_1 (x := 0) hcd hP (by decide) hob) 0 rfl rfl 0 (by decide) (hT _ w324) (fun _ h9 => h9) rfl dR_put_12 ?_
    refine lv_iload_n hx hb dR_put_15 rfl (lv_at hl 2 rfl) ?_
    refine ro_i (va_Run.run (va_runV (As := [.int a2]) (rest := []) ⟨hx, hb, hml, hown, hT⟩ (k_hasColumn l D cT (ad 1) (ad 2) (ad 3) wd9 rw9 a2) ⟨callB_of 1 hT (tb_gd w621) rfl rfl rfl (hT _ w2) (hT _ w618) hT_hasColumn ⟨Nat.le_of_ble_eq_true rfl, Nat.le_of_ble_eq_true rfl⟩, (hT _ w619), (hT _ w620)⟩ (RO.preV (ci := 2) (q0 := 0) hZ hS ((show va_P D vwCl [(ad 1, .inr (2, [.ref (ad 2), .ref (ad 3), .int wd9, .int rw9]))] _ from (pv_c (pg_1 (x := 1) hcd hP (by decide) htb) pv_0))) hK rfl rfl) rfl rfl hl.1 rfl (lv_room (Nat.le_of_ble_eq_true rfl)) dR_put_16 ⟨Nat.le_of_ble_eq_true rfl, Nat.le_of_ble_eq_true rfl⟩)) ?_
    refine lv_if_eq (tgt := 26) hx hb dR_put_19 rfl (fun h2 => ?_) (fun h2 => ?_)
    · refine lv_iconst (v := 0) hx hb dR_put_26 (by decide) ?_
      exact tx_out (tx_goS (As := [.int 0]) (rest := []) ⟨hx, hb, hml, hown, hT⟩ (k_demand_no l D cT 0 hlt rfl) ⟨callB_of 1 hT (tb_gd w510) rfl rfl rfl (hT _ w1) (hT _ w508) hR_demand ⟨Nat.le_of_ble_eq_true rfl, Nat.le_of_ble_eq_true rfl⟩, (hT _ w509)⟩ (RO.preS hZ hS ((show va_P D vwCl [] _ from fun _ _ h => nomatch h)) hK) rfl hl.1 rfl (Nat.le_of_ble_eq_true rfl) dR_put_27 ⟨Nat.le_of_ble_eq_true rfl, Nat.le_of_ble_eq_true rfl⟩) hno hlocks
    · refine lv_iconst (v := 1) hx hb dR_put_22 (by decide) ?_
      refine lv_goto (tgt := 27) hx hb dR_put_23 rfl ?_
      exact absurd ⟨(bi_1 h1), (bi_1 h2)⟩ hq
set_option maxHeartbeats 4000000 in
set_option maxRecDepth 100000 in
theorem k_put_nov (l : Launch) (D : va_G) (cT : Nat → ClassId) (cds : List Nat) (ad : Nat → Nat) (gg : Nat → Option va_E) (tc : Int32) (wd9 : Int32) (rw9 : Int32) (n : Nat) (vv : Nat → Int32) (vq : Nat → Int32) (eg : Nat → Int32) (ik : Nat → Int32) (ne : Nat → Nat) (a1 : Int32) (c0 : Nat) (v : Int32) (hlt : l.stackTraces = false) (hcd : CD cds) (hob : gg 0 = some (eOB ad tc)) (htb : gg 1 = some (eTB ad wd9 rw9)) (hCa : CAp cT ad gg) (hCf : COLF cT ad gg n vv vq eg ik ne) (hr0 : 0 ≤ a1 ∧ a1 ≤ rw9 - 1) (hc0 : 0 ≤ nI c0 ∧ nI c0 ≤ wd9 - 1) (hc6 : c0 < 6) (hv9 : takB (ik c0) v = false) : MetT l yR_put WR_put ({ frames := 7, cells := 1, slots := 6, locals := 111 } : Room) (RO D vwCl [.ref (ad 0), .int a1, .int (nI c0), .int v] ([] ++ pg cds ad gg) (TY cT)) "java/lang/IllegalArgumentException" 1 6 := by
  refine MetT.ofW (cc := cR_put) (maxL := 4) (ret := (some .int)) (by decide) rfl ?_
  intro p e s m args below meth c s₁ B hml hno hv
  obtain ⟨rfl, hZ, hP, hK⟩ := hv
  have hx := B.exec
  have hb := B.bytes
  have hr := B.returns
  have hts := atoms_spec (ws := WR_put) B.pre
  have hT : ∀ w ∈ TB, w.before _ s = true := fun w h => hts w (List.mem_cons_of_mem _ h)
  have hown : s.vm.findClass R_R = some m.cls := findClass_of_methodNamed B.named
  have hlocks := B.notSynchronized
  have hS : va_S (fun _ => False) s.heap s.heap [] := va_S.rf
  have hl := lv_entry ([.ref (ad 0), .int a1, .int (nI c0), .int v]) (n := 4) (Nat.le_of_ble_eq_true rfl)
  rw [lg_entry_eq]
  generalize (lg_sl ([.ref (ad 0), .int a1, .int (nI c0), .int v]) ++ List.replicate (4 - (lg_sl ([.ref (ad 0), .int a1, .int (nI c0), .int v])).length) Slot.unset).toArray = ls at hl ⊢
  have hl : lv_has ls 4 [(0, .ref (ad 0)), (1, .int a1), (2, .int (nI c0)), (3, .int v)] := hl
  obtain ⟨qf, hca, hcb⟩ := hCa
  obtain ⟨fv, fe, hce, hcv, hcq, hcg⟩ := hCf c0 hc6
  obtain ⟨hc1, hc2, hc3⟩ := hce
  refine lv_aload_n hx hb dR_put_0 rfl (lv_at hl 0 rfl) ?_
  refine va_get (D := D) (ci := 0) (v := .ref (ad 1)) (C := R_R) (T := T_R) (N := 13) hx hb hT in_R hown hK (pg_1 (x := 0) hcd hP (by decide) hob) 0 rfl rfl 0 (by decide) (hT _ w324) (fun _ h9 => h9) rfl dR_put_1 ?_
  refine lv_iload_n hx hb dR_put_4 rfl (lv_at hl 1 rfl) ?_
  refine ro_i (va_Run.run (va_runV (As := [.int a1]) (rest := []) ⟨hx, hb, hml, hown, hT⟩ (k_hasRow l D cT (ad 1) (ad 2) (ad 3) wd9 rw9 a1) ⟨callB_of 1 hT (tb_gd w616) rfl rfl rfl (hT _ w2) (hT _ w613) hT_hasRow ⟨Nat.le_of_ble_eq_true rfl, Nat.le_of_ble_eq_true rfl⟩, (hT _ w614), (hT _ w615)⟩ (RO.preV (ci := 2) (q0 := 0) hZ hS ((show va_P D vwCl [(ad 1, .inr (2, [.ref (ad 2), .ref (ad 3), .int wd9, .int rw9]))] _ from (pv_c (pg_1 (x := 1) hcd hP (by decide) htb) pv_0))) hK rfl rfl) rfl rfl hl.1 rfl (lv_room (Nat.le_of_ble_eq_true rfl)) dR_put_5 ⟨Nat.le_of_ble_eq_true rfl, Nat.le_of_ble_eq_true rfl⟩)) ?_
  refine lv_if_eq (tgt := 26) hx hb dR_put_8 rfl (fun h1 => absurd h1 (by rw [bi_t hr0]; decide)) (fun _ => ?_)
  refine lv_aload_n hx hb dR_put_11 rfl (lv_at hl 0 rfl) ?_
  refine va_get (D := D) (ci := 0) (v := .ref (ad 1)) (C := R_R) (T := T_R) (N := 13) hx hb hT in_R hown hK (pg_1 (x := 0) hcd hP (by decide) hob) 0 rfl rfl 0 (by decide) (hT _ w324) (fun _ h9 => h9) rfl dR_put_12 ?_
  refine lv_iload_n hx hb dR_put_15 rfl (lv_at hl 2 rfl) ?_
  refine ro_i (va_Run.run (va_runV (As := [.int (nI c0)]) (rest := []) ⟨hx, hb, hml, hown, hT⟩ (k_hasColumn l D cT (ad 1) (ad 2) (ad 3) wd9 rw9 (nI c0)) ⟨callB_of 1 hT (tb_gd w621) rfl rfl rfl (hT _ w2) (hT _ w618) hT_hasColumn ⟨Nat.le_of_ble_eq_true rfl, Nat.le_of_ble_eq_true rfl⟩, (hT _ w619), (hT _ w620)⟩ (RO.preV (ci := 2) (q0 := 0) hZ hS ((show va_P D vwCl [(ad 1, .inr (2, [.ref (ad 2), .ref (ad 3), .int wd9, .int rw9]))] _ from (pv_c (pg_1 (x := 1) hcd hP (by decide) htb) pv_0))) hK rfl rfl) rfl rfl hl.1 rfl (lv_room (Nat.le_of_ble_eq_true rfl)) dR_put_16 ⟨Nat.le_of_ble_eq_true rfl, Nat.le_of_ble_eq_true rfl⟩)) ?_
  refine lv_if_eq (tgt := 26) hx hb dR_put_19 rfl (fun h2 => absurd h2 (by rw [bi_t hc0]; decide)) (fun _ => ?_)
  refine lv_iconst (v := 1) hx hb dR_put_22 (by decide) ?_
  refine lv_goto (tgt := 27) hx hb dR_put_23 rfl ?_
  refine ro_v (va_Run.run (va_runS (As := [.int 1]) (rest := []) ⟨hx, hb, hml, hown, hT⟩ (k_demand_ok l D cT 1 (by decide)) ⟨callB_of 1 hT (tb_gd w510) rfl rfl rfl (hT _ w1) (hT _ w508) hR_demand ⟨Nat.le_of_ble_eq_true rfl, Nat.le_of_ble_eq_true rfl⟩, (hT _ w509)⟩ (RO.preS hZ hS ((show va_P D vwCl [] _ from fun _ _ h => nomatch h)) hK) rfl rfl hl.1 rfl (lv_room (Nat.le_of_ble_eq_true rfl)) dR_put_27 ⟨Nat.le_of_ble_eq_true rfl, Nat.le_of_ble_eq_true rfl⟩)) ?_
  refine lv_aload_n hx hb dR_put_30 rfl (lv_at hl 0 rfl) ?_
  refine va_get (D := D) (ci := 0) (v := .ref (ad 1)) (C := R_R) (T := T_R) (N := 13) hx hb hT in_R hown hK (pg_1 (x := 0) hcd hP (by decide) hob) 0 rfl rfl 0 (by decide) (hT _ w324) (fun _ h9 => h9) rfl dR_put_31 ?_
  refine va_get (D := D) (ci := 2) (v := .ref (ad 2)) (C := R_T) (T := T_T) (N := 4) hx hb hT in_T hown hK (pg_1 (x := 1) hcd hP (by decide) htb) 0 rfl rfl 0 (by decide) (hT _ w74) (fun _ h9 => h9) rfl dR_put_34 ?_
  refine lv_iload_n hx hb dR_put_37 rfl (lv_at hl 2 rfl) ?_
  refine al_q (q := ad (10 + c0)) hx hb hK (pg_1 (x := 2) hcd hP (by decide) hca) 0 5 rfl rfl (vp_in_nI (by omega) (by decide)) (by rw [nI_clamp (by omega)]; exact hcb c0 hc6) dR_put_38 ?_
  refine lv_iload_n hx hb dR_put_39 rfl (lv_at hl 3 rfl) ?_
  refine ro_i (va_Run.run (va_runV (As := [.int v]) (rest := []) ⟨hx, hb, hml, hown, hT⟩ (k_takes l D cT (ad (10 + c0)) (ad (20 + c0)) (ad (30 + c0)) (nI (ne c0)) (ik c0) v) ⟨callB_of 1 hT (tb_gd w625) rfl rfl rfl (hT _ w3) (hT _ w622) hC_takes ⟨Nat.le_of_ble_eq_true rfl, Nat.le_of_ble_eq_true rfl⟩, (hT _ w623), (hT _ w624)⟩ (RO.preV (ci := 1) (q0 := 0) hZ hS ((show va_P D vwCl [(ad (10 + c0), .inr (1, [.ref (ad (20 + c0)), .ref (ad (30 + c0)), .int (nI (ne c0)), .int (ik c0)]))] _ from (pv_c (pg_1 (x := 10 + c0) hcd hP (by omega) hc1) pv_0))) hK rfl rfl) rfl rfl hl.1 rfl (lv_room (Nat.le_of_ble_eq_true rfl)) dR_put_40 ⟨Nat.le_of_ble_eq_true rfl, Nat.le_of_ble_eq_true rfl⟩)) ?_
  exact tx_out (tx_goS (As := [.int (bn (takB (ik c0) v))]) (rest := []) ⟨hx, hb, hml, hown, hT⟩ (k_demand_no l D cT (bn (takB (ik c0) v)) hlt (by rw [hv9]; rfl)) ⟨callB_of 1 hT (tb_gd w510) rfl rfl rfl (hT _ w1) (hT _ w508) hR_demand ⟨Nat.le_of_ble_eq_true rfl, Nat.le_of_ble_eq_true rfl⟩, (hT _ w509)⟩ (RO.preS hZ hS ((show va_P D vwCl [] _ from fun _ _ h => nomatch h)) hK) rfl hl.1 rfl (Nat.le_of_ble_eq_true rfl) dR_put_43 ⟨Nat.le_of_ble_eq_true rfl, Nat.le_of_ble_eq_true rfl⟩) hno hlocks
set_option maxHeartbeats 4000000 in
set_option maxRecDepth 100000 in
theorem k_ask (l : Launch) (D : va_G) (cT : Nat → ClassId) (cds : List Nat) (ad : Nat → Nat) (gg : Nat → Option va_E) (tc : Int32) (wd9 : Int32) (rw9 : Int32) (n : Nat) (vv : Nat → Int32) (vq : Nat → Int32) (eg : Nat → Int32) (ik : Nat → Int32) (ne : Nat → Nat) (c0 : Nat) (v : Int32) (hcd : CD cds) (hob : gg 0 = some (eOB ad tc)) (htb : gg 1 = some (eTB ad wd9 rw9)) (hCa : CAp cT ad gg) (hCf : COLF cT ad gg n vv vq eg ik ne) (hne : ∀ c, c < 6 → ne c ≤ 11) (hn48 : n ≤ 48) (hc0 : 0 ≤ nI c0 ∧ nI c0 ≤ wd9 - 1) (hc6 : c0 < 6) (hv9 : v = (-2147483648) ∨ ((-1000000) ≤ v ∧ v ≤ 1000000)) (sz : Nat) : Met l yR_ask WR_ask ({ frames := 2, cells := 0, slots := 0, locals := 43 } : Room) (RW D vwCl [.ref (ad 0), .int (nI c0), .int v] ([] ++ pg cds ad gg) (TY cT) sz) (va_Qi (fun (r9 : Int32) (u9 : (Nat → Option va_E)) => r9 = vq c0 ∧ (∀ z8, (z8 < 10 ∨ 40 ≤ z8) → u9 z8 = gg z8) ∧ COLF cT ad u9 n vv (upd vq c0 v) eg ik ne) (BW D vwCl (va_A ([] ++ pg cds ad gg) sz) (fun u9 : (Nat → Option va_E) => ([] ++ pg cds ad u9))) (va_A ([] ++ pg cds ad gg) sz)) 0 0 (va_A ([] ++ pg cds ad gg) sz) := by
  refine Met.ofW (cc := cR_ask) (maxL := 3) (ret := (some .int)) (by decide) rfl ?_
  intro p e s m args below meth c s₁ B hml hv
  obtain ⟨rfl, hsz, hZ, hP, hK, hD0⟩ := hv
  have hx := B.exec
  have hb := B.bytes
  have hr := B.returns
  have hts := atoms_spec (ws := WR_ask) B.pre
  have hT : ∀ w ∈ TB, w.before _ s = true := fun w h => hts w (List.mem_cons_of_mem _ h)
  have hown : s.vm.findClass R_R = some m.cls := findClass_of_methodNamed B.named
  have hlocks := B.notSynchronized
  subst hsz
  have hD := hD0.self (sz := s.heap.size)
  generalize hAe : va_A ([] ++ pg cds ad gg) s.heap.size = A at hD hZ ⊢
  have hA : ∀ q : Nat, s.heap.size ≤ q → A q := fun q h => by rw [← hAe]; exact Or.inr h
  have hS : va_S A s.heap s.heap [] := va_S.rf
  have hl := lv_entry ([.ref (ad 0), .int (nI c0), .int v]) (n := 3) (Nat.le_of_ble_eq_true rfl)
  rw [lg_entry_eq]
  generalize (lg_sl ([.ref (ad 0), .int (nI c0), .int v]) ++ List.replicate (3 - (lg_sl ([.ref (ad 0), .int (nI c0), .int v])).length) Slot.unset).toArray = ls at hl ⊢
  have hl : lv_has ls 3 [(0, .ref (ad 0)), (1, .int (nI c0)), (2, .int v)] := hl
  have hCf0 := hCf
  obtain ⟨qf, hca, hcb⟩ := hCa
  obtain ⟨fv, fe, hce, hcv, hcq, hcg⟩ := hCf c0 hc6
  obtain ⟨hc1, hc2, hc3⟩ := hce
  refine lv_aload_n hx hb dR_ask_0 rfl (lv_at hl 0 rfl) ?_
  refine va_get (D := D) (ci := 0) (v := .ref (ad 1)) (C := R_R) (T := T_R) (N := 13) hx hb hT in_R hown hK (pg_1 (x := 0) hcd hP (by decide) hob) 0 rfl rfl 0 (by decide) (hT _ w324) (fun _ h9 => h9) rfl dR_ask_1 ?_
  refine lv_iload_n hx hb dR_ask_4 rfl (lv_at hl 1 rfl) ?_
  refine ro_i (va_Run.run (va_runV (As := [.int (nI c0)]) (rest := []) ⟨hx, hb, hml, hown, hT⟩ (k_hasColumn l D cT (ad 1) (ad 2) (ad 3) wd9 rw9 (nI c0)) ⟨callB_of 1 hT (tb_gd w621) rfl rfl rfl (hT _ w2) (hT _ w618) hT_hasColumn ⟨Nat.le_of_ble_eq_true rfl, Nat.le_of_ble_eq_true rfl⟩, (hT _ w619), (hT _ w620)⟩ (RO.preV (ci := 2) (q0 := 0) hZ hS ((show va_P D vwCl [(ad 1, .inr (2, [.ref (ad 2), .ref (ad 3), .int wd9, .int rw9]))] _ from (pv_c (pg_1 (x := 1) hcd hP (by decide) htb) pv_0))) hK rfl rfl) rfl rfl hl.1 rfl (lv_room (Nat.le_of_ble_eq_true rfl)) dR_ask_5 ⟨Nat.le_of_ble_eq_true rfl, Nat.le_of_ble_eq_true rfl⟩)) ?_
  refine lv_if_eq (tgt := 28) hx hb dR_ask_8 rfl (fun h1 => absurd h1 (by rw [bi_t hc0]; decide)) (fun _ => ?_)
  refine lv_iload_n hx hb dR_ask_11 rfl (lv_at hl 2 rfl) ?_
  refine lv_ldc (v := (-2147483648)) hx hb hown (hT _ w685) dR_ask_12 ?_
  refine lv_icmp_eq (tgt := 24) hx hb dR_ask_14 rfl (fun h2 => ?_) (fun h2 => ?_)
  · refine lv_iconst (v := 1) hx hb dR_ask_24 (by decide) ?_
    refine lv_goto (tgt := 29) hx hb dR_ask_25 rfl ?_
    refine ro_v (va_Run.run (va_runS (As := [.int 1]) (rest := []) ⟨hx, hb, hml, hown, hT⟩ (k_demand_ok l D cT 1 (by decide)) ⟨callB_of 1 hT (tb_gd w510) rfl rfl rfl (hT _ w1) (hT _ w508) hR_demand ⟨Nat.le_of_ble_eq_true rfl, Nat.le_of_ble_eq_true rfl⟩, (hT _ w509)⟩ (RO.preS hZ hS ((show va_P D vwCl [] _ from fun _ _ h => nomatch h)) hK) rfl rfl hl.1 rfl (lv_room (Nat.le_of_ble_eq_true rfl)) dR_ask_29 ⟨Nat.le_of_ble_eq_true rfl, Nat.le_of_ble_eq_true rfl⟩)) ?_
    refine lv_aload_n hx hb dR_ask_32 rfl (lv_at hl 0 rfl) ?_
    refine va_get (D := D) (ci := 0) (v := .ref (ad 1)) (C := R_R) (T := T_R) (N := 13) hx hb hT in_R hown hK (pg_1 (x := 0) hcd hP (by decide) hob) 0 rfl rfl 0 (by decide) (hT _ w324) (fun _ h9 => h9) rfl dR_ask_33 ?_
    refine va_get (D := D) (ci := 2) (v := .ref (ad 2)) (C := R_T) (T := T_T) (N := 4) hx hb hT in_T hown hK (pg_1 (x := 1) hcd hP (by decide) htb) 0 rfl rfl 0 (by decide) (hT _ w74) (fun _ h9 => h9) rfl dR_ask_36 ?_
    refine lv_iload_n hx hb dR_ask_39 rfl (lv_at hl 1 rfl) ?_
    refine al_q (q := ad (10 + c0)) hx hb hK (pg_1 (x := 2) hcd hP (by decide) hca) 0 5 rfl rfl (vp_in_nI (by omega) (by decide)) (by rw [nI_clamp (by omega)]; exact hcb c0 hc6) dR_ask_40 ?_
    refine lv_bipush (v := 48) hx hb dR_ask_41 (by decide) ?_
    refine lv_topi (fun y9 e9 => ?_)
    cases (show y9 = nI 48 from e9.trans (by decide))
    refine lv_iload_n hx hb dR_ask_43 rfl (lv_at hl 2 rfl) ?_
    have hB9 : QI gg [(10 + c0, .inr (1, [.ref (ad (20 + c0)), .ref (ad (30 + c0)), .int (nI (ne c0)), .int (ik c0)])), (20 + c0, .inl (cT 0, 49, .inl fv))] := (qi_c (by omega) hc1 (qi_c (by omega) hc2 qi_0))
    have hN9 := (show NDc [10 + c0, 20 + c0] from (nd_c (na_c (by omega) na_0) (nd_c na_0 nd_0)))
    have hP := bo_P (wc := [(10 + c0, .inr (1, [.ref (ad (20 + c0)), .ref (ad (30 + c0)), .int (nI (ne c0)), .int (ik c0)])), (20 + c0, .inl (cT 0, 49, .inl fv))]) (X := []) hcd hN9 hB9 hP
    have hD := bo_D (wc := [(10 + c0, .inr (1, [.ref (ad (20 + c0)), .ref (ad (30 + c0)), .int (nI (ne c0)), .int (ik c0)])), (20 + c0, .inl (cT 0, 49, .inl fv))]) (X := []) hcd hN9 hB9 hD
    have hP : va_P D vwCl ([(ad (10 + c0), .inr (1, [.ref (ad (20 + c0)), .ref (ad (30 + c0)), .int (nI (ne c0)), .int (ik c0)])), (ad (20 + c0), .inl (cT 0, 49, .inl fv))] ++ pg cds ad (upo gg [10 + c0, 20 + c0])) _ := hP
    have hD : va_D A ([(ad (10 + c0), .inr (1, [.ref (ad (20 + c0)), .ref (ad (30 + c0)), .int (nI (ne c0)), .int (ik c0)])), (ad (20 + c0), .inl (cT 0, 49, .inl fv))] ++ pg cds ad (upo gg [10 + c0, 20 + c0])) := hD
    refine hy_iQ (X := [(ad (10 + c0), .inr (1, [.ref (ad (20 + c0)), .ref (ad (30 + c0)), .int (nI (ne c0)), .int (ik c0)])), (ad (20 + c0), .inl (cT 0, 49, .inl fv))]) (pl := pg cds ad (upo gg [10 + c0, 20 + c0])) (cx := [(ad (10 + c0), .inr (1, [.ref (ad (20 + c0)), .ref (ad (30 + c0)), .int (nI (ne c0)), .int (ik c0)])), (ad (20 + c0), .inl (cT 0, 49, .inl fv))]) (wr := []) hP hD hS hA [0, 1] [] rfl rfl (by decide) (by decide) (va_runV (As := [.int (nI 48), .int v]) (rest := []) ⟨hx, hb, hml, hown, hT⟩ (k_exchange l D cT (ad (10 + c0)) (ad (20 + c0)) (ad (30 + c0)) (nI (ne c0)) (ik c0) fv 48 v (by decide) _) ⟨callB_of 2 hT (tb_gd w636) rfl rfl rfl (hT _ w3) (hT _ w633) hC_exchange ⟨Nat.le_of_ble_eq_true rfl, Nat.le_of_ble_eq_true rfl⟩, (hT _ w634), (hT _ w635)⟩ (RW.preV (ci := 1) (q0 := 0) hZ hS (hy_free (cx := [(ad (10 + c0), .inr (1, [.ref (ad (20 + c0)), .ref (ad (30 + c0)), .int (nI (ne c0)), .int (ik c0)])), (ad (20 + c0), .inl (cT 0, 49, .inl fv))]) hD hS hA [0, 1] rfl) (hP.sub (ws' := [(ad (10 + c0), .inr (1, [.ref (ad (20 + c0)), .ref (ad (30 + c0)), .int (nI (ne c0)), .int (ik c0)])), (ad (20 + c0), .inl (cT 0, 49, .inl fv))]) [0, 1] rfl) hK (hD.sub (ws' := [(ad (10 + c0), .inr (1, [.ref (ad (20 + c0)), .ref (ad (30 + c0)), .int (nI (ne c0)), .int (ik c0)])), (ad (20 + c0), .inl (cT 0, 49, .inl fv))]) [0, 1] (by decide) rfl) rfl rfl) rfl rfl hl.1 rfl (lv_room (Nat.le_of_ble_eq_true rfl)) dR_ask_44 ⟨Nat.le_of_ble_eq_true rfl, Nat.le_of_ble_eq_true rfl⟩) (fun ru3 u9 H locs hpu3 hP hD hS => ?_)
    have hpu3 : ru3 = fv 48 := hpu3
    have hP : va_P D vwCl ([(ad (10 + c0), .inr (1, [.ref (ad (20 + c0)), .ref (ad (30 + c0)), .int (nI (ne c0)), .int (ik c0)])), (ad (20 + c0), .inl (cT 0, 49, .inl (upd fv 48 v)))] ++ pg cds ad (upo gg [10 + c0, 20 + c0])) _ := hP
    have hD : va_D A ([(ad (10 + c0), .inr (1, [.ref (ad (20 + c0)), .ref (ad (30 + c0)), .int (nI (ne c0)), .int (ik c0)])), (ad (20 + c0), .inl (cT 0, 49, .inl (upd fv 48 v)))] ++ pg cds ad (upo gg [10 + c0, 20 + c0])) := hD
    have p1 := hpu3
    have hN9 := (show NDc [10 + c0, 20 + c0] from (nd_c (na_c (by omega) na_0) (nd_c na_0 nd_0)))
    have hP := gb_P (w9 := [(10 + c0, .inr (1, [.ref (ad (20 + c0)), .ref (ad (30 + c0)), .int (nI (ne c0)), .int (ik c0)])), (20 + c0, .inl (cT 0, 49, .inl (upd fv 48 v)))]) (X := []) (g := gg) hcd hN9 (show QB [(10 + c0, .inr (1, [.ref (ad (20 + c0)), .ref (ad (30 + c0)), .int (nI (ne c0)), .int (ik c0)])), (20 + c0, .inl (cT 0, 49, .inl (upd fv 48 v)))] from (qb_c (by omega) (qb_c (by omega) qb_0))) (hP.part (cx := [(ad (10 + c0), .inr (1, [.ref (ad (20 + c0)), .ref (ad (30 + c0)), .int (nI (ne c0)), .int (ik c0)])), (ad (20 + c0), .inl (cT 0, 49, .inl (upd fv 48 v)))]) [0, 1] rfl)
    have hD := gb_D (w9 := [(10 + c0, .inr (1, [.ref (ad (20 + c0)), .ref (ad (30 + c0)), .int (nI (ne c0)), .int (ik c0)])), (20 + c0, .inl (cT 0, 49, .inl (upd fv 48 v)))]) (X := []) (g := gg) hcd hN9 (show QB [(10 + c0, .inr (1, [.ref (ad (20 + c0)), .ref (ad (30 + c0)), .int (nI (ne c0)), .int (ik c0)])), (20 + c0, .inl (cT 0, 49, .inl (upd fv 48 v)))] from (qb_c (by omega) (qb_c (by omega) qb_0))) (hD.part (cx := [(ad (10 + c0), .inr (1, [.ref (ad (20 + c0)), .ref (ad (30 + c0)), .int (nI (ne c0)), .int (ik c0)])), (ad (20 + c0), .inl (cT 0, 49, .inl (upd fv 48 v)))]) [0, 1] (by decide) rfl)
    obtain ⟨g1, hg1⟩ : ∃ q9, q9 = ups gg [(10 + c0, .inr (1, [.ref (ad (20 + c0)), .ref (ad (30 + c0)), .int (nI (ne c0)), .int (ik c0)])), (20 + c0, .inl (cT 0, 49, .inl (upd fv 48 v)))] := ⟨_, rfl⟩
    rw [← hg1] at hP hD
    have hP : va_P D vwCl ([] ++ pg cds ad g1) _ := hP
    have hD : va_D A ([] ++ pg cds ad g1) := hD
    have fg1 : ∀ z8, z8 ≠ 20 + c0 → g1 z8 = gg z8 := fun z8 z2 => by rw [hg1]; exact ups_k (kp_s hc1 (kp_n z2 kp_0))
    have g1_1 : g1 (20 + c0) = some (.inl (cT 0, 49, .inl (upd fv 48 v))) := by rw [hg1]; exact ups_2 (by omega)
    have hP9 : va_P D vwCl ([] ++ pg cds ad g1) _ := hP.part (cx := []) [] rfl
    have hD9 : va_D A ([] ++ pg cds ad g1) := hD.part (cx := []) [] (by decide) rfl
    refine W.widen (k := 0) (n := 0) (Nat.le_of_ble_eq_true rfl) (Nat.le_of_ble_eq_true rfl) ?_
    exact W.iret (v := ru3) hx hb hr (fun t9 ht9 hW9 => ⟨⟨ru3, g1, rfl, (show ru3 = vq c0 ∧ (∀ z8, (z8 < 10 ∨ 40 ≤ z8) → g1 z8 = gg z8) ∧ COLF cT ad g1 n vv (upd vq c0 v) eg ik ne from ⟨p1.trans hcq, fun z8 n1 => fg1 z8 (by omega), colf_ask hCf0 (fun x hx => fg1 x hx) hc6 hne hn48 ⟨hc1, hc2, hc3⟩ hcv hcg g1_1⟩), by rw [ht9]; exact hP9, hD9⟩, hS.F ht9⟩) hS.2.2 dR_ask_47
  · refine lv_iload_n hx hb dR_ask_17 rfl (lv_at hl 2 rfl) ?_
    refine ro_i (va_Run.run (va_runS (As := [.int v]) (rest := []) ⟨hx, hb, hml, hown, hT⟩ (k_isNumber l D cT v) ⟨callB_of 1 hT (tb_gd w630) rfl rfl rfl (hT _ w1) (hT _ w1072) hR_isNumber ⟨Nat.le_of_ble_eq_true rfl, Nat.le_of_ble_eq_true rfl⟩, (hT _ w629)⟩ (RO.preS hZ hS ((show va_P D vwCl [] _ from fun _ _ h => nomatch h)) hK) rfl rfl hl.1 rfl (lv_room (Nat.le_of_ble_eq_true rfl)) dR_ask_18 ⟨Nat.le_of_ble_eq_true rfl, Nat.le_of_ble_eq_true rfl⟩)) ?_
    refine lv_if_eq (tgt := 28) hx hb dR_ask_21 rfl (fun h4 => ?_) (fun h4 => ?_)
    · refine lv_iconst (v := 0) hx hb dR_ask_28 (by decide) ?_
      exact absurd hv9 (by rintro (q | q); (exact h2 q); (exact (bi_0 h4) q))
    · refine lv_iconst (v := 1) hx hb dR_ask_24 (by decide) ?_
      refine lv_goto (tgt := 29) hx hb dR_ask_25 rfl ?_
      refine ro_v (va_Run.run (va_runS (As := [.int 1]) (rest := []) ⟨hx, hb, hml, hown, hT⟩ (k_demand_ok l D cT 1 (by decide)) ⟨callB_of 1 hT (tb_gd w510) rfl rfl rfl (hT _ w1) (hT _ w508) hR_demand ⟨Nat.le_of_ble_eq_true rfl, Nat.le_of_ble_eq_true rfl⟩, (hT _ w509)⟩ (RO.preS hZ hS ((show va_P D vwCl [] _ from fun _ _ h => nomatch h)) hK) rfl rfl hl.1 rfl (lv_room (Nat.le_of_ble_eq_true rfl)) dR_ask_29 ⟨Nat.le_of_ble_eq_true rfl, Nat.le_of_ble_eq_true rfl⟩)) ?_
      refine lv_aload_n hx hb dR_ask_32 rfl (lv_at hl 0 rfl) ?_
      refine va_get (D := D) (ci := 0) (v := .ref (ad 1)) (C := R_R) (T := T_R) (N := 13) hx hb hT in_R hown hK (pg_1 (x := 0) hcd hP (by decide) hob) 0 rfl rfl 0 (by decide) (hT _ w324) (fun _ h9 => h9) rfl dR_ask_33 ?_
      refine va_get (D := D) (ci := 2) (v := .ref (ad 2)) (C := R_T) (T := T_T) (N := 4) hx hb hT in_T hown hK (pg_1 (x := 1) hcd hP (by decide) htb) 0 rfl rfl 0 (by decide) (hT _ w74) (fun _ h9 => h9) rfl dR_ask_36 ?_
      refine lv_iload_n hx hb dR_ask_39 rfl (lv_at hl 1 rfl) ?_
      refine al_q (q := ad (10 + c0)) hx hb hK (pg_1 (x := 2) hcd hP (by decide) hca) 0 5 rfl rfl (vp_in_nI (by omega) (by decide)) (by rw [nI_clamp (by omega)]; exact hcb c0 hc6) dR_ask_40 ?_
      refine lv_bipush (v := 48) hx hb dR_ask_41 (by decide) ?_
      refine lv_topi (fun y9 e9 => ?_)
      cases (show y9 = nI 48 from e9.trans (by decide))
      refine lv_iload_n hx hb dR_ask_43 rfl (lv_at hl 2 rfl) ?_
      have hB9 : QI gg [(10 + c0, .inr (1, [.ref (ad (20 + c0)), .ref (ad (30 + c0)), .int (nI (ne c0)), .int (ik c0)])), (20 + c0, .inl (cT 0, 49, .inl fv))] := (qi_c (by omega) hc1 (qi_c (by omega) hc2 qi_0))
      have hN9 := (show NDc [10 + c0, 20 + c0] from (nd_c (na_c (by omega) na_0) (nd_c na_0 nd_0)))
      have hP := bo_P (wc := [(10 + c0, .inr (1, [.ref (ad (20 + c0)), .ref (ad (30 + c0)), .int (nI (ne c0)), .int (ik c0)])), (20 + c0, .inl (cT 0, 49, .inl fv))]) (X := []) hcd hN9 hB9 hP
      have hD := bo_D (wc := [(10 + c0, .inr (1, [.ref (ad (20 + c0)), .ref (ad (30 + c0)), .int (nI (ne c0)), .int (ik c0)])), (20 + c0, .inl (cT 0, 49, .inl fv))]) (X := []) hcd hN9 hB9 hD
      have hP : va_P D vwCl ([(ad (10 + c0), .inr (1, [.ref (ad (20 + c0)), .ref (ad (30 + c0)), .int (nI (ne c0)), .int (ik c0)])), (ad (20 + c0), .inl (cT 0, 49, .inl fv))] ++ pg cds ad (upo gg [10 + c0, 20 + c0])) _ := hP
      have hD : va_D A ([(ad (10 + c0), .inr (1, [.ref (ad (20 + c0)), .ref (ad (30 + c0)), .int (nI (ne c0)), .int (ik c0)])), (ad (20 + c0), .inl (cT 0, 49, .inl fv))] ++ pg cds ad (upo gg [10 + c0, 20 + c0])) := hD
      refine hy_iQ (X := [(ad (10 + c0), .inr (1, [.ref (ad (20 + c0)), .ref (ad (30 + c0)), .int (nI (ne c0)), .int (ik c0)])), (ad (20 + c0), .inl (cT 0, 49, .inl fv))]) (pl := pg cds ad (upo gg [10 + c0, 20 + c0])) (cx := [(ad (10 + c0), .inr (1, [.ref (ad (20 + c0)), .ref (ad (30 + c0)), .int (nI (ne c0)), .int (ik c0)])), (ad (20 + c0), .inl (cT 0, 49, .inl fv))]) (wr := []) hP hD hS hA [0, 1] [] rfl rfl (by decide) (by decide) (va_runV (As := [.int (nI 48), .int v]) (rest := []) ⟨hx, hb, hml, hown, hT⟩ (k_exchange l D cT (ad (10 + c0)) (ad (20 + c0)) (ad (30 + c0)) (nI (ne c0)) (ik c0) fv 48 v (by decide) _) ⟨callB_of 2 hT (tb_gd w636) rfl rfl rfl (hT _ w3) (hT _ w633) hC_exchange ⟨Nat.le_of_ble_eq_true rfl, Nat.le_of_ble_eq_true rfl⟩, (hT _ w634), (hT _ w635)⟩ (RW.preV (ci := 1) (q0 := 0) hZ hS (hy_free (cx := [(ad (10 + c0), .inr (1, [.ref (ad (20 + c0)), .ref (ad (30 + c0)), .int (nI (ne c0)), .int (ik c0)])), (ad (20 + c0), .inl (cT 0, 49, .inl fv))]) hD hS hA [0, 1] rfl) (hP.sub (ws' := [(ad (10 + c0), .inr (1, [.ref (ad (20 + c0)), .ref (ad (30 + c0)), .int (nI (ne c0)), .int (ik c0)])), (ad (20 + c0), .inl (cT 0, 49, .inl fv))]) [0, 1] rfl) hK (hD.sub (ws' := [(ad (10 + c0), .inr (1, [.ref (ad (20 + c0)), .ref (ad (30 + c0)), .int (nI (ne c0)), .int (ik c0)])), (ad (20 + c0), .inl (cT 0, 49, .inl fv))]) [0, 1] (by decide) rfl) rfl rfl) rfl rfl hl.1 rfl (lv_room (Nat.le_of_ble_eq_true rfl)) dR_ask_44 ⟨Nat.le_of_ble_eq_true rfl, Nat.le_of_ble_eq_true rfl⟩) (fun ru5 u9 H locs hpu5 hP hD hS => ?_)
      have hpu5 : ru5 = fv 48 := hpu5
      have hP : va_P D vwCl ([(ad (10 + c0), .inr (1, [.ref (ad (20 + c0)), .ref (ad (30 + c0)), .int (nI (ne c0)), .int (ik c0)])), (ad (20 + c0), .inl (cT 0, 49, .inl (upd fv 48 v)))] ++ pg cds ad (upo gg [10 + c0, 20 + c0])) _ := hP
      have hD : va_D A ([(ad (10 + c0), .inr (1, [.ref (ad (20 + c0)), .ref (ad (30 + c0)), .int (nI (ne c0)), .int (ik c0)])), (ad (20 + c0), .inl (cT 0, 49, .inl (upd fv 48 v)))] ++ pg cds ad (upo gg [10 + c0, 20 + c0])) := hD
      have p1 := hpu5
      have hN9 := (show NDc [10 + c0, 20 + c0] from (nd_c (na_c (by omega) na_0) (nd_c na_0 nd_0)))
      have hP := gb_P (w9 := [(10 + c0, .inr (1, [.ref (ad (20 + c0)), .ref (ad (30 + c0)), .int (nI (ne c0)), .int (ik c0)])), (20 + c0, .inl (cT 0, 49, .inl (upd fv 48 v)))]) (X := []) (g := gg) hcd hN9 (show QB [(10 + c0, .inr (1, [.ref (ad (20 + c0)), .ref (ad (30 + c0)), .int (nI (ne c0)), .int (ik c0)])), (20 + c0, .inl (cT 0, 49, .inl (upd fv 48 v)))] from (qb_c (by omega) (qb_c (by omega) qb_0))) (hP.part (cx := [(ad (10 + c0), .inr (1, [.ref (ad (20 + c0)), .ref (ad (30 + c0)), .int (nI (ne c0)), .int (ik c0)])), (ad (20 + c0), .inl (cT 0, 49, .inl (upd fv 48 v)))]) [0, 1] rfl)
      have hD := gb_D (w9 := [(10 + c0, .inr (1, [.ref (ad (20 + c0)), .ref (ad (30 + c0)), .int (nI (ne c0)), .int (ik c0)])), (20 + c0, .inl (cT 0, 49, .inl (upd fv 48 v)))]) (X := []) (g := gg) hcd hN9 (show QB [(10 + c0, .inr (1, [.ref (ad (20 + c0)), .ref (ad (30 + c0)), .int (nI (ne c0)), .int (ik c0)])), (20 + c0, .inl (cT 0, 49, .inl (upd fv 48 v)))] from (qb_c (by omega) (qb_c (by omega) qb_0))) (hD.part (cx := [(ad (10 + c0), .inr (1, [.ref (ad (20 + c0)), .ref (ad (30 + c0)), .int (nI (ne c0)), .int (ik c0)])), (ad (20 + c0), .inl (cT 0, 49, .inl (upd fv 48 v)))]) [0, 1] (by decide) rfl)
      obtain ⟨g1, hg1⟩ : ∃ q9, q9 = ups gg [(10 + c0, .inr (1, [.ref (ad (20 + c0)), .ref (ad (30 + c0)), .int (nI (ne c0)), .int (ik c0)])), (20 + c0, .inl (cT 0, 49, .inl (upd fv 48 v)))] := ⟨_, rfl⟩
      rw [← hg1] at hP hD
      have hP : va_P D vwCl ([] ++ pg cds ad g1) _ := hP
      have hD : va_D A ([] ++ pg cds ad g1) := hD
      have fg1 : ∀ z8, z8 ≠ 20 + c0 → g1 z8 = gg z8 := fun z8 z2 => by rw [hg1]; exact ups_k (kp_s hc1 (kp_n z2 kp_0))
      have g1_1 : g1 (20 + c0) = some (.inl (cT 0, 49, .inl (upd fv 48 v))) := by rw [hg1]; exact ups_2 (by omega)
      have hP9 : va_P D vwCl ([] ++ pg cds ad g1) _ := hP.part (cx := []) [] rfl
      have hD9 : va_D A ([] ++ pg cds ad g1) := hD.part (cx := []) [] (by decide) rfl
      refine W.widen (k := 0) (n := 0) (Nat.le_of_ble_eq_true rfl) (Nat.le_of_ble_eq_true rfl) ?_
      exact W.iret (v := ru5) hx hb hr (fun t9 ht9 hW9 => ⟨⟨ru5, g1, rfl, (show ru5 = vq c0 ∧ (∀ z8, (z8 < 10 ∨ 40 ≤ z8) → g1 z8 = gg z8) ∧ COLF cT ad g1 n vv (upd vq c0 v) eg ik ne from ⟨p1.trans hcq, fun z8 n1 => fg1 z8 (by omega), colf_ask hCf0 (fun x hx => fg1 x hx) hc6 hne hn48 ⟨hc1, hc2, hc3⟩ hcv hcg g1_1⟩), by rw [ht9]; exact hP9, hD9⟩, hS.F ht9⟩) hS.2.2 dR_ask_47
set_option maxHeartbeats 4000000 in
set_option maxRecDepth 100000 in
theorem k_ask_no (l : Launch) (D : va_G) (cT : Nat → ClassId) (cds : List Nat) (ad : Nat → Nat) (gg : Nat → Option va_E) (tc : Int32) (wd9 : Int32) (rw9 : Int32) (a1 : Int32) (v : Int32) (hlt : l.stackTraces = false) (hcd : CD cds) (hob : gg 0 = some (eOB ad tc)) (htb : gg 1 = some (eTB ad wd9 rw9)) (hq : ¬ ((0 ≤ a1 ∧ a1 ≤ wd9 - 1) ∧ (v = (-2147483648) ∨ ((-1000000) ≤ v ∧ v ≤ 1000000)))) : MetT l yR_ask WR_ask ({ frames := 7, cells := 1, slots := 6, locals := 111 } : Room) (RO D vwCl [.ref (ad 0), .int a1, .int v] ([] ++ pg cds ad gg) (TY cT)) "java/lang/IllegalArgumentException" 1 6 := by
  refine MetT.ofW (cc := cR_ask) (maxL := 3) (ret := (some .int)) (by decide) rfl ?_
  intro p e s m args below meth c s₁ B hml hno hv
  obtain ⟨rfl, hZ, hP, hK⟩ := hv
  have hx := B.exec
  have hb := B.bytes
  have hr := B.returns
  have hts := atoms_spec (ws := WR_ask) B.pre
  have hT : ∀ w ∈ TB, w.before _ s = true := fun w h => hts w (List.mem_cons_of_mem _ h)
  have hown : s.vm.findClass R_R = some m.cls := findClass_of_methodNamed B.named
  have hlocks := B.notSynchronized
  have hS : va_S (fun _ => False) s.heap s.heap [] := va_S.rf
  have hl := lv_entry ([.ref (ad 0), .int a1, .int v]) (n := 3) (Nat.le_of_ble_eq_true rfl)
  rw [lg_entry_eq]
  generalize (lg_sl ([.ref (ad 0), .int a1, .int v]) ++ List.replicate (3 - (lg_sl ([.ref (ad 0), .int a1, .int v])).length) Slot.unset).toArray = ls at hl ⊢
  have hl : lv_has ls 3 [(0, .ref (ad 0)), (1, .int a1), (2, .int v)] := hl
  refine lv_aload_n hx hb dR_ask_0 rfl (lv_at hl 0 rfl) ?_
  refine va_get (D := D) (ci := 0) (v := .ref (ad 1)) (C := R_R) (T := T_R) (N := 13) hx hb hT in_R hown hK (pg_1 (x := 0) hcd hP (by decide) hob) 0 rfl rfl 0 (by decide) (hT _ w324) (fun _ h9 => h9) rfl dR_ask_1 ?_
  refine lv_iload_n hx hb dR_ask_4 rfl (lv_at hl 1 rfl) ?_
  refine ro_i (va_Run.run (va_runV (As := [.int a1]) (rest := []) ⟨hx, hb, hml, hown, hT⟩ (k_hasColumn l D cT (ad 1) (ad 2) (ad 3) wd9 rw9 a1) ⟨callB_of 1 hT (tb_gd w621) rfl rfl rfl (hT _ w2) (hT _ w618) hT_hasColumn ⟨Nat.le_of_ble_eq_true rfl, Nat.le_of_ble_eq_true rfl⟩, (hT _ w619), (hT _ w620)⟩ (RO.preV (ci := 2) (q0 := 0) hZ hS ((show va_P D vwCl [(ad 1, .inr (2, [.ref (ad 2), .ref (ad 3), .int wd9, .int rw9]))] _ from (pv_c (pg_1 (x := 1) hcd hP (by decide) htb) pv_0))) hK rfl rfl) rfl rfl hl.1 rfl (lv_room (Nat.le_of_ble_eq_true rfl)) dR_ask_5 ⟨Nat.le_of_ble_eq_true rfl, Nat.le_of_ble_eq_true rfl⟩)) ?_
  refine lv_if_eq (tgt := 28) hx hb dR_ask_8 rfl (fun h1 => ?_) (fun h1 => ?_)
  · refine lv_iconst (v := 0) hx hb dR_ask_28 (by decide) ?_
    exact tx_out (tx_goS (As := [.int 0]) (rest := []) ⟨hx, hb, hml, hown, hT⟩ (k_demand_no l D cT 0 hlt rfl) ⟨callB_of 1 hT (tb_gd w510) rfl rfl rfl (hT _ w1) (hT _ w508) hR_demand ⟨Nat.le_of_ble_eq_true rfl, Nat.le_of_ble_eq_true rfl⟩, (hT _ w509)⟩ (RO.preS hZ hS ((show va_P D vwCl [] _ from fun _ _ h => nomatch h)) hK) rfl hl.1 rfl (Nat.le_of_ble_eq_true rfl) dR_ask_29 ⟨Nat.le_of_ble_eq_true rfl, Nat.le_of_ble_eq_true rfl⟩) hno hlocks
  · refine lv_iload_n hx hb dR_ask_11 rfl (lv_at hl 2 rfl) ?_
    refine lv_ldc (v := (-2147483648)) hx hb hown (hT _ w685) dR_ask_12 ?_
    refine lv_icmp_eq (tgt := 24) hx hb dR_ask_14 rfl (fun h2 => ?_) (fun h2 => ?_)
    · refine lv_iconst (v := 1) hx hb dR_ask_24 (by decide) ?_
      refine lv_goto (tgt := 29) hx hb dR_ask_25 rfl ?_
      exact absurd ⟨(bi_1 h1), Or.inl h2⟩ hq
    · refine lv_iload_n hx hb dR_ask_17 rfl (lv_at hl 2 rfl) ?_
      refine ro_i (va_Run.run (va_runS (As := [.int v]) (rest := []) ⟨hx, hb, hml, hown, hT⟩ (k_isNumber l D cT v) ⟨callB_of 1 hT (tb_gd w630) rfl rfl rfl (hT _ w1) (hT _ w1072) hR_isNumber ⟨Nat.le_of_ble_eq_true rfl, Nat.le_of_ble_eq_true rfl⟩, (hT _ w629)⟩ (RO.preS hZ hS ((show va_P D vwCl [] _ from fun _ _ h => nomatch h)) hK) rfl rfl hl.1 rfl (lv_room (Nat.le_of_ble_eq_true rfl)) dR_ask_18 ⟨Nat.le_of_ble_eq_true rfl, Nat.le_of_ble_eq_true rfl⟩)) ?_
      refine lv_if_eq (tgt := 28) hx hb dR_ask_21 rfl (fun h3 => ?_) (fun h3 => ?_)
      · refine lv_iconst (v := 0) hx hb dR_ask_28 (by decide) ?_
        exact tx_out (tx_goS (As := [.int 0]) (rest := []) ⟨hx, hb, hml, hown, hT⟩ (k_demand_no l D cT 0 hlt rfl) ⟨callB_of 1 hT (tb_gd w510) rfl rfl rfl (hT _ w1) (hT _ w508) hR_demand ⟨Nat.le_of_ble_eq_true rfl, Nat.le_of_ble_eq_true rfl⟩, (hT _ w509)⟩ (RO.preS hZ hS ((show va_P D vwCl [] _ from fun _ _ h => nomatch h)) hK) rfl hl.1 rfl (Nat.le_of_ble_eq_true rfl) dR_ask_29 ⟨Nat.le_of_ble_eq_true rfl, Nat.le_of_ble_eq_true rfl⟩) hno hlocks
      · refine lv_iconst (v := 1) hx hb dR_ask_24 (by decide) ?_
        refine lv_goto (tgt := 29) hx hb dR_ask_25 rfl ?_
        exact absurd ⟨(bi_1 h1), Or.inr (bi_1 h3)⟩ hq
set_option maxHeartbeats 4000000 in
set_option maxRecDepth 100000 in
theorem k_target (l : Launch) (D : va_G) (cT : Nat → ClassId) (cds : List Nat) (ad : Nat → Nat) (gg : Nat → Option va_E) (tc : Int32) (wd9 : Int32) (rw9 : Int32) (n : Nat) (tg : Nat → Int32) (r : Nat) (v : Int32) (hcd : CD cds) (hob : gg 0 = some (eOB ad tc)) (htb : gg 1 = some (eTB ad wd9 rw9)) (hTg : TGp cT gg n tg) (hn48 : n ≤ 48) (hr0 : 0 ≤ nI r ∧ nI r ≤ rw9 - 1) (hrn : r < n) (hv9 : (-1000) ≤ v ∧ v ≤ 1000) (sz : Nat) : Met l yR_target WR_target ({ frames := 2, cells := 0, slots := 0, locals := 43 } : Room) (RW D vwCl [.ref (ad 0), .int (nI r), .int v] ([] ++ pg cds ad gg) (TY cT) sz) (va_Qi (fun (r9 : Int32) (u9 : (Nat → Option va_E)) => r9 = tg r ∧ (∀ z8, z8 ≠ 3 → u9 z8 = gg z8) ∧ TGp cT u9 n (upd tg r v)) (BW D vwCl (va_A ([] ++ pg cds ad gg) sz) (fun u9 : (Nat → Option va_E) => ([] ++ pg cds ad u9))) (va_A ([] ++ pg cds ad gg) sz)) 0 0 (va_A ([] ++ pg cds ad gg) sz) := by
  refine Met.ofW (cc := cR_target) (maxL := 4) (ret := (some .int)) (by decide) rfl ?_
  intro p e s m args below meth c s₁ B hml hv
  obtain ⟨rfl, hsz, hZ, hP, hK, hD0⟩ := hv
  have hx := B.exec
  have hb := B.bytes
  have hr := B.returns
  have hts := atoms_spec (ws := WR_target) B.pre
  have hT : ∀ w ∈ TB, w.before _ s = true := fun w h => hts w (List.mem_cons_of_mem _ h)
  have hown : s.vm.findClass R_R = some m.cls := findClass_of_methodNamed B.named
  have hlocks := B.notSynchronized
  subst hsz
  have hD := hD0.self (sz := s.heap.size)
  generalize hAe : va_A ([] ++ pg cds ad gg) s.heap.size = A at hD hZ ⊢
  have hA : ∀ q : Nat, s.heap.size ≤ q → A q := fun q h => by rw [← hAe]; exact Or.inr h
  have hS : va_S A s.heap s.heap [] := va_S.rf
  have hl := lv_entry ([.ref (ad 0), .int (nI r), .int v]) (n := 4) (Nat.le_of_ble_eq_true rfl)
  rw [lg_entry_eq]
  generalize (lg_sl ([.ref (ad 0), .int (nI r), .int v]) ++ List.replicate (4 - (lg_sl ([.ref (ad 0), .int (nI r), .int v])).length) Slot.unset).toArray = ls at hl ⊢
  have hl : lv_has ls 4 [(0, .ref (ad 0)), (1, .int (nI r)), (2, .int v)] := hl
  obtain ⟨ft, hft, htg9, htq⟩ := hTg
  have hr49 : r < 49 := by omega
  refine lv_aload_n hx hb dR_target_0 rfl (lv_at hl 0 rfl) ?_
  refine va_get (D := D) (ci := 0) (v := .ref (ad 1)) (C := R_R) (T := T_R) (N := 13) hx hb hT in_R hown hK (pg_1 (x := 0) hcd hP (by decide) hob) 0 rfl rfl 0 (by decide) (hT _ w324) (fun _ h9 => h9) rfl dR_target_1 ?_
  refine lv_iload_n hx hb dR_target_4 rfl (lv_at hl 1 rfl) ?_
  refine ro_i (va_Run.run (va_runV (As := [.int (nI r)]) (rest := []) ⟨hx, hb, hml, hown, hT⟩ (k_hasRow l D cT (ad 1) (ad 2) (ad 3) wd9 rw9 (nI r)) ⟨callB_of 1 hT (tb_gd w616) rfl rfl rfl (hT _ w2) (hT _ w613) hT_hasRow ⟨Nat.le_of_ble_eq_true rfl, Nat.le_of_ble_eq_true rfl⟩, (hT _ w614), (hT _ w615)⟩ (RO.preV (ci := 2) (q0 := 0) hZ hS ((show va_P D vwCl [(ad 1, .inr (2, [.ref (ad 2), .ref (ad 3), .int wd9, .int rw9]))] _ from (pv_c (pg_1 (x := 1) hcd hP (by decide) htb) pv_0))) hK rfl rfl) rfl rfl hl.1 rfl (lv_room (Nat.le_of_ble_eq_true rfl)) dR_target_5 ⟨Nat.le_of_ble_eq_true rfl, Nat.le_of_ble_eq_true rfl⟩)) ?_
  refine lv_if_eq (tgt := 22) hx hb dR_target_8 rfl (fun h1 => absurd h1 (by rw [bi_t hr0]; decide)) (fun _ => ?_)
  refine lv_iload_n hx hb dR_target_11 rfl (lv_at hl 2 rfl) ?_
  refine ro_i (va_Run.run (va_runS (As := [.int v]) (rest := []) ⟨hx, hb, hml, hown, hT⟩ (k_isTarget l D cT v) ⟨callB_of 1 hT (tb_gd w583) rfl rfl rfl (hT _ w1) (hT _ w581) hR_isTarget ⟨Nat.le_of_ble_eq_true rfl, Nat.le_of_ble_eq_true rfl⟩, (hT _ w582)⟩ (RO.preS hZ hS ((show va_P D vwCl [] _ from fun _ _ h => nomatch h)) hK) rfl rfl hl.1 rfl (lv_room (Nat.le_of_ble_eq_true rfl)) dR_target_12 ⟨Nat.le_of_ble_eq_true rfl, Nat.le_of_ble_eq_true rfl⟩)) ?_
  refine lv_if_eq (tgt := 22) hx hb dR_target_15 rfl (fun h2 => absurd h2 (by rw [bi_t hv9]; decide)) (fun _ => ?_)
  refine lv_iconst (v := 1) hx hb dR_target_18 (by decide) ?_
  refine lv_goto (tgt := 23) hx hb dR_target_19 rfl ?_
  refine ro_v (va_Run.run (va_runS (As := [.int 1]) (rest := []) ⟨hx, hb, hml, hown, hT⟩ (k_demand_ok l D cT 1 (by decide)) ⟨callB_of 1 hT (tb_gd w510) rfl rfl rfl (hT _ w1) (hT _ w508) hR_demand ⟨Nat.le_of_ble_eq_true rfl, Nat.le_of_ble_eq_true rfl⟩, (hT _ w509)⟩ (RO.preS hZ hS ((show va_P D vwCl [] _ from fun _ _ h => nomatch h)) hK) rfl rfl hl.1 rfl (lv_room (Nat.le_of_ble_eq_true rfl)) dR_target_23 ⟨Nat.le_of_ble_eq_true rfl, Nat.le_of_ble_eq_true rfl⟩)) ?_
  refine lv_aload_n hx hb dR_target_26 rfl (lv_at hl 0 rfl) ?_
  refine va_get (D := D) (ci := 0) (v := .ref (ad 1)) (C := R_R) (T := T_R) (N := 13) hx hb hT in_R hown hK (pg_1 (x := 0) hcd hP (by decide) hob) 0 rfl rfl 0 (by decide) (hT _ w324) (fun _ h9 => h9) rfl dR_target_27 ?_
  refine va_get (D := D) (ci := 2) (v := .ref (ad 3)) (C := R_T) (T := T_T) (N := 4) hx hb hT in_T hown hK (pg_1 (x := 1) hcd hP (by decide) htb) 0 rfl rfl 1 (by decide) (hT _ w77) (fun _ h9 => h9) rfl dR_target_30 ?_
  refine lv_iload_n hx hb dR_target_33 rfl (lv_at hl 1 rfl) ?_
  refine lq_iald (j := r) hx hb hK (pg_1 (x := 3) hcd hP (by decide) hft) 0 0 rfl rfl rfl (by omega) (by omega) dR_target_34 ?_
  refine lv_istore_n hx hb dR_target_35 rfl hl (by decide) rfl (fun ls hl => ?_)
  have hl : lv_has ls 4 [(3, .int (ft r)), (0, .ref (ad 0)), (1, .int (nI r)), (2, .int v)] := hl
  refine lv_aload_n hx hb dR_target_36 rfl (lv_at hl 1 rfl) ?_
  refine va_get (D := D) (ci := 0) (v := .ref (ad 1)) (C := R_R) (T := T_R) (N := 13) hx hb hT in_R hown hK (pg_1 (x := 0) hcd hP (by decide) hob) 0 rfl rfl 0 (by decide) (hT _ w324) (fun _ h9 => h9) rfl dR_target_37 ?_
  refine va_get (D := D) (ci := 2) (v := .ref (ad 3)) (C := R_T) (T := T_T) (N := 4) hx hb hT in_T hown hK (pg_1 (x := 1) hcd hP (by decide) htb) 0 rfl rfl 1 (by decide) (hT _ w77) (fun _ h9 => h9) rfl dR_target_40 ?_
  refine lv_iload_n hx hb dR_target_43 rfl (lv_at hl 2 rfl) ?_
  refine lv_iload_n hx hb dR_target_44 rfl (lv_at hl 3 rfl) ?_
  have hB9 : QI gg [(3, .inl (cT 0, 49, .inl ft))] := (qi_c (by decide) hft qi_0)
  have hN9 := (show NDc [3] from (nd_c na_0 nd_0))
  have hP := bo_P (wc := [(3, .inl (cT 0, 49, .inl ft))]) (X := []) hcd hN9 hB9 hP
  have hD := bo_D (wc := [(3, .inl (cT 0, 49, .inl ft))]) (X := []) hcd hN9 hB9 hD
  have hP : va_P D vwCl ([(ad 3, .inl (cT 0, 49, .inl ft))] ++ pg cds ad (upo gg [3])) _ := hP
  have hD : va_D A ([(ad 3, .inl (cT 0, 49, .inl ft))] ++ pg cds ad (upo gg [3])) := hD
  refine lq_iast (j := r) hx hb hK hP hD hS 0 0 rfl rfl rfl (by omega) (by omega) dR_target_45 (fun H locs hP hD hS => ?_)
  have hP : va_P D vwCl ([(ad 3, .inl (cT 0, 49, .inl (upd ft r v)))] ++ pg cds ad (upo gg [3])) _ := hP
  have hD : va_D A ([(ad 3, .inl (cT 0, 49, .inl (upd ft r v)))] ++ pg cds ad (upo gg [3])) := hD
  have hN9 := (show NDc [3] from (nd_c na_0 nd_0))
  have hP := gb_P (w9 := [(3, .inl (cT 0, 49, .inl (upd ft r v)))]) (X := []) (g := gg) hcd hN9 (show QB [(3, .inl (cT 0, 49, .inl (upd ft r v)))] from (qb_c (by decide) qb_0)) (hP.part (cx := [(ad 3, .inl (cT 0, 49, .inl (upd ft r v)))]) [0] rfl)
  have hD := gb_D (w9 := [(3, .inl (cT 0, 49, .inl (upd ft r v)))]) (X := []) (g := gg) hcd hN9 (show QB [(3, .inl (cT 0, 49, .inl (upd ft r v)))] from (qb_c (by decide) qb_0)) (hD.part (cx := [(ad 3, .inl (cT 0, 49, .inl (upd ft r v)))]) [0] (by decide) rfl)
  obtain ⟨g1, hg1⟩ : ∃ q9, q9 = ups gg [(3, .inl (cT 0, 49, .inl (upd ft r v)))] := ⟨_, rfl⟩
  rw [← hg1] at hP hD
  have hP : va_P D vwCl ([] ++ pg cds ad g1) _ := hP
  have hD : va_D A ([] ++ pg cds ad g1) := hD
  have fg1 : ∀ z8, z8 ≠ 3 → g1 z8 = gg z8 := fun z8 z1 => by rw [hg1]; exact ups_k (kp_n z1 kp_0)
  have g1_0 : g1 3 = some (.inl (cT 0, 49, .inl (upd ft r v))) := by rw [hg1]; exact ups_1
  refine lv_iload_n hx hb dR_target_46 rfl (lv_at hl 0 rfl) ?_
  have hP9 : va_P D vwCl ([] ++ pg cds ad g1) _ := hP.part (cx := []) [] rfl
  have hD9 : va_D A ([] ++ pg cds ad g1) := hD.part (cx := []) [] (by decide) rfl
  refine W.widen (k := 0) (n := 0) (Nat.le_of_ble_eq_true rfl) (Nat.le_of_ble_eq_true rfl) ?_
  exact W.iret (v := ft r) hx hb hr (fun t9 ht9 hW9 => ⟨⟨ft r, g1, rfl, (show (ft r) = tg r ∧ (∀ z8, z8 ≠ 3 → g1 z8 = gg z8) ∧ TGp cT g1 n (upd tg r v) from ⟨htg9 r hrn, fun z8 n1 => fg1 z8 n1, ⟨upd ft r v, g1_0, fun i hi => (by by_cases q9 : i = r; (rw [q9, pk_us, pk_us]); (rw [pk_un q9, pk_un q9]; exact htg9 i hi)), (by rw [pk_un (show 48 ≠ r by omega)]; exact htq)⟩⟩), by rw [ht9]; exact hP9, hD9⟩, hS.F ht9⟩) hS.2.2 dR_target_47
set_option maxHeartbeats 4000000 in
set_option maxRecDepth 100000 in
theorem k_target_no (l : Launch) (D : va_G) (cT : Nat → ClassId) (cds : List Nat) (ad : Nat → Nat) (gg : Nat → Option va_E) (tc : Int32) (wd9 : Int32) (rw9 : Int32) (a1 : Int32) (v : Int32) (hlt : l.stackTraces = false) (hcd : CD cds) (hob : gg 0 = some (eOB ad tc)) (htb : gg 1 = some (eTB ad wd9 rw9)) (hq : ¬ ((0 ≤ a1 ∧ a1 ≤ rw9 - 1) ∧ ((-1000) ≤ v ∧ v ≤ 1000))) : MetT l yR_target WR_target ({ frames := 7, cells := 1, slots := 6, locals := 111 } : Room) (RO D vwCl [.ref (ad 0), .int a1, .int v] ([] ++ pg cds ad gg) (TY cT)) "java/lang/IllegalArgumentException" 1 6 := by
  refine MetT.ofW (cc := cR_target) (maxL := 4) (ret := (some .int)) (by decide) rfl ?_
  intro p e s m args below meth c s₁ B hml hno hv
  obtain ⟨rfl, hZ, hP, hK⟩ := hv
  have hx := B.exec
  have hb := B.bytes
  have hr := B.returns
  have hts := atoms_spec (ws := WR_target) B.pre
  have hT : ∀ w ∈ TB, w.before _ s = true := fun w h => hts w (List.mem_cons_of_mem _ h)
  have hown : s.vm.findClass R_R = some m.cls := findClass_of_methodNamed B.named
  have hlocks := B.notSynchronized
  have hS : va_S (fun _ => False) s.heap s.heap [] := va_S.rf
  have hl := lv_entry ([.ref (ad 0), .int a1, .int v]) (n := 4) (Nat.le_of_ble_eq_true rfl)
  rw [lg_entry_eq]
  generalize (lg_sl ([.ref (ad 0), .int a1, .int v]) ++ List.replicate (4 - (lg_sl ([.ref (ad 0), .int a1, .int v])).length) Slot.unset).toArray = ls at hl ⊢
  have hl : lv_has ls 4 [(0, .ref (ad 0)), (1, .int a1), (2, .int v)] := hl
  refine lv_aload_n hx hb dR_target_0 rfl (lv_at hl 0 rfl) ?_
  refine va_get (D := D) (ci := 0) (v := .ref (ad 1)) (C := R_R) (T := T_R) (N := 13) hx hb hT in_R hown hK (pg_1 (x := 0) hcd hP (by decide) hob) 0 rfl rfl 0 (by decide) (hT _ w324) (fun _ h9 => h9) rfl dR_target_1 ?_
  refine lv_iload_n hx hb dR_target_4 rfl (lv_at hl 1 rfl) ?_
  refine ro_i (va_Run.run (va_runV (As := [.int a1]) (rest := []) ⟨hx, hb, hml, hown, hT⟩ (k_hasRow l D cT (ad 1) (ad 2) (ad 3) wd9 rw9 a1) ⟨callB_of 1 hT (tb_gd w616) rfl rfl rfl (hT _ w2) (hT _ w613) hT_hasRow ⟨Nat.le_of_ble_eq_true rfl, Nat.le_of_ble_eq_true rfl⟩, (hT _ w614), (hT _ w615)⟩ (RO.preV (ci := 2) (q0 := 0) hZ hS ((show va_P D vwCl [(ad 1, .inr (2, [.ref (ad 2), .ref (ad 3), .int wd9, .int rw9]))] _ from (pv_c (pg_1 (x := 1) hcd hP (by decide) htb) pv_0))) hK rfl rfl) rfl rfl hl.1 rfl (lv_room (Nat.le_of_ble_eq_true rfl)) dR_target_5 ⟨Nat.le_of_ble_eq_true rfl, Nat.le_of_ble_eq_true rfl⟩)) ?_
  refine lv_if_eq (tgt := 22) hx hb dR_target_8 rfl (fun h1 => ?_) (fun h1 => ?_)
  · refine lv_iconst (v := 0) hx hb dR_target_22 (by decide) ?_
    exact tx_out (tx_goS (As := [.int 0]) (rest := []) ⟨hx, hb, hml, hown, hT⟩ (k_demand_no l D cT 0 hlt rfl) ⟨callB_of 1 hT (tb_gd w510) rfl rfl rfl (hT _ w1) (hT _ w508) hR_demand ⟨Nat.le_of_ble_eq_true rfl, Nat.le_of_ble_eq_true rfl⟩, (hT _ w509)⟩ (RO.preS hZ hS ((show va_P D vwCl [] _ from fun _ _ h => nomatch h)) hK) rfl hl.1 rfl (Nat.le_of_ble_eq_true rfl) dR_target_23 ⟨Nat.le_of_ble_eq_true rfl, Nat.le_of_ble_eq_true rfl⟩) hno hlocks
  · refine lv_iload_n hx hb dR_target_11 rfl (lv_at hl 2 rfl) ?_
    refine ro_i (va_Run.run (va_runS (As := [.int v]) (rest := []) ⟨hx, hb, hml, hown, hT⟩ (k_isTarget l D cT v) ⟨callB_of 1 hT (tb_gd w583) rfl rfl rfl (hT _ w1) (hT _ w581) hR_isTarget ⟨Nat.le_of_ble_eq_true rfl, Nat.le_of_ble_eq_true rfl⟩, (hT _ w582)⟩ (RO.preS hZ hS ((show va_P D vwCl [] _ from fun _ _ h => nomatch h)) hK) rfl rfl hl.1 rfl (lv_room (Nat.le_of_ble_eq_true rfl)) dR_target_12 ⟨Nat.le_of_ble_eq_true rfl, Nat.le_of_ble_eq_true rfl⟩)) ?_
    refine lv_if_eq (tgt := 22) hx hb dR_target_15 rfl (fun h2 => ?_) (fun h2 => ?_)
    · refine lv_iconst (v := 0) hx hb dR_target_22 (by decide) ?_
      exact tx_out (tx_goS (As := [.int 0]) (rest := []) ⟨hx, hb, hml, hown, hT⟩ (k_demand_no l D cT 0 hlt rfl) ⟨callB_of 1 hT (tb_gd w510) rfl rfl rfl (hT _ w1) (hT _ w508) hR_demand ⟨Nat.le_of_ble_eq_true rfl, Nat.le_of_ble_eq_true rfl⟩, (hT _ w509)⟩ (RO.preS hZ hS ((show va_P D vwCl [] _ from fun _ _ h => nomatch h)) hK) rfl hl.1 rfl (Nat.le_of_ble_eq_true rfl) dR_target_23 ⟨Nat.le_of_ble_eq_true rfl, Nat.le_of_ble_eq_true rfl⟩) hno hlocks
    · refine lv_iconst (v := 1) hx hb dR_target_18 (by decide) ?_
      refine lv_goto (tgt := 23) hx hb dR_target_19 rfl ?_
      exact absurd ⟨(bi_1 h1), (bi_1 h2)⟩ hq
