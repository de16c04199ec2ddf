set_option maxHeartbeats 4000000 in
set_option maxRecDepth 100000 in
theorem k_cut (l : Launch) (D : va_G) (cT : Nat → ClassId) (cds : List Nat) (ad : Nat → Nat) (gg : Nat → Option va_E) (tc : Int32) (wd9 : Int32) (rw9 : Int32) (n : Nat) (vv : Nat → Int32) (vq : Nat → Int32) (eg : Nat → Int32) (ik : Nat → Int32) (ne : Nat → Nat) (c0 : Nat) (bc : Int32) (nn : Nat) (sa : Nat → Int32) (hcd : CD cds) (hob : gg 0 = some (eOB ad tc)) (htb : gg 1 = some (eTB ad wd9 rw9)) (hrn : rw9 = nI n) (hn48 : n ≤ 48) (hCa : CAp cT ad gg) (hCf : COLF cT ad gg n vv vq eg ik ne) (hne : ∀ c, c < 6 → ne c ≤ 11) (hc0 : 0 ≤ nI c0 ∧ nI c0 ≤ wd9 - 1) (hc6 : c0 < 6) (hnn : 2 ≤ nI nn ∧ nI nn ≤ 12) (hnn2 : 2 ≤ nn ∧ nn ≤ 12) (hik0 : ik c0 = 0) (hso : gg 48 = some (eA (cT 0) 48 sa)) (hVb : ∀ r, r < n → ¬ vv (6 * r + c0) = -2147483648 → -1000000 ≤ (vv (6 * r + c0)).toInt ∧ (vv (6 * r + c0)).toInt ≤ 1000000) (sz : Nat) : Met l yR_cut WR_cut ({ frames := 2, cells := 0, slots := 0, locals := 43 } : Room) (RW D vwCl [.ref (ad 0), .int (nI c0), .int bc, .int (nI nn)] ([] ++ pg cds ad gg) (TY cT) sz) (va_Qi (fun (r9 : Int32) (u9 : (Nat → Option va_E)) => r9 = nI (cutF bc vv c0 n nn eg).1 ∧ (∀ z8, (z8 < 10 ∨ 40 ≤ z8) → z8 ≠ 48 → u9 z8 = gg z8) ∧ (∃ sa7 : Nat → Int32, u9 48 = some (eA (cT 0) 48 sa7)) ∧ COLF cT ad u9 n vv vq (cutF bc vv c0 n nn eg).2 ik (va_up ne c0 (cutF bc vv c0 n nn eg).1) ∧ RIS (cutF bc vv c0 n nn eg).2 (11 * c0) (cutF bc vv c0 n nn eg).1 ∧ (cutF bc vv c0 n nn eg).1 ≤ 11) (BW D vwCl (va_A ([] ++ pg cds ad gg) sz) (fun u9 : (Nat → Option va_E) => ([] ++ pg cds ad u9))) (va_A ([] ++ pg cds ad gg) sz)) 0 0 (va_A ([] ++ pg cds ad gg) sz) := by
  refine Met.ofW (cc := cR_cut) (maxL := 5) (ret := (some .int)) (by decide) rfl ?_
  intro p e s m args below meth c s₁ B hml hv
  obtain ⟨rfl, hsz, hZ, hP, hK, hD0⟩ := hv
  have hx := B.exec
  have hb := B.bytes
  have hr := B.returns
  have hts := atoms_spec (ws := WR_cut) B.pre
  have hT : ∀ w ∈ TB, w.before _ s = true := fun w h => hts w (List.mem_cons_of_mem _ h)
  have hown : s.vm.findClass R_R = some m.cls := findClass_of_methodNamed B.named
  have hlocks := B.notSynchronized
  subst hsz
  have hD := hD0.self (sz := s.heap.size)
  generalize hAe : va_A ([] ++ pg cds ad gg) s.heap.size = A at hD hZ ⊢
  have hA : ∀ q : Nat, s.heap.size ≤ q → A q := fun q h => by rw [← hAe]; exact Or.inr h
  have hS : va_S A s.heap s.heap [] := va_S.rf
  have hl := lv_entry ([.ref (ad 0), .int (nI c0), .int bc, .int (nI nn)]) (n := 5) (Nat.le_of_ble_eq_true rfl)
  rw [lg_entry_eq]
  generalize (lg_sl ([.ref (ad 0), .int (nI c0), .int bc, .int (nI nn)]) ++ List.replicate (5 - (lg_sl ([.ref (ad 0), .int (nI c0), .int bc, .int (nI nn)])).length) Slot.unset).toArray = ls at hl ⊢
  have hl : lv_has ls 5 [(0, .ref (ad 0)), (1, .int (nI c0)), (2, .int bc), (3, .int (nI nn))] := hl
  have hCf0 := hCf
  obtain ⟨qf, hca, hcb⟩ := hCa
  obtain ⟨fv, fe, hce, hcv, hcq, hcg⟩ := hCf c0 hc6
  obtain ⟨hc1, hc2, hc3⟩ := hce
  refine lv_aload_n hx hb dR_cut_0 rfl (lv_at hl 0 rfl) ?_
  refine va_get (D := D) (ci := 0) (v := .ref (ad 1)) (C := R_R) (T := T_R) (N := 13) hx hb hT in_R hown hK (pg_1 (x := 0) hcd hP (by decide) hob) 0 rfl rfl 0 (by decide) (hT _ w324) (fun _ h9 => h9) rfl dR_cut_1 ?_
  refine lv_iload_n hx hb dR_cut_4 rfl (lv_at hl 1 rfl) ?_
  refine ro_i (va_Run.run (va_runV (As := [.int (nI c0)]) (rest := []) ⟨hx, hb, hml, hown, hT⟩ (k_hasColumn l D cT (ad 1) (ad 2) (ad 3) wd9 rw9 (nI c0)) ⟨callB_of 1 hT (tb_gd w621) rfl rfl rfl (hT _ w2) (hT _ w618) hT_hasColumn ⟨Nat.le_of_ble_eq_true rfl, Nat.le_of_ble_eq_true rfl⟩, (hT _ w619), (hT _ w620)⟩ (RO.preV (ci := 2) (q0 := 0) hZ hS ((show va_P D vwCl [(ad 1, .inr (2, [.ref (ad 2), .ref (ad 3), .int wd9, .int rw9]))] _ from (pv_c (pg_1 (x := 1) hcd hP (by decide) htb) pv_0))) hK rfl rfl) rfl rfl hl.1 rfl (lv_room (Nat.le_of_ble_eq_true rfl)) dR_cut_5 ⟨Nat.le_of_ble_eq_true rfl, Nat.le_of_ble_eq_true rfl⟩)) ?_
  refine lv_if_eq (tgt := 25) hx hb dR_cut_8 rfl (fun h1 => absurd h1 (by rw [bi_t hc0]; decide)) (fun _ => ?_)
  refine lv_iload_n hx hb dR_cut_11 rfl (lv_at hl 3 rfl) ?_
  refine lv_iconst (v := 2) hx hb dR_cut_12 (by decide) ?_
  refine lv_bipush (v := 12) hx hb dR_cut_13 (by decide) ?_
  refine ro_i (va_Run.run (va_runS (As := [.int (nI nn), .int 2, .int 12]) (rest := []) ⟨hx, hb, hml, hown, hT⟩ (k_isWithin l D cT (nI nn) 2 12) ⟨callB_of 3 hT (tb_gd w499) rfl rfl rfl (hT _ w1) (hT _ w497) hR_isWithin ⟨Nat.le_of_ble_eq_true rfl, Nat.le_of_ble_eq_true rfl⟩, (hT _ w498)⟩ (RO.preS hZ hS ((show va_P D vwCl [] _ from fun _ _ h => nomatch h)) hK) rfl rfl hl.1 rfl (lv_room (Nat.le_of_ble_eq_true rfl)) dR_cut_15 ⟨Nat.le_of_ble_eq_true rfl, Nat.le_of_ble_eq_true rfl⟩)) ?_
  refine lv_if_eq (tgt := 25) hx hb dR_cut_18 rfl (fun h2 => absurd h2 (by rw [bi_t hnn]; decide)) (fun _ => ?_)
  refine lv_iconst (v := 1) hx hb dR_cut_21 (by decide) ?_
  refine lv_goto (tgt := 26) hx hb dR_cut_22 rfl ?_
  refine ro_v (va_Run.run (va_runS (As := [.int 1]) (rest := []) ⟨hx, hb, hml, hown, hT⟩ (k_demand_ok l D cT 1 (by decide)) ⟨callB_of 1 hT (tb_gd w510) rfl rfl rfl (hT _ w1) (hT _ w508) hR_demand ⟨Nat.le_of_ble_eq_true rfl, Nat.le_of_ble_eq_true rfl⟩, (hT _ w509)⟩ (RO.preS hZ hS ((show va_P D vwCl [] _ from fun _ _ h => nomatch h)) hK) rfl rfl hl.1 rfl (lv_room (Nat.le_of_ble_eq_true rfl)) dR_cut_26 ⟨Nat.le_of_ble_eq_true rfl, Nat.le_of_ble_eq_true rfl⟩)) ?_
  refine lv_aload_n hx hb dR_cut_29 rfl (lv_at hl 0 rfl) ?_
  refine va_get (D := D) (ci := 0) (v := .ref (ad 1)) (C := R_R) (T := T_R) (N := 13) hx hb hT in_R hown hK (pg_1 (x := 0) hcd hP (by decide) hob) 0 rfl rfl 0 (by decide) (hT _ w324) (fun _ h9 => h9) rfl dR_cut_30 ?_
  refine va_get (D := D) (ci := 2) (v := .ref (ad 2)) (C := R_T) (T := T_T) (N := 4) hx hb hT in_T hown hK (pg_1 (x := 1) hcd hP (by decide) htb) 0 rfl rfl 0 (by decide) (hT _ w74) (fun _ h9 => h9) rfl dR_cut_33 ?_
  refine lv_iload_n hx hb dR_cut_36 rfl (lv_at hl 1 rfl) ?_
  refine al_q (q := ad (10 + c0)) hx hb hK (pg_1 (x := 2) hcd hP (by decide) hca) 0 5 rfl rfl (vp_in_nI (by omega) (by decide)) (by rw [nI_clamp (by omega)]; exact hcb c0 hc6) dR_cut_37 ?_
  refine va_get (D := D) (ci := 1) (v := .int (ik c0)) (C := R_C) (T := T_C) (N := 4) hx hb hT in_C hown hK (pg_1 (x := 10 + c0) hcd hP (by omega) hc1) 0 rfl rfl 3 (by decide) (hT _ w62) (fun _ h9 => h9) rfl dR_cut_38 ?_
  refine lv_if_ne (tgt := 48) hx hb dR_cut_41 rfl (fun h3 => absurd hik0 h3) (fun _ => ?_)
  refine lv_iconst (v := 1) hx hb dR_cut_44 (by decide) ?_
  refine lv_goto (tgt := 49) hx hb dR_cut_45 rfl ?_
  refine ro_v (va_Run.run (va_runS (As := [.int 1]) (rest := []) ⟨hx, hb, hml, hown, hT⟩ (k_demandState_ok l D cT 1 (by decide)) ⟨callB_of 1 hT (tb_gd w586) rfl rfl rfl (hT _ w1) (hT _ w584) hR_demandState ⟨Nat.le_of_ble_eq_true rfl, Nat.le_of_ble_eq_true rfl⟩, (hT _ w585)⟩ (RO.preS hZ hS ((show va_P D vwCl [] _ from fun _ _ h => nomatch h)) hK) rfl rfl hl.1 rfl (lv_room (Nat.le_of_ble_eq_true rfl)) dR_cut_49 ⟨Nat.le_of_ble_eq_true rfl, Nat.le_of_ble_eq_true rfl⟩)) ?_
  refine lv_aload_n hx hb dR_cut_52 rfl (lv_at hl 0 rfl) ?_
  refine va_get (D := D) (ci := 0) (v := .ref (ad 1)) (C := R_R) (T := T_R) (N := 13) hx hb hT in_R hown hK (pg_1 (x := 0) hcd hP (by decide) hob) 0 rfl rfl 0 (by decide) (hT _ w324) (fun _ h9 => h9) rfl dR_cut_53 ?_
  refine va_get (D := D) (ci := 2) (v := .ref (ad 2)) (C := R_T) (T := T_T) (N := 4) hx hb hT in_T hown hK (pg_1 (x := 1) hcd hP (by decide) htb) 0 rfl rfl 0 (by decide) (hT _ w74) (fun _ h9 => h9) rfl dR_cut_56 ?_
  refine lv_iload_n hx hb dR_cut_59 rfl (lv_at hl 1 rfl) ?_
  refine al_q (q := ad (10 + c0)) hx hb hK (pg_1 (x := 2) hcd hP (by decide) hca) 0 5 rfl rfl (vp_in_nI (by omega) (by decide)) (by rw [nI_clamp (by omega)]; exact hcb c0 hc6) dR_cut_60 ?_
  refine lv_aload_n hx hb dR_cut_61 rfl (lv_at hl 0 rfl) ?_
  refine va_get (D := D) (ci := 0) (v := .ref (ad 48)) (C := R_R) (T := T_R) (N := 13) hx hb hT in_R hown hK (pg_1 (x := 0) hcd hP (by decide) hob) 0 rfl rfl 7 (by decide) (hT _ w331) (fun _ h9 => h9) rfl dR_cut_62 ?_
  refine lv_aload_n hx hb dR_cut_65 rfl (lv_at hl 0 rfl) ?_
  refine va_get (D := D) (ci := 0) (v := .ref (ad 1)) (C := R_R) (T := T_R) (N := 13) hx hb hT in_R hown hK (pg_1 (x := 0) hcd hP (by decide) hob) 0 rfl rfl 0 (by decide) (hT _ w324) (fun _ h9 => h9) rfl dR_cut_66 ?_
  refine va_get (D := D) (ci := 2) (v := .int rw9) (C := R_T) (T := T_T) (N := 4) hx hb hT in_T hown hK (pg_1 (x := 1) hcd hP (by decide) htb) 0 rfl rfl 3 (by decide) (hT _ w82) (fun _ h9 => h9) rfl dR_cut_69 ?_
  refine lv_topi (fun y9 e9 => ?_)
  cases (show y9 = nI n from e9.trans hrn)
  have hB9 : QI gg [(10 + c0, .inr (1, [.ref (ad (20 + c0)), .ref (ad (30 + c0)), .int (nI (ne c0)), .int (ik c0)])), (20 + c0, .inl (cT 0, 49, .inl fv)), (48, .inl (cT 0, 48, .inl sa))] := (qi_c (by omega) hc1 (qi_c (by omega) hc2 (qi_c (by decide) hso qi_0)))
  have hN9 := (show NDc [10 + c0, 20 + c0, 48] from (nd_c (na_c (by omega) (na_c (by omega) na_0)) (nd_c (na_c (by omega) na_0) (nd_c na_0 nd_0))))
  have hP := bo_P (wc := [(10 + c0, .inr (1, [.ref (ad (20 + c0)), .ref (ad (30 + c0)), .int (nI (ne c0)), .int (ik c0)])), (20 + c0, .inl (cT 0, 49, .inl fv)), (48, .inl (cT 0, 48, .inl sa))]) (X := []) hcd hN9 hB9 hP
  have hD := bo_D (wc := [(10 + c0, .inr (1, [.ref (ad (20 + c0)), .ref (ad (30 + c0)), .int (nI (ne c0)), .int (ik c0)])), (20 + c0, .inl (cT 0, 49, .inl fv)), (48, .inl (cT 0, 48, .inl sa))]) (X := []) hcd hN9 hB9 hD
  have hP : va_P D vwCl ([(ad (10 + c0), .inr (1, [.ref (ad (20 + c0)), .ref (ad (30 + c0)), .int (nI (ne c0)), .int (ik c0)])), (ad (20 + c0), .inl (cT 0, 49, .inl fv)), (ad 48, .inl (cT 0, 48, .inl sa))] ++ pg cds ad (upo gg [10 + c0, 20 + c0, 48])) _ := hP
  have hD : va_D A ([(ad (10 + c0), .inr (1, [.ref (ad (20 + c0)), .ref (ad (30 + c0)), .int (nI (ne c0)), .int (ik c0)])), (ad (20 + c0), .inl (cT 0, 49, .inl fv)), (ad 48, .inl (cT 0, 48, .inl sa))] ++ pg cds ad (upo gg [10 + c0, 20 + c0, 48])) := hD
  refine hy_iQ (X := [(ad (10 + c0), .inr (1, [.ref (ad (20 + c0)), .ref (ad (30 + c0)), .int (nI (ne c0)), .int (ik c0)])), (ad (20 + c0), .inl (cT 0, 49, .inl fv)), (ad 48, .inl (cT 0, 48, .inl sa))]) (pl := pg cds ad (upo gg [10 + c0, 20 + c0, 48])) (cx := [(ad (10 + c0), .inr (1, [.ref (ad (20 + c0)), .ref (ad (30 + c0)), .int (nI (ne c0)), .int (ik c0)])), (ad (20 + c0), .inl (cT 0, 49, .inl fv)), (ad 48, .inl (cT 0, 48, .inl sa))]) (wr := []) hP hD hS hA [0, 1, 2] [] rfl rfl (by decide) (by decide) (va_runV (As := [.ref (ad 48), .int (nI n)]) (rest := []) ⟨hx, hb, hml, hown, hT⟩ (k_sortInto l D cT (ad (10 + c0)) (ad (20 + c0)) (ad (30 + c0)) (nI (ne c0)) (ik c0) fv (ad 48) sa vv c0 n hn48 hcv _) ⟨callB_of 2 hT (tb_gd w666) rfl rfl rfl (hT _ w3) (hT _ w663) hC_sortInto ⟨Nat.le_of_ble_eq_true rfl, Nat.le_of_ble_eq_true rfl⟩, (hT _ w664), (hT _ w665)⟩ (RW.preV (ci := 1) (q0 := 0) hZ hS (hy_free (cx := [(ad (10 + c0), .inr (1, [.ref (ad (20 + c0)), .ref (ad (30 + c0)), .int (nI (ne c0)), .int (ik c0)])), (ad (20 + c0), .inl (cT 0, 49, .inl fv)), (ad 48, .inl (cT 0, 48, .inl sa))]) hD hS hA [0, 1, 2] rfl) (hP.sub (ws' := [(ad (10 + c0), .inr (1, [.ref (ad (20 + c0)), .ref (ad (30 + c0)), .int (nI (ne c0)), .int (ik c0)])), (ad (20 + c0), .inl (cT 0, 49, .inl fv)), (ad 48, .inl (cT 0, 48, .inl sa))]) [0, 1, 2] rfl) hK (hD.sub (ws' := [(ad (10 + c0), .inr (1, [.ref (ad (20 + c0)), .ref (ad (30 + c0)), .int (nI (ne c0)), .int (ik c0)])), (ad (20 + c0), .inl (cT 0, 49, .inl fv)), (ad 48, .inl (cT 0, 48, .inl sa))]) [0, 1, 2] (by decide) rfl) rfl rfl) rfl rfl hl.1 rfl (lv_room (Nat.le_of_ble_eq_true rfl)) dR_cut_72 ⟨Nat.le_of_ble_eq_true rfl, Nat.le_of_ble_eq_true rfl⟩) (fun ru4 u9 H locs hpu4 hP hD hS => ?_)
  obtain ⟨a7u4, m7u4⟩ := u9
  have hpu4 : ru4 = nI m7u4 ∧ SIV vv c0 n a7u4 m7u4 := hpu4
  have hP : va_P D vwCl ([(ad (10 + c0), .inr (1, [.ref (ad (20 + c0)), .ref (ad (30 + c0)), .int (nI (ne c0)), .int (ik c0)])), (ad (20 + c0), .inl (cT 0, 49, .inl fv)), (ad 48, .inl (cT 0, 48, .inl a7u4))] ++ pg cds ad (upo gg [10 + c0, 20 + c0, 48])) _ := hP
  have hD : va_D A ([(ad (10 + c0), .inr (1, [.ref (ad (20 + c0)), .ref (ad (30 + c0)), .int (nI (ne c0)), .int (ik c0)])), (ad (20 + c0), .inl (cT 0, 49, .inl fv)), (ad 48, .inl (cT 0, 48, .inl a7u4))] ++ pg cds ad (upo gg [10 + c0, 20 + c0, 48])) := hD
  obtain ⟨kr, ksv⟩ := hpu4
  refine lv_topi (fun y9 e9 => ?_)
  cases (show y9 = nI m7u4 from e9.trans kr)
  have hN9 := (show NDc [10 + c0, 20 + c0, 48] from (nd_c (na_c (by omega) (na_c (by omega) na_0)) (nd_c (na_c (by omega) na_0) (nd_c na_0 nd_0))))
  have hP := gb_P (w9 := [(10 + c0, .inr (1, [.ref (ad (20 + c0)), .ref (ad (30 + c0)), .int (nI (ne c0)), .int (ik c0)])), (20 + c0, .inl (cT 0, 49, .inl fv)), (48, .inl (cT 0, 48, .inl a7u4))]) (X := []) (g := gg) hcd hN9 (show QB [(10 + c0, .inr (1, [.ref (ad (20 + c0)), .ref (ad (30 + c0)), .int (nI (ne c0)), .int (ik c0)])), (20 + c0, .inl (cT 0, 49, .inl fv)), (48, .inl (cT 0, 48, .inl a7u4))] from (qb_c (by omega) (qb_c (by omega) (qb_c (by decide) qb_0)))) (hP.part (cx := [(ad (10 + c0), .inr (1, [.ref (ad (20 + c0)), .ref (ad (30 + c0)), .int (nI (ne c0)), .int (ik c0)])), (ad (20 + c0), .inl (cT 0, 49, .inl fv)), (ad 48, .inl (cT 0, 48, .inl a7u4))]) [0, 1, 2] rfl)
  have hD := gb_D (w9 := [(10 + c0, .inr (1, [.ref (ad (20 + c0)), .ref (ad (30 + c0)), .int (nI (ne c0)), .int (ik c0)])), (20 + c0, .inl (cT 0, 49, .inl fv)), (48, .inl (cT 0, 48, .inl a7u4))]) (X := []) (g := gg) hcd hN9 (show QB [(10 + c0, .inr (1, [.ref (ad (20 + c0)), .ref (ad (30 + c0)), .int (nI (ne c0)), .int (ik c0)])), (20 + c0, .inl (cT 0, 49, .inl fv)), (48, .inl (cT 0, 48, .inl a7u4))] from (qb_c (by omega) (qb_c (by omega) (qb_c (by decide) qb_0)))) (hD.part (cx := [(ad (10 + c0), .inr (1, [.ref (ad (20 + c0)), .ref (ad (30 + c0)), .int (nI (ne c0)), .int (ik c0)])), (ad (20 + c0), .inl (cT 0, 49, .inl fv)), (ad 48, .inl (cT 0, 48, .inl a7u4))]) [0, 1, 2] (by decide) rfl)
  obtain ⟨g1, hg1⟩ : ∃ q9, q9 = ups gg [(10 + c0, .inr (1, [.ref (ad (20 + c0)), .ref (ad (30 + c0)), .int (nI (ne c0)), .int (ik c0)])), (20 + c0, .inl (cT 0, 49, .inl fv)), (48, .inl (cT 0, 48, .inl a7u4))] := ⟨_, rfl⟩
  rw [← hg1] at hP hD
  have hP : va_P D vwCl ([] ++ pg cds ad g1) _ := hP
  have hD : va_D A ([] ++ pg cds ad g1) := hD
  have fg1 : ∀ z8, z8 ≠ 48 → g1 z8 = gg z8 := fun z8 z3 => by rw [hg1]; exact ups_k (kp_s hc1 (kp_s hc2 (kp_n z3 kp_0)))
  have g1_2 : g1 48 = some (.inl (cT 0, 48, .inl a7u4)) := by rw [hg1]; exact ups_3 (by omega) (by omega)
  have hm9 := siv_le ksv
  refine lv_istore hx hb dR_cut_75 hl (by decide) rfl (fun ls hl => ?_)
  have hl : lv_has ls 5 [(4, .int (nI m7u4)), (0, .ref (ad 0)), (1, .int (nI c0)), (2, .int bc), (3, .int (nI nn))] := hl
  refine lv_aload_n hx hb dR_cut_77 rfl (lv_at hl 1 rfl) ?_
  refine va_get (D := D) (ci := 0) (v := .ref (ad 1)) (C := R_R) (T := T_R) (N := 13) hx hb hT in_R hown hK (pg_1 (x := 0) hcd hP (by decide) ((fg1 _ (by decide)).trans hob)) 0 rfl rfl 0 (by decide) (hT _ w324) (fun _ h9 => h9) rfl dR_cut_78 ?_
  refine va_get (D := D) (ci := 2) (v := .ref (ad 2)) (C := R_T) (T := T_T) (N := 4) hx hb hT in_T hown hK (pg_1 (x := 1) hcd hP (by decide) ((fg1 _ (by decide)).trans htb)) 0 rfl rfl 0 (by decide) (hT _ w74) (fun _ h9 => h9) rfl dR_cut_81 ?_
  refine lv_iload_n hx hb dR_cut_84 rfl (lv_at hl 2 rfl) ?_
  refine al_q (q := ad (10 + c0)) hx hb hK (pg_1 (x := 2) hcd hP (by decide) ((fg1 _ (by decide)).trans hca)) 0 5 rfl rfl (vp_in_nI (by omega) (by decide)) (by rw [nI_clamp (by omega)]; exact hcb c0 hc6) dR_cut_85 ?_
  refine lv_iload_n hx hb dR_cut_86 rfl (lv_at hl 3 rfl) ?_
  refine lv_iload_n hx hb dR_cut_87 rfl (lv_at hl 4 rfl) ?_
  refine lv_aload_n hx hb dR_cut_88 rfl (lv_at hl 1 rfl) ?_
  refine va_get (D := D) (ci := 0) (v := .ref (ad 48)) (C := R_R) (T := T_R) (N := 13) hx hb hT in_R hown hK (pg_1 (x := 0) hcd hP (by decide) ((fg1 _ (by decide)).trans hob)) 0 rfl rfl 7 (by decide) (hT _ w331) (fun _ h9 => h9) rfl dR_cut_89 ?_
  refine lv_iload hx hb dR_cut_92 (lv_at hl 0 rfl) ?_
  have hB9 : QI g1 [(10 + c0, .inr (1, [.ref (ad (20 + c0)), .ref (ad (30 + c0)), .int (nI (ne c0)), .int (ik c0)])), (30 + c0, .inl (cT 0, 11, .inl fe)), (48, .inl (cT 0, 48, .inl a7u4))] := (qi_c (by omega) ((fg1 _ (by omega)).trans hc1) (qi_c (by omega) ((fg1 _ (by omega)).trans hc3) (qi_c (by decide) g1_2 qi_0)))
  have hN9 := (show NDc [10 + c0, 30 + c0, 48] from (nd_c (na_c (by omega) (na_c (by omega) na_0)) (nd_c (na_c (by omega) na_0) (nd_c na_0 nd_0))))
  have hP := bo_P (wc := [(10 + c0, .inr (1, [.ref (ad (20 + c0)), .ref (ad (30 + c0)), .int (nI (ne c0)), .int (ik c0)])), (30 + c0, .inl (cT 0, 11, .inl fe)), (48, .inl (cT 0, 48, .inl a7u4))]) (X := []) hcd hN9 hB9 hP
  have hD := bo_D (wc := [(10 + c0, .inr (1, [.ref (ad (20 + c0)), .ref (ad (30 + c0)), .int (nI (ne c0)), .int (ik c0)])), (30 + c0, .inl (cT 0, 11, .inl fe)), (48, .inl (cT 0, 48, .inl a7u4))]) (X := []) hcd hN9 hB9 hD
  have hP : va_P D vwCl ([(ad (10 + c0), .inr (1, [.ref (ad (20 + c0)), .ref (ad (30 + c0)), .int (nI (ne c0)), .int (ik c0)])), (ad (30 + c0), .inl (cT 0, 11, .inl fe)), (ad 48, .inl (cT 0, 48, .inl a7u4))] ++ pg cds ad (upo g1 [10 + c0, 30 + c0, 48])) _ := hP
  have hD : va_D A ([(ad (10 + c0), .inr (1, [.ref (ad (20 + c0)), .ref (ad (30 + c0)), .int (nI (ne c0)), .int (ik c0)])), (ad (30 + c0), .inl (cT 0, 11, .inl fe)), (ad 48, .inl (cT 0, 48, .inl a7u4))] ++ pg cds ad (upo g1 [10 + c0, 30 + c0, 48])) := hD
  refine hy_iQ (X := [(ad (10 + c0), .inr (1, [.ref (ad (20 + c0)), .ref (ad (30 + c0)), .int (nI (ne c0)), .int (ik c0)])), (ad (30 + c0), .inl (cT 0, 11, .inl fe)), (ad 48, .inl (cT 0, 48, .inl a7u4))]) (pl := pg cds ad (upo g1 [10 + c0, 30 + c0, 48])) (cx := [(ad (10 + c0), .inr (1, [.ref (ad (20 + c0)), .ref (ad (30 + c0)), .int (nI (ne c0)), .int (ik c0)])), (ad (30 + c0), .inl (cT 0, 11, .inl fe)), (ad 48, .inl (cT 0, 48, .inl a7u4))]) (wr := []) hP hD hS hA [0, 1, 2] [] rfl rfl (by decide) (by decide) (va_runV (As := [.int bc, .int (nI nn), .ref (ad 48), .int (nI m7u4)]) (rest := []) ⟨hx, hb, hml, hown, hT⟩ (k_cutEdges l D cT (ad (10 + c0)) (ad (20 + c0)) (ad (30 + c0)) (nI (ne c0)) (ik c0) fe (ad 48) a7u4 vv eg c0 n nn m7u4 bc ksv (by omega) hnn2 (fun h0 => (siv_bd ksv hVb h0).1) (fun h0 => (siv_bd ksv hVb (by omega)).2) _) ⟨callB_of 4 hT (tb_gd w670) rfl rfl rfl (hT _ w3) (hT _ w667) hC_cutEdges ⟨Nat.le_of_ble_eq_true rfl, Nat.le_of_ble_eq_true rfl⟩, (hT _ w668), (hT _ w669)⟩ (RW.preV (ci := 1) (q0 := 0) hZ hS (hy_free (cx := [(ad (10 + c0), .inr (1, [.ref (ad (20 + c0)), .ref (ad (30 + c0)), .int (nI (ne c0)), .int (ik c0)])), (ad (30 + c0), .inl (cT 0, 11, .inl fe)), (ad 48, .inl (cT 0, 48, .inl a7u4))]) hD hS hA [0, 1, 2] rfl) (hP.sub (ws' := [(ad (10 + c0), .inr (1, [.ref (ad (20 + c0)), .ref (ad (30 + c0)), .int (nI (ne c0)), .int (ik c0)])), (ad (30 + c0), .inl (cT 0, 11, .inl fe)), (ad 48, .inl (cT 0, 48, .inl a7u4))]) [0, 1, 2] rfl) hK (hD.sub (ws' := [(ad (10 + c0), .inr (1, [.ref (ad (20 + c0)), .ref (ad (30 + c0)), .int (nI (ne c0)), .int (ik c0)])), (ad (30 + c0), .inl (cT 0, 11, .inl fe)), (ad 48, .inl (cT 0, 48, .inl a7u4))]) [0, 1, 2] (by decide) rfl) rfl rfl) rfl rfl hl.1 rfl (lv_room (Nat.le_of_ble_eq_true rfl)) dR_cut_94 ⟨Nat.le_of_ble_eq_true rfl, Nat.le_of_ble_eq_true rfl⟩) (fun ru5 u9 H locs hpu5 hP hD hS => ?_)
  obtain ⟨m7u5, e7u5⟩ := u9
  have hpu5 : ru5 = nI m7u5 ∧ CUR bc vv c0 n nn eg m7u5 e7u5 := hpu5
  have hP : va_P D vwCl ([(ad (10 + c0), .inr (1, [.ref (ad (20 + c0)), .ref (ad (30 + c0)), .int (nI m7u5), .int (ik c0)])), (ad (30 + c0), .inl (cT 0, 11, .inl e7u5)), (ad 48, .inl (cT 0, 48, .inl a7u4))] ++ pg cds ad (upo g1 [10 + c0, 30 + c0, 48])) _ := hP
  have hD : va_D A ([(ad (10 + c0), .inr (1, [.ref (ad (20 + c0)), .ref (ad (30 + c0)), .int (nI m7u5), .int (ik c0)])), (ad (30 + c0), .inl (cT 0, 11, .inl e7u5)), (ad 48, .inl (cT 0, 48, .inl a7u4))] ++ pg cds ad (upo g1 [10 + c0, 30 + c0, 48])) := hD
  obtain ⟨p1, p2⟩ := hpu5
  have hN9 := (show NDc [10 + c0, 30 + c0, 48] from (nd_c (na_c (by omega) (na_c (by omega) na_0)) (nd_c (na_c (by omega) na_0) (nd_c na_0 nd_0))))
  have hP := gb_P (w9 := [(10 + c0, .inr (1, [.ref (ad (20 + c0)), .ref (ad (30 + c0)), .int (nI m7u5), .int (ik c0)])), (30 + c0, .inl (cT 0, 11, .inl e7u5)), (48, .inl (cT 0, 48, .inl a7u4))]) (X := []) (g := g1) hcd hN9 (show QB [(10 + c0, .inr (1, [.ref (ad (20 + c0)), .ref (ad (30 + c0)), .int (nI m7u5), .int (ik c0)])), (30 + c0, .inl (cT 0, 11, .inl e7u5)), (48, .inl (cT 0, 48, .inl a7u4))] from (qb_c (by omega) (qb_c (by omega) (qb_c (by decide) qb_0)))) (hP.part (cx := [(ad (10 + c0), .inr (1, [.ref (ad (20 + c0)), .ref (ad (30 + c0)), .int (nI m7u5), .int (ik c0)])), (ad (30 + c0), .inl (cT 0, 11, .inl e7u5)), (ad 48, .inl (cT 0, 48, .inl a7u4))]) [0, 1, 2] rfl)
  have hD := gb_D (w9 := [(10 + c0, .inr (1, [.ref (ad (20 + c0)), .ref (ad (30 + c0)), .int (nI m7u5), .int (ik c0)])), (30 + c0, .inl (cT 0, 11, .inl e7u5)), (48, .inl (cT 0, 48, .inl a7u4))]) (X := []) (g := g1) hcd hN9 (show QB [(10 + c0, .inr (1, [.ref (ad (20 + c0)), .ref (ad (30 + c0)), .int (nI m7u5), .int (ik c0)])), (30 + c0, .inl (cT 0, 11, .inl e7u5)), (48, .inl (cT 0, 48, .inl a7u4))] from (qb_c (by omega) (qb_c (by omega) (qb_c (by decide) qb_0)))) (hD.part (cx := [(ad (10 + c0), .inr (1, [.ref (ad (20 + c0)), .ref (ad (30 + c0)), .int (nI m7u5), .int (ik c0)])), (ad (30 + c0), .inl (cT 0, 11, .inl e7u5)), (ad 48, .inl (cT 0, 48, .inl a7u4))]) [0, 1, 2] (by decide) rfl)
  obtain ⟨g2, hg2⟩ : ∃ q9, q9 = ups g1 [(10 + c0, .inr (1, [.ref (ad (20 + c0)), .ref (ad (30 + c0)), .int (nI m7u5), .int (ik c0)])), (30 + c0, .inl (cT 0, 11, .inl e7u5)), (48, .inl (cT 0, 48, .inl a7u4))] := ⟨_, rfl⟩
  rw [← hg2] at hP hD
  have hP : va_P D vwCl ([] ++ pg cds ad g2) _ := hP
  have hD : va_D A ([] ++ pg cds ad g2) := hD
  have fg2 : ∀ z8, z8 ≠ 10 + c0 → z8 ≠ 30 + c0 → g2 z8 = g1 z8 := fun z8 z1 z2 => by rw [hg2]; exact ups_k (kp_n z1 (kp_n z2 (kp_s g1_2 kp_0)))
  have g2_0 : g2 (10 + c0) = some (.inr (1, [.ref (ad (20 + c0)), .ref (ad (30 + c0)), .int (nI m7u5), .int (ik c0)])) := by rw [hg2]; exact ups_1
  have g2_1 : g2 (30 + c0) = some (.inl (cT 0, 11, .inl e7u5)) := by rw [hg2]; exact ups_2 (by omega)
  have hP9 : va_P D vwCl ([] ++ pg cds ad g2) _ := hP.part (cx := []) [] rfl
  have hD9 : va_D A ([] ++ pg cds ad g2) := hD.part (cx := []) [] (by decide) rfl
  refine W.widen (k := 0) (n := 0) (Nat.le_of_ble_eq_true rfl) (Nat.le_of_ble_eq_true rfl) ?_
  exact W.iret (v := ru5) hx hb hr (fun t9 ht9 hW9 => ⟨⟨ru5, g2, rfl, (show ru5 = nI (cutF bc vv c0 n nn eg).1 ∧ (∀ z8, (z8 < 10 ∨ 40 ≤ z8) → z8 ≠ 48 → g2 z8 = gg z8) ∧ (∃ sa7 : Nat → Int32, g2 48 = some (eA (cT 0) 48 sa7)) ∧ COLF cT ad g2 n vv vq (cutF bc vv c0 n nn eg).2 ik (va_up ne c0 (cutF bc vv c0 n nn eg).1) ∧ RIS (cutF bc vv c0 n nn eg).2 (11 * c0) (cutF bc vv c0 n nn eg).1 ∧ (cutF bc vv c0 n nn eg).1 ≤ 11 from ⟨p1.trans (congrArg nI p2.2.1), fun z8 n1 n2 => (fg2 z8 (by omega) (by omega)).trans (fg1 z8 n2), ⟨_, (fg2 48 (by omega) (by omega)).trans g1_2⟩, colf_cut hCf0 (fun x q1 q2 q3 => (fg2 x q1 q2).trans (fg1 x q3)) hc6 hne hnn2.2 ⟨hc1, hc2, hc3⟩ hcv hcq p2 g2_0 g2_1, cur_ris p2, (by rw [← p2.2.1]; exact p2.1)⟩), by rw [ht9]; exact hP9, hD9⟩, hS.F ht9⟩) hS.2.2 dR_cut_97
set_option maxHeartbeats 4000000 in
set_option maxRecDepth 100000 in
theorem k_cut_no1 (l : Launch) (D : va_G) (cT : Nat → ClassId) (cds : List Nat) (ad : Nat → Nat) (gg : Nat → Option va_E) (tc : Int32) (wd9 : Int32) (rw9 : Int32) (a1 : Int32) (a2 : Int32) (a3 : Int32) (hlt : l.stackTraces = false) (hcd : CD cds) (hob : gg 0 = some (eOB ad tc)) (htb : gg 1 = some (eTB ad wd9 rw9)) (hq : ¬ ((0 ≤ a1 ∧ a1 ≤ wd9 - 1) ∧ (2 ≤ a3 ∧ a3 ≤ 12))) : MetT l yR_cut WR_cut ({ frames := 7, cells := 1, slots := 6, locals := 111 } : Room) (RO D vwCl [.ref (ad 0), .int a1, .int a2, .int a3] ([] ++ pg cds ad gg) (TY cT)) "java/lang/IllegalArgumentException" 1 6 := by
  refine MetT.ofW (cc := cR_cut) (maxL := 5) (ret := (some .int)) (by decide) rfl ?_
  intro p e s m args below meth c s₁ B hml hno hv
  obtain ⟨rfl, hZ, hP, hK⟩ := hv
  have hx := B.exec
  have hb := B.bytes
  have hr := B.returns
  have hts := atoms_spec (ws := WR_cut) B.pre
  have hT : ∀ w ∈ TB, w.before _ s = true := fun w h => hts w (List.mem_cons_of_mem _ h)
  have hown : s.vm.findClass R_R = some m.cls := findClass_of_methodNamed B.named
  have hlocks := B.notSynchronized
  have hS : va_S (fun _ => False) s.heap s.heap [] := va_S.rf
  have hl := lv_entry ([.ref (ad 0), .int a1, .int a2, .int a3]) (n := 5) (Nat.le_of_ble_eq_true rfl)
  rw [lg_entry_eq]
  generalize (lg_sl ([.ref (ad 0), .int a1, .int a2, .int a3]) ++ List.replicate (5 - (lg_sl ([.ref (ad 0), .int a1, .int a2, .int a3])).length) Slot.unset).toArray = ls at hl ⊢
  have hl : lv_has ls 5 [(0, .ref (ad 0)), (1, .int a1), (2, .int a2), (3, .int a3)] := hl
  refine lv_aload_n hx hb dR_cut_0 rfl (lv_at hl 0 rfl) ?_
  refine va_get (D := D) (ci := 0) (v := .ref (ad 1)) (C := R_R) (T := T_R) (N := 13) hx hb hT in_R hown hK (pg_1 (x := 0) hcd hP (by decide) hob) 0 rfl rfl 0 (by decide) (hT _ w324) (fun _ h9 => h9) rfl dR_cut_1 ?_
  refine lv_iload_n hx hb dR_cut_4 rfl (lv_at hl 1 rfl) ?_
  refine ro_i (va_Run.run (va_runV (As := [.int a1]) (rest := []) ⟨hx, hb, hml, hown, hT⟩ (k_hasColumn l D cT (ad 1) (ad 2) (ad 3) wd9 rw9 a1) ⟨callB_of 1 hT (tb_gd w621) rfl rfl rfl (hT _ w2) (hT _ w618) hT_hasColumn ⟨Nat.le_of_ble_eq_true rfl, Nat.le_of_ble_eq_true rfl⟩, (hT _ w619), (hT _ w620)⟩ (RO.preV (ci := 2) (q0 := 0) hZ hS ((show va_P D vwCl [(ad 1, .inr (2, [.ref (ad 2), .ref (ad 3), .int wd9, .int rw9]))] _ from (pv_c (pg_1 (x := 1) hcd hP (by decide) htb) pv_0))) hK rfl rfl) rfl rfl hl.1 rfl (lv_room (Nat.le_of_ble_eq_true rfl)) dR_cut_5 ⟨Nat.le_of_ble_eq_true rfl, Nat.le_of_ble_eq_true rfl⟩)) ?_
  refine lv_if_eq (tgt := 25) hx hb dR_cut_8 rfl (fun h1 => ?_) (fun h1 => ?_)
  · refine lv_iconst (v := 0) hx hb dR_cut_25 (by decide) ?_
    exact tx_out (tx_goS (As := [.int 0]) (rest := []) ⟨hx, hb, hml, hown, hT⟩ (k_demand_no l D cT 0 hlt rfl) ⟨callB_of 1 hT (tb_gd w510) rfl rfl rfl (hT _ w1) (hT _ w508) hR_demand ⟨Nat.le_of_ble_eq_true rfl, Nat.le_of_ble_eq_true rfl⟩, (hT _ w509)⟩ (RO.preS hZ hS ((show va_P D vwCl [] _ from fun _ _ h => nomatch h)) hK) rfl hl.1 rfl (Nat.le_of_ble_eq_true rfl) dR_cut_26 ⟨Nat.le_of_ble_eq_true rfl, Nat.le_of_ble_eq_true rfl⟩) hno hlocks
  · refine lv_iload_n hx hb dR_cut_11 rfl (lv_at hl 3 rfl) ?_
    refine lv_iconst (v := 2) hx hb dR_cut_12 (by decide) ?_
    refine lv_bipush (v := 12) hx hb dR_cut_13 (by decide) ?_
    refine ro_i (va_Run.run (va_runS (As := [.int a3, .int 2, .int 12]) (rest := []) ⟨hx, hb, hml, hown, hT⟩ (k_isWithin l D cT a3 2 12) ⟨callB_of 3 hT (tb_gd w499) rfl rfl rfl (hT _ w1) (hT _ w497) hR_isWithin ⟨Nat.le_of_ble_eq_true rfl, Nat.le_of_ble_eq_true rfl⟩, (hT _ w498)⟩ (RO.preS hZ hS ((show va_P D vwCl [] _ from fun _ _ h => nomatch h)) hK) rfl rfl hl.1 rfl (lv_room (Nat.le_of_ble_eq_true rfl)) dR_cut_15 ⟨Nat.le_of_ble_eq_true rfl, Nat.le_of_ble_eq_true rfl⟩)) ?_
    refine lv_if_eq (tgt := 25) hx hb dR_cut_18 rfl (fun h2 => ?_) (fun h2 => ?_)
    · refine lv_iconst (v := 0) hx hb dR_cut_25 (by decide) ?_
      exact tx_out (tx_goS (As := [.int 0]) (rest := []) ⟨hx, hb, hml, hown, hT⟩ (k_demand_no l D cT 0 hlt rfl) ⟨callB_of 1 hT (tb_gd w510) rfl rfl rfl (hT _ w1) (hT _ w508) hR_demand ⟨Nat.le_of_ble_eq_true rfl, Nat.le_of_ble_eq_true rfl⟩, (hT _ w509)⟩ (RO.preS hZ hS ((show va_P D vwCl [] _ from fun _ _ h => nomatch h)) hK) rfl hl.1 rfl (Nat.le_of_ble_eq_true rfl) dR_cut_26 ⟨Nat.le_of_ble_eq_true rfl, Nat.le_of_ble_eq_true rfl⟩) hno hlocks
    · refine lv_iconst (v := 1) hx hb dR_cut_21 (by decide) ?_
      refine lv_goto (tgt := 26) hx hb dR_cut_22 rfl ?_
      exact absurd ⟨(bi_1 h1), (bi_1 h2)⟩ hq
set_option maxHeartbeats 4000000 in
set_option maxRecDepth 100000 in
theorem k_cut_no2 (l : Launch) (D : va_G) (cT : Nat → ClassId) (cds : List Nat) (ad : Nat → Nat) (gg : Nat → Option va_E) (tc : Int32) (wd9 : Int32) (rw9 : Int32) (n : Nat) (vv : Nat → Int32) (vq : Nat → Int32) (eg : Nat → Int32) (ik : Nat → Int32) (ne : Nat → Nat) (c0 : Nat) (a2 : Int32) (a3 : Int32) (hlt : l.stackTraces = false) (hcd : CD cds) (hob : gg 0 = some (eOB ad tc)) (htb : gg 1 = some (eTB ad wd9 rw9)) (hCa : CAp cT ad gg) (hCf : COLF cT ad gg n vv vq eg ik ne) (hc0 : 0 ≤ nI c0 ∧ nI c0 ≤ wd9 - 1) (hc6 : c0 < 6) (hnn : 2 ≤ a3 ∧ a3 ≤ 12) (hik0 : ¬ ik c0 = 0) : MetT l yR_cut WR_cut ({ frames := 7, cells := 1, slots := 6, locals := 111 } : Room) (RO D vwCl [.ref (ad 0), .int (nI c0), .int a2, .int a3] ([] ++ pg cds ad gg) (TY cT)) "java/lang/IllegalStateException" 1 6 := by
  refine MetT.ofW (cc := cR_cut) (maxL := 5) (ret := (some .int)) (by decide) rfl ?_
  intro p e s m args below meth c s₁ B hml hno hv
  obtain ⟨rfl, hZ, hP, hK⟩ := hv
  have hx := B.exec
  have hb := B.bytes
  have hr := B.returns
  have hts := atoms_spec (ws := WR_cut) B.pre
  have hT : ∀ w ∈ TB, w.before _ s = true := fun w h => hts w (List.mem_cons_of_mem _ h)
  have hown : s.vm.findClass R_R = some m.cls := findClass_of_methodNamed B.named
  have hlocks := B.notSynchronized
  have hS : va_S (fun _ => False) s.heap s.heap [] := va_S.rf
  have hl := lv_entry ([.ref (ad 0), .int (nI c0), .int a2, .int a3]) (n := 5) (Nat.le_of_ble_eq_true rfl)
  rw [lg_entry_eq]
  generalize (lg_sl ([.ref (ad 0), .int (nI c0), .int a2, .int a3]) ++ List.replicate (5 - (lg_sl ([.ref (ad 0), .int (nI c0), .int a2, .int a3])).length) Slot.unset).toArray = ls at hl ⊢
  have hl : lv_has ls 5 [(0, .ref (ad 0)), (1, .int (nI c0)), (2, .int a2), (3, .int a3)] := hl
  obtain ⟨qf, hca, hcb⟩ := hCa
  obtain ⟨fv, fe, hce, hcv, hcq, hcg⟩ := hCf c0 hc6
  obtain ⟨hc1, hc2, hc3⟩ := hce
  refine lv_aload_n hx hb dR_cut_0 rfl (lv_at hl 0 rfl) ?_
  refine va_get (D := D) (ci := 0) (v := .ref (ad 1)) (C := R_R) (T := T_R) (N := 13) hx hb hT in_R hown hK (pg_1 (x := 0) hcd hP (by decide) hob) 0 rfl rfl 0 (by decide) (hT _ w324) (fun _ h9 => h9) rfl dR_cut_1 ?_
  refine lv_iload_n hx hb dR_cut_4 rfl (lv_at hl 1 rfl) ?_
  refine ro_i (va_Run.run (va_runV (As := [.int (nI c0)]) (rest := []) ⟨hx, hb, hml, hown, hT⟩ (k_hasColumn l D cT (ad 1) (ad 2) (ad 3) wd9 rw9 (nI c0)) ⟨callB_of 1 hT (tb_gd w621) rfl rfl rfl (hT _ w2) (hT _ w618) hT_hasColumn ⟨Nat.le_of_ble_eq_true rfl, Nat.le_of_ble_eq_true rfl⟩, (hT _ w619), (hT _ w620)⟩ (RO.preV (ci := 2) (q0 := 0) hZ hS ((show va_P D vwCl [(ad 1, .inr (2, [.ref (ad 2), .ref (ad 3), .int wd9, .int rw9]))] _ from (pv_c (pg_1 (x := 1) hcd hP (by decide) htb) pv_0))) hK rfl rfl) rfl rfl hl.1 rfl (lv_room (Nat.le_of_ble_eq_true rfl)) dR_cut_5 ⟨Nat.le_of_ble_eq_true rfl, Nat.le_of_ble_eq_true rfl⟩)) ?_
  refine lv_if_eq (tgt := 25) hx hb dR_cut_8 rfl (fun h1 => absurd h1 (by rw [bi_t hc0]; decide)) (fun _ => ?_)
  refine lv_iload_n hx hb dR_cut_11 rfl (lv_at hl 3 rfl) ?_
  refine lv_iconst (v := 2) hx hb dR_cut_12 (by decide) ?_
  refine lv_bipush (v := 12) hx hb dR_cut_13 (by decide) ?_
  refine ro_i (va_Run.run (va_runS (As := [.int a3, .int 2, .int 12]) (rest := []) ⟨hx, hb, hml, hown, hT⟩ (k_isWithin l D cT a3 2 12) ⟨callB_of 3 hT (tb_gd w499) rfl rfl rfl (hT _ w1) (hT _ w497) hR_isWithin ⟨Nat.le_of_ble_eq_true rfl, Nat.le_of_ble_eq_true rfl⟩, (hT _ w498)⟩ (RO.preS hZ hS ((show va_P D vwCl [] _ from fun _ _ h => nomatch h)) hK) rfl rfl hl.1 rfl (lv_room (Nat.le_of_ble_eq_true rfl)) dR_cut_15 ⟨Nat.le_of_ble_eq_true rfl, Nat.le_of_ble_eq_true rfl⟩)) ?_
  refine lv_if_eq (tgt := 25) hx hb dR_cut_18 rfl (fun h2 => absurd h2 (by rw [bi_t hnn]; decide)) (fun _ => ?_)
  refine lv_iconst (v := 1) hx hb dR_cut_21 (by decide) ?_
  refine lv_goto (tgt := 26) hx hb dR_cut_22 rfl ?_
  refine ro_v (va_Run.run (va_runS (As := [.int 1]) (rest := []) ⟨hx, hb, hml, hown, hT⟩ (k_demand_ok l D cT 1 (by decide)) ⟨callB_of 1 hT (tb_gd w510) rfl rfl rfl (hT _ w1) (hT _ w508) hR_demand ⟨Nat.le_of_ble_eq_true rfl, Nat.le_of_ble_eq_true rfl⟩, (hT _ w509)⟩ (RO.preS hZ hS ((show va_P D vwCl [] _ from fun _ _ h => nomatch h)) hK) rfl rfl hl.1 rfl (lv_room (Nat.le_of_ble_eq_true rfl)) dR_cut_26 ⟨Nat.le_of_ble_eq_true rfl, Nat.le_of_ble_eq_true rfl⟩)) ?_
  refine lv_aload_n hx hb dR_cut_29 rfl (lv_at hl 0 rfl) ?_
  refine va_get (D := D) (ci := 0) (v := .ref (ad 1)) (C := R_R) (T := T_R) (N := 13) hx hb hT in_R hown hK (pg_1 (x := 0) hcd hP (by decide) hob) 0 rfl rfl 0 (by decide) (hT _ w324) (fun _ h9 => h9) rfl dR_cut_30 ?_
  refine va_get (D := D) (ci := 2) (v := .ref (ad 2)) (C := R_T) (T := T_T) (N := 4) hx hb hT in_T hown hK (pg_1 (x := 1) hcd hP (by decide) htb) 0 rfl rfl 0 (by decide) (hT _ w74) (fun _ h9 => h9) rfl dR_cut_33 ?_
  refine lv_iload_n hx hb dR_cut_36 rfl (lv_at hl 1 rfl) ?_
  refine al_q (q := ad (10 + c0)) hx hb hK (pg_1 (x := 2) hcd hP (by decide) hca) 0 5 rfl rfl (vp_in_nI (by omega) (by decide)) (by rw [nI_clamp (by omega)]; exact hcb c0 hc6) dR_cut_37 ?_
  refine va_get (D := D) (ci := 1) (v := .int (ik c0)) (C := R_C) (T := T_C) (N := 4) hx hb hT in_C hown hK (pg_1 (x := 10 + c0) hcd hP (by omega) hc1) 0 rfl rfl 3 (by decide) (hT _ w62) (fun _ h9 => h9) rfl dR_cut_38 ?_
  refine lv_if_ne (tgt := 48) hx hb dR_cut_41 rfl (fun _ => ?_) (fun h3 => absurd h3 hik0)
  refine lv_iconst (v := 0) hx hb dR_cut_48 (by decide) ?_
  exact tx_out (tx_goS (As := [.int 0]) (rest := []) ⟨hx, hb, hml, hown, hT⟩ (k_demandState_no l D cT 0 hlt rfl) ⟨callB_of 1 hT (tb_gd w586) rfl rfl rfl (hT _ w1) (hT _ w584) hR_demandState ⟨Nat.le_of_ble_eq_true rfl, Nat.le_of_ble_eq_true rfl⟩, (hT _ w585)⟩ (RO.preS hZ hS ((show va_P D vwCl [] _ from fun _ _ h => nomatch h)) hK) rfl hl.1 rfl (Nat.le_of_ble_eq_true rfl) dR_cut_49 ⟨Nat.le_of_ble_eq_true rfl, Nat.le_of_ble_eq_true rfl⟩) hno hlocks
