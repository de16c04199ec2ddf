set_option maxHeartbeats 4000000 in
set_option maxRecDepth 100000 in
theorem k_kinds (l : Launch) (D : va_G) (cT : Nat → ClassId) (cds : List Nat) (ad : Nat → Nat) (gg : Nat → Option va_E) (tc : Int32) (wd9 : Int32) (rw9 : Int32) (n : Nat) (vv : Nat → Int32) (vq : Nat → Int32) (eg : Nat → Int32) (ik : Nat → Int32) (ne : Nat → Nat) (c0 : Nat) (isv : Int32) (hcd : CD cds) (hob : gg 0 = some (eOB ad tc)) (htb : gg 1 = some (eTB ad wd9 rw9)) (hrn : rw9 = nI n) (hn48 : n ≤ 48) (hCa : CAp cT ad gg) (hCf : COLF cT ad gg n vv vq eg ik ne) (hc0 : 0 ≤ nI c0 ∧ nI c0 ≤ wd9 - 1) (hc6 : c0 < 6) (hisv : isv = 0 ∨ isv = 1) (hne : ∀ c, c < 6 → ne c ≤ 11) (hik : ∀ c, c < 6 → ik c = 0 ∨ ik c = 1) (hk9 : isv = 0 ∨ kaB (fun r => vv (6 * r + c0)) n = true) (sz : Nat) : Met l yR_kinds WR_kinds ({ frames := 2, cells := 0, slots := 0, locals := 43 } : Room) (RW D vwCl [.ref (ad 0), .int (nI c0), .int isv] ([] ++ pg cds ad gg) (TY cT) sz) (va_Qi (fun (r9 : Int32) (u9 : (Nat → Option va_E)) => r9 = ik c0 ∧ (∀ z8, (z8 < 10 ∨ 40 ≤ z8) → u9 z8 = gg z8) ∧ COLF cT ad u9 n vv vq eg (upd ik c0 isv) (va_up ne c0 0)) (BW D vwCl (va_A ([] ++ pg cds ad gg) sz) (fun u9 : (Nat → Option va_E) => ([] ++ pg cds ad u9))) (va_A ([] ++ pg cds ad gg) sz)) 0 0 (va_A ([] ++ pg cds ad gg) sz) := by
  refine Met.ofW (cc := cR_kinds) (maxL := 3) (ret := (some .boolean)) (by decide) rfl ?_
  intro p e s m args below meth c s₁ B hml hv
  obtain ⟨rfl, hsz, hZ, hP, hK, hD0⟩ := hv
  have hx := B.exec
  have hb := B.bytes
  have hr := B.returns
  have hts := atoms_spec (ws := WR_kinds) B.pre
  have hT : ∀ w ∈ TB, w.before _ s = true := fun w h => hts w (List.mem_cons_of_mem _ h)
  have hown : s.vm.findClass R_R = some m.cls := findClass_of_methodNamed B.named
  have hlocks := B.notSynchronized
  subst hsz
  have hD := hD0.self (sz := s.heap.size)
  generalize hAe : va_A ([] ++ pg cds ad gg) s.heap.size = A at hD hZ ⊢
  have hA : ∀ q : Nat, s.heap.size ≤ q → A q := fun q h => by rw [← hAe]; exact Or.inr h
  have hS : va_S A s.heap s.heap [] := va_S.rf
  have hl := lv_entry ([.ref (ad 0), .int (nI c0), .int isv]) (n := 3) (Nat.le_of_ble_eq_true rfl)
  rw [lg_entry_eq]
  generalize (lg_sl ([.ref (ad 0), .int (nI c0), .int isv]) ++ List.replicate (3 - (lg_sl ([.ref (ad 0), .int (nI c0), .int isv])).length) Slot.unset).toArray = ls at hl ⊢
  have hl : lv_has ls 3 [(0, .ref (ad 0)), (1, .int (nI c0)), (2, .int isv)] := hl
  have hCf0 := hCf
  obtain ⟨qf, hca, hcb⟩ := hCa
  obtain ⟨fv, fe, hce, hcv, hcq, hcg⟩ := hCf c0 hc6
  obtain ⟨hc1, hc2, hc3⟩ := hce
  have hka : kaB fv n = true ↔ kaB (fun r => vv (6 * r + c0)) n = true := by rw [kab_cg hcv]
  refine lv_aload_n hx hb dR_kinds_0 rfl (lv_at hl 0 rfl) ?_
  refine va_get (D := D) (ci := 0) (v := .ref (ad 1)) (C := R_R) (T := T_R) (N := 13) hx hb hT in_R hown hK (pg_1 (x := 0) hcd hP (by decide) hob) 0 rfl rfl 0 (by decide) (hT _ w324) (fun _ h9 => h9) rfl dR_kinds_1 ?_
  refine lv_iload_n hx hb dR_kinds_4 rfl (lv_at hl 1 rfl) ?_
  refine ro_i (va_Run.run (va_runV (As := [.int (nI c0)]) (rest := []) ⟨hx, hb, hml, hown, hT⟩ (k_hasColumn l D cT (ad 1) (ad 2) (ad 3) wd9 rw9 (nI c0)) ⟨callB_of 1 hT (tb_gd w621) rfl rfl rfl (hT _ w2) (hT _ w618) hT_hasColumn ⟨Nat.le_of_ble_eq_true rfl, Nat.le_of_ble_eq_true rfl⟩, (hT _ w619), (hT _ w620)⟩ (RO.preV (ci := 2) (q0 := 0) hZ hS ((show va_P D vwCl [(ad 1, .inr (2, [.ref (ad 2), .ref (ad 3), .int wd9, .int rw9]))] _ from (pv_c (pg_1 (x := 1) hcd hP (by decide) htb) pv_0))) hK rfl rfl) rfl rfl hl.1 rfl (lv_room (Nat.le_of_ble_eq_true rfl)) dR_kinds_5 ⟨Nat.le_of_ble_eq_true rfl, Nat.le_of_ble_eq_true rfl⟩)) ?_
  refine ro_v (va_Run.run (va_runS (As := [.int (bi (0 ≤ (nI c0) ∧ (nI c0) ≤ wd9 - 1))]) (rest := []) ⟨hx, hb, hml, hown, hT⟩ (k_demand_ok l D cT (bi (0 ≤ (nI c0) ∧ (nI c0) ≤ wd9 - 1)) (by rw [bi_t hc0]; decide)) ⟨callB_of 1 hT (tb_gd w510) rfl rfl rfl (hT _ w1) (hT _ w508) hR_demand ⟨Nat.le_of_ble_eq_true rfl, Nat.le_of_ble_eq_true rfl⟩, (hT _ w509)⟩ (RO.preS hZ hS ((show va_P D vwCl [] _ from fun _ _ h => nomatch h)) hK) rfl rfl hl.1 rfl (lv_room (Nat.le_of_ble_eq_true rfl)) dR_kinds_8 ⟨Nat.le_of_ble_eq_true rfl, Nat.le_of_ble_eq_true rfl⟩)) ?_
  refine lv_iload_n hx hb dR_kinds_11 rfl (lv_at hl 2 rfl) ?_
  refine lv_if_eq (tgt := 37) hx hb dR_kinds_12 rfl (fun h1 => ?_) (fun h1 => ?_)
  · refine lv_iconst (v := 1) hx hb dR_kinds_37 (by decide) ?_
    refine lv_goto (tgt := 42) hx hb dR_kinds_38 rfl ?_
    refine ro_v (va_Run.run (va_runS (As := [.int 1]) (rest := []) ⟨hx, hb, hml, hown, hT⟩ (k_demandState_ok l D cT 1 (by decide)) ⟨callB_of 1 hT (tb_gd w586) rfl rfl rfl (hT _ w1) (hT _ w584) hR_demandState ⟨Nat.le_of_ble_eq_true rfl, Nat.le_of_ble_eq_true rfl⟩, (hT _ w585)⟩ (RO.preS hZ hS ((show va_P D vwCl [] _ from fun _ _ h => nomatch h)) hK) rfl rfl hl.1 rfl (lv_room (Nat.le_of_ble_eq_true rfl)) dR_kinds_42 ⟨Nat.le_of_ble_eq_true rfl, Nat.le_of_ble_eq_true rfl⟩)) ?_
    refine lv_aload_n hx hb dR_kinds_45 rfl (lv_at hl 0 rfl) ?_
    refine va_get (D := D) (ci := 0) (v := .ref (ad 1)) (C := R_R) (T := T_R) (N := 13) hx hb hT in_R hown hK (pg_1 (x := 0) hcd hP (by decide) hob) 0 rfl rfl 0 (by decide) (hT _ w324) (fun _ h9 => h9) rfl dR_kinds_46 ?_
    refine va_get (D := D) (ci := 2) (v := .ref (ad 2)) (C := R_T) (T := T_T) (N := 4) hx hb hT in_T hown hK (pg_1 (x := 1) hcd hP (by decide) htb) 0 rfl rfl 0 (by decide) (hT _ w74) (fun _ h9 => h9) rfl dR_kinds_49 ?_
    refine lv_iload_n hx hb dR_kinds_52 rfl (lv_at hl 1 rfl) ?_
    refine al_q (q := ad (10 + c0)) hx hb hK (pg_1 (x := 2) hcd hP (by decide) hca) 0 5 rfl rfl (vp_in_nI (by omega) (by decide)) (by rw [nI_clamp (by omega)]; exact hcb c0 hc6) dR_kinds_53 ?_
    refine lv_iload_n hx hb dR_kinds_54 rfl (lv_at hl 2 rfl) ?_
    have hB9 : QI gg [(10 + c0, .inr (1, [.ref (ad (20 + c0)), .ref (ad (30 + c0)), .int (nI (ne c0)), .int (ik c0)]))] := (qi_c (by omega) hc1 qi_0)
    have hN9 := (show NDc [10 + c0] from (nd_c na_0 nd_0))
    have hP := bo_P (wc := [(10 + c0, .inr (1, [.ref (ad (20 + c0)), .ref (ad (30 + c0)), .int (nI (ne c0)), .int (ik c0)]))]) (X := []) hcd hN9 hB9 hP
    have hD := bo_D (wc := [(10 + c0, .inr (1, [.ref (ad (20 + c0)), .ref (ad (30 + c0)), .int (nI (ne c0)), .int (ik c0)]))]) (X := []) hcd hN9 hB9 hD
    have hP : va_P D vwCl ([(ad (10 + c0), .inr (1, [.ref (ad (20 + c0)), .ref (ad (30 + c0)), .int (nI (ne c0)), .int (ik c0)]))] ++ pg cds ad (upo gg [10 + c0])) _ := hP
    have hD : va_D A ([(ad (10 + c0), .inr (1, [.ref (ad (20 + c0)), .ref (ad (30 + c0)), .int (nI (ne c0)), .int (ik c0)]))] ++ pg cds ad (upo gg [10 + c0])) := hD
    refine hy_iQ (X := [(ad (10 + c0), .inr (1, [.ref (ad (20 + c0)), .ref (ad (30 + c0)), .int (nI (ne c0)), .int (ik c0)]))]) (pl := pg cds ad (upo gg [10 + c0])) (cx := [(ad (10 + c0), .inr (1, [.ref (ad (20 + c0)), .ref (ad (30 + c0)), .int (nI (ne c0)), .int (ik c0)]))]) (wr := []) hP hD hS hA [0] [] rfl rfl (by decide) (by decide) (va_runV (As := [.int isv]) (rest := []) ⟨hx, hb, hml, hown, hT⟩ (k_become l D cT (ad (10 + c0)) (ad (20 + c0)) (ad (30 + c0)) (nI (ne c0)) (ik c0) isv hisv (hik c0 hc6) _) ⟨callB_of 1 hT (tb_gd w317) rfl rfl rfl (hT _ w3) (hT _ w655) hC_become ⟨Nat.le_of_ble_eq_true rfl, Nat.le_of_ble_eq_true rfl⟩, (hT _ w315), (hT _ w316)⟩ (RW.preV (ci := 1) (q0 := 0) hZ hS (hy_free (cx := [(ad (10 + c0), .inr (1, [.ref (ad (20 + c0)), .ref (ad (30 + c0)), .int (nI (ne c0)), .int (ik c0)]))]) hD hS hA [0] rfl) (hP.sub (ws' := [(ad (10 + c0), .inr (1, [.ref (ad (20 + c0)), .ref (ad (30 + c0)), .int (nI (ne c0)), .int (ik c0)]))]) [0] rfl) hK (hD.sub (ws' := [(ad (10 + c0), .inr (1, [.ref (ad (20 + c0)), .ref (ad (30 + c0)), .int (nI (ne c0)), .int (ik c0)]))]) [0] (by decide) rfl) rfl rfl) rfl rfl hl.1 rfl (lv_room (Nat.le_of_ble_eq_true rfl)) dR_kinds_55 ⟨Nat.le_of_ble_eq_true rfl, Nat.le_of_ble_eq_true rfl⟩) (fun ru2 u9 H locs hpu2 hP hD hS => ?_)
    have hpu2 : ru2 = (ik c0) := hpu2
    have hP : va_P D vwCl ([(ad (10 + c0), .inr (1, [.ref (ad (20 + c0)), .ref (ad (30 + c0)), .int 0, .int isv]))] ++ pg cds ad (upo gg [10 + c0])) _ := hP
    have hD : va_D A ([(ad (10 + c0), .inr (1, [.ref (ad (20 + c0)), .ref (ad (30 + c0)), .int 0, .int isv]))] ++ pg cds ad (upo gg [10 + c0])) := hD
    have p1 := hpu2
    have hN9 := (show NDc [10 + c0] from (nd_c na_0 nd_0))
    have hP := gb_P (w9 := [(10 + c0, .inr (1, [.ref (ad (20 + c0)), .ref (ad (30 + c0)), .int 0, .int isv]))]) (X := []) (g := gg) hcd hN9 (show QB [(10 + c0, .inr (1, [.ref (ad (20 + c0)), .ref (ad (30 + c0)), .int 0, .int isv]))] from (qb_c (by omega) qb_0)) (hP.part (cx := [(ad (10 + c0), .inr (1, [.ref (ad (20 + c0)), .ref (ad (30 + c0)), .int 0, .int isv]))]) [0] rfl)
    have hD := gb_D (w9 := [(10 + c0, .inr (1, [.ref (ad (20 + c0)), .ref (ad (30 + c0)), .int 0, .int isv]))]) (X := []) (g := gg) hcd hN9 (show QB [(10 + c0, .inr (1, [.ref (ad (20 + c0)), .ref (ad (30 + c0)), .int 0, .int isv]))] from (qb_c (by omega) qb_0)) (hD.part (cx := [(ad (10 + c0), .inr (1, [.ref (ad (20 + c0)), .ref (ad (30 + c0)), .int 0, .int isv]))]) [0] (by decide) rfl)
    obtain ⟨g1, hg1⟩ : ∃ q9, q9 = ups gg [(10 + c0, .inr (1, [.ref (ad (20 + c0)), .ref (ad (30 + c0)), .int 0, .int isv]))] := ⟨_, rfl⟩
    rw [← hg1] at hP hD
    have hP : va_P D vwCl ([] ++ pg cds ad g1) _ := hP
    have hD : va_D A ([] ++ pg cds ad g1) := hD
    have fg1 : ∀ z8, z8 ≠ 10 + c0 → g1 z8 = gg z8 := fun z8 z1 => by rw [hg1]; exact ups_k (kp_n z1 kp_0)
    have g1_0 : g1 (10 + c0) = some (.inr (1, [.ref (ad (20 + c0)), .ref (ad (30 + c0)), .int 0, .int isv])) := by rw [hg1]; exact ups_1
    have hP9 : va_P D vwCl ([] ++ pg cds ad g1) _ := hP.part (cx := []) [] rfl
    have hD9 : va_D A ([] ++ pg cds ad g1) := hD.part (cx := []) [] (by decide) rfl
    refine W.widen (k := 0) (n := 0) (Nat.le_of_ble_eq_true rfl) (Nat.le_of_ble_eq_true rfl) ?_
    exact W.zret (v := ru2) hx hb hr (by rw [p1]; exact nar_z (hik c0 hc6)) (fun t9 ht9 hW9 => ⟨⟨ru2, g1, rfl, (show ru2 = ik c0 ∧ (∀ z8, (z8 < 10 ∨ 40 ≤ z8) → g1 z8 = gg z8) ∧ COLF cT ad g1 n vv vq eg (upd ik c0 isv) (va_up ne c0 0) from ⟨p1, fun z8 n1 => fg1 z8 (by omega), colf_bec hCf0 (fun x hx => fg1 x hx) hc6 hne ⟨hc1, hc2, hc3⟩ hcv hcq g1_0⟩), by rw [ht9]; exact hP9, hD9⟩, hS.F ht9⟩) hS.2.2 dR_kinds_58
  · refine lv_aload_n hx hb dR_kinds_15 rfl (lv_at hl 0 rfl) ?_
    refine va_get (D := D) (ci := 0) (v := .ref (ad 1)) (C := R_R) (T := T_R) (N := 13) hx hb hT in_R hown hK (pg_1 (x := 0) hcd hP (by decide) hob) 0 rfl rfl 0 (by decide) (hT _ w324) (fun _ h9 => h9) rfl dR_kinds_16 ?_
    refine va_get (D := D) (ci := 2) (v := .ref (ad 2)) (C := R_T) (T := T_T) (N := 4) hx hb hT in_T hown hK (pg_1 (x := 1) hcd hP (by decide) htb) 0 rfl rfl 0 (by decide) (hT _ w74) (fun _ h9 => h9) rfl dR_kinds_19 ?_
    refine lv_iload_n hx hb dR_kinds_22 rfl (lv_at hl 1 rfl) ?_
    refine al_q (q := ad (10 + c0)) hx hb hK (pg_1 (x := 2) hcd hP (by decide) hca) 0 5 rfl rfl (vp_in_nI (by omega) (by decide)) (by rw [nI_clamp (by omega)]; exact hcb c0 hc6) dR_kinds_23 ?_
    refine lv_aload_n hx hb dR_kinds_24 rfl (lv_at hl 0 rfl) ?_
    refine va_get (D := D) (ci := 0) (v := .ref (ad 1)) (C := R_R) (T := T_R) (N := 13) hx hb hT in_R hown hK (pg_1 (x := 0) hcd hP (by decide) hob) 0 rfl rfl 0 (by decide) (hT _ w324) (fun _ h9 => h9) rfl dR_kinds_25 ?_
    refine va_get (D := D) (ci := 2) (v := .int rw9) (C := R_T) (T := T_T) (N := 4) hx hb hT in_T hown hK (pg_1 (x := 1) hcd hP (by decide) htb) 0 rfl rfl 3 (by decide) (hT _ w82) (fun _ h9 => h9) rfl dR_kinds_28 ?_
    refine lv_topi (fun y9 e9 => ?_)
    cases (show y9 = nI n from e9.trans hrn)
    refine ro_i (va_Run.run (va_runV (As := [.int (nI n)]) (rest := []) ⟨hx, hb, hml, hown, hT⟩ (k_alone l D cT (ad (10 + c0)) (ad (20 + c0)) (ad (30 + c0)) (nI (ne c0)) (ik c0) fv n hn48) ⟨callB_of 1 hT (tb_gd w654) rfl rfl rfl (hT _ w3) (hT _ w651) hC_hasKindsAlone ⟨Nat.le_of_ble_eq_true rfl, Nat.le_of_ble_eq_true rfl⟩, (hT _ w652), (hT _ w653)⟩ (RO.preV (ci := 1) (q0 := 0) hZ hS ((show va_P D vwCl [(ad (10 + c0), .inr (1, [.ref (ad (20 + c0)), .ref (ad (30 + c0)), .int (nI (ne c0)), .int (ik c0)])), (ad (20 + c0), .inl (cT 0, 49, .inl fv))] _ from (pv_c (pg_1 (x := 10 + c0) hcd hP (by omega) hc1) (pv_c (pg_1 (x := 20 + c0) hcd hP (by omega) hc2) pv_0)))) hK rfl rfl) rfl rfl hl.1 rfl (lv_room (Nat.le_of_ble_eq_true rfl)) dR_kinds_31 ⟨Nat.le_of_ble_eq_true rfl, Nat.le_of_ble_eq_true rfl⟩)) ?_
    refine lv_if_eq (tgt := 41) hx hb dR_kinds_34 rfl (fun h3 => ?_) (fun h3 => ?_)
    · refine lv_iconst (v := 0) hx hb dR_kinds_41 (by decide) ?_
      exact absurd (hk9.resolve_left h1) (fun q => absurd (hka.mpr q) (by rw [bn_0.mp h3]; decide))
    · refine lv_iconst (v := 1) hx hb dR_kinds_37 (by decide) ?_
      refine lv_goto (tgt := 42) hx hb dR_kinds_38 rfl ?_
      refine ro_v (va_Run.run (va_runS (As := [.int 1]) (rest := []) ⟨hx, hb, hml, hown, hT⟩ (k_demandState_ok l D cT 1 (by decide)) ⟨callB_of 1 hT (tb_gd w586) rfl rfl rfl (hT _ w1) (hT _ w584) hR_demandState ⟨Nat.le_of_ble_eq_true rfl, Nat.le_of_ble_eq_true rfl⟩, (hT _ w585)⟩ (RO.preS hZ hS ((show va_P D vwCl [] _ from fun _ _ h => nomatch h)) hK) rfl rfl hl.1 rfl (lv_room (Nat.le_of_ble_eq_true rfl)) dR_kinds_42 ⟨Nat.le_of_ble_eq_true rfl, Nat.le_of_ble_eq_true rfl⟩)) ?_
      refine lv_aload_n hx hb dR_kinds_45 rfl (lv_at hl 0 rfl) ?_
      refine va_get (D := D) (ci := 0) (v := .ref (ad 1)) (C := R_R) (T := T_R) (N := 13) hx hb hT in_R hown hK (pg_1 (x := 0) hcd hP (by decide) hob) 0 rfl rfl 0 (by decide) (hT _ w324) (fun _ h9 => h9) rfl dR_kinds_46 ?_
      refine va_get (D := D) (ci := 2) (v := .ref (ad 2)) (C := R_T) (T := T_T) (N := 4) hx hb hT in_T hown hK (pg_1 (x := 1) hcd hP (by decide) htb) 0 rfl rfl 0 (by decide) (hT _ w74) (fun _ h9 => h9) rfl dR_kinds_49 ?_
      refine lv_iload_n hx hb dR_kinds_52 rfl (lv_at hl 1 rfl) ?_
      refine al_q (q := ad (10 + c0)) hx hb hK (pg_1 (x := 2) hcd hP (by decide) hca) 0 5 rfl rfl (vp_in_nI (by omega) (by decide)) (by rw [nI_clamp (by omega)]; exact hcb c0 hc6) dR_kinds_53 ?_
      refine lv_iload_n hx hb dR_kinds_54 rfl (lv_at hl 2 rfl) ?_
      have hB9 : QI gg [(10 + c0, .inr (1, [.ref (ad (20 + c0)), .ref (ad (30 + c0)), .int (nI (ne c0)), .int (ik c0)]))] := (qi_c (by omega) hc1 qi_0)
      have hN9 := (show NDc [10 + c0] from (nd_c na_0 nd_0))
      have hP := bo_P (wc := [(10 + c0, .inr (1, [.ref (ad (20 + c0)), .ref (ad (30 + c0)), .int (nI (ne c0)), .int (ik c0)]))]) (X := []) hcd hN9 hB9 hP
      have hD := bo_D (wc := [(10 + c0, .inr (1, [.ref (ad (20 + c0)), .ref (ad (30 + c0)), .int (nI (ne c0)), .int (ik c0)]))]) (X := []) hcd hN9 hB9 hD
      have hP : va_P D vwCl ([(ad (10 + c0), .inr (1, [.ref (ad (20 + c0)), .ref (ad (30 + c0)), .int (nI (ne c0)), .int (ik c0)]))] ++ pg cds ad (upo gg [10 + c0])) _ := hP
      have hD : va_D A ([(ad (10 + c0), .inr (1, [.ref (ad (20 + c0)), .ref (ad (30 + c0)), .int (nI (ne c0)), .int (ik c0)]))] ++ pg cds ad (upo gg [10 + c0])) := hD
      refine hy_iQ (X := [(ad (10 + c0), .inr (1, [.ref (ad (20 + c0)), .ref (ad (30 + c0)), .int (nI (ne c0)), .int (ik c0)]))]) (pl := pg cds ad (upo gg [10 + c0])) (cx := [(ad (10 + c0), .inr (1, [.ref (ad (20 + c0)), .ref (ad (30 + c0)), .int (nI (ne c0)), .int (ik c0)]))]) (wr := []) hP hD hS hA [0] [] rfl rfl (by decide) (by decide) (va_runV (As := [.int isv]) (rest := []) ⟨hx, hb, hml, hown, hT⟩ (k_become l D cT (ad (10 + c0)) (ad (20 + c0)) (ad (30 + c0)) (nI (ne c0)) (ik c0) isv hisv (hik c0 hc6) _) ⟨callB_of 1 hT (tb_gd w317) rfl rfl rfl (hT _ w3) (hT _ w655) hC_become ⟨Nat.le_of_ble_eq_true rfl, Nat.le_of_ble_eq_true rfl⟩, (hT _ w315), (hT _ w316)⟩ (RW.preV (ci := 1) (q0 := 0) hZ hS (hy_free (cx := [(ad (10 + c0), .inr (1, [.ref (ad (20 + c0)), .ref (ad (30 + c0)), .int (nI (ne c0)), .int (ik c0)]))]) hD hS hA [0] rfl) (hP.sub (ws' := [(ad (10 + c0), .inr (1, [.ref (ad (20 + c0)), .ref (ad (30 + c0)), .int (nI (ne c0)), .int (ik c0)]))]) [0] rfl) hK (hD.sub (ws' := [(ad (10 + c0), .inr (1, [.ref (ad (20 + c0)), .ref (ad (30 + c0)), .int (nI (ne c0)), .int (ik c0)]))]) [0] (by decide) rfl) rfl rfl) rfl rfl hl.1 rfl (lv_room (Nat.le_of_ble_eq_true rfl)) dR_kinds_55 ⟨Nat.le_of_ble_eq_true rfl, Nat.le_of_ble_eq_true rfl⟩) (fun ru4 u9 H locs hpu4 hP hD hS => ?_)
      have hpu4 : ru4 = (ik c0) := hpu4
      have hP : va_P D vwCl ([(ad (10 + c0), .inr (1, [.ref (ad (20 + c0)), .ref (ad (30 + c0)), .int 0, .int isv]))] ++ pg cds ad (upo gg [10 + c0])) _ := hP
      have hD : va_D A ([(ad (10 + c0), .inr (1, [.ref (ad (20 + c0)), .ref (ad (30 + c0)), .int 0, .int isv]))] ++ pg cds ad (upo gg [10 + c0])) := hD
      have p1 := hpu4
      have hN9 := (show NDc [10 + c0] from (nd_c na_0 nd_0))
      have hP := gb_P (w9 := [(10 + c0, .inr (1, [.ref (ad (20 + c0)), .ref (ad (30 + c0)), .int 0, .int isv]))]) (X := []) (g := gg) hcd hN9 (show QB [(10 + c0, .inr (1, [.ref (ad (20 + c0)), .ref (ad (30 + c0)), .int 0, .int isv]))] from (qb_c (by omega) qb_0)) (hP.part (cx := [(ad (10 + c0), .inr (1, [.ref (ad (20 + c0)), .ref (ad (30 + c0)), .int 0, .int isv]))]) [0] rfl)
      have hD := gb_D (w9 := [(10 + c0, .inr (1, [.ref (ad (20 + c0)), .ref (ad (30 + c0)), .int 0, .int isv]))]) (X := []) (g := gg) hcd hN9 (show QB [(10 + c0, .inr (1, [.ref (ad (20 + c0)), .ref (ad (30 + c0)), .int 0, .int isv]))] from (qb_c (by omega) qb_0)) (hD.part (cx := [(ad (10 + c0), .inr (1, [.ref (ad (20 + c0)), .ref (ad (30 + c0)), .int 0, .int isv]))]) [0] (by decide) rfl)
      obtain ⟨g1, hg1⟩ : ∃ q9, q9 = ups gg [(10 + c0, .inr (1, [.ref (ad (20 + c0)), .ref (ad (30 + c0)), .int 0, .int isv]))] := ⟨_, rfl⟩
      rw [← hg1] at hP hD
      have hP : va_P D vwCl ([] ++ pg cds ad g1) _ := hP
      have hD : va_D A ([] ++ pg cds ad g1) := hD
      have fg1 : ∀ z8, z8 ≠ 10 + c0 → g1 z8 = gg z8 := fun z8 z1 => by rw [hg1]; exact ups_k (kp_n z1 kp_0)
      have g1_0 : g1 (10 + c0) = some (.inr (1, [.ref (ad (20 + c0)), .ref (ad (30 + c0)), .int 0, .int isv])) := by rw [hg1]; exact ups_1
      have hP9 : va_P D vwCl ([] ++ pg cds ad g1) _ := hP.part (cx := []) [] rfl
      have hD9 : va_D A ([] ++ pg cds ad g1) := hD.part (cx := []) [] (by decide) rfl
      refine W.widen (k := 0) (n := 0) (Nat.le_of_ble_eq_true rfl) (Nat.le_of_ble_eq_true rfl) ?_
      exact W.zret (v := ru4) hx hb hr (by rw [p1]; exact nar_z (hik c0 hc6)) (fun t9 ht9 hW9 => ⟨⟨ru4, g1, rfl, (show ru4 = ik c0 ∧ (∀ z8, (z8 < 10 ∨ 40 ≤ z8) → g1 z8 = gg z8) ∧ COLF cT ad g1 n vv vq eg (upd ik c0 isv) (va_up ne c0 0) from ⟨p1, fun z8 n1 => fg1 z8 (by omega), colf_bec hCf0 (fun x hx => fg1 x hx) hc6 hne ⟨hc1, hc2, hc3⟩ hcv hcq g1_0⟩), by rw [ht9]; exact hP9, hD9⟩, hS.F ht9⟩) hS.2.2 dR_kinds_58
set_option maxHeartbeats 4000000 in
set_option maxRecDepth 100000 in
theorem k_kinds_no2 (l : Launch) (D : va_G) (cT : Nat → ClassId) (cds : List Nat) (ad : Nat → Nat) (gg : Nat → Option va_E) (tc : Int32) (wd9 : Int32) (rw9 : Int32) (n : Nat) (vv : Nat → Int32) (vq : Nat → Int32) (eg : Nat → Int32) (ik : Nat → Int32) (ne : Nat → Nat) (c0 : Nat) (isv : Int32) (hlt : l.stackTraces = false) (hcd : CD cds) (hob : gg 0 = some (eOB ad tc)) (htb : gg 1 = some (eTB ad wd9 rw9)) (hrn : rw9 = nI n) (hn48 : n ≤ 48) (hCa : CAp cT ad gg) (hCf : COLF cT ad gg n vv vq eg ik ne) (hc0 : 0 ≤ nI c0 ∧ nI c0 ≤ wd9 - 1) (hc6 : c0 < 6) (hisv : isv = 0 ∨ isv = 1) (hi0 : ¬ isv = 0) (hk9 : ¬ kaB (fun r => vv (6 * r + c0)) n = true) : MetT l yR_kinds WR_kinds ({ frames := 7, cells := 1, slots := 6, locals := 111 } : Room) (RO D vwCl [.ref (ad 0), .int (nI c0), .int isv] ([] ++ pg cds ad gg) (TY cT)) "java/lang/IllegalStateException" 1 6 := by
  refine MetT.ofW (cc := cR_kinds) (maxL := 3) (ret := (some .boolean)) (by decide) rfl ?_
  intro p e s m args below meth c s₁ B hml hno hv
  obtain ⟨rfl, hZ, hP, hK⟩ := hv
  have hx := B.exec
  have hb := B.bytes
  have hr := B.returns
  have hts := atoms_spec (ws := WR_kinds) B.pre
  have hT : ∀ w ∈ TB, w.before _ s = true := fun w h => hts w (List.mem_cons_of_mem _ h)
  have hown : s.vm.findClass R_R = some m.cls := findClass_of_methodNamed B.named
  have hlocks := B.notSynchronized
  have hS : va_S (fun _ => False) s.heap s.heap [] := va_S.rf
  have hl := lv_entry ([.ref (ad 0), .int (nI c0), .int isv]) (n := 3) (Nat.le_of_ble_eq_true rfl)
  rw [lg_entry_eq]
  generalize (lg_sl ([.ref (ad 0), .int (nI c0), .int isv]) ++ List.replicate (3 - (lg_sl ([.ref (ad 0), .int (nI c0), .int isv])).length) Slot.unset).toArray = ls at hl ⊢
  have hl : lv_has ls 3 [(0, .ref (ad 0)), (1, .int (nI c0)), (2, .int isv)] := hl
  have hCf0 := hCf
  obtain ⟨qf, hca, hcb⟩ := hCa
  obtain ⟨fv, fe, hce, hcv, hcq, hcg⟩ := hCf c0 hc6
  obtain ⟨hc1, hc2, hc3⟩ := hce
  have hka : kaB fv n = true ↔ kaB (fun r => vv (6 * r + c0)) n = true := by rw [kab_cg hcv]
  refine lv_aload_n hx hb dR_kinds_0 rfl (lv_at hl 0 rfl) ?_
  refine va_get (D := D) (ci := 0) (v := .ref (ad 1)) (C := R_R) (T := T_R) (N := 13) hx hb hT in_R hown hK (pg_1 (x := 0) hcd hP (by decide) hob) 0 rfl rfl 0 (by decide) (hT _ w324) (fun _ h9 => h9) rfl dR_kinds_1 ?_
  refine lv_iload_n hx hb dR_kinds_4 rfl (lv_at hl 1 rfl) ?_
  refine ro_i (va_Run.run (va_runV (As := [.int (nI c0)]) (rest := []) ⟨hx, hb, hml, hown, hT⟩ (k_hasColumn l D cT (ad 1) (ad 2) (ad 3) wd9 rw9 (nI c0)) ⟨callB_of 1 hT (tb_gd w621) rfl rfl rfl (hT _ w2) (hT _ w618) hT_hasColumn ⟨Nat.le_of_ble_eq_true rfl, Nat.le_of_ble_eq_true rfl⟩, (hT _ w619), (hT _ w620)⟩ (RO.preV (ci := 2) (q0 := 0) hZ hS ((show va_P D vwCl [(ad 1, .inr (2, [.ref (ad 2), .ref (ad 3), .int wd9, .int rw9]))] _ from (pv_c (pg_1 (x := 1) hcd hP (by decide) htb) pv_0))) hK rfl rfl) rfl rfl hl.1 rfl (lv_room (Nat.le_of_ble_eq_true rfl)) dR_kinds_5 ⟨Nat.le_of_ble_eq_true rfl, Nat.le_of_ble_eq_true rfl⟩)) ?_
  refine ro_v (va_Run.run (va_runS (As := [.int (bi (0 ≤ (nI c0) ∧ (nI c0) ≤ wd9 - 1))]) (rest := []) ⟨hx, hb, hml, hown, hT⟩ (k_demand_ok l D cT (bi (0 ≤ (nI c0) ∧ (nI c0) ≤ wd9 - 1)) (by rw [bi_t hc0]; decide)) ⟨callB_of 1 hT (tb_gd w510) rfl rfl rfl (hT _ w1) (hT _ w508) hR_demand ⟨Nat.le_of_ble_eq_true rfl, Nat.le_of_ble_eq_true rfl⟩, (hT _ w509)⟩ (RO.preS hZ hS ((show va_P D vwCl [] _ from fun _ _ h => nomatch h)) hK) rfl rfl hl.1 rfl (lv_room (Nat.le_of_ble_eq_true rfl)) dR_kinds_8 ⟨Nat.le_of_ble_eq_true rfl, Nat.le_of_ble_eq_true rfl⟩)) ?_
  refine lv_iload_n hx hb dR_kinds_11 rfl (lv_at hl 2 rfl) ?_
  refine lv_if_eq (tgt := 37) hx hb dR_kinds_12 rfl (fun h1 => absurd h1 hi0) (fun _ => ?_)
  refine lv_aload_n hx hb dR_kinds_15 rfl (lv_at hl 0 rfl) ?_
  refine va_get (D := D) (ci := 0) (v := .ref (ad 1)) (C := R_R) (T := T_R) (N := 13) hx hb hT in_R hown hK (pg_1 (x := 0) hcd hP (by decide) hob) 0 rfl rfl 0 (by decide) (hT _ w324) (fun _ h9 => h9) rfl dR_kinds_16 ?_
  refine va_get (D := D) (ci := 2) (v := .ref (ad 2)) (C := R_T) (T := T_T) (N := 4) hx hb hT in_T hown hK (pg_1 (x := 1) hcd hP (by decide) htb) 0 rfl rfl 0 (by decide) (hT _ w74) (fun _ h9 => h9) rfl dR_kinds_19 ?_
  refine lv_iload_n hx hb dR_kinds_22 rfl (lv_at hl 1 rfl) ?_
  refine al_q (q := ad (10 + c0)) hx hb hK (pg_1 (x := 2) hcd hP (by decide) hca) 0 5 rfl rfl (vp_in_nI (by omega) (by decide)) (by rw [nI_clamp (by omega)]; exact hcb c0 hc6) dR_kinds_23 ?_
  refine lv_aload_n hx hb dR_kinds_24 rfl (lv_at hl 0 rfl) ?_
  refine va_get (D := D) (ci := 0) (v := .ref (ad 1)) (C := R_R) (T := T_R) (N := 13) hx hb hT in_R hown hK (pg_1 (x := 0) hcd hP (by decide) hob) 0 rfl rfl 0 (by decide) (hT _ w324) (fun _ h9 => h9) rfl dR_kinds_25 ?_
  refine va_get (D := D) (ci := 2) (v := .int rw9) (C := R_T) (T := T_T) (N := 4) hx hb hT in_T hown hK (pg_1 (x := 1) hcd hP (by decide) htb) 0 rfl rfl 3 (by decide) (hT _ w82) (fun _ h9 => h9) rfl dR_kinds_28 ?_
  refine lv_topi (fun y9 e9 => ?_)
  cases (show y9 = nI n from e9.trans hrn)
  refine ro_i (va_Run.run (va_runV (As := [.int (nI n)]) (rest := []) ⟨hx, hb, hml, hown, hT⟩ (k_alone l D cT (ad (10 + c0)) (ad (20 + c0)) (ad (30 + c0)) (nI (ne c0)) (ik c0) fv n hn48) ⟨callB_of 1 hT (tb_gd w654) rfl rfl rfl (hT _ w3) (hT _ w651) hC_hasKindsAlone ⟨Nat.le_of_ble_eq_true rfl, Nat.le_of_ble_eq_true rfl⟩, (hT _ w652), (hT _ w653)⟩ (RO.preV (ci := 1) (q0 := 0) hZ hS ((show va_P D vwCl [(ad (10 + c0), .inr (1, [.ref (ad (20 + c0)), .ref (ad (30 + c0)), .int (nI (ne c0)), .int (ik c0)])), (ad (20 + c0), .inl (cT 0, 49, .inl fv))] _ from (pv_c (pg_1 (x := 10 + c0) hcd hP (by omega) hc1) (pv_c (pg_1 (x := 20 + c0) hcd hP (by omega) hc2) pv_0)))) hK rfl rfl) rfl rfl hl.1 rfl (lv_room (Nat.le_of_ble_eq_true rfl)) dR_kinds_31 ⟨Nat.le_of_ble_eq_true rfl, Nat.le_of_ble_eq_true rfl⟩)) ?_
  refine lv_if_eq (tgt := 41) hx hb dR_kinds_34 rfl (fun h2 => ?_) (fun h2 => ?_)
  · refine lv_iconst (v := 0) hx hb dR_kinds_41 (by decide) ?_
    exact tx_out (tx_goS (As := [.int 0]) (rest := []) ⟨hx, hb, hml, hown, hT⟩ (k_demandState_no l D cT 0 hlt rfl) ⟨callB_of 1 hT (tb_gd w586) rfl rfl rfl (hT _ w1) (hT _ w584) hR_demandState ⟨Nat.le_of_ble_eq_true rfl, Nat.le_of_ble_eq_true rfl⟩, (hT _ w585)⟩ (RO.preS hZ hS ((show va_P D vwCl [] _ from fun _ _ h => nomatch h)) hK) rfl hl.1 rfl (Nat.le_of_ble_eq_true rfl) dR_kinds_42 ⟨Nat.le_of_ble_eq_true rfl, Nat.le_of_ble_eq_true rfl⟩) hno hlocks
  · refine lv_iconst (v := 1) hx hb dR_kinds_37 (by decide) ?_
    refine lv_goto (tgt := 42) hx hb dR_kinds_38 rfl ?_
    exact absurd (hka.mp (Decidable.byContradiction (fun q => h2 (bn_0.mpr (Bool.eq_false_iff.mpr q))))) hk9
set_option maxHeartbeats 4000000 in
set_option maxRecDepth 100000 in
theorem k_kinds_no1 (l : Launch) (D : va_G) (cT : Nat → ClassId) (cds : List Nat) (ad : Nat → Nat) (gg : Nat → Option va_E) (tc : Int32) (wd9 : Int32) (rw9 : Int32) (a1 : Int32) (a2 : Int32) (hlt : l.stackTraces = false) (hcd : CD cds) (hob : gg 0 = some (eOB ad tc)) (htb : gg 1 = some (eTB ad wd9 rw9)) (hq : ¬ (0 ≤ a1 ∧ a1 ≤ wd9 - 1)) : MetT l yR_kinds WR_kinds ({ frames := 7, cells := 1, slots := 6, locals := 111 } : Room) (RO D vwCl [.ref (ad 0), .int a1, .int a2] ([] ++ pg cds ad gg) (TY cT)) "java/lang/IllegalArgumentException" 1 6 := by
  refine MetT.ofW (cc := cR_kinds) (maxL := 3) (ret := (some .boolean)) (by decide) rfl ?_
  intro p e s m args below meth c s₁ B hml hno hv
  obtain ⟨rfl, hZ, hP, hK⟩ := hv
  have hx := B.exec
  have hb := B.bytes
  have hr := B.returns
  have hts := atoms_spec (ws := WR_kinds) B.pre
  have hT : ∀ w ∈ TB, w.before _ s = true := fun w h => hts w (List.mem_cons_of_mem _ h)
  have hown : s.vm.findClass R_R = some m.cls := findClass_of_methodNamed B.named
  have hlocks := B.notSynchronized
  have hS : va_S (fun _ => False) s.heap s.heap [] := va_S.rf
  have hl := lv_entry ([.ref (ad 0), .int a1, .int a2]) (n := 3) (Nat.le_of_ble_eq_true rfl)
  rw [lg_entry_eq]
  generalize (lg_sl ([.ref (ad 0), .int a1, .int a2]) ++ List.replicate (3 - (lg_sl ([.ref (ad 0), .int a1, .int a2])).length) Slot.unset).toArray = ls at hl ⊢
  have hl : lv_has ls 3 [(0, .ref (ad 0)), (1, .int a1), (2, .int a2)] := hl
  refine lv_aload_n hx hb dR_kinds_0 rfl (lv_at hl 0 rfl) ?_
  refine va_get (D := D) (ci := 0) (v := .ref (ad 1)) (C := R_R) (T := T_R) (N := 13) hx hb hT in_R hown hK (pg_1 (x := 0) hcd hP (by decide) hob) 0 rfl rfl 0 (by decide) (hT _ w324) (fun _ h9 => h9) rfl dR_kinds_1 ?_
  refine lv_iload_n hx hb dR_kinds_4 rfl (lv_at hl 1 rfl) ?_
  refine ro_i (va_Run.run (va_runV (As := [.int a1]) (rest := []) ⟨hx, hb, hml, hown, hT⟩ (k_hasColumn l D cT (ad 1) (ad 2) (ad 3) wd9 rw9 a1) ⟨callB_of 1 hT (tb_gd w621) rfl rfl rfl (hT _ w2) (hT _ w618) hT_hasColumn ⟨Nat.le_of_ble_eq_true rfl, Nat.le_of_ble_eq_true rfl⟩, (hT _ w619), (hT _ w620)⟩ (RO.preV (ci := 2) (q0 := 0) hZ hS ((show va_P D vwCl [(ad 1, .inr (2, [.ref (ad 2), .ref (ad 3), .int wd9, .int rw9]))] _ from (pv_c (pg_1 (x := 1) hcd hP (by decide) htb) pv_0))) hK rfl rfl) rfl rfl hl.1 rfl (lv_room (Nat.le_of_ble_eq_true rfl)) dR_kinds_5 ⟨Nat.le_of_ble_eq_true rfl, Nat.le_of_ble_eq_true rfl⟩)) ?_
  exact tx_out (tx_goS (As := [.int (bi (0 ≤ a1 ∧ a1 ≤ wd9 - 1))]) (rest := []) ⟨hx, hb, hml, hown, hT⟩ (k_demand_no l D cT (bi (0 ≤ a1 ∧ a1 ≤ wd9 - 1)) hlt (bi_f hq)) ⟨callB_of 1 hT (tb_gd w510) rfl rfl rfl (hT _ w1) (hT _ w508) hR_demand ⟨Nat.le_of_ble_eq_true rfl, Nat.le_of_ble_eq_true rfl⟩, (hT _ w509)⟩ (RO.preS hZ hS ((show va_P D vwCl [] _ from fun _ _ h => nomatch h)) hK) rfl hl.1 rfl (Nat.le_of_ble_eq_true rfl) dR_kinds_8 ⟨Nat.le_of_ble_eq_true rfl, Nat.le_of_ble_eq_true rfl⟩) hno hlocks
set_option maxHeartbeats 4000000 in
set_option maxRecDepth 100000 in
theorem k_edge (l : Launch) (D : va_G) (cT : Nat → ClassId) (cds : List Nat) (ad : Nat → Nat) (gg : Nat → Option va_E) (tc : Int32) (wd9 : Int32) (rw9 : Int32) (n : Nat) (vv : Nat → Int32) (vq : Nat → Int32) (eg : Nat → Int32) (ik : Nat → Int32) (ne : Nat → Nat) (c0 : Nat) (i : Nat) (hcd : CD cds) (hob : gg 0 = some (eOB ad tc)) (htb : gg 1 = some (eTB ad wd9 rw9)) (hCa : CAp cT ad gg) (hCf : COLF cT ad gg n vv vq eg ik ne) (hne : ∀ c, c < 6 → ne c ≤ 11) (hc0 : 0 ≤ nI c0 ∧ nI c0 ≤ wd9 - 1) (hc6 : c0 < 6) (hi0 : 0 ≤ nI i ∧ nI i ≤ nI (ne c0) - 1) (hi9 : i < ne c0) : Met l yR_edge WR_edge ({ frames := 2, cells := 0, slots := 0, locals := 43 } : Room) (RO D vwCl [.ref (ad 0), .int (nI c0), .int (nI i)] ([] ++ pg cds ad gg) (TY cT)) (QcRead (eg (11 * c0 + i))) 0 0 (fun _ => False) := by
  refine Met.ofW (cc := cR_edge) (maxL := 3) (ret := (some .int)) (by decide) rfl ?_
  intro p e s m args below meth c s₁ B hml hv
  obtain ⟨rfl, hZ, hP, hK⟩ := hv
  have hx := B.exec
  have hb := B.bytes
  have hr := B.returns
  have hts := atoms_spec (ws := WR_edge) B.pre
  have hT : ∀ w ∈ TB, w.before _ s = true := fun w h => hts w (List.mem_cons_of_mem _ h)
  have hown : s.vm.findClass R_R = some m.cls := findClass_of_methodNamed B.named
  have hlocks := B.notSynchronized
  have hS : va_S (fun _ => False) s.heap s.heap [] := va_S.rf
  have hl := lv_entry ([.ref (ad 0), .int (nI c0), .int (nI i)]) (n := 3) (Nat.le_of_ble_eq_true rfl)
  rw [lg_entry_eq]
  generalize (lg_sl ([.ref (ad 0), .int (nI c0), .int (nI i)]) ++ List.replicate (3 - (lg_sl ([.ref (ad 0), .int (nI c0), .int (nI i)])).length) Slot.unset).toArray = ls at hl ⊢
  have hl : lv_has ls 3 [(0, .ref (ad 0)), (1, .int (nI c0)), (2, .int (nI i))] := hl
  obtain ⟨qf, hca, hcb⟩ := hCa
  obtain ⟨fv, fe, hce, hcv, hcq, hcg⟩ := hCf c0 hc6
  obtain ⟨hc1, hc2, hc3⟩ := hce
  have hn11 := hne c0 hc6
  refine lv_aload_n hx hb dR_edge_0 rfl (lv_at hl 0 rfl) ?_
  refine va_get (D := D) (ci := 0) (v := .ref (ad 1)) (C := R_R) (T := T_R) (N := 13) hx hb hT in_R hown hK (pg_1 (x := 0) hcd hP (by decide) hob) 0 rfl rfl 0 (by decide) (hT _ w324) (fun _ h9 => h9) rfl dR_edge_1 ?_
  refine lv_iload_n hx hb dR_edge_4 rfl (lv_at hl 1 rfl) ?_
  refine ro_i (va_Run.run (va_runV (As := [.int (nI c0)]) (rest := []) ⟨hx, hb, hml, hown, hT⟩ (k_hasColumn l D cT (ad 1) (ad 2) (ad 3) wd9 rw9 (nI c0)) ⟨callB_of 1 hT (tb_gd w621) rfl rfl rfl (hT _ w2) (hT _ w618) hT_hasColumn ⟨Nat.le_of_ble_eq_true rfl, Nat.le_of_ble_eq_true rfl⟩, (hT _ w619), (hT _ w620)⟩ (RO.preV (ci := 2) (q0 := 0) hZ hS ((show va_P D vwCl [(ad 1, .inr (2, [.ref (ad 2), .ref (ad 3), .int wd9, .int rw9]))] _ from (pv_c (pg_1 (x := 1) hcd hP (by decide) htb) pv_0))) hK rfl rfl) rfl rfl hl.1 rfl (lv_room (Nat.le_of_ble_eq_true rfl)) dR_edge_5 ⟨Nat.le_of_ble_eq_true rfl, Nat.le_of_ble_eq_true rfl⟩)) ?_
  refine ro_v (va_Run.run (va_runS (As := [.int (bi (0 ≤ (nI c0) ∧ (nI c0) ≤ wd9 - 1))]) (rest := []) ⟨hx, hb, hml, hown, hT⟩ (k_demand_ok l D cT (bi (0 ≤ (nI c0) ∧ (nI c0) ≤ wd9 - 1)) (by rw [bi_t hc0]; decide)) ⟨callB_of 1 hT (tb_gd w510) rfl rfl rfl (hT _ w1) (hT _ w508) hR_demand ⟨Nat.le_of_ble_eq_true rfl, Nat.le_of_ble_eq_true rfl⟩, (hT _ w509)⟩ (RO.preS hZ hS ((show va_P D vwCl [] _ from fun _ _ h => nomatch h)) hK) rfl rfl hl.1 rfl (lv_room (Nat.le_of_ble_eq_true rfl)) dR_edge_8 ⟨Nat.le_of_ble_eq_true rfl, Nat.le_of_ble_eq_true rfl⟩)) ?_
  refine lv_iload_n hx hb dR_edge_11 rfl (lv_at hl 2 rfl) ?_
  refine lv_iconst (v := 0) hx hb dR_edge_12 (by decide) ?_
  refine lv_aload_n hx hb dR_edge_13 rfl (lv_at hl 0 rfl) ?_
  refine va_get (D := D) (ci := 0) (v := .ref (ad 1)) (C := R_R) (T := T_R) (N := 13) hx hb hT in_R hown hK (pg_1 (x := 0) hcd hP (by decide) hob) 0 rfl rfl 0 (by decide) (hT _ w324) (fun _ h9 => h9) rfl dR_edge_14 ?_
  refine va_get (D := D) (ci := 2) (v := .ref (ad 2)) (C := R_T) (T := T_T) (N := 4) hx hb hT in_T hown hK (pg_1 (x := 1) hcd hP (by decide) htb) 0 rfl rfl 0 (by decide) (hT _ w74) (fun _ h9 => h9) rfl dR_edge_17 ?_
  refine lv_iload_n hx hb dR_edge_20 rfl (lv_at hl 1 rfl) ?_
  refine al_q (q := ad (10 + c0)) hx hb hK (pg_1 (x := 2) hcd hP (by decide) hca) 0 5 rfl rfl (vp_in_nI (by omega) (by decide)) (by rw [nI_clamp (by omega)]; exact hcb c0 hc6) dR_edge_21 ?_
  refine va_get (D := D) (ci := 1) (v := .int (nI (ne c0))) (C := R_C) (T := T_C) (N := 4) hx hb hT in_C hown hK (pg_1 (x := 10 + c0) hcd hP (by omega) hc1) 0 rfl rfl 2 (by decide) (hT _ w59) (fun _ h9 => h9) rfl dR_edge_22 ?_
  refine lv_iconst (v := 1) hx hb dR_edge_25 (by decide) ?_
  refine lv_isub hx hb dR_edge_26 ?_
  refine ro_i (va_Run.run (va_runS (As := [.int (nI i), .int 0, .int ((nI (ne c0)) - 1)]) (rest := []) ⟨hx, hb, hml, hown, hT⟩ (k_isWithin l D cT (nI i) 0 ((nI (ne c0)) - 1)) ⟨callB_of 3 hT (tb_gd w499) rfl rfl rfl (hT _ w1) (hT _ w497) hR_isWithin ⟨Nat.le_of_ble_eq_true rfl, Nat.le_of_ble_eq_true rfl⟩, (hT _ w498)⟩ (RO.preS hZ hS ((show va_P D vwCl [] _ from fun _ _ h => nomatch h)) hK) rfl rfl hl.1 rfl (lv_room (Nat.le_of_ble_eq_true rfl)) dR_edge_27 ⟨Nat.le_of_ble_eq_true rfl, Nat.le_of_ble_eq_true rfl⟩)) ?_
  refine ro_v (va_Run.run (va_runS (As := [.int (bi (0 ≤ (nI i) ∧ (nI i) ≤ ((nI (ne c0)) - 1)))]) (rest := []) ⟨hx, hb, hml, hown, hT⟩ (k_demand_ok l D cT (bi (0 ≤ (nI i) ∧ (nI i) ≤ ((nI (ne c0)) - 1))) (by rw [bi_t hi0]; decide)) ⟨callB_of 1 hT (tb_gd w510) rfl rfl rfl (hT _ w1) (hT _ w508) hR_demand ⟨Nat.le_of_ble_eq_true rfl, Nat.le_of_ble_eq_true rfl⟩, (hT _ w509)⟩ (RO.preS hZ hS ((show va_P D vwCl [] _ from fun _ _ h => nomatch h)) hK) rfl rfl hl.1 rfl (lv_room (Nat.le_of_ble_eq_true rfl)) dR_edge_30 ⟨Nat.le_of_ble_eq_true rfl, Nat.le_of_ble_eq_true rfl⟩)) ?_
  refine lv_aload_n hx hb dR_edge_33 rfl (lv_at hl 0 rfl) ?_
  refine va_get (D := D) (ci := 0) (v := .ref (ad 1)) (C := R_R) (T := T_R) (N := 13) hx hb hT in_R hown hK (pg_1 (x := 0) hcd hP (by decide) hob) 0 rfl rfl 0 (by decide) (hT _ w324) (fun _ h9 => h9) rfl dR_edge_34 ?_
  refine va_get (D := D) (ci := 2) (v := .ref (ad 2)) (C := R_T) (T := T_T) (N := 4) hx hb hT in_T hown hK (pg_1 (x := 1) hcd hP (by decide) htb) 0 rfl rfl 0 (by decide) (hT _ w74) (fun _ h9 => h9) rfl dR_edge_37 ?_
  refine lv_iload_n hx hb dR_edge_40 rfl (lv_at hl 1 rfl) ?_
  refine al_q (q := ad (10 + c0)) hx hb hK (pg_1 (x := 2) hcd hP (by decide) hca) 0 5 rfl rfl (vp_in_nI (by omega) (by decide)) (by rw [nI_clamp (by omega)]; exact hcb c0 hc6) dR_edge_41 ?_
  refine va_get (D := D) (ci := 1) (v := .ref (ad (30 + c0))) (C := R_C) (T := T_C) (N := 4) hx hb hT in_C hown hK (pg_1 (x := 10 + c0) hcd hP (by omega) hc1) 0 rfl rfl 1 (by decide) (hT _ w56) (fun _ h9 => h9) rfl dR_edge_42 ?_
  refine lv_iload_n hx hb dR_edge_45 rfl (lv_at hl 2 rfl) ?_
  refine lq_iald (j := i) hx hb hK (pg_1 (x := 30 + c0) hcd hP (by omega) hc3) 0 0 rfl rfl rfl (by omega) (by omega) dR_edge_46 ?_
  exact W.iret (v := fe i) hx hb hr (fun t9 ht9 hW9 => ⟨(by rw [hcg i hi9]), ht9⟩) (fun q h => nomatch h) dR_edge_47
set_option maxHeartbeats 4000000 in
set_option maxRecDepth 100000 in
theorem k_edge_no (l : Launch) (D : va_G) (cT : Nat → ClassId) (cds : List Nat) (ad : Nat → Nat) (gg : Nat → Option va_E) (tc : Int32) (wd9 : Int32) (rw9 : Int32) (a1 : Int32) (a2 : Int32) (hlt : l.stackTraces = false) (hcd : CD cds) (hob : gg 0 = some (eOB ad tc)) (htb : gg 1 = some (eTB ad wd9 rw9)) (hq : ¬ (0 ≤ a1 ∧ a1 ≤ wd9 - 1)) : MetT l yR_edge WR_edge ({ frames := 7, cells := 1, slots := 6, locals := 111 } : Room) (RO D vwCl [.ref (ad 0), .int a1, .int a2] ([] ++ pg cds ad gg) (TY cT)) "java/lang/IllegalArgumentException" 1 6 := by
  refine MetT.ofW (cc := cR_edge) (maxL := 3) (ret := (some .int)) (by decide) rfl ?_
  intro p e s m args below meth c s₁ B hml hno hv
  obtain ⟨rfl, hZ, hP, hK⟩ := hv
  have hx := B.exec
  have hb := B.bytes
  have hr := B.returns
  have hts := atoms_spec (ws := WR_edge) B.pre
  have hT : ∀ w ∈ TB, w.before _ s = true := fun w h => hts w (List.mem_cons_of_mem _ h)
  have hown : s.vm.findClass R_R = some m.cls := findClass_of_methodNamed B.named
  have hlocks := B.notSynchronized
  have hS : va_S (fun _ => False) s.heap s.heap [] := va_S.rf
  have hl := lv_entry ([.ref (ad 0), .int a1, .int a2]) (n := 3) (Nat.le_of_ble_eq_true rfl)
  rw [lg_entry_eq]
  generalize (lg_sl ([.ref (ad 0), .int a1, .int a2]) ++ List.replicate (3 - (lg_sl ([.ref (ad 0), .int a1, .int a2])).length) Slot.unset).toArray = ls at hl ⊢
  have hl : lv_has ls 3 [(0, .ref (ad 0)), (1, .int a1), (2, .int a2)] := hl
  refine lv_aload_n hx hb dR_edge_0 rfl (lv_at hl 0 rfl) ?_
  refine va_get (D := D) (ci := 0) (v := .ref (ad 1)) (C := R_R) (T := T_R) (N := 13) hx hb hT in_R hown hK (pg_1 (x := 0) hcd hP (by decide) hob) 0 rfl rfl 0 (by decide) (hT _ w324) (fun _ h9 => h9) rfl dR_edge_1 ?_
  refine lv_iload_n hx hb dR_edge_4 rfl (lv_at hl 1 rfl) ?_
  refine ro_i (va_Run.run (va_runV (As := [.int a1]) (rest := []) ⟨hx, hb, hml, hown, hT⟩ (k_hasColumn l D cT (ad 1) (ad 2) (ad 3) wd9 rw9 a1) ⟨callB_of 1 hT (tb_gd w621) rfl rfl rfl (hT _ w2) (hT _ w618) hT_hasColumn ⟨Nat.le_of_ble_eq_true rfl, Nat.le_of_ble_eq_true rfl⟩, (hT _ w619), (hT _ w620)⟩ (RO.preV (ci := 2) (q0 := 0) hZ hS ((show va_P D vwCl [(ad 1, .inr (2, [.ref (ad 2), .ref (ad 3), .int wd9, .int rw9]))] _ from (pv_c (pg_1 (x := 1) hcd hP (by decide) htb) pv_0))) hK rfl rfl) rfl rfl hl.1 rfl (lv_room (Nat.le_of_ble_eq_true rfl)) dR_edge_5 ⟨Nat.le_of_ble_eq_true rfl, Nat.le_of_ble_eq_true rfl⟩)) ?_
  exact tx_out (tx_goS (As := [.int (bi (0 ≤ a1 ∧ a1 ≤ wd9 - 1))]) (rest := []) ⟨hx, hb, hml, hown, hT⟩ (k_demand_no l D cT (bi (0 ≤ a1 ∧ a1 ≤ wd9 - 1)) hlt (bi_f hq)) ⟨callB_of 1 hT (tb_gd w510) rfl rfl rfl (hT _ w1) (hT _ w508) hR_demand ⟨Nat.le_of_ble_eq_true rfl, Nat.le_of_ble_eq_true rfl⟩, (hT _ w509)⟩ (RO.preS hZ hS ((show va_P D vwCl [] _ from fun _ _ h => nomatch h)) hK) rfl hl.1 rfl (Nat.le_of_ble_eq_true rfl) dR_edge_8 ⟨Nat.le_of_ble_eq_true rfl, Nat.le_of_ble_eq_true rfl⟩) hno hlocks
set_option maxHeartbeats 4000000 in
set_option maxRecDepth 100000 in
theorem k_edge_noi (l : Launch) (D : va_G) (cT : Nat → ClassId) (cds : List Nat) (ad : Nat → Nat) (gg : Nat → Option va_E) (tc : Int32) (wd9 : Int32) (rw9 : Int32) (n : Nat) (vv : Nat → Int32) (vq : Nat → Int32) (eg : Nat → Int32) (ik : Nat → Int32) (ne : Nat → Nat) (c0 : Nat) (a2 : Int32) (hlt : l.stackTraces = false) (hcd : CD cds) (hob : gg 0 = some (eOB ad tc)) (htb : gg 1 = some (eTB ad wd9 rw9)) (hCa : CAp cT ad gg) (hCf : COLF cT ad gg n vv vq eg ik ne) (hc0 : 0 ≤ nI c0 ∧ nI c0 ≤ wd9 - 1) (hc6 : c0 < 6) (hq : ¬ (0 ≤ a2 ∧ a2 ≤ nI (ne c0) - 1)) : MetT l yR_edge WR_edge ({ frames := 7, cells := 1, slots := 6, locals := 111 } : Room) (RO D vwCl [.ref (ad 0), .int (nI c0), .int a2] ([] ++ pg cds ad gg) (TY cT)) "java/lang/IllegalArgumentException" 1 6 := by
  refine MetT.ofW (cc := cR_edge) (maxL := 3) (ret := (some .int)) (by decide) rfl ?_
  intro p e s m args below meth c s₁ B hml hno hv
  obtain ⟨rfl, hZ, hP, hK⟩ := hv
  have hx := B.exec
  have hb := B.bytes
  have hr := B.returns
  have hts := atoms_spec (ws := WR_edge) B.pre
  have hT : ∀ w ∈ TB, w.before _ s = true := fun w h => hts w (List.mem_cons_of_mem _ h)
  have hown : s.vm.findClass R_R = some m.cls := findClass_of_methodNamed B.named
  have hlocks := B.notSynchronized
  have hS : va_S (fun _ => False) s.heap s.heap [] := va_S.rf
  have hl := lv_entry ([.ref (ad 0), .int (nI c0), .int a2]) (n := 3) (Nat.le_of_ble_eq_true rfl)
  rw [lg_entry_eq]
  generalize (lg_sl ([.ref (ad 0), .int (nI c0), .int a2]) ++ List.replicate (3 - (lg_sl ([.ref (ad 0), .int (nI c0), .int a2])).length) Slot.unset).toArray = ls at hl ⊢
  have hl : lv_has ls 3 [(0, .ref (ad 0)), (1, .int (nI c0)), (2, .int a2)] := hl
  obtain ⟨qf, hca, hcb⟩ := hCa
  obtain ⟨fv, fe, hce, hcv, hcq, hcg⟩ := hCf c0 hc6
  obtain ⟨hc1, hc2, hc3⟩ := hce
  refine lv_aload_n hx hb dR_edge_0 rfl (lv_at hl 0 rfl) ?_
  refine va_get (D := D) (ci := 0) (v := .ref (ad 1)) (C := R_R) (T := T_R) (N := 13) hx hb hT in_R hown hK (pg_1 (x := 0) hcd hP (by decide) hob) 0 rfl rfl 0 (by decide) (hT _ w324) (fun _ h9 => h9) rfl dR_edge_1 ?_
  refine lv_iload_n hx hb dR_edge_4 rfl (lv_at hl 1 rfl) ?_
  refine ro_i (va_Run.run (va_runV (As := [.int (nI c0)]) (rest := []) ⟨hx, hb, hml, hown, hT⟩ (k_hasColumn l D cT (ad 1) (ad 2) (ad 3) wd9 rw9 (nI c0)) ⟨callB_of 1 hT (tb_gd w621) rfl rfl rfl (hT _ w2) (hT _ w618) hT_hasColumn ⟨Nat.le_of_ble_eq_true rfl, Nat.le_of_ble_eq_true rfl⟩, (hT _ w619), (hT _ w620)⟩ (RO.preV (ci := 2) (q0 := 0) hZ hS ((show va_P D vwCl [(ad 1, .inr (2, [.ref (ad 2), .ref (ad 3), .int wd9, .int rw9]))] _ from (pv_c (pg_1 (x := 1) hcd hP (by decide) htb) pv_0))) hK rfl rfl) rfl rfl hl.1 rfl (lv_room (Nat.le_of_ble_eq_true rfl)) dR_edge_5 ⟨Nat.le_of_ble_eq_true rfl, Nat.le_of_ble_eq_true rfl⟩)) ?_
  refine ro_v (va_Run.run (va_runS (As := [.int (bi (0 ≤ (nI c0) ∧ (nI c0) ≤ wd9 - 1))]) (rest := []) ⟨hx, hb, hml, hown, hT⟩ (k_demand_ok l D cT (bi (0 ≤ (nI c0) ∧ (nI c0) ≤ wd9 - 1)) (by rw [bi_t hc0]; decide)) ⟨callB_of 1 hT (tb_gd w510) rfl rfl rfl (hT _ w1) (hT _ w508) hR_demand ⟨Nat.le_of_ble_eq_true rfl, Nat.le_of_ble_eq_true rfl⟩, (hT _ w509)⟩ (RO.preS hZ hS ((show va_P D vwCl [] _ from fun _ _ h => nomatch h)) hK) rfl rfl hl.1 rfl (lv_room (Nat.le_of_ble_eq_true rfl)) dR_edge_8 ⟨Nat.le_of_ble_eq_true rfl, Nat.le_of_ble_eq_true rfl⟩)) ?_
  refine lv_iload_n hx hb dR_edge_11 rfl (lv_at hl 2 rfl) ?_
  refine lv_iconst (v := 0) hx hb dR_edge_12 (by decide) ?_
  refine lv_aload_n hx hb dR_edge_13 rfl (lv_at hl 0 rfl) ?_
  refine va_get (D := D) (ci := 0) (v := .ref (ad 1)) (C := R_R) (T := T_R) (N := 13) hx hb hT in_R hown hK (pg_1 (x := 0) hcd hP (by decide) hob) 0 rfl rfl 0 (by decide) (hT _ w324) (fun _ h9 => h9) rfl dR_edge_14 ?_
  refine va_get (D := D) (ci := 2) (v := .ref (ad 2)) (C := R_T) (T := T_T) (N := 4) hx hb hT in_T hown hK (pg_1 (x := 1) hcd hP (by decide) htb) 0 rfl rfl 0 (by decide) (hT _ w74) (fun _ h9 => h9) rfl dR_edge_17 ?_
  refine lv_iload_n hx hb dR_edge_20 rfl (lv_at hl 1 rfl) ?_
  refine al_q (q := ad (10 + c0)) hx hb hK (pg_1 (x := 2) hcd hP (by decide) hca) 0 5 rfl rfl (vp_in_nI (by omega) (by decide)) (by rw [nI_clamp (by omega)]; exact hcb c0 hc6) dR_edge_21 ?_
  refine va_get (D := D) (ci := 1) (v := .int (nI (ne c0))) (C := R_C) (T := T_C) (N := 4) hx hb hT in_C hown hK (pg_1 (x := 10 + c0) hcd hP (by omega) hc1) 0 rfl rfl 2 (by decide) (hT _ w59) (fun _ h9 => h9) rfl dR_edge_22 ?_
  refine lv_iconst (v := 1) hx hb dR_edge_25 (by decide) ?_
  refine lv_isub hx hb dR_edge_26 ?_
  refine ro_i (va_Run.run (va_runS (As := [.int a2, .int 0, .int ((nI (ne c0)) - 1)]) (rest := []) ⟨hx, hb, hml, hown, hT⟩ (k_isWithin l D cT a2 0 ((nI (ne c0)) - 1)) ⟨callB_of 3 hT (tb_gd w499) rfl rfl rfl (hT _ w1) (hT _ w497) hR_isWithin ⟨Nat.le_of_ble_eq_true rfl, Nat.le_of_ble_eq_true rfl⟩, (hT _ w498)⟩ (RO.preS hZ hS ((show va_P D vwCl [] _ from fun _ _ h => nomatch h)) hK) rfl rfl hl.1 rfl (lv_room (Nat.le_of_ble_eq_true rfl)) dR_edge_27 ⟨Nat.le_of_ble_eq_true rfl, Nat.le_of_ble_eq_true rfl⟩)) ?_
  exact tx_out (tx_goS (As := [.int (bi (0 ≤ a2 ∧ a2 ≤ ((nI (ne c0)) - 1)))]) (rest := []) ⟨hx, hb, hml, hown, hT⟩ (k_demand_no l D cT (bi (0 ≤ a2 ∧ a2 ≤ ((nI (ne c0)) - 1))) hlt (bi_f hq)) ⟨callB_of 1 hT (tb_gd w510) rfl rfl rfl (hT _ w1) (hT _ w508) hR_demand ⟨Nat.le_of_ble_eq_true rfl, Nat.le_of_ble_eq_true rfl⟩, (hT _ w509)⟩ (RO.preS hZ hS ((show va_P D vwCl [] _ from fun _ _ h => nomatch h)) hK) rfl hl.1 rfl (Nat.le_of_ble_eq_true rfl) dR_edge_30 ⟨Nat.le_of_ble_eq_true rfl, Nat.le_of_ble_eq_true rfl⟩) hno hlocks
set_option maxHeartbeats 4000000 in
set_option maxRecDepth 100000 in
theorem k_bin_k (l : Launch) (D : va_G) (cT : Nat → ClassId) (cds : List Nat) (ad : Nat → Nat) (gg : Nat → Option va_E) (tc : Int32) (wd9 : Int32) (rw9 : Int32) (n : Nat) (vv : Nat → Int32) (vq : Nat → Int32) (eg : Nat → Int32) (ik : Nat → Int32) (ne : Nat → Nat) (c0 : Nat) (v : Int32) (hcd : CD cds) (hob : gg 0 = some (eOB ad tc)) (htb : gg 1 = some (eTB ad wd9 rw9)) (hCa : CAp cT ad gg) (hCf : COLF cT ad gg n vv vq eg ik ne) (hc0 : 0 ≤ nI c0 ∧ nI c0 ≤ wd9 - 1) (hc6 : c0 < 6) (hvm : ¬ v = (-2147483648)) (hv9 : takB (ik c0) v = true) (hk : ¬ ik c0 = 0) : Met l yR_bin WR_bin ({ frames := 3, cells := 0, slots := 0, locals := 63 } : Room) (RO D vwCl [.ref (ad 0), .int (nI c0), .int v] ([] ++ pg cds ad gg) (TY cT)) (QcRead v) 0 0 (fun _ => False) := by
  refine Met.ofW (cc := cR_bin) (maxL := 3) (ret := (some .int)) (by decide) rfl ?_
  intro p e s m args below meth c s₁ B hml hv
  obtain ⟨rfl, hZ, hP, hK⟩ := hv
  have hx := B.exec
  have hb := B.bytes
  have hr := B.returns
  have hts := atoms_spec (ws := WR_bin) B.pre
  have hT : ∀ w ∈ TB, w.before _ s = true := fun w h => hts w (List.mem_cons_of_mem _ h)
  have hown : s.vm.findClass R_R = some m.cls := findClass_of_methodNamed B.named
  have hlocks := B.notSynchronized
  have hS : va_S (fun _ => False) s.heap s.heap [] := va_S.rf
  have hl := lv_entry ([.ref (ad 0), .int (nI c0), .int v]) (n := 3) (Nat.le_of_ble_eq_true rfl)
  rw [lg_entry_eq]
  generalize (lg_sl ([.ref (ad 0), .int (nI c0), .int v]) ++ List.replicate (3 - (lg_sl ([.ref (ad 0), .int (nI c0), .int v])).length) Slot.unset).toArray = ls at hl ⊢
  have hl : lv_has ls 3 [(0, .ref (ad 0)), (1, .int (nI c0)), (2, .int v)] := hl
  obtain ⟨qf, hca, hcb⟩ := hCa
  obtain ⟨fv, fe, hce, hcv, hcq, hcg⟩ := hCf c0 hc6
  obtain ⟨hc1, hc2, hc3⟩ := hce
  refine lv_aload_n hx hb dR_bin_0 rfl (lv_at hl 0 rfl) ?_
  refine va_get (D := D) (ci := 0) (v := .ref (ad 1)) (C := R_R) (T := T_R) (N := 13) hx hb hT in_R hown hK (pg_1 (x := 0) hcd hP (by decide) hob) 0 rfl rfl 0 (by decide) (hT _ w324) (fun _ h9 => h9) rfl dR_bin_1 ?_
  refine lv_iload_n hx hb dR_bin_4 rfl (lv_at hl 1 rfl) ?_
  refine ro_i (va_Run.run (va_runV (As := [.int (nI c0)]) (rest := []) ⟨hx, hb, hml, hown, hT⟩ (k_hasColumn l D cT (ad 1) (ad 2) (ad 3) wd9 rw9 (nI c0)) ⟨callB_of 1 hT (tb_gd w621) rfl rfl rfl (hT _ w2) (hT _ w618) hT_hasColumn ⟨Nat.le_of_ble_eq_true rfl, Nat.le_of_ble_eq_true rfl⟩, (hT _ w619), (hT _ w620)⟩ (RO.preV (ci := 2) (q0 := 0) hZ hS ((show va_P D vwCl [(ad 1, .inr (2, [.ref (ad 2), .ref (ad 3), .int wd9, .int rw9]))] _ from (pv_c (pg_1 (x := 1) hcd hP (by decide) htb) pv_0))) hK rfl rfl) rfl rfl hl.1 rfl (lv_room (Nat.le_of_ble_eq_true rfl)) dR_bin_5 ⟨Nat.le_of_ble_eq_true rfl, Nat.le_of_ble_eq_true rfl⟩)) ?_
  refine lv_if_eq (tgt := 21) hx hb dR_bin_8 rfl (fun h1 => absurd h1 (by rw [bi_t hc0]; decide)) (fun _ => ?_)
  refine lv_iload_n hx hb dR_bin_11 rfl (lv_at hl 2 rfl) ?_
  refine lv_ldc (v := (-2147483648)) hx hb hown (hT _ w685) dR_bin_12 ?_
  refine lv_icmp_eq (tgt := 21) hx hb dR_bin_14 rfl (fun h2 => absurd h2 hvm) (fun _ => ?_)
  refine lv_iconst (v := 1) hx hb dR_bin_17 (by decide) ?_
  refine lv_goto (tgt := 22) hx hb dR_bin_18 rfl ?_
  refine ro_v (va_Run.run (va_runS (As := [.int 1]) (rest := []) ⟨hx, hb, hml, hown, hT⟩ (k_demand_ok l D cT 1 (by decide)) ⟨callB_of 1 hT (tb_gd w510) rfl rfl rfl (hT _ w1) (hT _ w508) hR_demand ⟨Nat.le_of_ble_eq_true rfl, Nat.le_of_ble_eq_true rfl⟩, (hT _ w509)⟩ (RO.preS hZ hS ((show va_P D vwCl [] _ from fun _ _ h => nomatch h)) hK) rfl rfl hl.1 rfl (lv_room (Nat.le_of_ble_eq_true rfl)) dR_bin_22 ⟨Nat.le_of_ble_eq_true rfl, Nat.le_of_ble_eq_true rfl⟩)) ?_
  refine lv_aload_n hx hb dR_bin_25 rfl (lv_at hl 0 rfl) ?_
  refine va_get (D := D) (ci := 0) (v := .ref (ad 1)) (C := R_R) (T := T_R) (N := 13) hx hb hT in_R hown hK (pg_1 (x := 0) hcd hP (by decide) hob) 0 rfl rfl 0 (by decide) (hT _ w324) (fun _ h9 => h9) rfl dR_bin_26 ?_
  refine va_get (D := D) (ci := 2) (v := .ref (ad 2)) (C := R_T) (T := T_T) (N := 4) hx hb hT in_T hown hK (pg_1 (x := 1) hcd hP (by decide) htb) 0 rfl rfl 0 (by decide) (hT _ w74) (fun _ h9 => h9) rfl dR_bin_29 ?_
  refine lv_iload_n hx hb dR_bin_32 rfl (lv_at hl 1 rfl) ?_
  refine al_q (q := ad (10 + c0)) hx hb hK (pg_1 (x := 2) hcd hP (by decide) hca) 0 5 rfl rfl (vp_in_nI (by omega) (by decide)) (by rw [nI_clamp (by omega)]; exact hcb c0 hc6) dR_bin_33 ?_
  refine lv_iload_n hx hb dR_bin_34 rfl (lv_at hl 2 rfl) ?_
  refine ro_i (va_Run.run (va_runV (As := [.int v]) (rest := []) ⟨hx, hb, hml, hown, hT⟩ (k_takes l D cT (ad (10 + c0)) (ad (20 + c0)) (ad (30 + c0)) (nI (ne c0)) (ik c0) v) ⟨callB_of 1 hT (tb_gd w625) rfl rfl rfl (hT _ w3) (hT _ w622) hC_takes ⟨Nat.le_of_ble_eq_true rfl, Nat.le_of_ble_eq_true rfl⟩, (hT _ w623), (hT _ w624)⟩ (RO.preV (ci := 1) (q0 := 0) hZ hS ((show va_P D vwCl [(ad (10 + c0), .inr (1, [.ref (ad (20 + c0)), .ref (ad (30 + c0)), .int (nI (ne c0)), .int (ik c0)]))] _ from (pv_c (pg_1 (x := 10 + c0) hcd hP (by omega) hc1) pv_0))) hK rfl rfl) rfl rfl hl.1 rfl (lv_room (Nat.le_of_ble_eq_true rfl)) dR_bin_35 ⟨Nat.le_of_ble_eq_true rfl, Nat.le_of_ble_eq_true rfl⟩)) ?_
  refine ro_v (va_Run.run (va_runS (As := [.int (bn (takB (ik c0) v))]) (rest := []) ⟨hx, hb, hml, hown, hT⟩ (k_demand_ok l D cT (bn (takB (ik c0) v)) (by rw [hv9]; decide)) ⟨callB_of 1 hT (tb_gd w510) rfl rfl rfl (hT _ w1) (hT _ w508) hR_demand ⟨Nat.le_of_ble_eq_true rfl, Nat.le_of_ble_eq_true rfl⟩, (hT _ w509)⟩ (RO.preS hZ hS ((show va_P D vwCl [] _ from fun _ _ h => nomatch h)) hK) rfl rfl hl.1 rfl (lv_room (Nat.le_of_ble_eq_true rfl)) dR_bin_38 ⟨Nat.le_of_ble_eq_true rfl, Nat.le_of_ble_eq_true rfl⟩)) ?_
  refine lv_aload_n hx hb dR_bin_41 rfl (lv_at hl 0 rfl) ?_
  refine va_get (D := D) (ci := 0) (v := .ref (ad 1)) (C := R_R) (T := T_R) (N := 13) hx hb hT in_R hown hK (pg_1 (x := 0) hcd hP (by decide) hob) 0 rfl rfl 0 (by decide) (hT _ w324) (fun _ h9 => h9) rfl dR_bin_42 ?_
  refine va_get (D := D) (ci := 2) (v := .ref (ad 2)) (C := R_T) (T := T_T) (N := 4) hx hb hT in_T hown hK (pg_1 (x := 1) hcd hP (by decide) htb) 0 rfl rfl 0 (by decide) (hT _ w74) (fun _ h9 => h9) rfl dR_bin_45 ?_
  refine lv_iload_n hx hb dR_bin_48 rfl (lv_at hl 1 rfl) ?_
  refine al_q (q := ad (10 + c0)) hx hb hK (pg_1 (x := 2) hcd hP (by decide) hca) 0 5 rfl rfl (vp_in_nI (by omega) (by decide)) (by rw [nI_clamp (by omega)]; exact hcb c0 hc6) dR_bin_49 ?_
  refine lv_iload_n hx hb dR_bin_50 rfl (lv_at hl 2 rfl) ?_
  refine ro_i (va_Run.run (va_runV (As := [.int v]) (rest := []) ⟨hx, hb, hml, hown, hT⟩ (k_binOfK l D cT (ad (10 + c0)) (ad (20 + c0)) (ad (30 + c0)) (nI (ne c0)) (ik c0) v hk) ⟨callB_of 1 hT (tb_gd w689) rfl rfl rfl (hT _ w3) (hT _ w686) hC_binOf ⟨Nat.le_of_ble_eq_true rfl, Nat.le_of_ble_eq_true rfl⟩, (hT _ w687), (hT _ w688)⟩ (RO.preV (ci := 1) (q0 := 0) hZ hS ((show va_P D vwCl [(ad (10 + c0), .inr (1, [.ref (ad (20 + c0)), .ref (ad (30 + c0)), .int (nI (ne c0)), .int (ik c0)]))] _ from (pv_c (pg_1 (x := 10 + c0) hcd hP (by omega) hc1) pv_0))) hK rfl rfl) rfl rfl hl.1 rfl (lv_room (Nat.le_of_ble_eq_true rfl)) dR_bin_51 ⟨Nat.le_of_ble_eq_true rfl, Nat.le_of_ble_eq_true rfl⟩)) ?_
  exact W.iret (v := v) hx hb hr (fun t9 ht9 hW9 => ⟨rfl, ht9⟩) (fun q h => nomatch h) dR_bin_54
set_option maxHeartbeats 4000000 in
set_option maxRecDepth 100000 in
theorem k_bin_n (l : Launch) (D : va_G) (cT : Nat → ClassId) (cds : List Nat) (ad : Nat → Nat) (gg : Nat → Option va_E) (tc : Int32) (wd9 : Int32) (rw9 : Int32) (n : Nat) (vv : Nat → Int32) (vq : Nat → Int32) (eg : Nat → Int32) (ik : Nat → Int32) (ne : Nat → Nat) (c0 : Nat) (v : Int32) (hcd : CD cds) (hob : gg 0 = some (eOB ad tc)) (htb : gg 1 = some (eTB ad wd9 rw9)) (hCa : CAp cT ad gg) (hCf : COLF cT ad gg n vv vq eg ik ne) (hc0 : 0 ≤ nI c0 ∧ nI c0 ≤ wd9 - 1) (hc6 : c0 < 6) (hvm : ¬ v = (-2147483648)) (hne : ∀ c, c < 6 → ne c ≤ 11) (hv9 : takB (ik c0) v = true) (hk : ik c0 = 0) (hS9 : RIS eg (11 * c0) (ne c0)) : Met l yR_bin WR_bin ({ frames := 3, cells := 0, slots := 0, locals := 63 } : Room) (RO D vwCl [.ref (ad 0), .int (nI c0), .int v] ([] ++ pg cds ad gg) (TY cT)) (QcRead (nI (cnE eg (11 * c0) v (ne c0)))) 0 0 (fun _ => False) := by
  refine Met.ofW (cc := cR_bin) (maxL := 3) (ret := (some .int)) (by decide) rfl ?_
  intro p e s m args below meth c s₁ B hml hv
  obtain ⟨rfl, hZ, hP, hK⟩ := hv
  have hx := B.exec
  have hb := B.bytes
  have hr := B.returns
  have hts := atoms_spec (ws := WR_bin) B.pre
  have hT : ∀ w ∈ TB, w.before _ s = true := fun w h => hts w (List.mem_cons_of_mem _ h)
  have hown : s.vm.findClass R_R = some m.cls := findClass_of_methodNamed B.named
  have hlocks := B.notSynchronized
  have hS : va_S (fun _ => False) s.heap s.heap [] := va_S.rf
  have hl := lv_entry ([.ref (ad 0), .int (nI c0), .int v]) (n := 3) (Nat.le_of_ble_eq_true rfl)
  rw [lg_entry_eq]
  generalize (lg_sl ([.ref (ad 0), .int (nI c0), .int v]) ++ List.replicate (3 - (lg_sl ([.ref (ad 0), .int (nI c0), .int v])).length) Slot.unset).toArray = ls at hl ⊢
  have hl : lv_has ls 3 [(0, .ref (ad 0)), (1, .int (nI c0)), (2, .int v)] := hl
  obtain ⟨qf, hca, hcb⟩ := hCa
  obtain ⟨fv, fe, hce, hcv, hcq, hcg⟩ := hCf c0 hc6
  obtain ⟨hc1, hc2, hc3⟩ := hce
  refine lv_aload_n hx hb dR_bin_0 rfl (lv_at hl 0 rfl) ?_
  refine va_get (D := D) (ci := 0) (v := .ref (ad 1)) (C := R_R) (T := T_R) (N := 13) hx hb hT in_R hown hK (pg_1 (x := 0) hcd hP (by decide) hob) 0 rfl rfl 0 (by decide) (hT _ w324) (fun _ h9 => h9) rfl dR_bin_1 ?_
  refine lv_iload_n hx hb dR_bin_4 rfl (lv_at hl 1 rfl) ?_
  refine ro_i (va_Run.run (va_runV (As := [.int (nI c0)]) (rest := []) ⟨hx, hb, hml, hown, hT⟩ (k_hasColumn l D cT (ad 1) (ad 2) (ad 3) wd9 rw9 (nI c0)) ⟨callB_of 1 hT (tb_gd w621) rfl rfl rfl (hT _ w2) (hT _ w618) hT_hasColumn ⟨Nat.le_of_ble_eq_true rfl, Nat.le_of_ble_eq_true rfl⟩, (hT _ w619), (hT _ w620)⟩ (RO.preV (ci := 2) (q0 := 0) hZ hS ((show va_P D vwCl [(ad 1, .inr (2, [.ref (ad 2), .ref (ad 3), .int wd9, .int rw9]))] _ from (pv_c (pg_1 (x := 1) hcd hP (by decide) htb) pv_0))) hK rfl rfl) rfl rfl hl.1 rfl (lv_room (Nat.le_of_ble_eq_true rfl)) dR_bin_5 ⟨Nat.le_of_ble_eq_true rfl, Nat.le_of_ble_eq_true rfl⟩)) ?_
  refine lv_if_eq (tgt := 21) hx hb dR_bin_8 rfl (fun h1 => absurd h1 (by rw [bi_t hc0]; decide)) (fun _ => ?_)
  refine lv_iload_n hx hb dR_bin_11 rfl (lv_at hl 2 rfl) ?_
  refine lv_ldc (v := (-2147483648)) hx hb hown (hT _ w685) dR_bin_12 ?_
  refine lv_icmp_eq (tgt := 21) hx hb dR_bin_14 rfl (fun h2 => absurd h2 hvm) (fun _ => ?_)
  refine lv_iconst (v := 1) hx hb dR_bin_17 (by decide) ?_
  refine lv_goto (tgt := 22) hx hb dR_bin_18 rfl ?_
  refine ro_v (va_Run.run (va_runS (As := [.int 1]) (rest := []) ⟨hx, hb, hml, hown, hT⟩ (k_demand_ok l D cT 1 (by decide)) ⟨callB_of 1 hT (tb_gd w510) rfl rfl rfl (hT _ w1) (hT _ w508) hR_demand ⟨Nat.le_of_ble_eq_true rfl, Nat.le_of_ble_eq_true rfl⟩, (hT _ w509)⟩ (RO.preS hZ hS ((show va_P D vwCl [] _ from fun _ _ h => nomatch h)) hK) rfl rfl hl.1 rfl (lv_room (Nat.le_of_ble_eq_true rfl)) dR_bin_22 ⟨Nat.le_of_ble_eq_true rfl, Nat.le_of_ble_eq_true rfl⟩)) ?_
  refine lv_aload_n hx hb dR_bin_25 rfl (lv_at hl 0 rfl) ?_
  refine va_get (D := D) (ci := 0) (v := .ref (ad 1)) (C := R_R) (T := T_R) (N := 13) hx hb hT in_R hown hK (pg_1 (x := 0) hcd hP (by decide) hob) 0 rfl rfl 0 (by decide) (hT _ w324) (fun _ h9 => h9) rfl dR_bin_26 ?_
  refine va_get (D := D) (ci := 2) (v := .ref (ad 2)) (C := R_T) (T := T_T) (N := 4) hx hb hT in_T hown hK (pg_1 (x := 1) hcd hP (by decide) htb) 0 rfl rfl 0 (by decide) (hT _ w74) (fun _ h9 => h9) rfl dR_bin_29 ?_
  refine lv_iload_n hx hb dR_bin_32 rfl (lv_at hl 1 rfl) ?_
  refine al_q (q := ad (10 + c0)) hx hb hK (pg_1 (x := 2) hcd hP (by decide) hca) 0 5 rfl rfl (vp_in_nI (by omega) (by decide)) (by rw [nI_clamp (by omega)]; exact hcb c0 hc6) dR_bin_33 ?_
  refine lv_iload_n hx hb dR_bin_34 rfl (lv_at hl 2 rfl) ?_
  refine ro_i (va_Run.run (va_runV (As := [.int v]) (rest := []) ⟨hx, hb, hml, hown, hT⟩ (k_takes l D cT (ad (10 + c0)) (ad (20 + c0)) (ad (30 + c0)) (nI (ne c0)) (ik c0) v) ⟨callB_of 1 hT (tb_gd w625) rfl rfl rfl (hT _ w3) (hT _ w622) hC_takes ⟨Nat.le_of_ble_eq_true rfl, Nat.le_of_ble_eq_true rfl⟩, (hT _ w623), (hT _ w624)⟩ (RO.preV (ci := 1) (q0 := 0) hZ hS ((show va_P D vwCl [(ad (10 + c0), .inr (1, [.ref (ad (20 + c0)), .ref (ad (30 + c0)), .int (nI (ne c0)), .int (ik c0)]))] _ from (pv_c (pg_1 (x := 10 + c0) hcd hP (by omega) hc1) pv_0))) hK rfl rfl) rfl rfl hl.1 rfl (lv_room (Nat.le_of_ble_eq_true rfl)) dR_bin_35 ⟨Nat.le_of_ble_eq_true rfl, Nat.le_of_ble_eq_true rfl⟩)) ?_
  refine ro_v (va_Run.run (va_runS (As := [.int (bn (takB (ik c0) v))]) (rest := []) ⟨hx, hb, hml, hown, hT⟩ (k_demand_ok l D cT (bn (takB (ik c0) v)) (by rw [hv9]; decide)) ⟨callB_of 1 hT (tb_gd w510) rfl rfl rfl (hT _ w1) (hT _ w508) hR_demand ⟨Nat.le_of_ble_eq_true rfl, Nat.le_of_ble_eq_true rfl⟩, (hT _ w509)⟩ (RO.preS hZ hS ((show va_P D vwCl [] _ from fun _ _ h => nomatch h)) hK) rfl rfl hl.1 rfl (lv_room (Nat.le_of_ble_eq_true rfl)) dR_bin_38 ⟨Nat.le_of_ble_eq_true rfl, Nat.le_of_ble_eq_true rfl⟩)) ?_
  refine lv_aload_n hx hb dR_bin_41 rfl (lv_at hl 0 rfl) ?_
  refine va_get (D := D) (ci := 0) (v := .ref (ad 1)) (C := R_R) (T := T_R) (N := 13) hx hb hT in_R hown hK (pg_1 (x := 0) hcd hP (by decide) hob) 0 rfl rfl 0 (by decide) (hT _ w324) (fun _ h9 => h9) rfl dR_bin_42 ?_
  refine va_get (D := D) (ci := 2) (v := .ref (ad 2)) (C := R_T) (T := T_T) (N := 4) hx hb hT in_T hown hK (pg_1 (x := 1) hcd hP (by decide) htb) 0 rfl rfl 0 (by decide) (hT _ w74) (fun _ h9 => h9) rfl dR_bin_45 ?_
  refine lv_iload_n hx hb dR_bin_48 rfl (lv_at hl 1 rfl) ?_
  refine al_q (q := ad (10 + c0)) hx hb hK (pg_1 (x := 2) hcd hP (by decide) hca) 0 5 rfl rfl (vp_in_nI (by omega) (by decide)) (by rw [nI_clamp (by omega)]; exact hcb c0 hc6) dR_bin_49 ?_
  refine lv_iload_n hx hb dR_bin_50 rfl (lv_at hl 2 rfl) ?_
  refine ro_i (va_Run.run (va_runV (As := [.int v]) (rest := []) ⟨hx, hb, hml, hown, hT⟩ (k_binOfN l D cT (ad (10 + c0)) (ad (20 + c0)) (ad (30 + c0)) (nI (ne c0)) (ik c0) fe eg (11 * c0) (ne c0) v hk rfl (hne c0 hc6) hcg hS9) ⟨callB_of 1 hT (tb_gd w689) rfl rfl rfl (hT _ w3) (hT _ w686) hC_binOf ⟨Nat.le_of_ble_eq_true rfl, Nat.le_of_ble_eq_true rfl⟩, (hT _ w687), (hT _ w688)⟩ (RO.preV (ci := 1) (q0 := 0) hZ hS ((show va_P D vwCl [(ad (10 + c0), .inr (1, [.ref (ad (20 + c0)), .ref (ad (30 + c0)), .int (nI (ne c0)), .int (ik c0)])), (ad (30 + c0), .inl (cT 0, 11, .inl fe))] _ from (pv_c (pg_1 (x := 10 + c0) hcd hP (by omega) hc1) (pv_c (pg_1 (x := 30 + c0) hcd hP (by omega) hc3) pv_0)))) hK rfl rfl) rfl rfl hl.1 rfl (lv_room (Nat.le_of_ble_eq_true rfl)) dR_bin_51 ⟨Nat.le_of_ble_eq_true rfl, Nat.le_of_ble_eq_true rfl⟩)) ?_
  exact W.iret (v := nI (cnE eg (11 * c0) v (ne c0))) hx hb hr (fun t9 ht9 hW9 => ⟨rfl, ht9⟩) (fun q h => nomatch h) dR_bin_54
set_option maxHeartbeats 4000000 in
set_option maxRecDepth 100000 in
theorem k_bin_nov (l : Launch) (D : va_G) (cT : Nat → ClassId) (cds : List Nat) (ad : Nat → Nat) (gg : Nat → Option va_E) (tc : Int32) (wd9 : Int32) (rw9 : Int32) (n : Nat) (vv : Nat → Int32) (vq : Nat → Int32) (eg : Nat → Int32) (ik : Nat → Int32) (ne : Nat → Nat) (c0 : Nat) (v : Int32) (hlt : l.stackTraces = false) (hcd : CD cds) (hob : gg 0 = some (eOB ad tc)) (htb : gg 1 = some (eTB ad wd9 rw9)) (hCa : CAp cT ad gg) (hCf : COLF cT ad gg n vv vq eg ik ne) (hc0 : 0 ≤ nI c0 ∧ nI c0 ≤ wd9 - 1) (hc6 : c0 < 6) (hvm : ¬ v = (-2147483648)) (hv9 : takB (ik c0) v = false) : MetT l yR_bin WR_bin ({ frames := 7, cells := 1, slots := 6, locals := 111 } : Room) (RO D vwCl [.ref (ad 0), .int (nI c0), .int v] ([] ++ pg cds ad gg) (TY cT)) "java/lang/IllegalArgumentException" 1 6 := by
  refine MetT.ofW (cc := cR_bin) (maxL := 3) (ret := (some .int)) (by decide) rfl ?_
  intro p e s m args below meth c s₁ B hml hno hv
  obtain ⟨rfl, hZ, hP, hK⟩ := hv
  have hx := B.exec
  have hb := B.bytes
  have hr := B.returns
  have hts := atoms_spec (ws := WR_bin) B.pre
  have hT : ∀ w ∈ TB, w.before _ s = true := fun w h => hts w (List.mem_cons_of_mem _ h)
  have hown : s.vm.findClass R_R = some m.cls := findClass_of_methodNamed B.named
  have hlocks := B.notSynchronized
  have hS : va_S (fun _ => False) s.heap s.heap [] := va_S.rf
  have hl := lv_entry ([.ref (ad 0), .int (nI c0), .int v]) (n := 3) (Nat.le_of_ble_eq_true rfl)
  rw [lg_entry_eq]
  generalize (lg_sl ([.ref (ad 0), .int (nI c0), .int v]) ++ List.replicate (3 - (lg_sl ([.ref (ad 0), .int (nI c0), .int v])).length) Slot.unset).toArray = ls at hl ⊢
  have hl : lv_has ls 3 [(0, .ref (ad 0)), (1, .int (nI c0)), (2, .int v)] := hl
  obtain ⟨qf, hca, hcb⟩ := hCa
  obtain ⟨fv, fe, hce, hcv, hcq, hcg⟩ := hCf c0 hc6
  obtain ⟨hc1, hc2, hc3⟩ := hce
  refine lv_aload_n hx hb dR_bin_0 rfl (lv_at hl 0 rfl) ?_
  refine va_get (D := D) (ci := 0) (v := .ref (ad 1)) (C := R_R) (T := T_R) (N := 13) hx hb hT in_R hown hK (pg_1 (x := 0) hcd hP (by decide) hob) 0 rfl rfl 0 (by decide) (hT _ w324) (fun _ h9 => h9) rfl dR_bin_1 ?_
  refine lv_iload_n hx hb dR_bin_4 rfl (lv_at hl 1 rfl) ?_
  refine ro_i (va_Run.run (va_runV (As := [.int (nI c0)]) (rest := []) ⟨hx, hb, hml, hown, hT⟩ (k_hasColumn l D cT (ad 1) (ad 2) (ad 3) wd9 rw9 (nI c0)) ⟨callB_of 1 hT (tb_gd w621) rfl rfl rfl (hT _ w2) (hT _ w618) hT_hasColumn ⟨Nat.le_of_ble_eq_true rfl, Nat.le_of_ble_eq_true rfl⟩, (hT _ w619), (hT _ w620)⟩ (RO.preV (ci := 2) (q0 := 0) hZ hS ((show va_P D vwCl [(ad 1, .inr (2, [.ref (ad 2), .ref (ad 3), .int wd9, .int rw9]))] _ from (pv_c (pg_1 (x := 1) hcd hP (by decide) htb) pv_0))) hK rfl rfl) rfl rfl hl.1 rfl (lv_room (Nat.le_of_ble_eq_true rfl)) dR_bin_5 ⟨Nat.le_of_ble_eq_true rfl, Nat.le_of_ble_eq_true rfl⟩)) ?_
  refine lv_if_eq (tgt := 21) hx hb dR_bin_8 rfl (fun h1 => absurd h1 (by rw [bi_t hc0]; decide)) (fun _ => ?_)
  refine lv_iload_n hx hb dR_bin_11 rfl (lv_at hl 2 rfl) ?_
  refine lv_ldc (v := (-2147483648)) hx hb hown (hT _ w685) dR_bin_12 ?_
  refine lv_icmp_eq (tgt := 21) hx hb dR_bin_14 rfl (fun h2 => absurd h2 hvm) (fun _ => ?_)
  refine lv_iconst (v := 1) hx hb dR_bin_17 (by decide) ?_
  refine lv_goto (tgt := 22) hx hb dR_bin_18 rfl ?_
  refine ro_v (va_Run.run (va_runS (As := [.int 1]) (rest := []) ⟨hx, hb, hml, hown, hT⟩ (k_demand_ok l D cT 1 (by decide)) ⟨callB_of 1 hT (tb_gd w510) rfl rfl rfl (hT _ w1) (hT _ w508) hR_demand ⟨Nat.le_of_ble_eq_true rfl, Nat.le_of_ble_eq_true rfl⟩, (hT _ w509)⟩ (RO.preS hZ hS ((show va_P D vwCl [] _ from fun _ _ h => nomatch h)) hK) rfl rfl hl.1 rfl (lv_room (Nat.le_of_ble_eq_true rfl)) dR_bin_22 ⟨Nat.le_of_ble_eq_true rfl, Nat.le_of_ble_eq_true rfl⟩)) ?_
  refine lv_aload_n hx hb dR_bin_25 rfl (lv_at hl 0 rfl) ?_
  refine va_get (D := D) (ci := 0) (v := .ref (ad 1)) (C := R_R) (T := T_R) (N := 13) hx hb hT in_R hown hK (pg_1 (x := 0) hcd hP (by decide) hob) 0 rfl rfl 0 (by decide) (hT _ w324) (fun _ h9 => h9) rfl dR_bin_26 ?_
  refine va_get (D := D) (ci := 2) (v := .ref (ad 2)) (C := R_T) (T := T_T) (N := 4) hx hb hT in_T hown hK (pg_1 (x := 1) hcd hP (by decide) htb) 0 rfl rfl 0 (by decide) (hT _ w74) (fun _ h9 => h9) rfl dR_bin_29 ?_
  refine lv_iload_n hx hb dR_bin_32 rfl (lv_at hl 1 rfl) ?_
  refine al_q (q := ad (10 + c0)) hx hb hK (pg_1 (x := 2) hcd hP (by decide) hca) 0 5 rfl rfl (vp_in_nI (by omega) (by decide)) (by rw [nI_clamp (by omega)]; exact hcb c0 hc6) dR_bin_33 ?_
  refine lv_iload_n hx hb dR_bin_34 rfl (lv_at hl 2 rfl) ?_
  refine ro_i (va_Run.run (va_runV (As := [.int v]) (rest := []) ⟨hx, hb, hml, hown, hT⟩ (k_takes l D cT (ad (10 + c0)) (ad (20 + c0)) (ad (30 + c0)) (nI (ne c0)) (ik c0) v) ⟨callB_of 1 hT (tb_gd w625) rfl rfl rfl (hT _ w3) (hT _ w622) hC_takes ⟨Nat.le_of_ble_eq_true rfl, Nat.le_of_ble_eq_true rfl⟩, (hT _ w623), (hT _ w624)⟩ (RO.preV (ci := 1) (q0 := 0) hZ hS ((show va_P D vwCl [(ad (10 + c0), .inr (1, [.ref (ad (20 + c0)), .ref (ad (30 + c0)), .int (nI (ne c0)), .int (ik c0)]))] _ from (pv_c (pg_1 (x := 10 + c0) hcd hP (by omega) hc1) pv_0))) hK rfl rfl) rfl rfl hl.1 rfl (lv_room (Nat.le_of_ble_eq_true rfl)) dR_bin_35 ⟨Nat.le_of_ble_eq_true rfl, Nat.le_of_ble_eq_true rfl⟩)) ?_
  exact tx_out (tx_goS (As := [.int (bn (takB (ik c0) v))]) (rest := []) ⟨hx, hb, hml, hown, hT⟩ (k_demand_no l D cT (bn (takB (ik c0) v)) hlt (by rw [hv9]; rfl)) ⟨callB_of 1 hT (tb_gd w510) rfl rfl rfl (hT _ w1) (hT _ w508) hR_demand ⟨Nat.le_of_ble_eq_true rfl, Nat.le_of_ble_eq_true rfl⟩, (hT _ w509)⟩ (RO.preS hZ hS ((show va_P D vwCl [] _ from fun _ _ h => nomatch h)) hK) rfl hl.1 rfl (Nat.le_of_ble_eq_true rfl) dR_bin_38 ⟨Nat.le_of_ble_eq_true rfl, Nat.le_of_ble_eq_true rfl⟩) hno hlocks
set_option maxHeartbeats 4000000 in
set_option maxRecDepth 100000 in
theorem k_bin_no (l : Launch) (D : va_G) (cT : Nat → ClassId) (cds : List Nat) (ad : Nat → Nat) (gg : Nat → Option va_E) (tc : Int32) (wd9 : Int32) (rw9 : Int32) (a1 : Int32) (v : Int32) (hlt : l.stackTraces = false) (hcd : CD cds) (hob : gg 0 = some (eOB ad tc)) (htb : gg 1 = some (eTB ad wd9 rw9)) (hq : ¬ ((0 ≤ a1 ∧ a1 ≤ wd9 - 1) ∧ ¬ v = (-2147483648))) : MetT l yR_bin WR_bin ({ frames := 7, cells := 1, slots := 6, locals := 111 } : Room) (RO D vwCl [.ref (ad 0), .int a1, .int v] ([] ++ pg cds ad gg) (TY cT)) "java/lang/IllegalArgumentException" 1 6 := by
  refine MetT.ofW (cc := cR_bin) (maxL := 3) (ret := (some .int)) (by decide) rfl ?_
  intro p e s m args below meth c s₁ B hml hno hv
  obtain ⟨rfl, hZ, hP, hK⟩ := hv
  have hx := B.exec
  have hb := B.bytes
  have hr := B.returns
  have hts := atoms_spec (ws := WR_bin) B.pre
  have hT : ∀ w ∈ TB, w.before _ s = true := fun w h => hts w (List.mem_cons_of_mem _ h)
  have hown : s.vm.findClass R_R = some m.cls := findClass_of_methodNamed B.named
  have hlocks := B.notSynchronized
  have hS : va_S (fun _ => False) s.heap s.heap [] := va_S.rf
  have hl := lv_entry ([.ref (ad 0), .int a1, .int v]) (n := 3) (Nat.le_of_ble_eq_true rfl)
  rw [lg_entry_eq]
  generalize (lg_sl ([.ref (ad 0), .int a1, .int v]) ++ List.replicate (3 - (lg_sl ([.ref (ad 0), .int a1, .int v])).length) Slot.unset).toArray = ls at hl ⊢
  have hl : lv_has ls 3 [(0, .ref (ad 0)), (1, .int a1), (2, .int v)] := hl
  refine lv_aload_n hx hb dR_bin_0 rfl (lv_at hl 0 rfl) ?_
  refine va_get (D := D) (ci := 0) (v := .ref (ad 1)) (C := R_R) (T := T_R) (N := 13) hx hb hT in_R hown hK (pg_1 (x := 0) hcd hP (by decide) hob) 0 rfl rfl 0 (by decide) (hT _ w324) (fun _ h9 => h9) rfl dR_bin_1 ?_
  refine lv_iload_n hx hb dR_bin_4 rfl (lv_at hl 1 rfl) ?_
  refine ro_i (va_Run.run (va_runV (As := [.int a1]) (rest := []) ⟨hx, hb, hml, hown, hT⟩ (k_hasColumn l D cT (ad 1) (ad 2) (ad 3) wd9 rw9 a1) ⟨callB_of 1 hT (tb_gd w621) rfl rfl rfl (hT _ w2) (hT _ w618) hT_hasColumn ⟨Nat.le_of_ble_eq_true rfl, Nat.le_of_ble_eq_true rfl⟩, (hT _ w619), (hT _ w620)⟩ (RO.preV (ci := 2) (q0 := 0) hZ hS ((show va_P D vwCl [(ad 1, .inr (2, [.ref (ad 2), .ref (ad 3), .int wd9, .int rw9]))] _ from (pv_c (pg_1 (x := 1) hcd hP (by decide) htb) pv_0))) hK rfl rfl) rfl rfl hl.1 rfl (lv_room (Nat.le_of_ble_eq_true rfl)) dR_bin_5 ⟨Nat.le_of_ble_eq_true rfl, Nat.le_of_ble_eq_true rfl⟩)) ?_
  refine lv_if_eq (tgt := 21) hx hb dR_bin_8 rfl (fun h1 => ?_) (fun h1 => ?_)
  · refine lv_iconst (v := 0) hx hb dR_bin_21 (by decide) ?_
    exact tx_out (tx_goS (As := [.int 0]) (rest := []) ⟨hx, hb, hml, hown, hT⟩ (k_demand_no l D cT 0 hlt rfl) ⟨callB_of 1 hT (tb_gd w510) rfl rfl rfl (hT _ w1) (hT _ w508) hR_demand ⟨Nat.le_of_ble_eq_true rfl, Nat.le_of_ble_eq_true rfl⟩, (hT _ w509)⟩ (RO.preS hZ hS ((show va_P D vwCl [] _ from fun _ _ h => nomatch h)) hK) rfl hl.1 rfl (Nat.le_of_ble_eq_true rfl) dR_bin_22 ⟨Nat.le_of_ble_eq_true rfl, Nat.le_of_ble_eq_true rfl⟩) hno hlocks
  · refine lv_iload_n hx hb dR_bin_11 rfl (lv_at hl 2 rfl) ?_
    refine lv_ldc (v := (-2147483648)) hx hb hown (hT _ w685) dR_bin_12 ?_
    refine lv_icmp_eq (tgt := 21) hx hb dR_bin_14 rfl (fun h2 => ?_) (fun h2 => ?_)
    · refine lv_iconst (v := 0) hx hb dR_bin_21 (by decide) ?_
      exact tx_out (tx_goS (As := [.int 0]) (rest := []) ⟨hx, hb, hml, hown, hT⟩ (k_demand_no l D cT 0 hlt rfl) ⟨callB_of 1 hT (tb_gd w510) rfl rfl rfl (hT _ w1) (hT _ w508) hR_demand ⟨Nat.le_of_ble_eq_true rfl, Nat.le_of_ble_eq_true rfl⟩, (hT _ w509)⟩ (RO.preS hZ hS ((show va_P D vwCl [] _ from fun _ _ h => nomatch h)) hK) rfl hl.1 rfl (Nat.le_of_ble_eq_true rfl) dR_bin_22 ⟨Nat.le_of_ble_eq_true rfl, Nat.le_of_ble_eq_true rfl⟩) hno hlocks
    · refine lv_iconst (v := 1) hx hb dR_bin_17 (by decide) ?_
      refine lv_goto (tgt := 22) hx hb dR_bin_18 rfl ?_
      exact absurd ⟨(bi_1 h1), h2⟩ hq
set_option maxHeartbeats 4000000 in
set_option maxRecDepth 100000 in
theorem k_shape (l : Launch) (D : va_G) (cT : Nat → ClassId) (cds : List Nat) (ad : Nat → Nat) (gg : Nat → Option va_E) (tc : Int32) (pd : Int32) (pl9 : Int32) (pw : Int32) (pu : Int32) (pq9 : Int32) (psb : Int64) (pcb : Int32) (a1 : Int32) (a2 : Int32) (a3 : Int32) (hcd : CD cds) (hob : gg 0 = some (eOB ad tc)) (hpl : gg 4 = some (ePL pd pl9 pw pu pq9 psb pcb)) (hs1 : 1 ≤ a1 ∧ a1 ≤ 4) (hs2 : 1 ≤ a2 ∧ a2 ≤ 24) (hs3 : 0 ≤ a3 ∧ a3 ≤ 20) (sz : Nat) : Met l yR_shape WR_shape ({ frames := 1, cells := 0, slots := 0, locals := 22 } : Room) (RW D vwCl [.ref (ad 0), .int a1, .int a2, .int a3] ([] ++ pg cds ad gg) (TY cT) sz) (va_Qv (fun u9 : (Nat → Option va_E) => (∀ z8, z8 ≠ 4 → u9 z8 = gg z8) ∧ u9 4 = some (ePL a1 a2 a3 pu pq9 psb pcb)) (BW D vwCl (va_A ([] ++ pg cds ad gg) sz) (fun u9 : (Nat → Option va_E) => ([] ++ pg cds ad u9))) (va_A ([] ++ pg cds ad gg) sz)) 0 0 (va_A ([] ++ pg cds ad gg) sz) := by
  refine Met.ofW (cc := cR_shape) (maxL := 4) (ret := none) (by decide) rfl ?_
  intro p e s m args below meth c s₁ B hml hv
  obtain ⟨rfl, hsz, hZ, hP, hK, hD0⟩ := hv
  have hx := B.exec
  have hb := B.bytes
  have hr := B.returns
  have hts := atoms_spec (ws := WR_shape) B.pre
  have hT : ∀ w ∈ TB, w.before _ s = true := fun w h => hts w (List.mem_cons_of_mem _ h)
  have hown : s.vm.findClass R_R = some m.cls := findClass_of_methodNamed B.named
  have hlocks := B.notSynchronized
  subst hsz
  have hD := hD0.self (sz := s.heap.size)
  generalize hAe : va_A ([] ++ pg cds ad gg) s.heap.size = A at hD hZ ⊢
  have hA : ∀ q : Nat, s.heap.size ≤ q → A q := fun q h => by rw [← hAe]; exact Or.inr h
  have hS : va_S A s.heap s.heap [] := va_S.rf
  have hl := lv_entry ([.ref (ad 0), .int a1, .int a2, .int a3]) (n := 4) (Nat.le_of_ble_eq_true rfl)
  rw [lg_entry_eq]
  generalize (lg_sl ([.ref (ad 0), .int a1, .int a2, .int a3]) ++ List.replicate (4 - (lg_sl ([.ref (ad 0), .int a1, .int a2, .int a3])).length) Slot.unset).toArray = ls at hl ⊢
  have hl : lv_has ls 4 [(0, .ref (ad 0)), (1, .int a1), (2, .int a2), (3, .int a3)] := hl
  refine lv_iload_n hx hb dR_shape_0 rfl (lv_at hl 1 rfl) ?_
  refine lv_iconst (v := 1) hx hb dR_shape_1 (by decide) ?_
  refine lv_iconst (v := 4) hx hb dR_shape_2 (by decide) ?_
  refine ro_i (va_Run.run (va_runS (As := [.int a1, .int 1, .int 4]) (rest := []) ⟨hx, hb, hml, hown, hT⟩ (k_isWithin l D cT a1 1 4) ⟨callB_of 3 hT (tb_gd w499) rfl rfl rfl (hT _ w1) (hT _ w497) hR_isWithin ⟨Nat.le_of_ble_eq_true rfl, Nat.le_of_ble_eq_true rfl⟩, (hT _ w498)⟩ (RO.preS hZ hS ((show va_P D vwCl [] _ from fun _ _ h => nomatch h)) hK) rfl rfl hl.1 rfl (lv_room (Nat.le_of_ble_eq_true rfl)) dR_shape_3 ⟨Nat.le_of_ble_eq_true rfl, Nat.le_of_ble_eq_true rfl⟩)) ?_
  refine lv_if_eq (tgt := 33) hx hb dR_shape_6 rfl (fun h1 => absurd h1 (by rw [bi_t hs1]; decide)) (fun _ => ?_)
  refine lv_iload_n hx hb dR_shape_9 rfl (lv_at hl 2 rfl) ?_
  refine lv_iconst (v := 1) hx hb dR_shape_10 (by decide) ?_
  refine lv_bipush (v := 24) hx hb dR_shape_11 (by decide) ?_
  refine ro_i (va_Run.run (va_runS (As := [.int a2, .int 1, .int 24]) (rest := []) ⟨hx, hb, hml, hown, hT⟩ (k_isWithin l D cT a2 1 24) ⟨callB_of 3 hT (tb_gd w499) rfl rfl rfl (hT _ w1) (hT _ w497) hR_isWithin ⟨Nat.le_of_ble_eq_true rfl, Nat.le_of_ble_eq_true rfl⟩, (hT _ w498)⟩ (RO.preS hZ hS ((show va_P D vwCl [] _ from fun _ _ h => nomatch h)) hK) rfl rfl hl.1 rfl (lv_room (Nat.le_of_ble_eq_true rfl)) dR_shape_13 ⟨Nat.le_of_ble_eq_true rfl, Nat.le_of_ble_eq_true rfl⟩)) ?_
  refine lv_if_eq (tgt := 33) hx hb dR_shape_16 rfl (fun h2 => absurd h2 (by rw [bi_t hs2]; decide)) (fun _ => ?_)
  refine lv_iload_n hx hb dR_shape_19 rfl (lv_at hl 3 rfl) ?_
  refine lv_iconst (v := 0) hx hb dR_shape_20 (by decide) ?_
  refine lv_bipush (v := 20) hx hb dR_shape_21 (by decide) ?_
  refine ro_i (va_Run.run (va_runS (As := [.int a3, .int 0, .int 20]) (rest := []) ⟨hx, hb, hml, hown, hT⟩ (k_isWithin l D cT a3 0 20) ⟨callB_of 3 hT (tb_gd w499) rfl rfl rfl (hT _ w1) (hT _ w497) hR_isWithin ⟨Nat.le_of_ble_eq_true rfl, Nat.le_of_ble_eq_true rfl⟩, (hT _ w498)⟩ (RO.preS hZ hS ((show va_P D vwCl [] _ from fun _ _ h => nomatch h)) hK) rfl rfl hl.1 rfl (lv_room (Nat.le_of_ble_eq_true rfl)) dR_shape_23 ⟨Nat.le_of_ble_eq_true rfl, Nat.le_of_ble_eq_true rfl⟩)) ?_
  refine lv_if_eq (tgt := 33) hx hb dR_shape_26 rfl (fun h3 => absurd h3 (by rw [bi_t hs3]; decide)) (fun _ => ?_)
  refine lv_iconst (v := 1) hx hb dR_shape_29 (by decide) ?_
  refine lv_goto (tgt := 34) hx hb dR_shape_30 rfl ?_
  refine ro_v (va_Run.run (va_runS (As := [.int 1]) (rest := []) ⟨hx, hb, hml, hown, hT⟩ (k_demand_ok l D cT 1 (by decide)) ⟨callB_of 1 hT (tb_gd w510) rfl rfl rfl (hT _ w1) (hT _ w508) hR_demand ⟨Nat.le_of_ble_eq_true rfl, Nat.le_of_ble_eq_true rfl⟩, (hT _ w509)⟩ (RO.preS hZ hS ((show va_P D vwCl [] _ from fun _ _ h => nomatch h)) hK) rfl rfl hl.1 rfl (lv_room (Nat.le_of_ble_eq_true rfl)) dR_shape_34 ⟨Nat.le_of_ble_eq_true rfl, Nat.le_of_ble_eq_true rfl⟩)) ?_
  have hB9 : QI gg [(4, .inr (3, [.int pd, .int pl9, .int pw, .int pu, .int pq9, .long psb, .int pcb]))] := (qi_c (by decide) hpl qi_0)
  have hN9 := (show NDc [4] from (nd_c na_0 nd_0))
  have hP := bo_P (wc := [(4, .inr (3, [.int pd, .int pl9, .int pw, .int pu, .int pq9, .long psb, .int pcb]))]) (X := []) hcd hN9 hB9 hP
  have hD := bo_D (wc := [(4, .inr (3, [.int pd, .int pl9, .int pw, .int pu, .int pq9, .long psb, .int pcb]))]) (X := []) hcd hN9 hB9 hD
  have hP : va_P D vwCl ([(ad 4, .inr (3, [.int pd, .int pl9, .int pw, .int pu, .int pq9, .long psb, .int pcb]))] ++ pg cds ad (upo gg [4])) _ := hP
  have hD : va_D A ([(ad 4, .inr (3, [.int pd, .int pl9, .int pw, .int pu, .int pq9, .long psb, .int pcb]))] ++ pg cds ad (upo gg [4])) := hD
  refine lv_aload_n hx hb dR_shape_37 rfl (lv_at hl 0 rfl) ?_
  refine va_get (D := D) (ci := 0) (v := .ref (ad 4)) (C := R_R) (T := T_R) (N := 13) hx hb hT in_R hown hK (pg_1 (x := 0) hcd hP (by decide) ((upo_o (na_c (by decide) na_0)).trans hob)) 0 rfl rfl 1 (by decide) (hT _ w325) (fun _ h9 => h9) rfl dR_shape_38 ?_
  refine lv_iload_n hx hb dR_shape_41 rfl (lv_at hl 1 rfl) ?_
  refine va_put (D := D) (ci := 3) (v := .int a1) (ty := .int) (C := R_P) (T := T_P) (N := 7) hx hb hT in_P ty_P ty_P_ok m_P hown hK hP hD hS 0 rfl rfl 0 (by decide) (hT _ w101) (fun _ h9 => h9) rfl (by decide +kernel) rfl rfl (Nat.le_of_ble_eq_true rfl) dR_shape_42 (fun H locs hP hD hS => ?_)
  have hP : va_P D vwCl ([(ad 4, .inr (3, [.int a1, .int pl9, .int pw, .int pu, .int pq9, .long psb, .int pcb]))] ++ pg cds ad (upo gg [4])) _ := hP
  have hD : va_D A ([(ad 4, .inr (3, [.int a1, .int pl9, .int pw, .int pu, .int pq9, .long psb, .int pcb]))] ++ pg cds ad (upo gg [4])) := hD
  refine lv_aload_n hx hb dR_shape_45 rfl (lv_at hl 0 rfl) ?_
  refine va_get (D := D) (ci := 0) (v := .ref (ad 4)) (C := R_R) (T := T_R) (N := 13) hx hb hT in_R hown hK (pg_1 (x := 0) hcd hP (by decide) ((upo_o (na_c (by decide) na_0)).trans hob)) 0 rfl rfl 1 (by decide) (hT _ w325) (fun _ h9 => h9) rfl dR_shape_46 ?_
  refine lv_iload_n hx hb dR_shape_49 rfl (lv_at hl 2 rfl) ?_
  refine va_put (D := D) (ci := 3) (v := .int a2) (ty := .int) (C := R_P) (T := T_P) (N := 7) hx hb hT in_P ty_P ty_P_ok m_P hown hK hP hD hS 0 rfl rfl 1 (by decide) (hT _ w104) (fun _ h9 => h9) rfl (by decide +kernel) rfl rfl (Nat.le_of_ble_eq_true rfl) dR_shape_50 (fun H locs hP hD hS => ?_)
  have hP : va_P D vwCl ([(ad 4, .inr (3, [.int a1, .int a2, .int pw, .int pu, .int pq9, .long psb, .int pcb]))] ++ pg cds ad (upo gg [4])) _ := hP
  have hD : va_D A ([(ad 4, .inr (3, [.int a1, .int a2, .int pw, .int pu, .int pq9, .long psb, .int pcb]))] ++ pg cds ad (upo gg [4])) := hD
  refine lv_aload_n hx hb dR_shape_53 rfl (lv_at hl 0 rfl) ?_
  refine va_get (D := D) (ci := 0) (v := .ref (ad 4)) (C := R_R) (T := T_R) (N := 13) hx hb hT in_R hown hK (pg_1 (x := 0) hcd hP (by decide) ((upo_o (na_c (by decide) na_0)).trans hob)) 0 rfl rfl 1 (by decide) (hT _ w325) (fun _ h9 => h9) rfl dR_shape_54 ?_
  refine lv_iload_n hx hb dR_shape_57 rfl (lv_at hl 3 rfl) ?_
  refine va_put (D := D) (ci := 3) (v := .int a3) (ty := .int) (C := R_P) (T := T_P) (N := 7) hx hb hT in_P ty_P ty_P_ok m_P hown hK hP hD hS 0 rfl rfl 2 (by decide) (hT _ w108) (fun _ h9 => h9) rfl (by decide +kernel) rfl rfl (Nat.le_of_ble_eq_true rfl) dR_shape_58 (fun H locs hP hD hS => ?_)
  have hP : va_P D vwCl ([(ad 4, .inr (3, [.int a1, .int a2, .int a3, .int pu, .int pq9, .long psb, .int pcb]))] ++ pg cds ad (upo gg [4])) _ := hP
  have hD : va_D A ([(ad 4, .inr (3, [.int a1, .int a2, .int a3, .int pu, .int pq9, .long psb, .int pcb]))] ++ pg cds ad (upo gg [4])) := hD
  have hN9 := (show NDc [4] from (nd_c na_0 nd_0))
  have hP := gb_P (w9 := [(4, .inr (3, [.int a1, .int a2, .int a3, .int pu, .int pq9, .long psb, .int pcb]))]) (X := []) (g := gg) hcd hN9 (show QB [(4, .inr (3, [.int a1, .int a2, .int a3, .int pu, .int pq9, .long psb, .int pcb]))] from (qb_c (by decide) qb_0)) (hP.part (cx := [(ad 4, .inr (3, [.int a1, .int a2, .int a3, .int pu, .int pq9, .long psb, .int pcb]))]) [0] rfl)
  have hD := gb_D (w9 := [(4, .inr (3, [.int a1, .int a2, .int a3, .int pu, .int pq9, .long psb, .int pcb]))]) (X := []) (g := gg) hcd hN9 (show QB [(4, .inr (3, [.int a1, .int a2, .int a3, .int pu, .int pq9, .long psb, .int pcb]))] from (qb_c (by decide) qb_0)) (hD.part (cx := [(ad 4, .inr (3, [.int a1, .int a2, .int a3, .int pu, .int pq9, .long psb, .int pcb]))]) [0] (by decide) rfl)
  obtain ⟨g1, hg1⟩ : ∃ q9, q9 = ups gg [(4, .inr (3, [.int a1, .int a2, .int a3, .int pu, .int pq9, .long psb, .int pcb]))] := ⟨_, rfl⟩
  rw [← hg1] at hP hD
  have hP : va_P D vwCl ([] ++ pg cds ad g1) _ := hP
  have hD : va_D A ([] ++ pg cds ad g1) := hD
  have fg1 : ∀ z8, z8 ≠ 4 → g1 z8 = gg z8 := fun z8 z1 => by rw [hg1]; exact ups_k (kp_n z1 kp_0)
  have g1_0 : g1 4 = some (.inr (3, [.int a1, .int a2, .int a3, .int pu, .int pq9, .long psb, .int pcb])) := by rw [hg1]; exact ups_1
  have hP9 : va_P D vwCl ([] ++ pg cds ad g1) _ := hP.part (cx := []) [] rfl
  have hD9 : va_D A ([] ++ pg cds ad g1) := hD.part (cx := []) [] (by decide) rfl
  refine W.widen (k := 0) (n := 0) (Nat.le_of_ble_eq_true rfl) (Nat.le_of_ble_eq_true rfl) ?_
  exact W.vret hx hb hr (fun t9 ht9 hW9 => ⟨⟨g1, rfl, (show (∀ z8, z8 ≠ 4 → g1 z8 = gg z8) ∧ g1 4 = some (ePL a1 a2 a3 pu pq9 psb pcb) from ⟨fun z8 n1 => fg1 z8 n1, g1_0⟩), by rw [ht9]; exact hP9, hD9⟩, hS.F ht9⟩) hS.2.2 dR_shape_61
set_option maxHeartbeats 4000000 in
set_option maxRecDepth 100000 in
theorem k_shape_no (l : Launch) (D : va_G) (cT : Nat → ClassId) (cds : List Nat) (ad : Nat → Nat) (gg : Nat → Option va_E) (a1 : Int32) (a2 : Int32) (a3 : Int32) (hlt : l.stackTraces = false) (hq : ¬ ((1 ≤ a1 ∧ a1 ≤ 4) ∧ (1 ≤ a2 ∧ a2 ≤ 24) ∧ (0 ≤ a3 ∧ a3 ≤ 20))) : MetT l yR_shape WR_shape ({ frames := 7, cells := 1, slots := 6, locals := 111 } : Room) (RO D vwCl [.ref (ad 0), .int a1, .int a2, .int a3] ([] ++ pg cds ad gg) (TY cT)) "java/lang/IllegalArgumentException" 1 6 := by
  refine MetT.ofW (cc := cR_shape) (maxL := 4) (ret := none) (by decide) rfl ?_
  intro p e s m args below meth c s₁ B hml hno hv
  obtain ⟨rfl, hZ, hP, hK⟩ := hv
  have hx := B.exec
  have hb := B.bytes
  have hr := B.returns
  have hts := atoms_spec (ws := WR_shape) B.pre
  have hT : ∀ w ∈ TB, w.before _ s = true := fun w h => hts w (List.mem_cons_of_mem _ h)
  have hown : s.vm.findClass R_R = some m.cls := findClass_of_methodNamed B.named
  have hlocks := B.notSynchronized
  have hS : va_S (fun _ => False) s.heap s.heap [] := va_S.rf
  have hl := lv_entry ([.ref (ad 0), .int a1, .int a2, .int a3]) (n := 4) (Nat.le_of_ble_eq_true rfl)
  rw [lg_entry_eq]
  generalize (lg_sl ([.ref (ad 0), .int a1, .int a2, .int a3]) ++ List.replicate (4 - (lg_sl ([.ref (ad 0), .int a1, .int a2, .int a3])).length) Slot.unset).toArray = ls at hl ⊢
  have hl : lv_has ls 4 [(0, .ref (ad 0)), (1, .int a1), (2, .int a2), (3, .int a3)] := hl
  refine lv_iload_n hx hb dR_shape_0 rfl (lv_at hl 1 rfl) ?_
  refine lv_iconst (v := 1) hx hb dR_shape_1 (by decide) ?_
  refine lv_iconst (v := 4) hx hb dR_shape_2 (by decide) ?_
  refine ro_i (va_Run.run (va_runS (As := [.int a1, .int 1, .int 4]) (rest := []) ⟨hx, hb, hml, hown, hT⟩ (k_isWithin l D cT a1 1 4) ⟨callB_of 3 hT (tb_gd w499) rfl rfl rfl (hT _ w1) (hT _ w497) hR_isWithin ⟨Nat.le_of_ble_eq_true rfl, Nat.le_of_ble_eq_true rfl⟩, (hT _ w498)⟩ (RO.preS hZ hS ((show va_P D vwCl [] _ from fun _ _ h => nomatch h)) hK) rfl rfl hl.1 rfl (lv_room (Nat.le_of_ble_eq_true rfl)) dR_shape_3 ⟨Nat.le_of_ble_eq_true rfl, Nat.le_of_ble_eq_true rfl⟩)) ?_
  refine lv_if_eq (tgt := 33) hx hb dR_shape_6 rfl (fun h1 => ?_) (fun h1 => ?_)
  · refine lv_iconst (v := 0) hx hb dR_shape_33 (by decide) ?_
    exact tx_out (tx_goS (As := [.int 0]) (rest := []) ⟨hx, hb, hml, hown, hT⟩ (k_demand_no l D cT 0 hlt rfl) ⟨callB_of 1 hT (tb_gd w510) rfl rfl rfl (hT _ w1) (hT _ w508) hR_demand ⟨Nat.le_of_ble_eq_true rfl, Nat.le_of_ble_eq_true rfl⟩, (hT _ w509)⟩ (RO.preS hZ hS ((show va_P D vwCl [] _ from fun _ _ h => nomatch h)) hK) rfl hl.1 rfl (Nat.le_of_ble_eq_true rfl) dR_shape_34 ⟨Nat.le_of_ble_eq_true rfl, Nat.le_of_ble_eq_true rfl⟩) hno hlocks
  · refine lv_iload_n hx hb dR_shape_9 rfl (lv_at hl 2 rfl) ?_
    refine lv_iconst (v := 1) hx hb dR_shape_10 (by decide) ?_
    refine lv_bipush (v := 24) hx hb dR_shape_11 (by decide) ?_
    refine ro_i (va_Run.run (va_runS (As := [.int a2, .int 1, .int 24]) (rest := []) ⟨hx, hb, hml, hown, hT⟩ (k_isWithin l D cT a2 1 24) ⟨callB_of 3 hT (tb_gd w499) rfl rfl rfl (hT _ w1) (hT _ w497) hR_isWithin ⟨Nat.le_of_ble_eq_true rfl, Nat.le_of_ble_eq_true rfl⟩, (hT _ w498)⟩ (RO.preS hZ hS ((show va_P D vwCl [] _ from fun _ _ h => nomatch h)) hK) rfl rfl hl.1 rfl (lv_room (Nat.le_of_ble_eq_true rfl)) dR_shape_13 ⟨Nat.le_of_ble_eq_true rfl, Nat.le_of_ble_eq_true rfl⟩)) ?_
    refine lv_if_eq (tgt := 33) hx hb dR_shape_16 rfl (fun h2 => ?_) (fun h2 => ?_)
    · refine lv_iconst (v := 0) hx hb dR_shape_33 (by decide) ?_
      exact tx_out (tx_goS (As := [.int 0]) (rest := []) ⟨hx, hb, hml, hown, hT⟩ (k_demand_no l D cT 0 hlt rfl) ⟨callB_of 1 hT (tb_gd w510) rfl rfl rfl (hT _ w1) (hT _ w508) hR_demand ⟨Nat.le_of_ble_eq_true rfl, Nat.le_of_ble_eq_true rfl⟩, (hT _ w509)⟩ (RO.preS hZ hS ((show va_P D vwCl [] _ from fun _ _ h => nomatch h)) hK) rfl hl.1 rfl (Nat.le_of_ble_eq_true rfl) dR_shape_34 ⟨Nat.le_of_ble_eq_true rfl, Nat.le_of_ble_eq_true rfl⟩) hno hlocks
    · refine lv_iload_n hx hb dR_shape_19 rfl (lv_at hl 3 rfl) ?_
      refine lv_iconst (v := 0) hx hb dR_shape_20 (by decide) ?_
      refine lv_bipush (v := 20) hx hb dR_shape_21 (by decide) ?_
      refine ro_i (va_Run.run (va_runS (As := [.int a3, .int 0, .int 20]) (rest := []) ⟨hx, hb, hml, hown, hT⟩ (k_isWithin l D cT a3 0 20) ⟨callB_of 3 hT (tb_gd w499) rfl rfl rfl (hT _ w1) (hT _ w497) hR_isWithin ⟨Nat.le_of_ble_eq_true rfl, Nat.le_of_ble_eq_true rfl⟩, (hT _ w498)⟩ (RO.preS hZ hS ((show va_P D vwCl [] _ from fun _ _ h => nomatch h)) hK) rfl rfl hl.1 rfl (lv_room (Nat.le_of_ble_eq_true rfl)) dR_shape_23 ⟨Nat.le_of_ble_eq_true rfl, Nat.le_of_ble_eq_true rfl⟩)) ?_
      refine lv_if_eq (tgt := 33) hx hb dR_shape_26 rfl (fun h3 => ?_) (fun h3 => ?_)
      · refine lv_iconst (v := 0) hx hb dR_shape_33 (by decide) ?_
        exact tx_out (tx_goS (As := [.int 0]) (rest := []) ⟨hx, hb, hml, hown, hT⟩ (k_demand_no l D cT 0 hlt rfl) ⟨callB_of 1 hT (tb_gd w510) rfl rfl rfl (hT _ w1) (hT _ w508) hR_demand ⟨Nat.le_of_ble_eq_true rfl, Nat.le_of_ble_eq_true rfl⟩, (hT _ w509)⟩ (RO.preS hZ hS ((show va_P D vwCl [] _ from fun _ _ h => nomatch h)) hK) rfl hl.1 rfl (Nat.le_of_ble_eq_true rfl) dR_shape_34 ⟨Nat.le_of_ble_eq_true rfl, Nat.le_of_ble_eq_true rfl⟩) hno hlocks
      · refine lv_iconst (v := 1) hx hb dR_shape_29 (by decide) ?_
        refine lv_goto (tgt := 34) hx hb dR_shape_30 rfl ?_
        exact absurd ⟨(bi_1 h1), (bi_1 h2), (bi_1 h3)⟩ hq
set_option maxHeartbeats 4000000 in
set_option maxRecDepth 100000 in
theorem k_rate (l : Launch) (D : va_G) (cT : Nat → ClassId) (cds : List Nat) (ad : Nat → Nat) (gg : Nat → Option va_E) (tc : Int32) (pd : Int32) (pl9 : Int32) (pw : Int32) (pu : Int32) (pq9 : Int32) (psb : Int64) (pcb : Int32) (p1 : Int32) (q1 : Int32) (hcd : CD cds) (hob : gg 0 = some (eOB ad tc)) (hpl : gg 4 = some (ePL pd pl9 pw pu pq9 psb pcb)) (hs1 : 1 ≤ q1 ∧ q1 ≤ 16) (hs2 : 1 ≤ p1 ∧ p1 ≤ q1) (sz : Nat) : Met l yR_rate WR_rate ({ frames := 1, cells := 0, slots := 0, locals := 22 } : Room) (RW D vwCl [.ref (ad 0), .int p1, .int q1] ([] ++ pg cds ad gg) (TY cT) sz) (va_Qv (fun u9 : (Nat → Option va_E) => (∀ z8, z8 ≠ 4 → u9 z8 = gg z8) ∧ u9 4 = some (ePL pd pl9 pw p1 q1 psb pcb)) (BW D vwCl (va_A ([] ++ pg cds ad gg) sz) (fun u9 : (Nat → Option va_E) => ([] ++ pg cds ad u9))) (va_A ([] ++ pg cds ad gg) sz)) 0 0 (va_A ([] ++ pg cds ad gg) sz) := by
  refine Met.ofW (cc := cR_rate) (maxL := 3) (ret := none) (by decide) rfl ?_
  intro p e s m args below meth c s₁ B hml hv
  obtain ⟨rfl, hsz, hZ, hP, hK, hD0⟩ := hv
  have hx := B.exec
  have hb := B.bytes
  have hr := B.returns
  have hts := atoms_spec (ws := WR_rate) B.pre
  have hT : ∀ w ∈ TB, w.before _ s = true := fun w h => hts w (List.mem_cons_of_mem _ h)
  have hown : s.vm.findClass R_R = some m.cls := findClass_of_methodNamed B.named
  have hlocks := B.notSynchronized
  subst hsz
  have hD := hD0.self (sz := s.heap.size)
  generalize hAe : va_A ([] ++ pg cds ad gg) s.heap.size = A at hD hZ ⊢
  have hA : ∀ q : Nat, s.heap.size ≤ q → A q := fun q h => by rw [← hAe]; exact Or.inr h
  have hS : va_S A s.heap s.heap [] := va_S.rf
  have hl := lv_entry ([.ref (ad 0), .int p1, .int q1]) (n := 3) (Nat.le_of_ble_eq_true rfl)
  rw [lg_entry_eq]
  generalize (lg_sl ([.ref (ad 0), .int p1, .int q1]) ++ List.replicate (3 - (lg_sl ([.ref (ad 0), .int p1, .int q1])).length) Slot.unset).toArray = ls at hl ⊢
  have hl : lv_has ls 3 [(0, .ref (ad 0)), (1, .int p1), (2, .int q1)] := hl
  refine lv_iload_n hx hb dR_rate_0 rfl (lv_at hl 2 rfl) ?_
  refine lv_iconst (v := 1) hx hb dR_rate_1 (by decide) ?_
  refine lv_bipush (v := 16) hx hb dR_rate_2 (by decide) ?_
  refine ro_i (va_Run.run (va_runS (As := [.int q1, .int 1, .int 16]) (rest := []) ⟨hx, hb, hml, hown, hT⟩ (k_isWithin l D cT q1 1 16) ⟨callB_of 3 hT (tb_gd w499) rfl rfl rfl (hT _ w1) (hT _ w497) hR_isWithin ⟨Nat.le_of_ble_eq_true rfl, Nat.le_of_ble_eq_true rfl⟩, (hT _ w498)⟩ (RO.preS hZ hS ((show va_P D vwCl [] _ from fun _ _ h => nomatch h)) hK) rfl rfl hl.1 rfl (lv_room (Nat.le_of_ble_eq_true rfl)) dR_rate_4 ⟨Nat.le_of_ble_eq_true rfl, Nat.le_of_ble_eq_true rfl⟩)) ?_
  refine lv_if_eq (tgt := 23) hx hb dR_rate_7 rfl (fun h1 => absurd h1 (by rw [bi_t hs1]; decide)) (fun _ => ?_)
  refine lv_iload_n hx hb dR_rate_10 rfl (lv_at hl 1 rfl) ?_
  refine lv_iconst (v := 1) hx hb dR_rate_11 (by decide) ?_
  refine lv_iload_n hx hb dR_rate_12 rfl (lv_at hl 2 rfl) ?_
  refine ro_i (va_Run.run (va_runS (As := [.int p1, .int 1, .int q1]) (rest := []) ⟨hx, hb, hml, hown, hT⟩ (k_isWithin l D cT p1 1 q1) ⟨callB_of 3 hT (tb_gd w499) rfl rfl rfl (hT _ w1) (hT _ w497) hR_isWithin ⟨Nat.le_of_ble_eq_true rfl, Nat.le_of_ble_eq_true rfl⟩, (hT _ w498)⟩ (RO.preS hZ hS ((show va_P D vwCl [] _ from fun _ _ h => nomatch h)) hK) rfl rfl hl.1 rfl (lv_room (Nat.le_of_ble_eq_true rfl)) dR_rate_13 ⟨Nat.le_of_ble_eq_true rfl, Nat.le_of_ble_eq_true rfl⟩)) ?_
  refine lv_if_eq (tgt := 23) hx hb dR_rate_16 rfl (fun h2 => absurd h2 (by rw [bi_t hs2]; decide)) (fun _ => ?_)
  refine lv_iconst (v := 1) hx hb dR_rate_19 (by decide) ?_
  refine lv_goto (tgt := 24) hx hb dR_rate_20 rfl ?_
  refine ro_v (va_Run.run (va_runS (As := [.int 1]) (rest := []) ⟨hx, hb, hml, hown, hT⟩ (k_demand_ok l D cT 1 (by decide)) ⟨callB_of 1 hT (tb_gd w510) rfl rfl rfl (hT _ w1) (hT _ w508) hR_demand ⟨Nat.le_of_ble_eq_true rfl, Nat.le_of_ble_eq_true rfl⟩, (hT _ w509)⟩ (RO.preS hZ hS ((show va_P D vwCl [] _ from fun _ _ h => nomatch h)) hK) rfl rfl hl.1 rfl (lv_room (Nat.le_of_ble_eq_true rfl)) dR_rate_24 ⟨Nat.le_of_ble_eq_true rfl, Nat.le_of_ble_eq_true rfl⟩)) ?_
  have hB9 : QI gg [(4, .inr (3, [.int pd, .int pl9, .int pw, .int pu, .int pq9, .long psb, .int pcb]))] := (qi_c (by decide) hpl qi_0)
  have hN9 := (show NDc [4] from (nd_c na_0 nd_0))
  have hP := bo_P (wc := [(4, .inr (3, [.int pd, .int pl9, .int pw, .int pu, .int pq9, .long psb, .int pcb]))]) (X := []) hcd hN9 hB9 hP
  have hD := bo_D (wc := [(4, .inr (3, [.int pd, .int pl9, .int pw, .int pu, .int pq9, .long psb, .int pcb]))]) (X := []) hcd hN9 hB9 hD
  have hP : va_P D vwCl ([(ad 4, .inr (3, [.int pd, .int pl9, .int pw, .int pu, .int pq9, .long psb, .int pcb]))] ++ pg cds ad (upo gg [4])) _ := hP
  have hD : va_D A ([(ad 4, .inr (3, [.int pd, .int pl9, .int pw, .int pu, .int pq9, .long psb, .int pcb]))] ++ pg cds ad (upo gg [4])) := hD
  refine lv_aload_n hx hb dR_rate_27 rfl (lv_at hl 0 rfl) ?_
  refine va_get (D := D) (ci := 0) (v := .ref (ad 4)) (C := R_R) (T := T_R) (N := 13) hx hb hT in_R hown hK (pg_1 (x := 0) hcd hP (by decide) ((upo_o (na_c (by decide) na_0)).trans hob)) 0 rfl rfl 1 (by decide) (hT _ w325) (fun _ h9 => h9) rfl dR_rate_28 ?_
  refine lv_iload_n hx hb dR_rate_31 rfl (lv_at hl 1 rfl) ?_
  refine va_put (D := D) (ci := 3) (v := .int p1) (ty := .int) (C := R_P) (T := T_P) (N := 7) hx hb hT in_P ty_P ty_P_ok m_P hown hK hP hD hS 0 rfl rfl 3 (by decide) (hT _ w111) (fun _ h9 => h9) rfl (by decide +kernel) rfl rfl (Nat.le_of_ble_eq_true rfl) dR_rate_32 (fun H locs hP hD hS => ?_)
  have hP : va_P D vwCl ([(ad 4, .inr (3, [.int pd, .int pl9, .int pw, .int p1, .int pq9, .long psb, .int pcb]))] ++ pg cds ad (upo gg [4])) _ := hP
  have hD : va_D A ([(ad 4, .inr (3, [.int pd, .int pl9, .int pw, .int p1, .int pq9, .long psb, .int pcb]))] ++ pg cds ad (upo gg [4])) := hD
  refine lv_aload_n hx hb dR_rate_35 rfl (lv_at hl 0 rfl) ?_
  refine va_get (D := D) (ci := 0) (v := .ref (ad 4)) (C := R_R) (T := T_R) (N := 13) hx hb hT in_R hown hK (pg_1 (x := 0) hcd hP (by decide) ((upo_o (na_c (by decide) na_0)).trans hob)) 0 rfl rfl 1 (by decide) (hT _ w325) (fun _ h9 => h9) rfl dR_rate_36 ?_
  refine lv_iload_n hx hb dR_rate_39 rfl (lv_at hl 2 rfl) ?_
  refine va_put (D := D) (ci := 3) (v := .int q1) (ty := .int) (C := R_P) (T := T_P) (N := 7) hx hb hT in_P ty_P ty_P_ok m_P hown hK hP hD hS 0 rfl rfl 4 (by decide) (hT _ w114) (fun _ h9 => h9) rfl (by decide +kernel) rfl rfl (Nat.le_of_ble_eq_true rfl) dR_rate_40 (fun H locs hP hD hS => ?_)
  have hP : va_P D vwCl ([(ad 4, .inr (3, [.int pd, .int pl9, .int pw, .int p1, .int q1, .long psb, .int pcb]))] ++ pg cds ad (upo gg [4])) _ := hP
  have hD : va_D A ([(ad 4, .inr (3, [.int pd, .int pl9, .int pw, .int p1, .int q1, .long psb, .int pcb]))] ++ pg cds ad (upo gg [4])) := hD
  have hN9 := (show NDc [4] from (nd_c na_0 nd_0))
  have hP := gb_P (w9 := [(4, .inr (3, [.int pd, .int pl9, .int pw, .int p1, .int q1, .long psb, .int pcb]))]) (X := []) (g := gg) hcd hN9 (show QB [(4, .inr (3, [.int pd, .int pl9, .int pw, .int p1, .int q1, .long psb, .int pcb]))] from (qb_c (by decide) qb_0)) (hP.part (cx := [(ad 4, .inr (3, [.int pd, .int pl9, .int pw, .int p1, .int q1, .long psb, .int pcb]))]) [0] rfl)
  have hD := gb_D (w9 := [(4, .inr (3, [.int pd, .int pl9, .int pw, .int p1, .int q1, .long psb, .int pcb]))]) (X := []) (g := gg) hcd hN9 (show QB [(4, .inr (3, [.int pd, .int pl9, .int pw, .int p1, .int q1, .long psb, .int pcb]))] from (qb_c (by decide) qb_0)) (hD.part (cx := [(ad 4, .inr (3, [.int pd, .int pl9, .int pw, .int p1, .int q1, .long psb, .int pcb]))]) [0] (by decide) rfl)
  obtain ⟨g1, hg1⟩ : ∃ q9, q9 = ups gg [(4, .inr (3, [.int pd, .int pl9, .int pw, .int p1, .int q1, .long psb, .int pcb]))] := ⟨_, rfl⟩
  rw [← hg1] at hP hD
  have hP : va_P D vwCl ([] ++ pg cds ad g1) _ := hP
  have hD : va_D A ([] ++ pg cds ad g1) := hD
  have fg1 : ∀ z8, z8 ≠ 4 → g1 z8 = gg z8 := fun z8 z1 => by rw [hg1]; exact ups_k (kp_n z1 kp_0)
  have g1_0 : g1 4 = some (.inr (3, [.int pd, .int pl9, .int pw, .int p1, .int q1, .long psb, .int pcb])) := by rw [hg1]; exact ups_1
  have hP9 : va_P D vwCl ([] ++ pg cds ad g1) _ := hP.part (cx := []) [] rfl
  have hD9 : va_D A ([] ++ pg cds ad g1) := hD.part (cx := []) [] (by decide) rfl
  refine W.widen (k := 0) (n := 0) (Nat.le_of_ble_eq_true rfl) (Nat.le_of_ble_eq_true rfl) ?_
  exact W.vret hx hb hr (fun t9 ht9 hW9 => ⟨⟨g1, rfl, (show (∀ z8, z8 ≠ 4 → g1 z8 = gg z8) ∧ g1 4 = some (ePL pd pl9 pw p1 q1 psb pcb) from ⟨fun z8 n1 => fg1 z8 n1, g1_0⟩), by rw [ht9]; exact hP9, hD9⟩, hS.F ht9⟩) hS.2.2 dR_rate_43
set_option maxHeartbeats 4000000 in
set_option maxRecDepth 100000 in
theorem k_rate_no (l : Launch) (D : va_G) (cT : Nat → ClassId) (cds : List Nat) (ad : Nat → Nat) (gg : Nat → Option va_E) (p1 : Int32) (q1 : Int32) (hlt : l.stackTraces = false) (hq : ¬ ((1 ≤ q1 ∧ q1 ≤ 16) ∧ (1 ≤ p1 ∧ p1 ≤ q1))) : MetT l yR_rate WR_rate ({ frames := 7, cells := 1, slots := 6, locals := 111 } : Room) (RO D vwCl [.ref (ad 0), .int p1, .int q1] ([] ++ pg cds ad gg) (TY cT)) "java/lang/IllegalArgumentException" 1 6 := by
  refine MetT.ofW (cc := cR_rate) (maxL := 3) (ret := none) (by decide) rfl ?_
  intro p e s m args below meth c s₁ B hml hno hv
  obtain ⟨rfl, hZ, hP, hK⟩ := hv
  have hx := B.exec
  have hb := B.bytes
  have hr := B.returns
  have hts := atoms_spec (ws := WR_rate) B.pre
  have hT : ∀ w ∈ TB, w.before _ s = true := fun w h => hts w (List.mem_cons_of_mem _ h)
  have hown : s.vm.findClass R_R = some m.cls := findClass_of_methodNamed B.named
  have hlocks := B.notSynchronized
  have hS : va_S (fun _ => False) s.heap s.heap [] := va_S.rf
  have hl := lv_entry ([.ref (ad 0), .int p1, .int q1]) (n := 3) (Nat.le_of_ble_eq_true rfl)
  rw [lg_entry_eq]
  generalize (lg_sl ([.ref (ad 0), .int p1, .int q1]) ++ List.replicate (3 - (lg_sl ([.ref (ad 0), .int p1, .int q1])).length) Slot.unset).toArray = ls at hl ⊢
  have hl : lv_has ls 3 [(0, .ref (ad 0)), (1, .int p1), (2, .int q1)] := hl
  refine lv_iload_n hx hb dR_rate_0 rfl (lv_at hl 2 rfl) ?_
  refine lv_iconst (v := 1) hx hb dR_rate_1 (by decide) ?_
  refine lv_bipush (v := 16) hx hb dR_rate_2 (by decide) ?_
  refine ro_i (va_Run.run (va_runS (As := [.int q1, .int 1, .int 16]) (rest := []) ⟨hx, hb, hml, hown, hT⟩ (k_isWithin l D cT q1 1 16) ⟨callB_of 3 hT (tb_gd w499) rfl rfl rfl (hT _ w1) (hT _ w497) hR_isWithin ⟨Nat.le_of_ble_eq_true rfl, Nat.le_of_ble_eq_true rfl⟩, (hT _ w498)⟩ (RO.preS hZ hS ((show va_P D vwCl [] _ from fun _ _ h => nomatch h)) hK) rfl rfl hl.1 rfl (lv_room (Nat.le_of_ble_eq_true rfl)) dR_rate_4 ⟨Nat.le_of_ble_eq_true rfl, Nat.le_of_ble_eq_true rfl⟩)) ?_
  refine lv_if_eq (tgt := 23) hx hb dR_rate_7 rfl (fun h1 => ?_) (fun h1 => ?_)
  · refine lv_iconst (v := 0) hx hb dR_rate_23 (by decide) ?_
    exact tx_out (tx_goS (As := [.int 0]) (rest := []) ⟨hx, hb, hml, hown, hT⟩ (k_demand_no l D cT 0 hlt rfl) ⟨callB_of 1 hT (tb_gd w510) rfl rfl rfl (hT _ w1) (hT _ w508) hR_demand ⟨Nat.le_of_ble_eq_true rfl, Nat.le_of_ble_eq_true rfl⟩, (hT _ w509)⟩ (RO.preS hZ hS ((show va_P D vwCl [] _ from fun _ _ h => nomatch h)) hK) rfl hl.1 rfl (Nat.le_of_ble_eq_true rfl) dR_rate_24 ⟨Nat.le_of_ble_eq_true rfl, Nat.le_of_ble_eq_true rfl⟩) hno hlocks
  · refine lv_iload_n hx hb dR_rate_10 rfl (lv_at hl 1 rfl) ?_
    refine lv_iconst (v := 1) hx hb dR_rate_11 (by decide) ?_
    refine lv_iload_n hx hb dR_rate_12 rfl (lv_at hl 2 rfl) ?_
    refine ro_i (va_Run.run (va_runS (As := [.int p1, .int 1, .int q1]) (rest := []) ⟨hx, hb, hml, hown, hT⟩ (k_isWithin l D cT p1 1 q1) ⟨callB_of 3 hT (tb_gd w499) rfl rfl rfl (hT _ w1) (hT _ w497) hR_isWithin ⟨Nat.le_of_ble_eq_true rfl, Nat.le_of_ble_eq_true rfl⟩, (hT _ w498)⟩ (RO.preS hZ hS ((show va_P D vwCl [] _ from fun _ _ h => nomatch h)) hK) rfl rfl hl.1 rfl (lv_room (Nat.le_of_ble_eq_true rfl)) dR_rate_13 ⟨Nat.le_of_ble_eq_true rfl, Nat.le_of_ble_eq_true rfl⟩)) ?_
    refine lv_if_eq (tgt := 23) hx hb dR_rate_16 rfl (fun h2 => ?_) (fun h2 => ?_)
    · refine lv_iconst (v := 0) hx hb dR_rate_23 (by decide) ?_
      exact tx_out (tx_goS (As := [.int 0]) (rest := []) ⟨hx, hb, hml, hown, hT⟩ (k_demand_no l D cT 0 hlt rfl) ⟨callB_of 1 hT (tb_gd w510) rfl rfl rfl (hT _ w1) (hT _ w508) hR_demand ⟨Nat.le_of_ble_eq_true rfl, Nat.le_of_ble_eq_true rfl⟩, (hT _ w509)⟩ (RO.preS hZ hS ((show va_P D vwCl [] _ from fun _ _ h => nomatch h)) hK) rfl hl.1 rfl (Nat.le_of_ble_eq_true rfl) dR_rate_24 ⟨Nat.le_of_ble_eq_true rfl, Nat.le_of_ble_eq_true rfl⟩) hno hlocks
    · refine lv_iconst (v := 1) hx hb dR_rate_19 (by decide) ?_
      refine lv_goto (tgt := 24) hx hb dR_rate_20 rfl ?_
      exact absurd ⟨(bi_1 h1), (bi_1 h2)⟩ hq
set_option maxHeartbeats 4000000 in
set_option maxRecDepth 100000 in
theorem k_sample (l : Launch) (D : va_G) (cT : Nat → ClassId) (cds : List Nat) (ad : Nat → Nat) (gg : Nat → Option va_E) (tc : Int32) (wd9 : Int32) (rw9 : Int32) (pd : Int32) (pl9 : Int32) (pw : Int32) (pu : Int32) (pq9 : Int32) (psb : Int64) (pcb : Int32) (n : Nat) (x : Int64) (k : Int32) (hcd : CD cds) (hob : gg 0 = some (eOB ad tc)) (htb : gg 1 = some (eTB ad wd9 rw9)) (hpl : gg 4 = some (ePL pd pl9 pw pu pq9 psb pcb)) (hrn : rw9 = nI n) (hn48 : n ≤ 48) (sz : Nat) : Met l yR_sample WR_sample ({ frames := 1, cells := 0, slots := 0, locals := 21 } : Room) (RW D vwCl [.ref (ad 0), .long x, .int k] ([] ++ pg cds ad gg) (TY cT) sz) (va_Qi (fun (r9 : Int32) (u9 : (Nat → Option va_E)) => r9 = nI (cb (x &&& thr n)) ∧ (∀ z8, z8 ≠ 4 → u9 z8 = gg z8) ∧ u9 4 = some (ePL pd pl9 pw pu pq9 x k)) (BW D vwCl (va_A ([] ++ pg cds ad gg) sz) (fun u9 : (Nat → Option va_E) => ([] ++ pg cds ad u9))) (va_A ([] ++ pg cds ad gg) sz)) 0 0 (va_A ([] ++ pg cds ad gg) sz) := by
  refine Met.ofW (cc := cR_sample) (maxL := 4) (ret := (some .int)) (by decide) rfl ?_
  intro p e s m args below meth c s₁ B hml hv
  obtain ⟨rfl, hsz, hZ, hP, hK, hD0⟩ := hv
  have hx := B.exec
  have hb := B.bytes
  have hr := B.returns
  have hts := atoms_spec (ws := WR_sample) B.pre
  have hT : ∀ w ∈ TB, w.before _ s = true := fun w h => hts w (List.mem_cons_of_mem _ h)
  have hown : s.vm.findClass R_R = some m.cls := findClass_of_methodNamed B.named
  have hlocks := B.notSynchronized
  subst hsz
  have hD := hD0.self (sz := s.heap.size)
  generalize hAe : va_A ([] ++ pg cds ad gg) s.heap.size = A at hD hZ ⊢
  have hA : ∀ q : Nat, s.heap.size ≤ q → A q := fun q h => by rw [← hAe]; exact Or.inr h
  have hS : va_S A s.heap s.heap [] := va_S.rf
  have hl := lv_entry ([.ref (ad 0), .long x, .int k]) (n := 4) (Nat.le_of_ble_eq_true rfl)
  rw [lg_entry_eq]
  generalize (lg_sl ([.ref (ad 0), .long x, .int k]) ++ List.replicate (4 - (lg_sl ([.ref (ad 0), .long x, .int k])).length) Slot.unset).toArray = ls at hl ⊢
  have hl : lv_has ls 4 [(0, .ref (ad 0)), (1, .long x), (3, .int k)] := hl
  refine lv_aload_n hx hb dR_sample_0 rfl (lv_at hl 0 rfl) ?_
  refine va_get (D := D) (ci := 0) (v := .ref (ad 4)) (C := R_R) (T := T_R) (N := 13) hx hb hT in_R hown hK (pg_1 (x := 0) hcd hP (by decide) hob) 0 rfl rfl 1 (by decide) (hT _ w325) (fun _ h9 => h9) rfl dR_sample_1 ?_
  have hB9 : QI gg [(4, .inr (3, [.int pd, .int pl9, .int pw, .int pu, .int pq9, .long psb, .int pcb]))] := (qi_c (by decide) hpl qi_0)
  have hN9 := (show NDc [4] from (nd_c na_0 nd_0))
  have hP := bo_P (wc := [(4, .inr (3, [.int pd, .int pl9, .int pw, .int pu, .int pq9, .long psb, .int pcb]))]) (X := []) hcd hN9 hB9 hP
  have hD := bo_D (wc := [(4, .inr (3, [.int pd, .int pl9, .int pw, .int pu, .int pq9, .long psb, .int pcb]))]) (X := []) hcd hN9 hB9 hD
  have hP : va_P D vwCl ([(ad 4, .inr (3, [.int pd, .int pl9, .int pw, .int pu, .int pq9, .long psb, .int pcb]))] ++ pg cds ad (upo gg [4])) _ := hP
  have hD : va_D A ([(ad 4, .inr (3, [.int pd, .int pl9, .int pw, .int pu, .int pq9, .long psb, .int pcb]))] ++ pg cds ad (upo gg [4])) := hD
  refine lv_lload_n hx hb dR_sample_4 rfl (lv_at hl 1 rfl) ?_
  refine va_put (D := D) (ci := 3) (v := .long x) (ty := .long) (C := R_P) (T := T_P) (N := 7) hx hb hT in_P ty_P ty_P_ok m_P hown hK hP hD hS 0 rfl rfl 5 (by decide) (hT _ w116) (fun _ h9 => h9) rfl (by decide +kernel) rfl rfl (Nat.le_of_ble_eq_true rfl) dR_sample_5 (fun H locs hP hD hS => ?_)
  have hP : va_P D vwCl ([(ad 4, .inr (3, [.int pd, .int pl9, .int pw, .int pu, .int pq9, .long x, .int pcb]))] ++ pg cds ad (upo gg [4])) _ := hP
  have hD : va_D A ([(ad 4, .inr (3, [.int pd, .int pl9, .int pw, .int pu, .int pq9, .long x, .int pcb]))] ++ pg cds ad (upo gg [4])) := hD
  refine lv_aload_n hx hb dR_sample_8 rfl (lv_at hl 0 rfl) ?_
  refine va_get (D := D) (ci := 0) (v := .ref (ad 4)) (C := R_R) (T := T_R) (N := 13) hx hb hT in_R hown hK (pg_1 (x := 0) hcd hP (by decide) ((upo_o (na_c (by decide) na_0)).trans hob)) 0 rfl rfl 1 (by decide) (hT _ w325) (fun _ h9 => h9) rfl dR_sample_9 ?_
  refine lv_iload_n hx hb dR_sample_12 rfl (lv_at hl 2 rfl) ?_
  refine va_put (D := D) (ci := 3) (v := .int k) (ty := .int) (C := R_P) (T := T_P) (N := 7) hx hb hT in_P ty_P ty_P_ok m_P hown hK hP hD hS 0 rfl rfl 6 (by decide) (hT _ w119) (fun _ h9 => h9) rfl (by decide +kernel) rfl rfl (Nat.le_of_ble_eq_true rfl) dR_sample_13 (fun H locs hP hD hS => ?_)
  have hP : va_P D vwCl ([(ad 4, .inr (3, [.int pd, .int pl9, .int pw, .int pu, .int pq9, .long x, .int k]))] ++ pg cds ad (upo gg [4])) _ := hP
  have hD : va_D A ([(ad 4, .inr (3, [.int pd, .int pl9, .int pw, .int pu, .int pq9, .long x, .int k]))] ++ pg cds ad (upo gg [4])) := hD
  have hN9 := (show NDc [4] from (nd_c na_0 nd_0))
  have hP := gb_P (w9 := [(4, .inr (3, [.int pd, .int pl9, .int pw, .int pu, .int pq9, .long x, .int k]))]) (X := []) (g := gg) hcd hN9 (show QB [(4, .inr (3, [.int pd, .int pl9, .int pw, .int pu, .int pq9, .long x, .int k]))] from (qb_c (by decide) qb_0)) (hP.part (cx := [(ad 4, .inr (3, [.int pd, .int pl9, .int pw, .int pu, .int pq9, .long x, .int k]))]) [0] rfl)
  have hD := gb_D (w9 := [(4, .inr (3, [.int pd, .int pl9, .int pw, .int pu, .int pq9, .long x, .int k]))]) (X := []) (g := gg) hcd hN9 (show QB [(4, .inr (3, [.int pd, .int pl9, .int pw, .int pu, .int pq9, .long x, .int k]))] from (qb_c (by decide) qb_0)) (hD.part (cx := [(ad 4, .inr (3, [.int pd, .int pl9, .int pw, .int pu, .int pq9, .long x, .int k]))]) [0] (by decide) rfl)
  obtain ⟨g1, hg1⟩ : ∃ q9, q9 = ups gg [(4, .inr (3, [.int pd, .int pl9, .int pw, .int pu, .int pq9, .long x, .int k]))] := ⟨_, rfl⟩
  rw [← hg1] at hP hD
  have hP : va_P D vwCl ([] ++ pg cds ad g1) _ := hP
  have hD : va_D A ([] ++ pg cds ad g1) := hD
  have fg1 : ∀ z8, z8 ≠ 4 → g1 z8 = gg z8 := fun z8 z1 => by rw [hg1]; exact ups_k (kp_n z1 kp_0)
  have g1_0 : g1 4 = some (.inr (3, [.int pd, .int pl9, .int pw, .int pu, .int pq9, .long x, .int k])) := by rw [hg1]; exact ups_1
  refine lv_lload_n hx hb dR_sample_16 rfl (lv_at hl 1 rfl) ?_
  refine lv_aload_n hx hb dR_sample_17 rfl (lv_at hl 0 rfl) ?_
  refine va_get (D := D) (ci := 0) (v := .ref (ad 1)) (C := R_R) (T := T_R) (N := 13) hx hb hT in_R hown hK (pg_1 (x := 0) hcd hP (by decide) ((fg1 _ (by decide)).trans hob)) 0 rfl rfl 0 (by decide) (hT _ w324) (fun _ h9 => h9) rfl dR_sample_18 ?_
  refine ro_l (va_Run.run (va_runV (As := []) (rest := [.long x]) ⟨hx, hb, hml, hown, hT⟩ (k_rowBits l D cT (ad 1) (ad 2) (ad 3) wd9 rw9) ⟨callB_of 0 hT (tb_gd w371) rfl rfl rfl (hT _ w2) (hT _ w368) hT_rowBits ⟨Nat.le_of_ble_eq_true rfl, Nat.le_of_ble_eq_true rfl⟩, (hT _ w369), (hT _ w370)⟩ (RO.preV (ci := 2) (q0 := 0) hZ hS ((show va_P D vwCl [(ad 1, .inr (2, [.ref (ad 2), .ref (ad 3), .int wd9, .int rw9]))] _ from (pv_c (pg_1 (x := 1) hcd hP (by decide) ((fg1 _ (by decide)).trans htb)) pv_0))) hK rfl rfl) rfl rfl hl.1 rfl (lv_room (Nat.le_of_ble_eq_true rfl)) dR_sample_21 ⟨Nat.le_of_ble_eq_true rfl, Nat.le_of_ble_eq_true rfl⟩)) ?_
  refine lv_topl (fun y9 e9 => ?_)
  cases (show y9 = thr n from e9.trans (by rw [hrn]; exact rb_thr hn48))
  refine lv_land hx hb dR_sample_24 ?_
  refine ro_i (va_Run.run (va_runS (As := [.long (x &&& (thr n))]) (rest := []) ⟨hx, hb, hml, hown, hT⟩ (k_bitCount l D cT (x &&& (thr n))) ⟨callB_of 1 hT (tb_gd w374) rfl rfl rfl (hT _ w19) (hT _ w372) hLg_bitCount ⟨Nat.le_of_ble_eq_true rfl, Nat.le_of_ble_eq_true rfl⟩, (hT _ w373)⟩ (RO.preS hZ hS ((show va_P D vwCl [] _ from fun _ _ h => nomatch h)) hK) rfl rfl hl.1 rfl (lv_room (Nat.le_of_ble_eq_true rfl)) dR_sample_25 ⟨Nat.le_of_ble_eq_true rfl, Nat.le_of_ble_eq_true rfl⟩)) ?_
  have hP9 : va_P D vwCl ([] ++ pg cds ad g1) _ := hP.part (cx := []) [] rfl
  have hD9 : va_D A ([] ++ pg cds ad g1) := hD.part (cx := []) [] (by decide) rfl
  refine W.widen (k := 0) (n := 0) (Nat.le_of_ble_eq_true rfl) (Nat.le_of_ble_eq_true rfl) ?_
  exact W.iret (v := nI (cb (x &&& (thr n)))) hx hb hr (fun t9 ht9 hW9 => ⟨⟨nI (cb (x &&& (thr n))), g1, rfl, (show (nI (cb (x &&& (thr n)))) = nI (cb (x &&& thr n)) ∧ (∀ z8, z8 ≠ 4 → g1 z8 = gg z8) ∧ g1 4 = some (ePL pd pl9 pw pu pq9 x k) from ⟨rfl, fun z8 n1 => fg1 z8 n1, g1_0⟩), by rw [ht9]; exact hP9, hD9⟩, hS.F ht9⟩) hS.2.2 dR_sample_28
set_option maxHeartbeats 4000000 in
set_option maxRecDepth 100000 in
theorem k_drop (l : Launch) (D : va_G) (cT : Nat → ClassId) (cds : List Nat) (ad : Nat → Nat) (gg : Nat → Option va_E) (T : Nat) (k : Nat) (hcd : CD cds) (hob : gg 0 = some (eOB ad (nI T))) (hk0 : 0 ≤ nI k ∧ nI k ≤ nI T) (hkT : k ≤ T) (sz : Nat) : Met l yR_drop WR_drop ({ frames := 1, cells := 0, slots := 0, locals := 22 } : Room) (RW D vwCl [.ref (ad 0), .int (nI k)] ([] ++ pg cds ad gg) (TY cT) sz) (va_Qi (fun (r9 : Int32) (u9 : (Nat → Option va_E)) => r9 = nI (T - k) ∧ (∀ z8, z8 ≠ 0 → u9 z8 = gg z8) ∧ u9 0 = some (eOB ad (nI k))) (BW D vwCl (va_A ([] ++ pg cds ad gg) sz) (fun u9 : (Nat → Option va_E) => ([] ++ pg cds ad u9))) (va_A ([] ++ pg cds ad gg) sz)) 0 0 (va_A ([] ++ pg cds ad gg) sz) := by
  refine Met.ofW (cc := cR_drop) (maxL := 3) (ret := (some .int)) (by decide) rfl ?_
  intro p e s m args below meth c s₁ B hml hv
  obtain ⟨rfl, hsz, hZ, hP, hK, hD0⟩ := hv
  have hx := B.exec
  have hb := B.bytes
  have hr := B.returns
  have hts := atoms_spec (ws := WR_drop) B.pre
  have hT : ∀ w ∈ TB, w.before _ s = true := fun w h => hts w (List.mem_cons_of_mem _ h)
  have hown : s.vm.findClass R_R = some m.cls := findClass_of_methodNamed B.named
  have hlocks := B.notSynchronized
  subst hsz
  have hD := hD0.self (sz := s.heap.size)
  generalize hAe : va_A ([] ++ pg cds ad gg) s.heap.size = A at hD hZ ⊢
  have hA : ∀ q : Nat, s.heap.size ≤ q → A q := fun q h => by rw [← hAe]; exact Or.inr h
  have hS : va_S A s.heap s.heap [] := va_S.rf
  have hl := lv_entry ([.ref (ad 0), .int (nI k)]) (n := 3) (Nat.le_of_ble_eq_true rfl)
  rw [lg_entry_eq]
  generalize (lg_sl ([.ref (ad 0), .int (nI k)]) ++ List.replicate (3 - (lg_sl ([.ref (ad 0), .int (nI k)])).length) Slot.unset).toArray = ls at hl ⊢
  have hl : lv_has ls 3 [(0, .ref (ad 0)), (1, .int (nI k))] := hl
  refine lv_iload_n hx hb dR_drop_0 rfl (lv_at hl 1 rfl) ?_
  refine lv_iconst (v := 0) hx hb dR_drop_1 (by decide) ?_
  refine lv_aload_n hx hb dR_drop_2 rfl (lv_at hl 0 rfl) ?_
  refine va_get (D := D) (ci := 0) (v := .int (nI T)) (C := R_R) (T := T_R) (N := 13) hx hb hT in_R hown hK (pg_1 (x := 0) hcd hP (by decide) hob) 0 rfl rfl 5 (by decide) (hT _ w329) (fun _ h9 => h9) rfl dR_drop_3 ?_
  refine ro_i (va_Run.run (va_runS (As := [.int (nI k), .int 0, .int (nI T)]) (rest := []) ⟨hx, hb, hml, hown, hT⟩ (k_isWithin l D cT (nI k) 0 (nI T)) ⟨callB_of 3 hT (tb_gd w499) rfl rfl rfl (hT _ w1) (hT _ w497) hR_isWithin ⟨Nat.le_of_ble_eq_true rfl, Nat.le_of_ble_eq_true rfl⟩, (hT _ w498)⟩ (RO.preS hZ hS ((show va_P D vwCl [] _ from fun _ _ h => nomatch h)) hK) rfl rfl hl.1 rfl (lv_room (Nat.le_of_ble_eq_true rfl)) dR_drop_6 ⟨Nat.le_of_ble_eq_true rfl, Nat.le_of_ble_eq_true rfl⟩)) ?_
  refine ro_v (va_Run.run (va_runS (As := [.int (bi (0 ≤ (nI k) ∧ (nI k) ≤ (nI T)))]) (rest := []) ⟨hx, hb, hml, hown, hT⟩ (k_demand_ok l D cT (bi (0 ≤ (nI k) ∧ (nI k) ≤ (nI T))) (by rw [bi_t hk0]; decide)) ⟨callB_of 1 hT (tb_gd w510) rfl rfl rfl (hT _ w1) (hT _ w508) hR_demand ⟨Nat.le_of_ble_eq_true rfl, Nat.le_of_ble_eq_true rfl⟩, (hT _ w509)⟩ (RO.preS hZ hS ((show va_P D vwCl [] _ from fun _ _ h => nomatch h)) hK) rfl rfl hl.1 rfl (lv_room (Nat.le_of_ble_eq_true rfl)) dR_drop_9 ⟨Nat.le_of_ble_eq_true rfl, Nat.le_of_ble_eq_true rfl⟩)) ?_
  refine lv_aload_n hx hb dR_drop_12 rfl (lv_at hl 0 rfl) ?_
  refine va_get (D := D) (ci := 0) (v := .int (nI T)) (C := R_R) (T := T_R) (N := 13) hx hb hT in_R hown hK (pg_1 (x := 0) hcd hP (by decide) hob) 0 rfl rfl 5 (by decide) (hT _ w329) (fun _ h9 => h9) rfl dR_drop_13 ?_
  refine lv_iload_n hx hb dR_drop_16 rfl (lv_at hl 1 rfl) ?_
  refine lv_isub hx hb dR_drop_17 ?_
  refine lv_topi (fun y9 e9 => ?_)
  cases (show y9 = nI (T - k) from e9.trans (pk_sub (a := T) (b := k) (by omega)))
  refine lv_istore_n hx hb dR_drop_18 rfl hl (by decide) rfl (fun ls hl => ?_)
  have hl : lv_has ls 3 [(2, .int (nI (T - k))), (0, .ref (ad 0)), (1, .int (nI k))] := hl
  refine lv_aload_n hx hb dR_drop_19 rfl (lv_at hl 1 rfl) ?_
  refine lv_iload_n hx hb dR_drop_20 rfl (lv_at hl 2 rfl) ?_
  have hB9 : QI gg [(0, .inr (0, [.ref (ad 1), .ref (ad 4), .ref (ad 5), .ref (ad 6), .ref (ad 9), .int (nI T), .ref (ad 41), .ref (ad 48), .ref (ad 50), .ref (ad 52), .ref (ad 54), .ref (ad 56), .ref (ad 58)]))] := (qi_c (by decide) hob qi_0)
  have hN9 := (show NDc [0] from (nd_c na_0 nd_0))
  have hP := bo_P (wc := [(0, .inr (0, [.ref (ad 1), .ref (ad 4), .ref (ad 5), .ref (ad 6), .ref (ad 9), .int (nI T), .ref (ad 41), .ref (ad 48), .ref (ad 50), .ref (ad 52), .ref (ad 54), .ref (ad 56), .ref (ad 58)]))]) (X := []) hcd hN9 hB9 hP
  have hD := bo_D (wc := [(0, .inr (0, [.ref (ad 1), .ref (ad 4), .ref (ad 5), .ref (ad 6), .ref (ad 9), .int (nI T), .ref (ad 41), .ref (ad 48), .ref (ad 50), .ref (ad 52), .ref (ad 54), .ref (ad 56), .ref (ad 58)]))]) (X := []) hcd hN9 hB9 hD
  have hP : va_P D vwCl ([(ad 0, .inr (0, [.ref (ad 1), .ref (ad 4), .ref (ad 5), .ref (ad 6), .ref (ad 9), .int (nI T), .ref (ad 41), .ref (ad 48), .ref (ad 50), .ref (ad 52), .ref (ad 54), .ref (ad 56), .ref (ad 58)]))] ++ pg cds ad (upo gg [0])) _ := hP
  have hD : va_D A ([(ad 0, .inr (0, [.ref (ad 1), .ref (ad 4), .ref (ad 5), .ref (ad 6), .ref (ad 9), .int (nI T), .ref (ad 41), .ref (ad 48), .ref (ad 50), .ref (ad 52), .ref (ad 54), .ref (ad 56), .ref (ad 58)]))] ++ pg cds ad (upo gg [0])) := hD
  refine va_put (D := D) (ci := 0) (v := .int (nI k)) (ty := .int) (C := R_R) (T := T_R) (N := 13) hx hb hT in_R ty_R ty_R_ok m_R hown hK hP hD hS 0 rfl rfl 5 (by decide) (hT _ w329) (fun _ h9 => h9) rfl (by decide +kernel) rfl rfl (Nat.le_of_ble_eq_true rfl) dR_drop_21 (fun H locs hP hD hS => ?_)
  have hP : va_P D vwCl ([(ad 0, .inr (0, [.ref (ad 1), .ref (ad 4), .ref (ad 5), .ref (ad 6), .ref (ad 9), .int (nI k), .ref (ad 41), .ref (ad 48), .ref (ad 50), .ref (ad 52), .ref (ad 54), .ref (ad 56), .ref (ad 58)]))] ++ pg cds ad (upo gg [0])) _ := hP
  have hD : va_D A ([(ad 0, .inr (0, [.ref (ad 1), .ref (ad 4), .ref (ad 5), .ref (ad 6), .ref (ad 9), .int (nI k), .ref (ad 41), .ref (ad 48), .ref (ad 50), .ref (ad 52), .ref (ad 54), .ref (ad 56), .ref (ad 58)]))] ++ pg cds ad (upo gg [0])) := hD
  have hN9 := (show NDc [0] from (nd_c na_0 nd_0))
  have hP := gb_P (w9 := [(0, .inr (0, [.ref (ad 1), .ref (ad 4), .ref (ad 5), .ref (ad 6), .ref (ad 9), .int (nI k), .ref (ad 41), .ref (ad 48), .ref (ad 50), .ref (ad 52), .ref (ad 54), .ref (ad 56), .ref (ad 58)]))]) (X := []) (g := gg) hcd hN9 (show QB [(0, .inr (0, [.ref (ad 1), .ref (ad 4), .ref (ad 5), .ref (ad 6), .ref (ad 9), .int (nI k), .ref (ad 41), .ref (ad 48), .ref (ad 50), .ref (ad 52), .ref (ad 54), .ref (ad 56), .ref (ad 58)]))] from (qb_c (by decide) qb_0)) (hP.part (cx := [(ad 0, .inr (0, [.ref (ad 1), .ref (ad 4), .ref (ad 5), .ref (ad 6), .ref (ad 9), .int (nI k), .ref (ad 41), .ref (ad 48), .ref (ad 50), .ref (ad 52), .ref (ad 54), .ref (ad 56), .ref (ad 58)]))]) [0] rfl)
  have hD := gb_D (w9 := [(0, .inr (0, [.ref (ad 1), .ref (ad 4), .ref (ad 5), .ref (ad 6), .ref (ad 9), .int (nI k), .ref (ad 41), .ref (ad 48), .ref (ad 50), .ref (ad 52), .ref (ad 54), .ref (ad 56), .ref (ad 58)]))]) (X := []) (g := gg) hcd hN9 (show QB [(0, .inr (0, [.ref (ad 1), .ref (ad 4), .ref (ad 5), .ref (ad 6), .ref (ad 9), .int (nI k), .ref (ad 41), .ref (ad 48), .ref (ad 50), .ref (ad 52), .ref (ad 54), .ref (ad 56), .ref (ad 58)]))] from (qb_c (by decide) qb_0)) (hD.part (cx := [(ad 0, .inr (0, [.ref (ad 1), .ref (ad 4), .ref (ad 5), .ref (ad 6), .ref (ad 9), .int (nI k), .ref (ad 41), .ref (ad 48), .ref (ad 50), .ref (ad 52), .ref (ad 54), .ref (ad 56), .ref (ad 58)]))]) [0] (by decide) rfl)
  obtain ⟨g1, hg1⟩ : ∃ q9, q9 = ups gg [(0, .inr (0, [.ref (ad 1), .ref (ad 4), .ref (ad 5), .ref (ad 6), .ref (ad 9), .int (nI k), .ref (ad 41), .ref (ad 48), .ref (ad 50), .ref (ad 52), .ref (ad 54), .ref (ad 56), .ref (ad 58)]))] := ⟨_, rfl⟩
  rw [← hg1] at hP hD
  have hP : va_P D vwCl ([] ++ pg cds ad g1) _ := hP
  have hD : va_D A ([] ++ pg cds ad g1) := hD
  have fg1 : ∀ z8, z8 ≠ 0 → g1 z8 = gg z8 := fun z8 z1 => by rw [hg1]; exact ups_k (kp_n z1 kp_0)
  have g1_0 : g1 0 = some (.inr (0, [.ref (ad 1), .ref (ad 4), .ref (ad 5), .ref (ad 6), .ref (ad 9), .int (nI k), .ref (ad 41), .ref (ad 48), .ref (ad 50), .ref (ad 52), .ref (ad 54), .ref (ad 56), .ref (ad 58)])) := by rw [hg1]; exact ups_1
  refine lv_iload_n hx hb dR_drop_24 rfl (lv_at hl 0 rfl) ?_
  have hP9 : va_P D vwCl ([] ++ pg cds ad g1) _ := hP.part (cx := []) [] rfl
  have hD9 : va_D A ([] ++ pg cds ad g1) := hD.part (cx := []) [] (by decide) rfl
  refine W.widen (k := 0) (n := 0) (Nat.le_of_ble_eq_true rfl) (Nat.le_of_ble_eq_true rfl) ?_
  exact W.iret (v := nI (T - k)) hx hb hr (fun t9 ht9 hW9 => ⟨⟨nI (T - k), g1, rfl, (show (nI (T - k)) = nI (T - k) ∧ (∀ z8, z8 ≠ 0 → g1 z8 = gg z8) ∧ g1 0 = some (eOB ad (nI k)) from ⟨rfl, fun z8 n1 => fg1 z8 n1, g1_0⟩), by rw [ht9]; exact hP9, hD9⟩, hS.F ht9⟩) hS.2.2 dR_drop_25
set_option maxHeartbeats 4000000 in
set_option maxRecDepth 100000 in
theorem k_drop_no (l : Launch) (D : va_G) (cT : Nat → ClassId) (cds : List Nat) (ad : Nat → Nat) (gg : Nat → Option va_E) (T : Nat) (v : Int32) (hlt : l.stackTraces = false) (hcd : CD cds) (hob : gg 0 = some (eOB ad (nI T))) (hq : ¬ (0 ≤ v ∧ v ≤ nI T)) : MetT l yR_drop WR_drop ({ frames := 7, cells := 1, slots := 6, locals := 111 } : Room) (RO D vwCl [.ref (ad 0), .int v] ([] ++ pg cds ad gg) (TY cT)) "java/lang/IllegalArgumentException" 1 6 := by
  refine MetT.ofW (cc := cR_drop) (maxL := 3) (ret := (some .int)) (by decide) rfl ?_
  intro p e s m args below meth c s₁ B hml hno hv
  obtain ⟨rfl, hZ, hP, hK⟩ := hv
  have hx := B.exec
  have hb := B.bytes
  have hr := B.returns
  have hts := atoms_spec (ws := WR_drop) B.pre
  have hT : ∀ w ∈ TB, w.before _ s = true := fun w h => hts w (List.mem_cons_of_mem _ h)
  have hown : s.vm.findClass R_R = some m.cls := findClass_of_methodNamed B.named
  have hlocks := B.notSynchronized
  have hS : va_S (fun _ => False) s.heap s.heap [] := va_S.rf
  have hl := lv_entry ([.ref (ad 0), .int v]) (n := 3) (Nat.le_of_ble_eq_true rfl)
  rw [lg_entry_eq]
  generalize (lg_sl ([.ref (ad 0), .int v]) ++ List.replicate (3 - (lg_sl ([.ref (ad 0), .int v])).length) Slot.unset).toArray = ls at hl ⊢
  have hl : lv_has ls 3 [(0, .ref (ad 0)), (1, .int v)] := hl
  refine lv_iload_n hx hb dR_drop_0 rfl (lv_at hl 1 rfl) ?_
  refine lv_iconst (v := 0) hx hb dR_drop_1 (by decide) ?_
  refine lv_aload_n hx hb dR_drop_2 rfl (lv_at hl 0 rfl) ?_
  refine va_get (D := D) (ci := 0) (v := .int (nI T)) (C := R_R) (T := T_R) (N := 13) hx hb hT in_R hown hK (pg_1 (x := 0) hcd hP (by decide) hob) 0 rfl rfl 5 (by decide) (hT _ w329) (fun _ h9 => h9) rfl dR_drop_3 ?_
  refine ro_i (va_Run.run (va_runS (As := [.int v, .int 0, .int (nI T)]) (rest := []) ⟨hx, hb, hml, hown, hT⟩ (k_isWithin l D cT v 0 (nI T)) ⟨callB_of 3 hT (tb_gd w499) rfl rfl rfl (hT _ w1) (hT _ w497) hR_isWithin ⟨Nat.le_of_ble_eq_true rfl, Nat.le_of_ble_eq_true rfl⟩, (hT _ w498)⟩ (RO.preS hZ hS ((show va_P D vwCl [] _ from fun _ _ h => nomatch h)) hK) rfl rfl hl.1 rfl (lv_room (Nat.le_of_ble_eq_true rfl)) dR_drop_6 ⟨Nat.le_of_ble_eq_true rfl, Nat.le_of_ble_eq_true rfl⟩)) ?_
  exact tx_out (tx_goS (As := [.int (bi (0 ≤ v ∧ v ≤ (nI T)))]) (rest := []) ⟨hx, hb, hml, hown, hT⟩ (k_demand_no l D cT (bi (0 ≤ v ∧ v ≤ (nI T))) hlt (bi_f hq)) ⟨callB_of 1 hT (tb_gd w510) rfl rfl rfl (hT _ w1) (hT _ w508) hR_demand ⟨Nat.le_of_ble_eq_true rfl, Nat.le_of_ble_eq_true rfl⟩, (hT _ w509)⟩ (RO.preS hZ hS ((show va_P D vwCl [] _ from fun _ _ h => nomatch h)) hK) rfl hl.1 rfl (Nat.le_of_ble_eq_true rfl) dR_drop_9 ⟨Nat.le_of_ble_eq_true rfl, Nat.le_of_ble_eq_true rfl⟩) hno hlocks
set_option maxHeartbeats 4000000 in
set_option maxRecDepth 100000 in
theorem k_pred_no (l : Launch) (D : va_G) (cT : Nat → ClassId) (cds : List Nat) (ad : Nat → Nat) (gg : Nat → Option va_E) (T : Nat) (v : Int32) (hlt : l.stackTraces = false) (hcd : CD cds) (hob : gg 0 = some (eOB ad (nI T))) (hq : ¬ (0 ≤ v ∧ v ≤ nI T)) : MetT l yR_predict WR_predict ({ frames := 7, cells := 1, slots := 6, locals := 111 } : Room) (RO D vwCl [.ref (ad 0), .int v] ([] ++ pg cds ad gg) (TY cT)) "java/lang/IllegalArgumentException" 1 6 := by
  refine MetT.ofW (cc := cR_predict) (maxL := 2) (ret := (some .int)) (by decide) rfl ?_
  intro p e s m args below meth c s₁ B hml hno hv
  obtain ⟨rfl, hZ, hP, hK⟩ := hv
  have hx := B.exec
  have hb := B.bytes
  have hr := B.returns
  have hts := atoms_spec (ws := WR_predict) B.pre
  have hT : ∀ w ∈ TB, w.before _ s = true := fun w h => hts w (List.mem_cons_of_mem _ h)
  have hown : s.vm.findClass R_R = some m.cls := findClass_of_methodNamed B.named
  have hlocks := B.notSynchronized
  have hS : va_S (fun _ => False) s.heap s.heap [] := va_S.rf
  have hl := lv_entry ([.ref (ad 0), .int v]) (n := 2) (Nat.le_of_ble_eq_true rfl)
  rw [lg_entry_eq]
  generalize (lg_sl ([.ref (ad 0), .int v]) ++ List.replicate (2 - (lg_sl ([.ref (ad 0), .int v])).length) Slot.unset).toArray = ls at hl ⊢
  have hl : lv_has ls 2 [(0, .ref (ad 0)), (1, .int v)] := hl
  refine lv_iload_n hx hb dR_predict_0 rfl (lv_at hl 1 rfl) ?_
  refine lv_iconst (v := 0) hx hb dR_predict_1 (by decide) ?_
  refine lv_aload_n hx hb dR_predict_2 rfl (lv_at hl 0 rfl) ?_
  refine va_get (D := D) (ci := 0) (v := .int (nI T)) (C := R_R) (T := T_R) (N := 13) hx hb hT in_R hown hK (pg_1 (x := 0) hcd hP (by decide) hob) 0 rfl rfl 5 (by decide) (hT _ w329) (fun _ h9 => h9) rfl dR_predict_3 ?_
  refine ro_i (va_Run.run (va_runS (As := [.int v, .int 0, .int (nI T)]) (rest := []) ⟨hx, hb, hml, hown, hT⟩ (k_isWithin l D cT v 0 (nI T)) ⟨callB_of 3 hT (tb_gd w499) rfl rfl rfl (hT _ w1) (hT _ w497) hR_isWithin ⟨Nat.le_of_ble_eq_true rfl, Nat.le_of_ble_eq_true rfl⟩, (hT _ w498)⟩ (RO.preS hZ hS ((show va_P D vwCl [] _ from fun _ _ h => nomatch h)) hK) rfl rfl hl.1 rfl (lv_room (Nat.le_of_ble_eq_true rfl)) dR_predict_6 ⟨Nat.le_of_ble_eq_true rfl, Nat.le_of_ble_eq_true rfl⟩)) ?_
  exact tx_out (tx_goS (As := [.int (bi (0 ≤ v ∧ v ≤ (nI T)))]) (rest := []) ⟨hx, hb, hml, hown, hT⟩ (k_demand_no l D cT (bi (0 ≤ v ∧ v ≤ (nI T))) hlt (bi_f hq)) ⟨callB_of 1 hT (tb_gd w510) rfl rfl rfl (hT _ w1) (hT _ w508) hR_demand ⟨Nat.le_of_ble_eq_true rfl, Nat.le_of_ble_eq_true rfl⟩, (hT _ w509)⟩ (RO.preS hZ hS ((show va_P D vwCl [] _ from fun _ _ h => nomatch h)) hK) rfl hl.1 rfl (Nat.le_of_ble_eq_true rfl) dR_predict_9 ⟨Nat.le_of_ble_eq_true rfl, Nat.le_of_ble_eq_true rfl⟩) hno hlocks
set_option maxHeartbeats 4000000 in
set_option maxRecDepth 100000 in
theorem k_error_no (l : Launch) (D : va_G) (cT : Nat → ClassId) (cds : List Nat) (ad : Nat → Nat) (gg : Nat → Option va_E) (T : Nat) (x : Int64) (v : Int32) (hlt : l.stackTraces = false) (hcd : CD cds) (hob : gg 0 = some (eOB ad (nI T))) (hq : ¬ (0 ≤ v ∧ v ≤ nI T)) : MetT l yR_error WR_error ({ frames := 7, cells := 1, slots := 6, locals := 111 } : Room) (RO D vwCl [.ref (ad 0), .long x, .int v] ([] ++ pg cds ad gg) (TY cT)) "java/lang/IllegalArgumentException" 1 6 := by
  refine MetT.ofW (cc := cR_error) (maxL := 4) (ret := (some .int)) (by decide) rfl ?_
  intro p e s m args below meth c s₁ B hml hno hv
  obtain ⟨rfl, hZ, hP, hK⟩ := hv
  have hx := B.exec
  have hb := B.bytes
  have hr := B.returns
  have hts := atoms_spec (ws := WR_error) B.pre
  have hT : ∀ w ∈ TB, w.before _ s = true := fun w h => hts w (List.mem_cons_of_mem _ h)
  have hown : s.vm.findClass R_R = some m.cls := findClass_of_methodNamed B.named
  have hlocks := B.notSynchronized
  have hS : va_S (fun _ => False) s.heap s.heap [] := va_S.rf
  have hl := lv_entry ([.ref (ad 0), .long x, .int v]) (n := 4) (Nat.le_of_ble_eq_true rfl)
  rw [lg_entry_eq]
  generalize (lg_sl ([.ref (ad 0), .long x, .int v]) ++ List.replicate (4 - (lg_sl ([.ref (ad 0), .long x, .int v])).length) Slot.unset).toArray = ls at hl ⊢
  have hl : lv_has ls 4 [(0, .ref (ad 0)), (1, .long x), (3, .int v)] := hl
  refine lv_iload_n hx hb dR_error_0 rfl (lv_at hl 2 rfl) ?_
  refine lv_iconst (v := 0) hx hb dR_error_1 (by decide) ?_
  refine lv_aload_n hx hb dR_error_2 rfl (lv_at hl 0 rfl) ?_
  refine va_get (D := D) (ci := 0) (v := .int (nI T)) (C := R_R) (T := T_R) (N := 13) hx hb hT in_R hown hK (pg_1 (x := 0) hcd hP (by decide) hob) 0 rfl rfl 5 (by decide) (hT _ w329) (fun _ h9 => h9) rfl dR_error_3 ?_
  refine ro_i (va_Run.run (va_runS (As := [.int v, .int 0, .int (nI T)]) (rest := []) ⟨hx, hb, hml, hown, hT⟩ (k_isWithin l D cT v 0 (nI T)) ⟨callB_of 3 hT (tb_gd w499) rfl rfl rfl (hT _ w1) (hT _ w497) hR_isWithin ⟨Nat.le_of_ble_eq_true rfl, Nat.le_of_ble_eq_true rfl⟩, (hT _ w498)⟩ (RO.preS hZ hS ((show va_P D vwCl [] _ from fun _ _ h => nomatch h)) hK) rfl rfl hl.1 rfl (lv_room (Nat.le_of_ble_eq_true rfl)) dR_error_6 ⟨Nat.le_of_ble_eq_true rfl, Nat.le_of_ble_eq_true rfl⟩)) ?_
  exact tx_out (tx_goS (As := [.int (bi (0 ≤ v ∧ v ≤ (nI T)))]) (rest := []) ⟨hx, hb, hml, hown, hT⟩ (k_demand_no l D cT (bi (0 ≤ v ∧ v ≤ (nI T))) hlt (bi_f hq)) ⟨callB_of 1 hT (tb_gd w510) rfl rfl rfl (hT _ w1) (hT _ w508) hR_demand ⟨Nat.le_of_ble_eq_true rfl, Nat.le_of_ble_eq_true rfl⟩, (hT _ w509)⟩ (RO.preS hZ hS ((show va_P D vwCl [] _ from fun _ _ h => nomatch h)) hK) rfl hl.1 rfl (Nat.le_of_ble_eq_true rfl) dR_error_9 ⟨Nat.le_of_ble_eq_true rfl, Nat.le_of_ble_eq_true rfl⟩) hno hlocks
set_option maxHeartbeats 4000000 in
set_option maxRecDepth 100000 in
theorem k_resid_no (l : Launch) (D : va_G) (cT : Nat → ClassId) (cds : List Nat) (ad : Nat → Nat) (gg : Nat → Option va_E) (T : Nat) (wd9 : Int32) (rw9 : Int32) (a1 : Int32) (a2 : Int32) (hlt : l.stackTraces = false) (hcd : CD cds) (hob : gg 0 = some (eOB ad (nI T))) (htb : gg 1 = some (eTB ad wd9 rw9)) (hq : ¬ ((0 ≤ a1 ∧ a1 ≤ rw9 - 1) ∧ (0 ≤ a2 ∧ a2 ≤ nI T))) : MetT l yR_residual WR_residual ({ frames := 7, cells := 1, slots := 6, locals := 111 } : Room) (RO D vwCl [.ref (ad 0), .int a1, .int a2] ([] ++ pg cds ad gg) (TY cT)) "java/lang/IllegalArgumentException" 1 6 := by
  refine MetT.ofW (cc := cR_residual) (maxL := 3) (ret := (some .int)) (by decide) rfl ?_
  intro p e s m args below meth c s₁ B hml hno hv
  obtain ⟨rfl, hZ, hP, hK⟩ := hv
  have hx := B.exec
  have hb := B.bytes
  have hr := B.returns
  have hts := atoms_spec (ws := WR_residual) B.pre
  have hT : ∀ w ∈ TB, w.before _ s = true := fun w h => hts w (List.mem_cons_of_mem _ h)
  have hown : s.vm.findClass R_R = some m.cls := findClass_of_methodNamed B.named
  have hlocks := B.notSynchronized
  have hS : va_S (fun _ => False) s.heap s.heap [] := va_S.rf
  have hl := lv_entry ([.ref (ad 0), .int a1, .int a2]) (n := 3) (Nat.le_of_ble_eq_true rfl)
  rw [lg_entry_eq]
  generalize (lg_sl ([.ref (ad 0), .int a1, .int a2]) ++ List.replicate (3 - (lg_sl ([.ref (ad 0), .int a1, .int a2])).length) Slot.unset).toArray = ls at hl ⊢
  have hl : lv_has ls 3 [(0, .ref (ad 0)), (1, .int a1), (2, .int a2)] := hl
  refine lv_aload_n hx hb dR_residual_0 rfl (lv_at hl 0 rfl) ?_
  refine va_get (D := D) (ci := 0) (v := .ref (ad 1)) (C := R_R) (T := T_R) (N := 13) hx hb hT in_R hown hK (pg_1 (x := 0) hcd hP (by decide) hob) 0 rfl rfl 0 (by decide) (hT _ w324) (fun _ h9 => h9) rfl dR_residual_1 ?_
  refine lv_iload_n hx hb dR_residual_4 rfl (lv_at hl 1 rfl) ?_
  refine ro_i (va_Run.run (va_runV (As := [.int a1]) (rest := []) ⟨hx, hb, hml, hown, hT⟩ (k_hasRow l D cT (ad 1) (ad 2) (ad 3) wd9 rw9 a1) ⟨callB_of 1 hT (tb_gd w616) rfl rfl rfl (hT _ w2) (hT _ w613) hT_hasRow ⟨Nat.le_of_ble_eq_true rfl, Nat.le_of_ble_eq_true rfl⟩, (hT _ w614), (hT _ w615)⟩ (RO.preV (ci := 2) (q0 := 0) hZ hS ((show va_P D vwCl [(ad 1, .inr (2, [.ref (ad 2), .ref (ad 3), .int wd9, .int rw9]))] _ from (pv_c (pg_1 (x := 1) hcd hP (by decide) htb) pv_0))) hK rfl rfl) rfl rfl hl.1 rfl (lv_room (Nat.le_of_ble_eq_true rfl)) dR_residual_5 ⟨Nat.le_of_ble_eq_true rfl, Nat.le_of_ble_eq_true rfl⟩)) ?_
  refine lv_if_eq (tgt := 27) hx hb dR_residual_8 rfl (fun h1 => ?_) (fun h1 => ?_)
  · refine lv_iconst (v := 0) hx hb dR_residual_27 (by decide) ?_
    exact tx_out (tx_goS (As := [.int 0]) (rest := []) ⟨hx, hb, hml, hown, hT⟩ (k_demand_no l D cT 0 hlt rfl) ⟨callB_of 1 hT (tb_gd w510) rfl rfl rfl (hT _ w1) (hT _ w508) hR_demand ⟨Nat.le_of_ble_eq_true rfl, Nat.le_of_ble_eq_true rfl⟩, (hT _ w509)⟩ (RO.preS hZ hS ((show va_P D vwCl [] _ from fun _ _ h => nomatch h)) hK) rfl hl.1 rfl (Nat.le_of_ble_eq_true rfl) dR_residual_28 ⟨Nat.le_of_ble_eq_true rfl, Nat.le_of_ble_eq_true rfl⟩) hno hlocks
  · refine lv_iload_n hx hb dR_residual_11 rfl (lv_at hl 2 rfl) ?_
    refine lv_iconst (v := 0) hx hb dR_residual_12 (by decide) ?_
    refine lv_aload_n hx hb dR_residual_13 rfl (lv_at hl 0 rfl) ?_
    refine va_get (D := D) (ci := 0) (v := .int (nI T)) (C := R_R) (T := T_R) (N := 13) hx hb hT in_R hown hK (pg_1 (x := 0) hcd hP (by decide) hob) 0 rfl rfl 5 (by decide) (hT _ w329) (fun _ h9 => h9) rfl dR_residual_14 ?_
    refine ro_i (va_Run.run (va_runS (As := [.int a2, .int 0, .int (nI T)]) (rest := []) ⟨hx, hb, hml, hown, hT⟩ (k_isWithin l D cT a2 0 (nI T)) ⟨callB_of 3 hT (tb_gd w499) rfl rfl rfl (hT _ w1) (hT _ w497) hR_isWithin ⟨Nat.le_of_ble_eq_true rfl, Nat.le_of_ble_eq_true rfl⟩, (hT _ w498)⟩ (RO.preS hZ hS ((show va_P D vwCl [] _ from fun _ _ h => nomatch h)) hK) rfl rfl hl.1 rfl (lv_room (Nat.le_of_ble_eq_true rfl)) dR_residual_17 ⟨Nat.le_of_ble_eq_true rfl, Nat.le_of_ble_eq_true rfl⟩)) ?_
    refine lv_if_eq (tgt := 27) hx hb dR_residual_20 rfl (fun h2 => ?_) (fun h2 => ?_)
    · refine lv_iconst (v := 0) hx hb dR_residual_27 (by decide) ?_
      exact tx_out (tx_goS (As := [.int 0]) (rest := []) ⟨hx, hb, hml, hown, hT⟩ (k_demand_no l D cT 0 hlt rfl) ⟨callB_of 1 hT (tb_gd w510) rfl rfl rfl (hT _ w1) (hT _ w508) hR_demand ⟨Nat.le_of_ble_eq_true rfl, Nat.le_of_ble_eq_true rfl⟩, (hT _ w509)⟩ (RO.preS hZ hS ((show va_P D vwCl [] _ from fun _ _ h => nomatch h)) hK) rfl hl.1 rfl (Nat.le_of_ble_eq_true rfl) dR_residual_28 ⟨Nat.le_of_ble_eq_true rfl, Nat.le_of_ble_eq_true rfl⟩) hno hlocks
    · refine lv_iconst (v := 1) hx hb dR_residual_23 (by decide) ?_
      refine lv_goto (tgt := 28) hx hb dR_residual_24 rfl ?_
      exact absurd ⟨(bi_1 h1), (bi_1 h2)⟩ hq
