set_option maxHeartbeats 4000000 in
set_option maxRecDepth 100000 in
theorem k_leafOf (l : Launch) (D : va_G) (cT : Nat → ClassId) (cds : List Nat) (ad : Nat → Nat) (gg : Nat → Option va_E) (F : TFR) (t : Nat) (row : Nat) (vr : Nat → Int32) (hcd : CD cds) (hTr : TRp cT ad gg F t) (ht16 : t < 16) (hT1 : TOK1 F t) (htl : ∀ q, q < 496 → tA F 2 q = 0 ∨ tA F 2 q = 1) (hCa : CAp cT ad gg) (hCr : COLr cT ad gg row vr) (hrw : row < 49) : Met l yTr_leafOf WTr_leafOf ({ frames := 3, cells := 0, slots := 0, locals := 64 } : Room) (RO D vwCl [.ref (ad (1000 + t)), .ref (ad 2), .int (nI row)] ([] ++ pg cds ad gg) (TY cT)) (QcReadR (ad (2000 + 32 * t + (lfF (tA F) vr t)))) 0 0 (fun _ => False) := by
  refine Met.ofW (cc := cTr_leafOf) (maxL := 6) (ret := (some (.object "ResidualTrees$Node"))) (by decide) rfl ?_
  intro p e s m args below meth c s₁ B hml hv
  obtain ⟨rfl, hZ, hP, hK⟩ := hv
  have hx := B.exec
  have hb := B.bytes
  have hr := B.returns
  have hts := atoms_spec (ws := WTr_leafOf) B.pre
  have hT : ∀ w ∈ TB, w.before _ s = true := fun w h => hts w (List.mem_cons_of_mem _ h)
  have hown : s.vm.findClass R_Tr = some m.cls := findClass_of_methodNamed B.named
  have hlocks := B.notSynchronized
  have hS : va_S (fun _ => False) s.heap s.heap [] := va_S.rf
  have hl := lv_entry ([.ref (ad (1000 + t)), .ref (ad 2), .int (nI row)]) (n := 6) (Nat.le_of_ble_eq_true rfl)
  rw [lg_entry_eq]
  generalize (lg_sl ([.ref (ad (1000 + t)), .ref (ad 2), .int (nI row)]) ++ List.replicate (6 - (lg_sl ([.ref (ad (1000 + t)), .ref (ad 2), .int (nI row)])).length) Slot.unset).toArray = ls at hl ⊢
  have hl : lv_has ls 6 [(0, .ref (ad (1000 + t))), (1, .ref (ad 2)), (2, .int (nI row))] := hl
  obtain ⟨mm, tr1, ⟨cap, md, lf, ls1, ls2, ls3, ls4, ls5⟩, tr3, tr4, tr5⟩ := hTr
  have htw := hT1.1
  have h0m := htw.1
  obtain ⟨qf, hca, hcb⟩ := hCa
  refine lv_aload_n hx hb dTr_leafOf_0 rfl (lv_at hl 0 rfl) ?_
  refine va_get (D := D) (ci := 9) (v := .ref (ad (1020 + t))) (C := R_Tr) (T := T_Tr) (N := 6) hx hb hT in_Tr hown hK (pg_1 (x := 1000 + t) hcd hP (by omega) tr1) 0 rfl rfl 0 (by decide) (hT _ w730) (fun _ h9 => h9) rfl dTr_leafOf_1 ?_
  refine lv_iconst (v := 0) hx hb dTr_leafOf_4 (by decide) ?_
  refine lv_topi (fun y9 e9 => ?_)
  cases (show y9 = nI 0 from e9.trans (by decide))
  refine ro_r (va_Run.run (va_runV (As := [.int (nI 0)]) (rest := []) ⟨hx, hb, hml, hown, hT⟩ (k_alGet l D cT (ad (1020 + t)) (ad (1040 + t)) mm md cap lf 0 (ad (2000 + 32 * t + 0)) (by omega) ls3 (by omega) (ls5 _ (by omega))) ⟨callB_of 1 hT (tb_gd w401) rfl rfl rfl (hT _ w11) (hT _ w426) hAL_get ⟨Nat.le_of_ble_eq_true rfl, Nat.le_of_ble_eq_true rfl⟩, (hT _ w399), (hT _ w400)⟩ (RO.preV (ci := 12) (q0 := 0) hZ hS ((show va_P D vwCl [(ad (1020 + t), .inr (12, [.ref (ad (1040 + t)), .int (nI mm), .int md])), (ad (1040 + t), .inl (cT 7, cap, .inr (.inr (.inr (.inr lf)))))] _ from (pv_c (pg_1 (x := 1020 + t) hcd hP (by omega) ls1) (pv_c (pg_1 (x := 1040 + t) hcd hP (by omega) ls2) pv_0)))) hK rfl rfl) rfl rfl hl.1 rfl (lv_room (Nat.le_of_ble_eq_true rfl)) dTr_leafOf_5 ⟨Nat.le_of_ble_eq_true rfl, Nat.le_of_ble_eq_true rfl⟩)) ?_
  refine va_castY (C := "ResidualTrees$Node") hx hb hown (hT _ w427) (hZ.1.1 ("ResidualTrees$Node", "ResidualTrees$Node") (List.mem_of_getElem? (i := 3) rfl)) (va_recv (ci := 10) (q0 := 0) hK (pg_1 (x := 2000 + 32 * t + 0) hcd hP (by omega) ((tr5 0 h0m).1)) rfl rfl) dTr_leafOf_8 ?_
  refine lv_astore_n hx hb dTr_leafOf_11 rfl hl (by decide) rfl (fun ls hl => ?_)
  have hl : lv_has ls 6 [(3, .ref (ad (2000 + 32 * t + 0))), (0, .ref (ad (1000 + t))), (1, .ref (ad 2)), (2, .int (nI row))] := hl
  refine lv_iconst (v := 0) hx hb dTr_leafOf_12 (by decide) ?_
  refine lv_istore hx hb dTr_leafOf_13 hl (by decide) rfl (fun ls hl => ?_)
  have hl : lv_has ls 6 [(4, .int 0), (3, .ref (ad (2000 + 32 * t + 0))), (0, .ref (ad (1000 + t))), (1, .ref (ad 2)), (2, .int (nI row))] := hl
  refine lp_r (α := Nat × Nat) (fun a9 => a9.1 ≤ 4 ∧ a9.2 < tM F t ∧ dg (tA F 6) (31 * t + a9.2) = a9.1 ∧ lfw (tA F 0) (tA F 3) (tA F 4) (goF (tA F) vr t) (31 * t) (4 - a9.1) a9.2 = lfF (tA F) vr t) (fun a9 => 4 - a9.1) (fun a9 => [(0, .ref (ad (1000 + t))), (1, .ref (ad 2)), (2, .int (nI row)), (3, .ref (ad (2000 + 32 * t + a9.2))), (4, .int (nI a9.1))]) 15 ?_ (0, 0) (show 0 ≤ 4 ∧ 0 < tM F t ∧ dg (tA F 6) (31 * t + 0) = 0 ∧ lfw (tA F 0) (tA F 3) (tA F 4) (goF (tA F) vr t) (31 * t) (4 - 0) 0 = lfF (tA F) vr t from ⟨by omega, h0m, htw.2.2.1, rfl⟩) (lv_sub hl [2, 3, 4, 1, 0] rfl)
  intro a9 hI15 ih15 ls hl
  obtain ⟨d, k⟩ := a9
  have hI15 : d ≤ 4 ∧ k < tM F t ∧ dg (tA F 6) (31 * t + k) = d ∧ lfw (tA F 0) (tA F 3) (tA F 4) (goF (tA F) vr t) (31 * t) (4 - d) k = lfF (tA F) vr t := hI15
  obtain ⟨id4, ik, idp, iv⟩ := hI15
  have hl : lv_has ls 6 [(0, .ref (ad (1000 + t))), (1, .ref (ad 2)), (2, .int (nI row)), (3, .ref (ad (2000 + 32 * t + k))), (4, .int (nI d))] := hl
  refine lv_iload hx hb dTr_leafOf_15 (lv_at hl 4 rfl) ?_
  refine lv_iconst (v := 4) hx hb dTr_leafOf_17 (by decide) ?_
  refine lv_icmp_ge (tgt := 79) hx hb dTr_leafOf_18 rfl (fun h1 => ?_) (fun h1 => ?_)
  · have gh1 : 4 ≤ d := (nI_leI (a := 4) (b := d) (by omega) (by omega)).mp h1
    refine lv_aload_n hx hb dTr_leafOf_79 rfl (lv_at hl 3 rfl) ?_
    exact W.aret (v := .ref (ad (2000 + 32 * t + k))) hx hb hr (Or.inl ⟨_, rfl⟩) (Or.inr ⟨_, rfl⟩) (fun t9 ht9 hW9 => ⟨(by rw [← iv, show 4 - d = 0 by omega]; rfl), ht9⟩) (fun q h => nomatch h) dTr_leafOf_80
  · have gh1 : d < 4 := Nat.not_le.mp (fun q => h1 ((nI_leI (a := 4) (b := d) (by omega) (by omega)).mpr q))
    refine lv_aload_n hx hb dTr_leafOf_21 rfl (lv_at hl 3 rfl) ?_
    refine va_get (D := D) (ci := 10) (v := .int (tA F 0 (31 * t + k))) (C := R_N) (T := T_N) (N := 9) hx hb hT in_N hown hK (pg_1 (x := 2000 + 32 * t + k) hcd hP (by omega) ((tr5 k ik).1)) 0 rfl rfl 0 (by decide) (hT _ w831) (fun _ h9 => h9) rfl dTr_leafOf_22 ?_
    refine lv_iconst (v := (-1)) hx hb dTr_leafOf_25 (by decide) ?_
    refine lv_icmp_eq (tgt := 79) hx hb dTr_leafOf_26 rfl (fun h2 => ?_) (fun h2 => ?_)
    · refine lv_aload_n hx hb dTr_leafOf_79 rfl (lv_at hl 3 rfl) ?_
      exact W.aret (v := .ref (ad (2000 + 32 * t + k))) hx hb hr (Or.inl ⟨_, rfl⟩) (Or.inr ⟨_, rfl⟩) (fun t9 ht9 hW9 => ⟨(by rw [← iv, lfw_leaf (by rw [h2]; decide)]), ht9⟩) (fun q h => nomatch h) dTr_leafOf_80
    · have hng : ¬ tA F 0 (31 * t + k) < 0 := fun q => by rcases (htw.2.2.2 k ik).2 with r | ⟨⟨c, r1, r2⟩, _⟩; (exact h2 r); (rw [r2] at q; exact absurd q (nI_pos (by omega)))
      obtain ⟨⟨c0, hc6, hcc⟩, hd4, hll, hrr, hlm, hrm, hld, hrd⟩ := tw_in htw ik hng
      obtain ⟨ec, ok, fv, hq1, hq2, hq3⟩ := hCr c0 hc6
      have hgo : goF (tA F) vr t k = goB (tA F 2 (31 * t + k)) (tA F 7 (31 * t + k)) (tA F 1 (31 * t + k)) (vr c0) := rfn_go hc6 hcc
      have iv2 : lfw (tA F 0) (tA F 3) (tA F 4) (goF (tA F) vr t) (31 * t) (4 - d - 1) (if goF (tA F) vr t k = true then dg (tA F 3) (31 * t + k) else dg (tA F 4) (31 * t + k)) = lfF (tA F) vr t := by rw [← iv, show 4 - d = (4 - d - 1) + 1 by omega]; exact (lfw_s hng).symm
      refine lv_aload_n hx hb dTr_leafOf_29 rfl (lv_at hl 3 rfl) ?_
      refine lv_aload_n hx hb dTr_leafOf_30 rfl (lv_at hl 1 rfl) ?_
      refine lv_aload_n hx hb dTr_leafOf_31 rfl (lv_at hl 3 rfl) ?_
      refine va_get (D := D) (ci := 10) (v := .int (tA F 0 (31 * t + k))) (C := R_N) (T := T_N) (N := 9) hx hb hT in_N hown hK (pg_1 (x := 2000 + 32 * t + k) hcd hP (by omega) ((tr5 k ik).1)) 0 rfl rfl 0 (by decide) (hT _ w831) (fun _ h9 => h9) rfl dTr_leafOf_32 ?_
      refine lv_topi (fun y9 e9 => ?_)
      cases (show y9 = nI c0 from e9.trans hcc)
      refine al_q (q := ad (10 + c0)) hx hb hK (pg_1 (x := 2) hcd hP (by decide) hca) 0 5 rfl rfl (vp_in_nI (by omega) (by decide)) (by rw [nI_clamp (by omega)]; exact hcb c0 hc6) dTr_leafOf_35 ?_
      refine va_get (D := D) (ci := 1) (v := .ref (ad (20 + c0))) (C := R_C) (T := T_C) (N := 4) hx hb hT in_C hown hK (pg_1 (x := 10 + c0) hcd hP (by omega) hq1) 0 rfl rfl 0 (by decide) (hT _ w52) (fun _ h9 => h9) rfl dTr_leafOf_36 ?_
      refine lv_iload_n hx hb dTr_leafOf_39 rfl (lv_at hl 2 rfl) ?_
      refine lq_iald (j := row) hx hb hK (pg_1 (x := 20 + c0) hcd hP (by omega) hq2) 0 0 rfl rfl rfl (by omega) (by omega) dTr_leafOf_40 ?_
      refine lv_topi (fun y9 e9 => ?_)
      cases (show y9 = vr c0 from e9.trans hq3)
      refine ro_i (va_Run.run (va_runV (As := [.int (vr c0)]) (rest := []) ⟨hx, hb, hml, hown, hT⟩ (k_sendsLeft l D cT (ad (2000 + 32 * t + k)) (ad (3000 + 32 * t + k)) (tA F 0 (31 * t + k)) (tA F 1 (31 * t + k)) (tA F 7 (31 * t + k)) (tA F 2 (31 * t + k)) (tA F 3 (31 * t + k)) (tA F 4 (31 * t + k)) (tA F 5 (31 * t + k)) (tA F 6 (31 * t + k)) (vr c0) (htl _ (by omega))) ⟨callB_of 1 hT (tb_gd w431) rfl rfl rfl (hT _ w27) (hT _ w428) hN_sendsLeft ⟨Nat.le_of_ble_eq_true rfl, Nat.le_of_ble_eq_true rfl⟩, (hT _ w429), (hT _ w430)⟩ (RO.preV (ci := 10) (q0 := 0) hZ hS ((show va_P D vwCl [(ad (2000 + 32 * t + k), .inr (10, [.int (tA F 0 (31 * t + k)), .int (tA F 1 (31 * t + k)), .int (tA F 7 (31 * t + k)), .int (tA F 2 (31 * t + k)), .int (tA F 3 (31 * t + k)), .int (tA F 4 (31 * t + k)), .int (tA F 5 (31 * t + k)), .int (tA F 6 (31 * t + k)), .ref (ad (3000 + 32 * t + k))]))] _ from (pv_c (pg_1 (x := 2000 + 32 * t + k) hcd hP (by omega) ((tr5 k ik).1)) pv_0))) hK rfl rfl) rfl rfl hl.1 rfl (lv_room (Nat.le_of_ble_eq_true rfl)) dTr_leafOf_41 ⟨Nat.le_of_ble_eq_true rfl, Nat.le_of_ble_eq_true rfl⟩)) ?_
      refine lv_istore hx hb dTr_leafOf_44 hl (by decide) rfl (fun ls hl => ?_)
      have hl : lv_has ls 6 [(5, .int (bn (goB (tA F 2 (31 * t + k)) (tA F 7 (31 * t + k)) (tA F 1 (31 * t + k)) (vr c0)))), (0, .ref (ad (1000 + t))), (1, .ref (ad 2)), (2, .int (nI row)), (3, .ref (ad (2000 + 32 * t + k))), (4, .int (nI d))] := hl
      refine lv_aload_n hx hb dTr_leafOf_46 rfl (lv_at hl 1 rfl) ?_
      refine va_get (D := D) (ci := 9) (v := .ref (ad (1020 + t))) (C := R_Tr) (T := T_Tr) (N := 6) hx hb hT in_Tr hown hK (pg_1 (x := 1000 + t) hcd hP (by omega) tr1) 0 rfl rfl 0 (by decide) (hT _ w730) (fun _ h9 => h9) rfl dTr_leafOf_47 ?_
      refine lv_iload hx hb dTr_leafOf_50 (lv_at hl 0 rfl) ?_
      refine lv_if_eq (tgt := 62) hx hb dTr_leafOf_52 rfl (fun h3 => ?_) (fun h3 => ?_)
      · have hgf : goF (tA F) vr t k = false := by rw [hgo]; exact bn_0.mp h3
        have hnx : lfw (tA F 0) (tA F 3) (tA F 4) (goF (tA F) vr t) (31 * t) (4 - (d + 1)) (dg (tA F 4) (31 * t + k)) = lfF (tA F) vr t := by rw [show 4 - (d + 1) = 4 - d - 1 by omega, ← iv2, hgf]; rfl
        refine lv_aload_n hx hb dTr_leafOf_62 rfl (lv_at hl 4 rfl) ?_
        refine va_get (D := D) (ci := 10) (v := .int (tA F 4 (31 * t + k))) (C := R_N) (T := T_N) (N := 9) hx hb hT in_N hown hK (pg_1 (x := 2000 + 32 * t + k) hcd hP (by omega) ((tr5 k ik).1)) 0 rfl rfl 5 (by decide) (hT _ w848) (fun _ h9 => h9) rfl dTr_leafOf_63 ?_
        refine lv_topi (fun y9 e9 => ?_)
        cases (show y9 = nI (dg (tA F 4) (31 * t + k)) from e9.trans hrr)
        refine ro_r (va_Run.run (va_runV (As := [.int (nI (dg (tA F 4) (31 * t + k)))]) (rest := []) ⟨hx, hb, hml, hown, hT⟩ (k_alGet l D cT (ad (1020 + t)) (ad (1040 + t)) mm md cap lf (dg (tA F 4) (31 * t + k)) (ad (2000 + 32 * t + (dg (tA F 4) (31 * t + k)))) (by omega) ls3 (by omega) (ls5 _ (by omega))) ⟨callB_of 1 hT (tb_gd w401) rfl rfl rfl (hT _ w11) (hT _ w426) hAL_get ⟨Nat.le_of_ble_eq_true rfl, Nat.le_of_ble_eq_true rfl⟩, (hT _ w399), (hT _ w400)⟩ (RO.preV (ci := 12) (q0 := 0) hZ hS ((show va_P D vwCl [(ad (1020 + t), .inr (12, [.ref (ad (1040 + t)), .int (nI mm), .int md])), (ad (1040 + t), .inl (cT 7, cap, .inr (.inr (.inr (.inr lf)))))] _ from (pv_c (pg_1 (x := 1020 + t) hcd hP (by omega) ls1) (pv_c (pg_1 (x := 1040 + t) hcd hP (by omega) ls2) pv_0)))) hK rfl rfl) rfl rfl hl.1 rfl (lv_room (Nat.le_of_ble_eq_true rfl)) dTr_leafOf_66 ⟨Nat.le_of_ble_eq_true rfl, Nat.le_of_ble_eq_true rfl⟩)) ?_
        refine va_castY (C := "ResidualTrees$Node") hx hb hown (hT _ w427) (hZ.1.1 ("ResidualTrees$Node", "ResidualTrees$Node") (List.mem_of_getElem? (i := 3) rfl)) (va_recv (ci := 10) (q0 := 0) hK (pg_1 (x := 2000 + 32 * t + (dg (tA F 4) (31 * t + k))) hcd hP (by omega) ((tr5 (dg (tA F 4) (31 * t + k)) hrm).1)) rfl rfl) dTr_leafOf_69 ?_
        refine lv_astore_n hx hb dTr_leafOf_72 rfl hl (by decide) rfl (fun ls hl => ?_)
        have hl : lv_has ls 6 [(3, .ref (ad (2000 + 32 * t + (dg (tA F 4) (31 * t + k))))), (5, .int (bn (goB (tA F 2 (31 * t + k)) (tA F 7 (31 * t + k)) (tA F 1 (31 * t + k)) (vr c0)))), (0, .ref (ad (1000 + t))), (1, .ref (ad 2)), (2, .int (nI row)), (4, .int (nI d))] := hl
        refine lv_iinc (k := 5) (v := nI (d + 1)) hx hb dTr_leafOf_73 hl rfl (nI_1 d) (by decide) rfl (fun ls hl => ?_)
        have hl : lv_has ls 6 [(4, .int (nI (d + 1))), (3, .ref (ad (2000 + 32 * t + (dg (tA F 4) (31 * t + k))))), (5, .int (bn (goB (tA F 2 (31 * t + k)) (tA F 7 (31 * t + k)) (tA F 1 (31 * t + k)) (vr c0)))), (0, .ref (ad (1000 + t))), (1, .ref (ad 2)), (2, .int (nI row))] := hl
        refine lv_goto (tgt := 15) hx hb dTr_leafOf_76 rfl ?_
        exact ih15 (d + 1, dg (tA F 4) (31 * t + k)) (show (d + 1) ≤ 4 ∧ (dg (tA F 4) (31 * t + k)) < tM F t ∧ dg (tA F 6) (31 * t + (dg (tA F 4) (31 * t + k))) = (d + 1) ∧ lfw (tA F 0) (tA F 3) (tA F 4) (goF (tA F) vr t) (31 * t) (4 - (d + 1)) (dg (tA F 4) (31 * t + k)) = lfF (tA F) vr t from ⟨by omega, hrm, by rw [← idp]; exact hrd, hnx⟩) (show 4 - (d + 1) < 4 - d from (by omega)) ls (lv_sub hl [3, 4, 5, 1, 0] rfl)
      · have hgf : goF (tA F) vr t k = true := by rw [hgo]; exact Decidable.byContradiction (fun q => h3 (bn_0.mpr (Bool.eq_false_iff.mpr q)))
        have hnx : lfw (tA F 0) (tA F 3) (tA F 4) (goF (tA F) vr t) (31 * t) (4 - (d + 1)) (dg (tA F 3) (31 * t + k)) = lfF (tA F) vr t := by rw [show 4 - (d + 1) = 4 - d - 1 by omega, ← iv2, hgf]; rfl
        refine lv_aload_n hx hb dTr_leafOf_55 rfl (lv_at hl 4 rfl) ?_
        refine va_get (D := D) (ci := 10) (v := .int (tA F 3 (31 * t + k))) (C := R_N) (T := T_N) (N := 9) hx hb hT in_N hown hK (pg_1 (x := 2000 + 32 * t + k) hcd hP (by omega) ((tr5 k ik).1)) 0 rfl rfl 4 (by decide) (hT _ w844) (fun _ h9 => h9) rfl dTr_leafOf_56 ?_
        refine lv_goto (tgt := 66) hx hb dTr_leafOf_59 rfl ?_
        refine lv_topi (fun y9 e9 => ?_)
        cases (show y9 = nI (dg (tA F 3) (31 * t + k)) from e9.trans hll)
        refine ro_r (va_Run.run (va_runV (As := [.int (nI (dg (tA F 3) (31 * t + k)))]) (rest := []) ⟨hx, hb, hml, hown, hT⟩ (k_alGet l D cT (ad (1020 + t)) (ad (1040 + t)) mm md cap lf (dg (tA F 3) (31 * t + k)) (ad (2000 + 32 * t + (dg (tA F 3) (31 * t + k)))) (by omega) ls3 (by omega) (ls5 _ (by omega))) ⟨callB_of 1 hT (tb_gd w401) rfl rfl rfl (hT _ w11) (hT _ w426) hAL_get ⟨Nat.le_of_ble_eq_true rfl, Nat.le_of_ble_eq_true rfl⟩, (hT _ w399), (hT _ w400)⟩ (RO.preV (ci := 12) (q0 := 0) hZ hS ((show va_P D vwCl [(ad (1020 + t), .inr (12, [.ref (ad (1040 + t)), .int (nI mm), .int md])), (ad (1040 + t), .inl (cT 7, cap, .inr (.inr (.inr (.inr lf)))))] _ from (pv_c (pg_1 (x := 1020 + t) hcd hP (by omega) ls1) (pv_c (pg_1 (x := 1040 + t) hcd hP (by omega) ls2) pv_0)))) hK rfl rfl) rfl rfl hl.1 rfl (lv_room (Nat.le_of_ble_eq_true rfl)) dTr_leafOf_66 ⟨Nat.le_of_ble_eq_true rfl, Nat.le_of_ble_eq_true rfl⟩)) ?_
        refine va_castY (C := "ResidualTrees$Node") hx hb hown (hT _ w427) (hZ.1.1 ("ResidualTrees$Node", "ResidualTrees$Node") (List.mem_of_getElem? (i := 3) rfl)) (va_recv (ci := 10) (q0 := 0) hK (pg_1 (x := 2000 + 32 * t + (dg (tA F 3) (31 * t + k))) hcd hP (by omega) ((tr5 (dg (tA F 3) (31 * t + k)) hlm).1)) rfl rfl) dTr_leafOf_69 ?_
        refine lv_astore_n hx hb dTr_leafOf_72 rfl hl (by decide) rfl (fun ls hl => ?_)
        have hl : lv_has ls 6 [(3, .ref (ad (2000 + 32 * t + (dg (tA F 3) (31 * t + k))))), (5, .int (bn (goB (tA F 2 (31 * t + k)) (tA F 7 (31 * t + k)) (tA F 1 (31 * t + k)) (vr c0)))), (0, .ref (ad (1000 + t))), (1, .ref (ad 2)), (2, .int (nI row)), (4, .int (nI d))] := hl
        refine lv_iinc (k := 5) (v := nI (d + 1)) hx hb dTr_leafOf_73 hl rfl (nI_1 d) (by decide) rfl (fun ls hl => ?_)
        have hl : lv_has ls 6 [(4, .int (nI (d + 1))), (3, .ref (ad (2000 + 32 * t + (dg (tA F 3) (31 * t + k))))), (5, .int (bn (goB (tA F 2 (31 * t + k)) (tA F 7 (31 * t + k)) (tA F 1 (31 * t + k)) (vr c0)))), (0, .ref (ad (1000 + t))), (1, .ref (ad 2)), (2, .int (nI row))] := hl
        refine lv_goto (tgt := 15) hx hb dTr_leafOf_76 rfl ?_
        exact ih15 (d + 1, dg (tA F 3) (31 * t + k)) (show (d + 1) ≤ 4 ∧ (dg (tA F 3) (31 * t + k)) < tM F t ∧ dg (tA F 6) (31 * t + (dg (tA F 3) (31 * t + k))) = (d + 1) ∧ lfw (tA F 0) (tA F 3) (tA F 4) (goF (tA F) vr t) (31 * t) (4 - (d + 1)) (dg (tA F 3) (31 * t + k)) = lfF (tA F) vr t from ⟨by omega, hlm, by rw [← idp]; exact hld, hnx⟩) (show 4 - (d + 1) < 4 - d from (by omega)) ls (lv_sub hl [3, 4, 5, 1, 0] rfl)
set_option maxHeartbeats 4000000 in
set_option maxRecDepth 100000 in
theorem k_splitsOf (l : Launch) (D : va_G) (cT : Nat → ClassId) (cds : List Nat) (ad : Nat → Nat) (gg : Nat → Option va_E) (F : TFR) (t : Nat) (v : Int32) (hcd : CD cds) (hTr : TRp cT ad gg F t) (ht16 : t < 16) (hT1 : TOK1 F t) : Met l yTr_splitsOf WTr_splitsOf ({ frames := 3, cells := 0, slots := 0, locals := 64 } : Room) (RO D vwCl [.ref (ad (1000 + t)), .int v] ([] ++ pg cds ad gg) (TY cT)) (QcRead (nI (spl (tA F) t v (tM F t)))) 0 0 (fun _ => False) := by
  refine Met.ofW (cc := cTr_splitsOf) (maxL := 4) (ret := (some .int)) (by decide) rfl ?_
  intro p e s m args below meth c s₁ B hml hv
  obtain ⟨rfl, hZ, hP, hK⟩ := hv
  have hx := B.exec
  have hb := B.bytes
  have hr := B.returns
  have hts := atoms_spec (ws := WTr_splitsOf) B.pre
  have hT : ∀ w ∈ TB, w.before _ s = true := fun w h => hts w (List.mem_cons_of_mem _ h)
  have hown : s.vm.findClass R_Tr = some m.cls := findClass_of_methodNamed B.named
  have hlocks := B.notSynchronized
  have hS : va_S (fun _ => False) s.heap s.heap [] := va_S.rf
  have hl := lv_entry ([.ref (ad (1000 + t)), .int v]) (n := 4) (Nat.le_of_ble_eq_true rfl)
  rw [lg_entry_eq]
  generalize (lg_sl ([.ref (ad (1000 + t)), .int v]) ++ List.replicate (4 - (lg_sl ([.ref (ad (1000 + t)), .int v])).length) Slot.unset).toArray = ls at hl ⊢
  have hl : lv_has ls 4 [(0, .ref (ad (1000 + t))), (1, .int v)] := hl
  obtain ⟨mm, tr1, ⟨cap, md, lf, ls1, ls2, ls3, ls4, ls5⟩, tr3, tr4, tr5⟩ := hTr
  have hsm := hT1.1.2.1
  refine lv_iconst (v := 0) hx hb dTr_splitsOf_0 (by decide) ?_
  refine lv_istore_n hx hb dTr_splitsOf_1 rfl hl (by decide) rfl (fun ls hl => ?_)
  have hl : lv_has ls 4 [(2, .int 0), (0, .ref (ad (1000 + t))), (1, .int v)] := hl
  refine lv_iconst (v := 0) hx hb dTr_splitsOf_2 (by decide) ?_
  refine lv_istore_n hx hb dTr_splitsOf_3 rfl hl (by decide) rfl (fun ls hl => ?_)
  have hl : lv_has ls 4 [(3, .int 0), (2, .int 0), (0, .ref (ad (1000 + t))), (1, .int v)] := hl
  have hl : lv_has ls 4 [(3, .int 0), (2, .int (nI (spl (tA F) t v 0))), (0, .ref (ad (1000 + t))), (1, .int v)] := by
    rw [(show nI (spl (tA F) t v 0) = 0 from rfl)]; exact hl
  have hl : lv_has ls 4 [(3, .int (nI 0)), (2, .int (nI (spl (tA F) t v 0))), (0, .ref (ad (1000 + t))), (1, .int v)] := by
    rw [(show nI 0 = 0 from rfl)]; exact hl
  refine lp_r (α := Nat) (fun a9 => a9 ≤ tM F t) (fun a9 => tM F t - a9) (fun a9 => [(0, .ref (ad (1000 + t))), (1, .int v), (2, .int (nI (spl (tA F) t v a9))), (3, .int (nI a9))]) 4 ?_ 0 (show 0 ≤ tM F t from by omega) (lv_sub hl [2, 3, 1, 0] rfl)
  intro a9 hI4 ih4 ls hl
  obtain ⟨k, rfl⟩ : ∃ q9, q9 = a9 := ⟨_, rfl⟩
  have hI4 : k ≤ tM F t := hI4
  have hl : lv_has ls 4 [(0, .ref (ad (1000 + t))), (1, .int v), (2, .int (nI (spl (tA F) t v k))), (3, .int (nI k))] := hl
  refine lv_iload_n hx hb dTr_splitsOf_4 rfl (lv_at hl 3 rfl) ?_
  refine lv_aload_n hx hb dTr_splitsOf_5 rfl (lv_at hl 0 rfl) ?_
  refine va_get (D := D) (ci := 9) (v := .int (nI (tM F t))) (C := R_Tr) (T := T_Tr) (N := 6) hx hb hT in_Tr hown hK (pg_1 (x := 1000 + t) hcd hP (by omega) tr1) 0 rfl rfl 1 (by decide) (hT _ w731) (fun _ h9 => h9) rfl dTr_splitsOf_6 ?_
  refine lv_icmp_ge (tgt := 39) hx hb dTr_splitsOf_9 rfl (fun h1 => ?_) (fun h1 => ?_)
  · have gh1 : tM F t ≤ k := (nI_leI (a := tM F t) (b := k) (by omega) (by omega)).mp h1
    refine lv_iload_n hx hb dTr_splitsOf_39 rfl (lv_at hl 2 rfl) ?_
    exact W.iret (v := nI (spl (tA F) t v k)) hx hb hr (fun t9 ht9 hW9 => ⟨(by rw [show k = tM F t by omega]), ht9⟩) (fun q h => nomatch h) dTr_splitsOf_40
  · have gh1 : k < tM F t := Nat.not_le.mp (fun q => h1 ((nI_leI (a := tM F t) (b := k) (by omega) (by omega)).mpr q))
    have hkm : k < tM F t := by omega
    refine lv_aload_n hx hb dTr_splitsOf_12 rfl (lv_at hl 0 rfl) ?_
    refine va_get (D := D) (ci := 9) (v := .ref (ad (1020 + t))) (C := R_Tr) (T := T_Tr) (N := 6) hx hb hT in_Tr hown hK (pg_1 (x := 1000 + t) hcd hP (by omega) tr1) 0 rfl rfl 0 (by decide) (hT _ w730) (fun _ h9 => h9) rfl dTr_splitsOf_13 ?_
    refine lv_iload_n hx hb dTr_splitsOf_16 rfl (lv_at hl 3 rfl) ?_
    refine ro_r (va_Run.run (va_runV (As := [.int (nI k)]) (rest := []) ⟨hx, hb, hml, hown, hT⟩ (k_alGet l D cT (ad (1020 + t)) (ad (1040 + t)) mm md cap lf k (ad (2000 + 32 * t + k)) (by omega) ls3 (by omega) (ls5 _ (by omega))) ⟨callB_of 1 hT (tb_gd w401) rfl rfl rfl (hT _ w11) (hT _ w426) hAL_get ⟨Nat.le_of_ble_eq_true rfl, Nat.le_of_ble_eq_true rfl⟩, (hT _ w399), (hT _ w400)⟩ (RO.preV (ci := 12) (q0 := 0) hZ hS ((show va_P D vwCl [(ad (1020 + t), .inr (12, [.ref (ad (1040 + t)), .int (nI mm), .int md])), (ad (1040 + t), .inl (cT 7, cap, .inr (.inr (.inr (.inr lf)))))] _ from (pv_c (pg_1 (x := 1020 + t) hcd hP (by omega) ls1) (pv_c (pg_1 (x := 1040 + t) hcd hP (by omega) ls2) pv_0)))) hK rfl rfl) rfl rfl hl.1 rfl (lv_room (Nat.le_of_ble_eq_true rfl)) dTr_splitsOf_17 ⟨Nat.le_of_ble_eq_true rfl, Nat.le_of_ble_eq_true rfl⟩)) ?_
    refine va_castY (C := "ResidualTrees$Node") hx hb hown (hT _ w427) (hZ.1.1 ("ResidualTrees$Node", "ResidualTrees$Node") (List.mem_of_getElem? (i := 3) rfl)) (va_recv (ci := 10) (q0 := 0) hK (pg_1 (x := 2000 + 32 * t + k) hcd hP (by omega) ((tr5 k hkm).1)) rfl rfl) dTr_splitsOf_20 ?_
    refine va_get (D := D) (ci := 10) (v := .int (tA F 0 (31 * t + k))) (C := R_N) (T := T_N) (N := 9) hx hb hT in_N hown hK (pg_1 (x := 2000 + 32 * t + k) hcd hP (by omega) ((tr5 k hkm).1)) 0 rfl rfl 0 (by decide) (hT _ w831) (fun _ h9 => h9) rfl dTr_splitsOf_23 ?_
    refine lv_iload_n hx hb dTr_splitsOf_26 rfl (lv_at hl 1 rfl) ?_
    refine lv_icmp_ne (tgt := 33) hx hb dTr_splitsOf_27 rfl (fun h2 => ?_) (fun h2 => ?_)
    · refine lv_iinc (k := 3) (v := nI (k + 1)) hx hb dTr_splitsOf_33 hl rfl (nI_1 k) (by decide) rfl (fun ls hl => ?_)
      have hl : lv_has ls 4 [(3, .int (nI (k + 1))), (0, .ref (ad (1000 + t))), (1, .int v), (2, .int (nI (spl (tA F) t v k)))] := hl
      refine lv_goto (tgt := 4) hx hb dTr_splitsOf_36 rfl ?_
      have hl : lv_has ls 4 [(3, .int (nI (k + 1))), (0, .ref (ad (1000 + t))), (1, .int v), (2, .int (nI (spl (tA F) t v (k + 1))))] := by
        rw [(show nI (spl (tA F) t v (k + 1)) = nI (spl (tA F) t v k) from congrArg nI (spl_n h2))]; exact hl
      exact ih4 (k + 1) (show (k + 1) ≤ tM F t from by omega) (show tM F t - (k + 1) < tM F t - k from (by omega)) ls (lv_sub hl [1, 2, 3, 0] rfl)
    · refine lv_iinc (k := 2) (v := nI (spl (tA F) t v (k + 1))) hx hb dTr_splitsOf_30 hl rfl (by rw [spl_y h2]; exact nI_1 _) (by decide) rfl (fun ls hl => ?_)
      have hl : lv_has ls 4 [(2, .int (nI (spl (tA F) t v (k + 1)))), (0, .ref (ad (1000 + t))), (1, .int v), (3, .int (nI k))] := hl
      refine lv_iinc (k := 3) (v := nI (k + 1)) hx hb dTr_splitsOf_33 hl rfl (nI_1 k) (by decide) rfl (fun ls hl => ?_)
      have hl : lv_has ls 4 [(3, .int (nI (k + 1))), (2, .int (nI (spl (tA F) t v (k + 1)))), (0, .ref (ad (1000 + t))), (1, .int v)] := hl
      refine lv_goto (tgt := 4) hx hb dTr_splitsOf_36 rfl ?_
      exact ih4 (k + 1) (show (k + 1) ≤ tM F t from by omega) (show tM F t - (k + 1) < tM F t - k from (by omega)) ls (lv_sub hl [2, 3, 1, 0] rfl)
