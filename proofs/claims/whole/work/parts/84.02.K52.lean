set_option maxHeartbeats 4000000 in
set_option maxRecDepth 100000 in
theorem k_leaveB (l : Launch) (D : va_G) (cT : Nat → ClassId) (cds : List Nat) (ad : Nat → Nat) (gg : Nat → Option va_E) (tc : Int32) (wd9 : Int32) (rw9 : Int32) (xa : Nat) (xw : Nat) (R9 : Nat) (F : TFR) (T : Nat) (t : Nat) (row : Nat) (vr : Nat → Int32) (x0 : Int) (zf : Int) (hcd : CD cds) (hob : gg 0 = some (eOB ad tc)) (htb : gg 1 = some (eTB ad wd9 rw9)) (hTr : TRp cT ad gg F t) (hTOK : TOK F T) (hT16 : T ≤ 16) (htT : t < T) (hCa : CAp cT ad gg) (hCr : COLr cT ad gg row vr) (hrw : row < 49) (hxw : 41 ≤ xa ∧ xa < 1000 ∧ 41 ≤ xw ∧ xw < 1000 ∧ xw ≠ xa ∧ xa ≠ 50 ∧ xa ≠ 51 ∧ xw ≠ 50 ∧ xw ≠ 51) (hR24 : 24 ≤ R9) (hR48 : R9 ≤ 48) (hL : WHO cT ad gg xa xw R9 (xF F vr x0 t)) (hLf : WHO cT ad gg 50 51 24 zf) (hx0 : x0.natAbs ≤ 1000) (sz : Nat) : Met l yR_leaveBehind WR_leaveBehind ({ frames := 4, cells := 0, slots := 0, locals := 89 } : Room) (RW D vwCl [.ref (ad 0), .ref (ad (1000 + t)), .int (nI row), .ref (ad xa)] ([] ++ pg cds ad gg) (TY cT) sz) (va_Qv (fun u9 : (Nat → Option va_E) => (∀ z8, z8 ≠ xa → z8 ≠ xw → z8 ≠ 50 → z8 ≠ 51 → u9 z8 = gg z8) ∧ WHO cT ad u9 xa xw R9 (xF F vr x0 (t + 1)) ∧ ∃ z8, WHO cT ad u9 50 51 24 z8) (BW D vwCl (va_A ([] ++ pg cds ad gg) sz) (fun u9 : (Nat → Option va_E) => ([] ++ pg cds ad u9))) (va_A ([] ++ pg cds ad gg) sz)) 0 0 (va_A ([] ++ pg cds ad gg) sz) := by
  refine Met.ofW (cc := cR_leaveBehind) (maxL := 4) (ret := none) (by decide) rfl ?_
  intro p e s m args below meth c s₁ B hml hv
  obtain ⟨rfl, hsz, hZ, hP, hK, hD0⟩ := hv
  have hx := B.exec
  have hb := B.bytes
  have hr := B.returns
  have hts := atoms_spec (ws := WR_leaveBehind) B.pre
  have hT : ∀ w ∈ TB, w.before _ s = true := fun w h => hts w (List.mem_cons_of_mem _ h)
  have hown : s.vm.findClass R_R = some m.cls := findClass_of_methodNamed B.named
  have hlocks := B.notSynchronized
  subst hsz
  have hD := hD0.self (sz := s.heap.size)
  generalize hAe : va_A ([] ++ pg cds ad gg) s.heap.size = A at hD hZ ⊢
  have hA : ∀ q : Nat, s.heap.size ≤ q → A q := fun q h => by rw [← hAe]; exact Or.inr h
  have hS : va_S A s.heap s.heap [] := va_S.rf
  have hl := lv_entry ([.ref (ad 0), .ref (ad (1000 + t)), .int (nI row), .ref (ad xa)]) (n := 4) (Nat.le_of_ble_eq_true rfl)
  rw [lg_entry_eq]
  generalize (lg_sl ([.ref (ad 0), .ref (ad (1000 + t)), .int (nI row), .ref (ad xa)]) ++ List.replicate (4 - (lg_sl ([.ref (ad 0), .ref (ad (1000 + t)), .int (nI row), .ref (ad xa)])).length) Slot.unset).toArray = ls at hl ⊢
  have hl : lv_has ls 4 [(0, .ref (ad 0)), (1, .ref (ad (1000 + t))), (2, .int (nI row)), (3, .ref (ad xa))] := hl
  obtain ⟨x1, x2, x3, x4, x5, x6, x7, x8, x9c⟩ := hxw
  have hT1 := hTOK.2 t htT
  obtain ⟨hkm, hkl⟩ := lfF_ok hT1 vr
  have hm31 := hT1.1.2.1
  have hTr0 := hTr
  have hxb := xs_b hTOK hT16 htT vr hx0
  have hlb := lv_b hTOK hT16 htT hkm hkl
  have hsl := sca_le hT1
  have hc24 := xbc_2.1
  obtain ⟨mm, tr1, ⟨cap, md, lf, ls1, ls2, ls3, ls4, ls5⟩, tr3, tr4, tr5⟩ := hTr
  obtain ⟨hnd, hns⟩ := tr5 _ hkm
  obtain ⟨wun, wub, wuf, wu1, wu2, wu3⟩ := hL
  obtain ⟨wvn, wvb, wvf, wv1, wv2, wv3⟩ := hLf
  obtain ⟨wkn, wkb, wkf, wk1, wk2, wk3⟩ := hns
  refine lv_aload_n hx hb dR_leaveBehind_0 rfl (lv_at hl 3 rfl) ?_
  refine lv_aload_n hx hb dR_leaveBehind_1 rfl (lv_at hl 1 rfl) ?_
  refine va_get (D := D) (ci := 9) (v := .long (lN (sca F t))) (C := R_Tr) (T := T_Tr) (N := 6) hx hb hT in_Tr hown hK (pg_1 (x := 1000 + t) hcd hP (by omega) tr1) 0 rfl rfl 5 (by decide) (hT _ w740) (fun _ h9 => h9) rfl dR_leaveBehind_2 ?_
  have hB9 : QI gg [(xa, .inr (4, [.ref (ad xw), .int wun, .int wub])), (xw, .inl (cT 0, R9, .inl wuf))] := (qi_c (by omega) wu1 (qi_c (by omega) wu2 qi_0))
  have hN9 := (show NDc [xa, xw] from (nd_c (na_c (by omega) na_0) (nd_c na_0 nd_0)))
  have hP := bo_P (wc := [(xa, .inr (4, [.ref (ad xw), .int wun, .int wub])), (xw, .inl (cT 0, R9, .inl wuf))]) (X := []) hcd hN9 hB9 hP
  have hD := bo_D (wc := [(xa, .inr (4, [.ref (ad xw), .int wun, .int wub])), (xw, .inl (cT 0, R9, .inl wuf))]) (X := []) hcd hN9 hB9 hD
  have hP : va_P D vwCl ([(ad xa, .inr (4, [.ref (ad xw), .int wun, .int wub])), (ad xw, .inl (cT 0, R9, .inl wuf))] ++ pg cds ad (upo gg [xa, xw])) _ := hP
  have hD : va_D A ([(ad xa, .inr (4, [.ref (ad xw), .int wun, .int wub])), (ad xw, .inl (cT 0, R9, .inl wuf))] ++ pg cds ad (upo gg [xa, xw])) := hD
  refine hy_vQ (X := [(ad xa, .inr (4, [.ref (ad xw), .int wun, .int wub])), (ad xw, .inl (cT 0, R9, .inl wuf))]) (pl := pg cds ad (upo gg [xa, xw])) (cx := [(ad xa, .inr (4, [.ref (ad xw), .int wun, .int wub])), (ad xw, .inl (cT 0, R9, .inl wuf))]) (wr := []) hP hD hS hA [0, 1] [] rfl rfl (by decide) (by decide) (va_runV (As := [.long (lN (sca F t))]) (rest := []) ⟨hx, hb, hml, hown, hT⟩ (k_times l D cT (ad xa) (ad xw) R9 wun wub wuf (xF F vr x0 t) (sca F t) hR48 wu3 (by omega) (p24 (by omega) hR24) _) ⟨callB_of 1 hT (tb_gd w420) rfl rfl rfl (hT _ w5) (hT _ w417) hW_times ⟨Nat.le_of_ble_eq_true rfl, Nat.le_of_ble_eq_true rfl⟩, (hT _ w418), (hT _ w419)⟩ (RW.preV (ci := 4) (q0 := 0) hZ hS (hy_free (cx := [(ad xa, .inr (4, [.ref (ad xw), .int wun, .int wub])), (ad xw, .inl (cT 0, R9, .inl wuf))]) hD hS hA [0, 1] rfl) (hP.sub (ws' := [(ad xa, .inr (4, [.ref (ad xw), .int wun, .int wub])), (ad xw, .inl (cT 0, R9, .inl wuf))]) [0, 1] rfl) hK (hD.sub (ws' := [(ad xa, .inr (4, [.ref (ad xw), .int wun, .int wub])), (ad xw, .inl (cT 0, R9, .inl wuf))]) [0, 1] (by decide) rfl) rfl rfl) rfl rfl hl.1 rfl (lv_room (Nat.le_of_ble_eq_true rfl)) dR_leaveBehind_5 ⟨Nat.le_of_ble_eq_true rfl, Nat.le_of_ble_eq_true rfl⟩) (fun u9 H locs hpu1 hP hD hS => ?_)
  obtain ⟨n1u1, f1u1⟩ := u9
  have hpu1 : WN R9 n1u1 wub f1u1 ((xF F vr x0 t) * (sca F t)) := hpu1
  have hP : va_P D vwCl ([(ad xa, .inr (4, [.ref (ad xw), .int n1u1, .int wub])), (ad xw, .inl (cT 0, R9, .inl f1u1))] ++ pg cds ad (upo gg [xa, xw])) _ := hP
  have hD : va_D A ([(ad xa, .inr (4, [.ref (ad xw), .int n1u1, .int wub])), (ad xw, .inl (cT 0, R9, .inl f1u1))] ++ pg cds ad (upo gg [xa, xw])) := hD
  have a1 := hpu1
  have hN9 := (show NDc [xa, xw] from (nd_c (na_c (by omega) na_0) (nd_c na_0 nd_0)))
  have hP := gb_P (w9 := [(xa, .inr (4, [.ref (ad xw), .int n1u1, .int wub])), (xw, .inl (cT 0, R9, .inl f1u1))]) (X := []) (g := gg) hcd hN9 (show QB [(xa, .inr (4, [.ref (ad xw), .int n1u1, .int wub])), (xw, .inl (cT 0, R9, .inl f1u1))] from (qb_c (by omega) (qb_c (by omega) qb_0))) (hP.part (cx := [(ad xa, .inr (4, [.ref (ad xw), .int n1u1, .int wub])), (ad xw, .inl (cT 0, R9, .inl f1u1))]) [0, 1] rfl)
  have hD := gb_D (w9 := [(xa, .inr (4, [.ref (ad xw), .int n1u1, .int wub])), (xw, .inl (cT 0, R9, .inl f1u1))]) (X := []) (g := gg) hcd hN9 (show QB [(xa, .inr (4, [.ref (ad xw), .int n1u1, .int wub])), (xw, .inl (cT 0, R9, .inl f1u1))] from (qb_c (by omega) (qb_c (by omega) qb_0))) (hD.part (cx := [(ad xa, .inr (4, [.ref (ad xw), .int n1u1, .int wub])), (ad xw, .inl (cT 0, R9, .inl f1u1))]) [0, 1] (by decide) rfl)
  obtain ⟨g1, hg1⟩ : ∃ q9, q9 = ups gg [(xa, .inr (4, [.ref (ad xw), .int n1u1, .int wub])), (xw, .inl (cT 0, R9, .inl f1u1))] := ⟨_, rfl⟩
  rw [← hg1] at hP hD
  have hP : va_P D vwCl ([] ++ pg cds ad g1) _ := hP
  have hD : va_D A ([] ++ pg cds ad g1) := hD
  have fg1 : ∀ z8, z8 ≠ xa → z8 ≠ xw → g1 z8 = gg z8 := fun z8 z1 z2 => by rw [hg1]; exact ups_k (kp_n z1 (kp_n z2 kp_0))
  have g1_0 : g1 xa = some (.inr (4, [.ref (ad xw), .int n1u1, .int wub])) := by rw [hg1]; exact ups_1
  have g1_1 : g1 xw = some (.inl (cT 0, R9, .inl f1u1)) := by rw [hg1]; exact ups_2 (by omega)
  refine lv_aload_n hx hb dR_leaveBehind_8 rfl (lv_at hl 1 rfl) ?_
  refine lv_aload_n hx hb dR_leaveBehind_9 rfl (lv_at hl 0 rfl) ?_
  refine va_get (D := D) (ci := 0) (v := .ref (ad 50)) (C := R_R) (T := T_R) (N := 13) hx hb hT in_R hown hK (pg_1 (x := 0) hcd hP (by decide) ((fg1 _ (by omega) (by omega)).trans hob)) 0 rfl rfl 8 (by decide) (hT _ w332) (fun _ h9 => h9) rfl dR_leaveBehind_10 ?_
  refine lv_aload_n hx hb dR_leaveBehind_13 rfl (lv_at hl 1 rfl) ?_
  refine lv_aload_n hx hb dR_leaveBehind_14 rfl (lv_at hl 0 rfl) ?_
  refine va_get (D := D) (ci := 0) (v := .ref (ad 1)) (C := R_R) (T := T_R) (N := 13) hx hb hT in_R hown hK (pg_1 (x := 0) hcd hP (by decide) ((fg1 _ (by omega) (by omega)).trans hob)) 0 rfl rfl 0 (by decide) (hT _ w324) (fun _ h9 => h9) rfl dR_leaveBehind_15 ?_
  refine va_get (D := D) (ci := 2) (v := .ref (ad 2)) (C := R_T) (T := T_T) (N := 4) hx hb hT in_T hown hK (pg_1 (x := 1) hcd hP (by decide) ((fg1 _ (by omega) (by omega)).trans htb)) 0 rfl rfl 0 (by decide) (hT _ w74) (fun _ h9 => h9) rfl dR_leaveBehind_18 ?_
  refine lv_iload_n hx hb dR_leaveBehind_21 rfl (lv_at hl 2 rfl) ?_
  refine ro_r (va_Run.run (va_runV (As := [.ref (ad 2), .int (nI row)]) (rest := [.ref (ad 50), .ref (ad (1000 + t))]) ⟨hx, hb, hml, hown, hT⟩ (k_leafOf l D cT cds ad g1 F t row vr hcd (hTr0.cg (by omega) (fun z hz => fg1 z (by omega) (by omega))) (by omega) hT1 hTOK.1 (hCa.cg (fg1 _ (by omega) (by omega))) (hCr.cg (fun z hz1 hz2 => fg1 z (by omega) (by omega))) hrw) ⟨callB_of 2 hT (tb_gd w425) rfl rfl rfl (hT _ w24) (hT _ w422) hTr_leafOf ⟨Nat.le_of_ble_eq_true rfl, Nat.le_of_ble_eq_true rfl⟩, (hT _ w423), (hT _ w424)⟩ (RO.preW (ci := 9) (q0 := 0) hZ hS ((show va_P D vwCl ([] ++ pg cds ad g1) _ from (pv_p hP))) hK (pg_1 (x := 1000 + t) hcd hP (by omega) ((fg1 _ (by omega) (by omega)).trans tr1)) rfl rfl) rfl rfl hl.1 rfl (lv_room (Nat.le_of_ble_eq_true rfl)) dR_leaveBehind_22 ⟨Nat.le_of_ble_eq_true rfl, Nat.le_of_ble_eq_true rfl⟩)) ?_
  have hB9 : QI g1 [(1000 + t, .inr (9, [.ref (ad (1020 + t)), .int (nI (tM F t)), .int (nI (tW F t)), .int (nI (tU F t)), .int (nI (tL F t)), .long (lN (sca F t))])), (50, .inr (4, [.ref (ad 51), .int wvn, .int wvb])), (51, .inl (cT 0, 24, .inl wvf)), (2000 + 32 * t + (lfF (tA F) vr t), .inr (10, [.int (tA F 0 (31 * t + (lfF (tA F) vr t))), .int (tA F 1 (31 * t + (lfF (tA F) vr t))), .int (tA F 7 (31 * t + (lfF (tA F) vr t))), .int (tA F 2 (31 * t + (lfF (tA F) vr t))), .int (tA F 3 (31 * t + (lfF (tA F) vr t))), .int (tA F 4 (31 * t + (lfF (tA F) vr t))), .int (tA F 5 (31 * t + (lfF (tA F) vr t))), .int (tA F 6 (31 * t + (lfF (tA F) vr t))), .ref (ad (3000 + 32 * t + (lfF (tA F) vr t)))])), (3000 + 32 * t + (lfF (tA F) vr t), .inr (4, [.ref (ad (4000 + 32 * t + (lfF (tA F) vr t))), .int wkn, .int wkb])), (4000 + 32 * t + (lfF (tA F) vr t), .inl (cT 0, 24, .inl wkf))] := (qi_c (by omega) ((fg1 _ (by omega) (by omega)).trans tr1) (qi_c (by decide) ((fg1 _ (by omega) (by omega)).trans wv1) (qi_c (by decide) ((fg1 _ (by omega) (by omega)).trans wv2) (qi_c (by omega) ((fg1 _ (by omega) (by omega)).trans hnd) (qi_c (by omega) ((fg1 _ (by omega) (by omega)).trans wk1) (qi_c (by omega) ((fg1 _ (by omega) (by omega)).trans wk2) qi_0))))))
  have hN9 := (show NDc [1000 + t, 50, 51, 2000 + 32 * t + (lfF (tA F) vr t), 3000 + 32 * t + (lfF (tA F) vr t), 4000 + 32 * t + (lfF (tA F) vr t)] from (nd_c (na_c (by omega) (na_c (by omega) (na_c (by omega) (na_c (by omega) (na_c (by omega) na_0))))) (nd_c (na_c (by decide) (na_c (by omega) (na_c (by omega) (na_c (by omega) na_0)))) (nd_c (na_c (by omega) (na_c (by omega) (na_c (by omega) na_0))) (nd_c (na_c (by omega) (na_c (by omega) na_0)) (nd_c (na_c (by omega) na_0) (nd_c na_0 nd_0)))))))
  have hP := bo_P (wc := [(1000 + t, .inr (9, [.ref (ad (1020 + t)), .int (nI (tM F t)), .int (nI (tW F t)), .int (nI (tU F t)), .int (nI (tL F t)), .long (lN (sca F t))])), (50, .inr (4, [.ref (ad 51), .int wvn, .int wvb])), (51, .inl (cT 0, 24, .inl wvf)), (2000 + 32 * t + (lfF (tA F) vr t), .inr (10, [.int (tA F 0 (31 * t + (lfF (tA F) vr t))), .int (tA F 1 (31 * t + (lfF (tA F) vr t))), .int (tA F 7 (31 * t + (lfF (tA F) vr t))), .int (tA F 2 (31 * t + (lfF (tA F) vr t))), .int (tA F 3 (31 * t + (lfF (tA F) vr t))), .int (tA F 4 (31 * t + (lfF (tA F) vr t))), .int (tA F 5 (31 * t + (lfF (tA F) vr t))), .int (tA F 6 (31 * t + (lfF (tA F) vr t))), .ref (ad (3000 + 32 * t + (lfF (tA F) vr t)))])), (3000 + 32 * t + (lfF (tA F) vr t), .inr (4, [.ref (ad (4000 + 32 * t + (lfF (tA F) vr t))), .int wkn, .int wkb])), (4000 + 32 * t + (lfF (tA F) vr t), .inl (cT 0, 24, .inl wkf))]) (X := []) hcd hN9 hB9 hP
  have hD := bo_D (wc := [(1000 + t, .inr (9, [.ref (ad (1020 + t)), .int (nI (tM F t)), .int (nI (tW F t)), .int (nI (tU F t)), .int (nI (tL F t)), .long (lN (sca F t))])), (50, .inr (4, [.ref (ad 51), .int wvn, .int wvb])), (51, .inl (cT 0, 24, .inl wvf)), (2000 + 32 * t + (lfF (tA F) vr t), .inr (10, [.int (tA F 0 (31 * t + (lfF (tA F) vr t))), .int (tA F 1 (31 * t + (lfF (tA F) vr t))), .int (tA F 7 (31 * t + (lfF (tA F) vr t))), .int (tA F 2 (31 * t + (lfF (tA F) vr t))), .int (tA F 3 (31 * t + (lfF (tA F) vr t))), .int (tA F 4 (31 * t + (lfF (tA F) vr t))), .int (tA F 5 (31 * t + (lfF (tA F) vr t))), .int (tA F 6 (31 * t + (lfF (tA F) vr t))), .ref (ad (3000 + 32 * t + (lfF (tA F) vr t)))])), (3000 + 32 * t + (lfF (tA F) vr t), .inr (4, [.ref (ad (4000 + 32 * t + (lfF (tA F) vr t))), .int wkn, .int wkb])), (4000 + 32 * t + (lfF (tA F) vr t), .inl (cT 0, 24, .inl wkf))]) (X := []) hcd hN9 hB9 hD
  have hP : va_P D vwCl ([(ad (1000 + t), .inr (9, [.ref (ad (1020 + t)), .int (nI (tM F t)), .int (nI (tW F t)), .int (nI (tU F t)), .int (nI (tL F t)), .long (lN (sca F t))])), (ad 50, .inr (4, [.ref (ad 51), .int wvn, .int wvb])), (ad 51, .inl (cT 0, 24, .inl wvf)), (ad (2000 + 32 * t + (lfF (tA F) vr t)), .inr (10, [.int (tA F 0 (31 * t + (lfF (tA F) vr t))), .int (tA F 1 (31 * t + (lfF (tA F) vr t))), .int (tA F 7 (31 * t + (lfF (tA F) vr t))), .int (tA F 2 (31 * t + (lfF (tA F) vr t))), .int (tA F 3 (31 * t + (lfF (tA F) vr t))), .int (tA F 4 (31 * t + (lfF (tA F) vr t))), .int (tA F 5 (31 * t + (lfF (tA F) vr t))), .int (tA F 6 (31 * t + (lfF (tA F) vr t))), .ref (ad (3000 + 32 * t + (lfF (tA F) vr t)))])), (ad (3000 + 32 * t + (lfF (tA F) vr t)), .inr (4, [.ref (ad (4000 + 32 * t + (lfF (tA F) vr t))), .int wkn, .int wkb])), (ad (4000 + 32 * t + (lfF (tA F) vr t)), .inl (cT 0, 24, .inl wkf))] ++ pg cds ad (upo g1 [1000 + t, 50, 51, 2000 + 32 * t + (lfF (tA F) vr t), 3000 + 32 * t + (lfF (tA F) vr t), 4000 + 32 * t + (lfF (tA F) vr t)])) _ := hP
  have hD : va_D A ([(ad (1000 + t), .inr (9, [.ref (ad (1020 + t)), .int (nI (tM F t)), .int (nI (tW F t)), .int (nI (tU F t)), .int (nI (tL F t)), .long (lN (sca F t))])), (ad 50, .inr (4, [.ref (ad 51), .int wvn, .int wvb])), (ad 51, .inl (cT 0, 24, .inl wvf)), (ad (2000 + 32 * t + (lfF (tA F) vr t)), .inr (10, [.int (tA F 0 (31 * t + (lfF (tA F) vr t))), .int (tA F 1 (31 * t + (lfF (tA F) vr t))), .int (tA F 7 (31 * t + (lfF (tA F) vr t))), .int (tA F 2 (31 * t + (lfF (tA F) vr t))), .int (tA F 3 (31 * t + (lfF (tA F) vr t))), .int (tA F 4 (31 * t + (lfF (tA F) vr t))), .int (tA F 5 (31 * t + (lfF (tA F) vr t))), .int (tA F 6 (31 * t + (lfF (tA F) vr t))), .ref (ad (3000 + 32 * t + (lfF (tA F) vr t)))])), (ad (3000 + 32 * t + (lfF (tA F) vr t)), .inr (4, [.ref (ad (4000 + 32 * t + (lfF (tA F) vr t))), .int wkn, .int wkb])), (ad (4000 + 32 * t + (lfF (tA F) vr t)), .inl (cT 0, 24, .inl wkf))] ++ pg cds ad (upo g1 [1000 + t, 50, 51, 2000 + 32 * t + (lfF (tA F) vr t), 3000 + 32 * t + (lfF (tA F) vr t), 4000 + 32 * t + (lfF (tA F) vr t)])) := hD
  refine hy_vQ (X := [(ad (1000 + t), .inr (9, [.ref (ad (1020 + t)), .int (nI (tM F t)), .int (nI (tW F t)), .int (nI (tU F t)), .int (nI (tL F t)), .long (lN (sca F t))])), (ad 50, .inr (4, [.ref (ad 51), .int wvn, .int wvb])), (ad 51, .inl (cT 0, 24, .inl wvf)), (ad (2000 + 32 * t + (lfF (tA F) vr t)), .inr (10, [.int (tA F 0 (31 * t + (lfF (tA F) vr t))), .int (tA F 1 (31 * t + (lfF (tA F) vr t))), .int (tA F 7 (31 * t + (lfF (tA F) vr t))), .int (tA F 2 (31 * t + (lfF (tA F) vr t))), .int (tA F 3 (31 * t + (lfF (tA F) vr t))), .int (tA F 4 (31 * t + (lfF (tA F) vr t))), .int (tA F 5 (31 * t + (lfF (tA F) vr t))), .int (tA F 6 (31 * t + (lfF (tA F) vr t))), .ref (ad (3000 + 32 * t + (lfF (tA F) vr t)))])), (ad (3000 + 32 * t + (lfF (tA F) vr t)), .inr (4, [.ref (ad (4000 + 32 * t + (lfF (tA F) vr t))), .int wkn, .int wkb])), (ad (4000 + 32 * t + (lfF (tA F) vr t)), .inl (cT 0, 24, .inl wkf))]) (pl := pg cds ad (upo g1 [1000 + t, 50, 51, 2000 + 32 * t + (lfF (tA F) vr t), 3000 + 32 * t + (lfF (tA F) vr t), 4000 + 32 * t + (lfF (tA F) vr t)])) (cx := [(ad (1000 + t), .inr (9, [.ref (ad (1020 + t)), .int (nI (tM F t)), .int (nI (tW F t)), .int (nI (tU F t)), .int (nI (tL F t)), .long (lN (sca F t))])), (ad 50, .inr (4, [.ref (ad 51), .int wvn, .int wvb])), (ad 51, .inl (cT 0, 24, .inl wvf)), (ad (2000 + 32 * t + (lfF (tA F) vr t)), .inr (10, [.int (tA F 0 (31 * t + (lfF (tA F) vr t))), .int (tA F 1 (31 * t + (lfF (tA F) vr t))), .int (tA F 7 (31 * t + (lfF (tA F) vr t))), .int (tA F 2 (31 * t + (lfF (tA F) vr t))), .int (tA F 3 (31 * t + (lfF (tA F) vr t))), .int (tA F 4 (31 * t + (lfF (tA F) vr t))), .int (tA F 5 (31 * t + (lfF (tA F) vr t))), .int (tA F 6 (31 * t + (lfF (tA F) vr t))), .ref (ad (3000 + 32 * t + (lfF (tA F) vr t)))])), (ad (3000 + 32 * t + (lfF (tA F) vr t)), .inr (4, [.ref (ad (4000 + 32 * t + (lfF (tA F) vr t))), .int wkn, .int wkb])), (ad (4000 + 32 * t + (lfF (tA F) vr t)), .inl (cT 0, 24, .inl wkf))]) (wr := []) hP hD hS hA [0, 1, 2, 3, 4, 5] [] rfl rfl (by decide) (by decide) (va_runV (As := [.ref (ad 50), .ref (ad (2000 + 32 * t + (lfF (tA F) vr t)))]) (rest := []) ⟨hx, hb, hml, hown, hT⟩ (k_setVal l D cT (ad (1000 + t)) (ad (1020 + t)) (nI (tM F t)) (tW F t) (tU F t) (tL F t) (sca F t) (ad 50) (ad 51) wvn wvb wvf (ad (2000 + 32 * t + (lfF (tA F) vr t))) (tA F 0 (31 * t + (lfF (tA F) vr t))) (tA F 1 (31 * t + (lfF (tA F) vr t))) (tA F 7 (31 * t + (lfF (tA F) vr t))) (tA F 2 (31 * t + (lfF (tA F) vr t))) (tA F 3 (31 * t + (lfF (tA F) vr t))) (tA F 4 (31 * t + (lfF (tA F) vr t))) (tA F 5 (31 * t + (lfF (tA F) vr t))) (tA F 6 (31 * t + (lfF (tA F) vr t))) (ad (3000 + 32 * t + (lfF (tA F) vr t))) (ad (4000 + 32 * t + (lfF (tA F) vr t))) wkn wkb wkf (nR F t (lfF (tA F) vr t)) (tS F t (lfF (tA F) vr t)) (lvf F t (lfF (tA F) vr t)) (by have := hT1.2.1; omega) (by have := hT1.2.1; omega) (by have := hT1.2.1; omega) hT1.2.2.1 ((hT1.2.2.2.2 _ hkm).1.1) ((hT1.2.2.2.2 _ hkm).2.1) hsl wk3 (lvf_v hkm hkl) (fit_v hTOK hT16 htT hkm) _) ⟨callB_of 2 hT (tb_gd w439) rfl rfl rfl (hT _ w24) (hT _ w436) hTr_setToValue ⟨Nat.le_of_ble_eq_true rfl, Nat.le_of_ble_eq_true rfl⟩, (hT _ w437), (hT _ w438)⟩ (RW.preV (ci := 9) (q0 := 0) hZ hS (hy_free (cx := [(ad (1000 + t), .inr (9, [.ref (ad (1020 + t)), .int (nI (tM F t)), .int (nI (tW F t)), .int (nI (tU F t)), .int (nI (tL F t)), .long (lN (sca F t))])), (ad 50, .inr (4, [.ref (ad 51), .int wvn, .int wvb])), (ad 51, .inl (cT 0, 24, .inl wvf)), (ad (2000 + 32 * t + (lfF (tA F) vr t)), .inr (10, [.int (tA F 0 (31 * t + (lfF (tA F) vr t))), .int (tA F 1 (31 * t + (lfF (tA F) vr t))), .int (tA F 7 (31 * t + (lfF (tA F) vr t))), .int (tA F 2 (31 * t + (lfF (tA F) vr t))), .int (tA F 3 (31 * t + (lfF (tA F) vr t))), .int (tA F 4 (31 * t + (lfF (tA F) vr t))), .int (tA F 5 (31 * t + (lfF (tA F) vr t))), .int (tA F 6 (31 * t + (lfF (tA F) vr t))), .ref (ad (3000 + 32 * t + (lfF (tA F) vr t)))])), (ad (3000 + 32 * t + (lfF (tA F) vr t)), .inr (4, [.ref (ad (4000 + 32 * t + (lfF (tA F) vr t))), .int wkn, .int wkb])), (ad (4000 + 32 * t + (lfF (tA F) vr t)), .inl (cT 0, 24, .inl wkf))]) hD hS hA [0, 1, 2, 3, 4, 5] rfl) (hP.sub (ws' := [(ad (1000 + t), .inr (9, [.ref (ad (1020 + t)), .int (nI (tM F t)), .int (nI (tW F t)), .int (nI (tU F t)), .int (nI (tL F t)), .long (lN (sca F t))])), (ad 50, .inr (4, [.ref (ad 51), .int wvn, .int wvb])), (ad 51, .inl (cT 0, 24, .inl wvf)), (ad (2000 + 32 * t + (lfF (tA F) vr t)), .inr (10, [.int (tA F 0 (31 * t + (lfF (tA F) vr t))), .int (tA F 1 (31 * t + (lfF (tA F) vr t))), .int (tA F 7 (31 * t + (lfF (tA F) vr t))), .int (tA F 2 (31 * t + (lfF (tA F) vr t))), .int (tA F 3 (31 * t + (lfF (tA F) vr t))), .int (tA F 4 (31 * t + (lfF (tA F) vr t))), .int (tA F 5 (31 * t + (lfF (tA F) vr t))), .int (tA F 6 (31 * t + (lfF (tA F) vr t))), .ref (ad (3000 + 32 * t + (lfF (tA F) vr t)))])), (ad (3000 + 32 * t + (lfF (tA F) vr t)), .inr (4, [.ref (ad (4000 + 32 * t + (lfF (tA F) vr t))), .int wkn, .int wkb])), (ad (4000 + 32 * t + (lfF (tA F) vr t)), .inl (cT 0, 24, .inl wkf))]) [0, 1, 2, 3, 4, 5] rfl) hK (hD.sub (ws' := [(ad (1000 + t), .inr (9, [.ref (ad (1020 + t)), .int (nI (tM F t)), .int (nI (tW F t)), .int (nI (tU F t)), .int (nI (tL F t)), .long (lN (sca F t))])), (ad 50, .inr (4, [.ref (ad 51), .int wvn, .int wvb])), (ad 51, .inl (cT 0, 24, .inl wvf)), (ad (2000 + 32 * t + (lfF (tA F) vr t)), .inr (10, [.int (tA F 0 (31 * t + (lfF (tA F) vr t))), .int (tA F 1 (31 * t + (lfF (tA F) vr t))), .int (tA F 7 (31 * t + (lfF (tA F) vr t))), .int (tA F 2 (31 * t + (lfF (tA F) vr t))), .int (tA F 3 (31 * t + (lfF (tA F) vr t))), .int (tA F 4 (31 * t + (lfF (tA F) vr t))), .int (tA F 5 (31 * t + (lfF (tA F) vr t))), .int (tA F 6 (31 * t + (lfF (tA F) vr t))), .ref (ad (3000 + 32 * t + (lfF (tA F) vr t)))])), (ad (3000 + 32 * t + (lfF (tA F) vr t)), .inr (4, [.ref (ad (4000 + 32 * t + (lfF (tA F) vr t))), .int wkn, .int wkb])), (ad (4000 + 32 * t + (lfF (tA F) vr t)), .inl (cT 0, 24, .inl wkf))]) [0, 1, 2, 3, 4, 5] (by decide) rfl) rfl rfl) rfl rfl hl.1 rfl (lv_room (Nat.le_of_ble_eq_true rfl)) dR_leaveBehind_25 ⟨Nat.le_of_ble_eq_true rfl, Nat.le_of_ble_eq_true rfl⟩) (fun u9 H locs hpu2 hP hD hS => ?_)
  obtain ⟨vln7u2, vlb7u2, vlf7u2⟩ := u9
  have hpu2 : WN 24 vln7u2 vlb7u2 vlf7u2 ((lvf F t (lfF (tA F) vr t))) := hpu2
  have hP : va_P D vwCl ([(ad (1000 + t), .inr (9, [.ref (ad (1020 + t)), .int (nI (tM F t)), .int (nI (tW F t)), .int (nI (tU F t)), .int (nI (tL F t)), .long (lN (sca F t))])), (ad 50, .inr (4, [.ref (ad 51), .int vln7u2, .int vlb7u2])), (ad 51, .inl (cT 0, 24, .inl vlf7u2)), (ad (2000 + 32 * t + (lfF (tA F) vr t)), .inr (10, [.int (tA F 0 (31 * t + (lfF (tA F) vr t))), .int (tA F 1 (31 * t + (lfF (tA F) vr t))), .int (tA F 7 (31 * t + (lfF (tA F) vr t))), .int (tA F 2 (31 * t + (lfF (tA F) vr t))), .int (tA F 3 (31 * t + (lfF (tA F) vr t))), .int (tA F 4 (31 * t + (lfF (tA F) vr t))), .int (tA F 5 (31 * t + (lfF (tA F) vr t))), .int (tA F 6 (31 * t + (lfF (tA F) vr t))), .ref (ad (3000 + 32 * t + (lfF (tA F) vr t)))])), (ad (3000 + 32 * t + (lfF (tA F) vr t)), .inr (4, [.ref (ad (4000 + 32 * t + (lfF (tA F) vr t))), .int wkn, .int wkb])), (ad (4000 + 32 * t + (lfF (tA F) vr t)), .inl (cT 0, 24, .inl wkf))] ++ pg cds ad (upo g1 [1000 + t, 50, 51, 2000 + 32 * t + (lfF (tA F) vr t), 3000 + 32 * t + (lfF (tA F) vr t), 4000 + 32 * t + (lfF (tA F) vr t)])) _ := hP
  have hD : va_D A ([(ad (1000 + t), .inr (9, [.ref (ad (1020 + t)), .int (nI (tM F t)), .int (nI (tW F t)), .int (nI (tU F t)), .int (nI (tL F t)), .long (lN (sca F t))])), (ad 50, .inr (4, [.ref (ad 51), .int vln7u2, .int vlb7u2])), (ad 51, .inl (cT 0, 24, .inl vlf7u2)), (ad (2000 + 32 * t + (lfF (tA F) vr t)), .inr (10, [.int (tA F 0 (31 * t + (lfF (tA F) vr t))), .int (tA F 1 (31 * t + (lfF (tA F) vr t))), .int (tA F 7 (31 * t + (lfF (tA F) vr t))), .int (tA F 2 (31 * t + (lfF (tA F) vr t))), .int (tA F 3 (31 * t + (lfF (tA F) vr t))), .int (tA F 4 (31 * t + (lfF (tA F) vr t))), .int (tA F 5 (31 * t + (lfF (tA F) vr t))), .int (tA F 6 (31 * t + (lfF (tA F) vr t))), .ref (ad (3000 + 32 * t + (lfF (tA F) vr t)))])), (ad (3000 + 32 * t + (lfF (tA F) vr t)), .inr (4, [.ref (ad (4000 + 32 * t + (lfF (tA F) vr t))), .int wkn, .int wkb])), (ad (4000 + 32 * t + (lfF (tA F) vr t)), .inl (cT 0, 24, .inl wkf))] ++ pg cds ad (upo g1 [1000 + t, 50, 51, 2000 + 32 * t + (lfF (tA F) vr t), 3000 + 32 * t + (lfF (tA F) vr t), 4000 + 32 * t + (lfF (tA F) vr t)])) := hD
  have a2 := hpu2
  have hN9 := (show NDc [1000 + t, 50, 51, 2000 + 32 * t + (lfF (tA F) vr t), 3000 + 32 * t + (lfF (tA F) vr t), 4000 + 32 * t + (lfF (tA F) vr t)] from (nd_c (na_c (by omega) (na_c (by omega) (na_c (by omega) (na_c (by omega) (na_c (by omega) na_0))))) (nd_c (na_c (by decide) (na_c (by omega) (na_c (by omega) (na_c (by omega) na_0)))) (nd_c (na_c (by omega) (na_c (by omega) (na_c (by omega) na_0))) (nd_c (na_c (by omega) (na_c (by omega) na_0)) (nd_c (na_c (by omega) na_0) (nd_c na_0 nd_0)))))))
  have hP := gb_P (w9 := [(1000 + t, .inr (9, [.ref (ad (1020 + t)), .int (nI (tM F t)), .int (nI (tW F t)), .int (nI (tU F t)), .int (nI (tL F t)), .long (lN (sca F t))])), (50, .inr (4, [.ref (ad 51), .int vln7u2, .int vlb7u2])), (51, .inl (cT 0, 24, .inl vlf7u2)), (2000 + 32 * t + (lfF (tA F) vr t), .inr (10, [.int (tA F 0 (31 * t + (lfF (tA F) vr t))), .int (tA F 1 (31 * t + (lfF (tA F) vr t))), .int (tA F 7 (31 * t + (lfF (tA F) vr t))), .int (tA F 2 (31 * t + (lfF (tA F) vr t))), .int (tA F 3 (31 * t + (lfF (tA F) vr t))), .int (tA F 4 (31 * t + (lfF (tA F) vr t))), .int (tA F 5 (31 * t + (lfF (tA F) vr t))), .int (tA F 6 (31 * t + (lfF (tA F) vr t))), .ref (ad (3000 + 32 * t + (lfF (tA F) vr t)))])), (3000 + 32 * t + (lfF (tA F) vr t), .inr (4, [.ref (ad (4000 + 32 * t + (lfF (tA F) vr t))), .int wkn, .int wkb])), (4000 + 32 * t + (lfF (tA F) vr t), .inl (cT 0, 24, .inl wkf))]) (X := []) (g := g1) hcd hN9 (show QB [(1000 + t, .inr (9, [.ref (ad (1020 + t)), .int (nI (tM F t)), .int (nI (tW F t)), .int (nI (tU F t)), .int (nI (tL F t)), .long (lN (sca F t))])), (50, .inr (4, [.ref (ad 51), .int vln7u2, .int vlb7u2])), (51, .inl (cT 0, 24, .inl vlf7u2)), (2000 + 32 * t + (lfF (tA F) vr t), .inr (10, [.int (tA F 0 (31 * t + (lfF (tA F) vr t))), .int (tA F 1 (31 * t + (lfF (tA F) vr t))), .int (tA F 7 (31 * t + (lfF (tA F) vr t))), .int (tA F 2 (31 * t + (lfF (tA F) vr t))), .int (tA F 3 (31 * t + (lfF (tA F) vr t))), .int (tA F 4 (31 * t + (lfF (tA F) vr t))), .int (tA F 5 (31 * t + (lfF (tA F) vr t))), .int (tA F 6 (31 * t + (lfF (tA F) vr t))), .ref (ad (3000 + 32 * t + (lfF (tA F) vr t)))])), (3000 + 32 * t + (lfF (tA F) vr t), .inr (4, [.ref (ad (4000 + 32 * t + (lfF (tA F) vr t))), .int wkn, .int wkb])), (4000 + 32 * t + (lfF (tA F) vr t), .inl (cT 0, 24, .inl wkf))] from (qb_c (by omega) (qb_c (by decide) (qb_c (by decide) (qb_c (by omega) (qb_c (by omega) (qb_c (by omega) qb_0))))))) (hP.part (cx := [(ad (1000 + t), .inr (9, [.ref (ad (1020 + t)), .int (nI (tM F t)), .int (nI (tW F t)), .int (nI (tU F t)), .int (nI (tL F t)), .long (lN (sca F t))])), (ad 50, .inr (4, [.ref (ad 51), .int vln7u2, .int vlb7u2])), (ad 51, .inl (cT 0, 24, .inl vlf7u2)), (ad (2000 + 32 * t + (lfF (tA F) vr t)), .inr (10, [.int (tA F 0 (31 * t + (lfF (tA F) vr t))), .int (tA F 1 (31 * t + (lfF (tA F) vr t))), .int (tA F 7 (31 * t + (lfF (tA F) vr t))), .int (tA F 2 (31 * t + (lfF (tA F) vr t))), .int (tA F 3 (31 * t + (lfF (tA F) vr t))), .int (tA F 4 (31 * t + (lfF (tA F) vr t))), .int (tA F 5 (31 * t + (lfF (tA F) vr t))), .int (tA F 6 (31 * t + (lfF (tA F) vr t))), .ref (ad (3000 + 32 * t + (lfF (tA F) vr t)))])), (ad (3000 + 32 * t + (lfF (tA F) vr t)), .inr (4, [.ref (ad (4000 + 32 * t + (lfF (tA F) vr t))), .int wkn, .int wkb])), (ad (4000 + 32 * t + (lfF (tA F) vr t)), .inl (cT 0, 24, .inl wkf))]) [0, 1, 2, 3, 4, 5] rfl)
  have hD := gb_D (w9 := [(1000 + t, .inr (9, [.ref (ad (1020 + t)), .int (nI (tM F t)), .int (nI (tW F t)), .int (nI (tU F t)), .int (nI (tL F t)), .long (lN (sca F t))])), (50, .inr (4, [.ref (ad 51), .int vln7u2, .int vlb7u2])), (51, .inl (cT 0, 24, .inl vlf7u2)), (2000 + 32 * t + (lfF (tA F) vr t), .inr (10, [.int (tA F 0 (31 * t + (lfF (tA F) vr t))), .int (tA F 1 (31 * t + (lfF (tA F) vr t))), .int (tA F 7 (31 * t + (lfF (tA F) vr t))), .int (tA F 2 (31 * t + (lfF (tA F) vr t))), .int (tA F 3 (31 * t + (lfF (tA F) vr t))), .int (tA F 4 (31 * t + (lfF (tA F) vr t))), .int (tA F 5 (31 * t + (lfF (tA F) vr t))), .int (tA F 6 (31 * t + (lfF (tA F) vr t))), .ref (ad (3000 + 32 * t + (lfF (tA F) vr t)))])), (3000 + 32 * t + (lfF (tA F) vr t), .inr (4, [.ref (ad (4000 + 32 * t + (lfF (tA F) vr t))), .int wkn, .int wkb])), (4000 + 32 * t + (lfF (tA F) vr t), .inl (cT 0, 24, .inl wkf))]) (X := []) (g := g1) hcd hN9 (show QB [(1000 + t, .inr (9, [.ref (ad (1020 + t)), .int (nI (tM F t)), .int (nI (tW F t)), .int (nI (tU F t)), .int (nI (tL F t)), .long (lN (sca F t))])), (50, .inr (4, [.ref (ad 51), .int vln7u2, .int vlb7u2])), (51, .inl (cT 0, 24, .inl vlf7u2)), (2000 + 32 * t + (lfF (tA F) vr t), .inr (10, [.int (tA F 0 (31 * t + (lfF (tA F) vr t))), .int (tA F 1 (31 * t + (lfF (tA F) vr t))), .int (tA F 7 (31 * t + (lfF (tA F) vr t))), .int (tA F 2 (31 * t + (lfF (tA F) vr t))), .int (tA F 3 (31 * t + (lfF (tA F) vr t))), .int (tA F 4 (31 * t + (lfF (tA F) vr t))), .int (tA F 5 (31 * t + (lfF (tA F) vr t))), .int (tA F 6 (31 * t + (lfF (tA F) vr t))), .ref (ad (3000 + 32 * t + (lfF (tA F) vr t)))])), (3000 + 32 * t + (lfF (tA F) vr t), .inr (4, [.ref (ad (4000 + 32 * t + (lfF (tA F) vr t))), .int wkn, .int wkb])), (4000 + 32 * t + (lfF (tA F) vr t), .inl (cT 0, 24, .inl wkf))] from (qb_c (by omega) (qb_c (by decide) (qb_c (by decide) (qb_c (by omega) (qb_c (by omega) (qb_c (by omega) qb_0))))))) (hD.part (cx := [(ad (1000 + t), .inr (9, [.ref (ad (1020 + t)), .int (nI (tM F t)), .int (nI (tW F t)), .int (nI (tU F t)), .int (nI (tL F t)), .long (lN (sca F t))])), (ad 50, .inr (4, [.ref (ad 51), .int vln7u2, .int vlb7u2])), (ad 51, .inl (cT 0, 24, .inl vlf7u2)), (ad (2000 + 32 * t + (lfF (tA F) vr t)), .inr (10, [.int (tA F 0 (31 * t + (lfF (tA F) vr t))), .int (tA F 1 (31 * t + (lfF (tA F) vr t))), .int (tA F 7 (31 * t + (lfF (tA F) vr t))), .int (tA F 2 (31 * t + (lfF (tA F) vr t))), .int (tA F 3 (31 * t + (lfF (tA F) vr t))), .int (tA F 4 (31 * t + (lfF (tA F) vr t))), .int (tA F 5 (31 * t + (lfF (tA F) vr t))), .int (tA F 6 (31 * t + (lfF (tA F) vr t))), .ref (ad (3000 + 32 * t + (lfF (tA F) vr t)))])), (ad (3000 + 32 * t + (lfF (tA F) vr t)), .inr (4, [.ref (ad (4000 + 32 * t + (lfF (tA F) vr t))), .int wkn, .int wkb])), (ad (4000 + 32 * t + (lfF (tA F) vr t)), .inl (cT 0, 24, .inl wkf))]) [0, 1, 2, 3, 4, 5] (by decide) rfl)
  obtain ⟨g2, hg2⟩ : ∃ q9, q9 = ups g1 [(1000 + t, .inr (9, [.ref (ad (1020 + t)), .int (nI (tM F t)), .int (nI (tW F t)), .int (nI (tU F t)), .int (nI (tL F t)), .long (lN (sca F t))])), (50, .inr (4, [.ref (ad 51), .int vln7u2, .int vlb7u2])), (51, .inl (cT 0, 24, .inl vlf7u2)), (2000 + 32 * t + (lfF (tA F) vr t), .inr (10, [.int (tA F 0 (31 * t + (lfF (tA F) vr t))), .int (tA F 1 (31 * t + (lfF (tA F) vr t))), .int (tA F 7 (31 * t + (lfF (tA F) vr t))), .int (tA F 2 (31 * t + (lfF (tA F) vr t))), .int (tA F 3 (31 * t + (lfF (tA F) vr t))), .int (tA F 4 (31 * t + (lfF (tA F) vr t))), .int (tA F 5 (31 * t + (lfF (tA F) vr t))), .int (tA F 6 (31 * t + (lfF (tA F) vr t))), .ref (ad (3000 + 32 * t + (lfF (tA F) vr t)))])), (3000 + 32 * t + (lfF (tA F) vr t), .inr (4, [.ref (ad (4000 + 32 * t + (lfF (tA F) vr t))), .int wkn, .int wkb])), (4000 + 32 * t + (lfF (tA F) vr t), .inl (cT 0, 24, .inl wkf))] := ⟨_, rfl⟩
  rw [← hg2] at hP hD
  have hP : va_P D vwCl ([] ++ pg cds ad g2) _ := hP
  have hD : va_D A ([] ++ pg cds ad g2) := hD
  have fg2 : ∀ z8, z8 ≠ 50 → z8 ≠ 51 → g2 z8 = g1 z8 := fun z8 z2 z3 => by rw [hg2]; exact ups_k (kp_s ((fg1 _ (by omega) (by omega)).trans tr1) (kp_n z2 (kp_n z3 (kp_s ((fg1 _ (by omega) (by omega)).trans hnd) (kp_s ((fg1 _ (by omega) (by omega)).trans wk1) (kp_s ((fg1 _ (by omega) (by omega)).trans wk2) kp_0))))))
  have g2_1 : g2 50 = some (.inr (4, [.ref (ad 51), .int vln7u2, .int vlb7u2])) := by rw [hg2]; exact ups_2 (by omega)
  have g2_2 : g2 51 = some (.inl (cT 0, 24, .inl vlf7u2)) := by rw [hg2]; exact ups_3 (by omega) (by decide)
  refine lv_aload_n hx hb dR_leaveBehind_28 rfl (lv_at hl 3 rfl) ?_
  refine lv_aload_n hx hb dR_leaveBehind_29 rfl (lv_at hl 0 rfl) ?_
  refine va_get (D := D) (ci := 0) (v := .ref (ad 50)) (C := R_R) (T := T_R) (N := 13) hx hb hT in_R hown hK (pg_1 (x := 0) hcd hP (by decide) ((fg2 _ (by decide) (by decide)).trans ((fg1 _ (by omega) (by omega)).trans hob))) 0 rfl rfl 8 (by decide) (hT _ w332) (fun _ h9 => h9) rfl dR_leaveBehind_30 ?_
  refine lv_iconst (v := 1) hx hb dR_leaveBehind_33 (by decide) ?_
  have hB9 : QI g2 [(xa, .inr (4, [.ref (ad xw), .int n1u1, .int wub])), (xw, .inl (cT 0, R9, .inl f1u1)), (50, .inr (4, [.ref (ad 51), .int vln7u2, .int vlb7u2])), (51, .inl (cT 0, 24, .inl vlf7u2))] := (qi_c (by omega) ((fg2 _ (by omega) (by omega)).trans g1_0) (qi_c (by omega) ((fg2 _ (by omega) (by omega)).trans g1_1) (qi_c (by decide) g2_1 (qi_c (by decide) g2_2 qi_0))))
  have hN9 := (show NDc [xa, xw, 50, 51] from (nd_c (na_c (by omega) (na_c (by omega) (na_c (by omega) na_0))) (nd_c (na_c (by omega) (na_c (by omega) na_0)) (nd_c (na_c (by decide) na_0) (nd_c na_0 nd_0)))))
  have hP := bo_P (wc := [(xa, .inr (4, [.ref (ad xw), .int n1u1, .int wub])), (xw, .inl (cT 0, R9, .inl f1u1)), (50, .inr (4, [.ref (ad 51), .int vln7u2, .int vlb7u2])), (51, .inl (cT 0, 24, .inl vlf7u2))]) (X := []) hcd hN9 hB9 hP
  have hD := bo_D (wc := [(xa, .inr (4, [.ref (ad xw), .int n1u1, .int wub])), (xw, .inl (cT 0, R9, .inl f1u1)), (50, .inr (4, [.ref (ad 51), .int vln7u2, .int vlb7u2])), (51, .inl (cT 0, 24, .inl vlf7u2))]) (X := []) hcd hN9 hB9 hD
  have hP : va_P D vwCl ([(ad xa, .inr (4, [.ref (ad xw), .int n1u1, .int wub])), (ad xw, .inl (cT 0, R9, .inl f1u1)), (ad 50, .inr (4, [.ref (ad 51), .int vln7u2, .int vlb7u2])), (ad 51, .inl (cT 0, 24, .inl vlf7u2))] ++ pg cds ad (upo g2 [xa, xw, 50, 51])) _ := hP
  have hD : va_D A ([(ad xa, .inr (4, [.ref (ad xw), .int n1u1, .int wub])), (ad xw, .inl (cT 0, R9, .inl f1u1)), (ad 50, .inr (4, [.ref (ad 51), .int vln7u2, .int vlb7u2])), (ad 51, .inl (cT 0, 24, .inl vlf7u2))] ++ pg cds ad (upo g2 [xa, xw, 50, 51])) := hD
  refine hy_vQ (X := [(ad xa, .inr (4, [.ref (ad xw), .int n1u1, .int wub])), (ad xw, .inl (cT 0, R9, .inl f1u1)), (ad 50, .inr (4, [.ref (ad 51), .int vln7u2, .int vlb7u2])), (ad 51, .inl (cT 0, 24, .inl vlf7u2))]) (pl := pg cds ad (upo g2 [xa, xw, 50, 51])) (cx := [(ad xa, .inr (4, [.ref (ad xw), .int n1u1, .int wub])), (ad xw, .inl (cT 0, R9, .inl f1u1)), (ad 50, .inr (4, [.ref (ad 51), .int vln7u2, .int vlb7u2])), (ad 51, .inl (cT 0, 24, .inl vlf7u2))]) (wr := []) hP hD hS hA [0, 1, 2, 3] [] rfl rfl (by decide) (by decide) (va_runV (As := [.ref (ad 50), .int 1]) (rest := []) ⟨hx, hb, hml, hown, hT⟩ (k_plus1 l D cT (ad xa) (ad xw) R9 n1u1 wub f1u1 (xF F vr x0 t * (sca F t : Int)) (ad 50) (ad 51) 24 vln7u2 vlb7u2 vlf7u2 (lvf F t (lfF (tA F) vr t)) hR48 a1 (by decide) a2 (p24 (by rw [Int.natAbs_mul, Int.natAbs_natCast]; omega) hR24) _) ⟨callB_of 2 hT (tb_gd w461) rfl rfl rfl (hT _ w5) (hT _ w458) hW_plus ⟨Nat.le_of_ble_eq_true rfl, Nat.le_of_ble_eq_true rfl⟩, (hT _ w459), (hT _ w460)⟩ (RW.preV (ci := 4) (q0 := 0) hZ hS (hy_free (cx := [(ad xa, .inr (4, [.ref (ad xw), .int n1u1, .int wub])), (ad xw, .inl (cT 0, R9, .inl f1u1)), (ad 50, .inr (4, [.ref (ad 51), .int vln7u2, .int vlb7u2])), (ad 51, .inl (cT 0, 24, .inl vlf7u2))]) hD hS hA [0, 1, 2, 3] rfl) (hP.sub (ws' := [(ad xa, .inr (4, [.ref (ad xw), .int n1u1, .int wub])), (ad xw, .inl (cT 0, R9, .inl f1u1)), (ad 50, .inr (4, [.ref (ad 51), .int vln7u2, .int vlb7u2])), (ad 51, .inl (cT 0, 24, .inl vlf7u2))]) [0, 1, 2, 3] rfl) hK (hD.sub (ws' := [(ad xa, .inr (4, [.ref (ad xw), .int n1u1, .int wub])), (ad xw, .inl (cT 0, R9, .inl f1u1)), (ad 50, .inr (4, [.ref (ad 51), .int vln7u2, .int vlb7u2])), (ad 51, .inl (cT 0, 24, .inl vlf7u2))]) [0, 1, 2, 3] (by decide) rfl) rfl rfl) rfl rfl hl.1 rfl (lv_room (Nat.le_of_ble_eq_true rfl)) dR_leaveBehind_34 ⟨Nat.le_of_ble_eq_true rfl, Nat.le_of_ble_eq_true rfl⟩) (fun u9 H locs hpu3 hP hD hS => ?_)
  obtain ⟨n1u3, b1u3, f1u3⟩ := u9
  have hpu3 : WN R9 n1u3 b1u3 f1u3 ((xF F vr x0 t * (sca F t : Int)) - (lvf F t (lfF (tA F) vr t))) := hpu3
  have hP : va_P D vwCl ([(ad xa, .inr (4, [.ref (ad xw), .int n1u3, .int b1u3])), (ad xw, .inl (cT 0, R9, .inl f1u3)), (ad 50, .inr (4, [.ref (ad 51), .int vln7u2, .int vlb7u2])), (ad 51, .inl (cT 0, 24, .inl vlf7u2))] ++ pg cds ad (upo g2 [xa, xw, 50, 51])) _ := hP
  have hD : va_D A ([(ad xa, .inr (4, [.ref (ad xw), .int n1u3, .int b1u3])), (ad xw, .inl (cT 0, R9, .inl f1u3)), (ad 50, .inr (4, [.ref (ad 51), .int vln7u2, .int vlb7u2])), (ad 51, .inl (cT 0, 24, .inl vlf7u2))] ++ pg cds ad (upo g2 [xa, xw, 50, 51])) := hD
  have a3 := hpu3
  have hN9 := (show NDc [xa, xw, 50, 51] from (nd_c (na_c (by omega) (na_c (by omega) (na_c (by omega) na_0))) (nd_c (na_c (by omega) (na_c (by omega) na_0)) (nd_c (na_c (by decide) na_0) (nd_c na_0 nd_0)))))
  have hP := gb_P (w9 := [(xa, .inr (4, [.ref (ad xw), .int n1u3, .int b1u3])), (xw, .inl (cT 0, R9, .inl f1u3)), (50, .inr (4, [.ref (ad 51), .int vln7u2, .int vlb7u2])), (51, .inl (cT 0, 24, .inl vlf7u2))]) (X := []) (g := g2) hcd hN9 (show QB [(xa, .inr (4, [.ref (ad xw), .int n1u3, .int b1u3])), (xw, .inl (cT 0, R9, .inl f1u3)), (50, .inr (4, [.ref (ad 51), .int vln7u2, .int vlb7u2])), (51, .inl (cT 0, 24, .inl vlf7u2))] from (qb_c (by omega) (qb_c (by omega) (qb_c (by decide) (qb_c (by decide) qb_0))))) (hP.part (cx := [(ad xa, .inr (4, [.ref (ad xw), .int n1u3, .int b1u3])), (ad xw, .inl (cT 0, R9, .inl f1u3)), (ad 50, .inr (4, [.ref (ad 51), .int vln7u2, .int vlb7u2])), (ad 51, .inl (cT 0, 24, .inl vlf7u2))]) [0, 1, 2, 3] rfl)
  have hD := gb_D (w9 := [(xa, .inr (4, [.ref (ad xw), .int n1u3, .int b1u3])), (xw, .inl (cT 0, R9, .inl f1u3)), (50, .inr (4, [.ref (ad 51), .int vln7u2, .int vlb7u2])), (51, .inl (cT 0, 24, .inl vlf7u2))]) (X := []) (g := g2) hcd hN9 (show QB [(xa, .inr (4, [.ref (ad xw), .int n1u3, .int b1u3])), (xw, .inl (cT 0, R9, .inl f1u3)), (50, .inr (4, [.ref (ad 51), .int vln7u2, .int vlb7u2])), (51, .inl (cT 0, 24, .inl vlf7u2))] from (qb_c (by omega) (qb_c (by omega) (qb_c (by decide) (qb_c (by decide) qb_0))))) (hD.part (cx := [(ad xa, .inr (4, [.ref (ad xw), .int n1u3, .int b1u3])), (ad xw, .inl (cT 0, R9, .inl f1u3)), (ad 50, .inr (4, [.ref (ad 51), .int vln7u2, .int vlb7u2])), (ad 51, .inl (cT 0, 24, .inl vlf7u2))]) [0, 1, 2, 3] (by decide) rfl)
  obtain ⟨g3, hg3⟩ : ∃ q9, q9 = ups g2 [(xa, .inr (4, [.ref (ad xw), .int n1u3, .int b1u3])), (xw, .inl (cT 0, R9, .inl f1u3)), (50, .inr (4, [.ref (ad 51), .int vln7u2, .int vlb7u2])), (51, .inl (cT 0, 24, .inl vlf7u2))] := ⟨_, rfl⟩
  rw [← hg3] at hP hD
  have hP : va_P D vwCl ([] ++ pg cds ad g3) _ := hP
  have hD : va_D A ([] ++ pg cds ad g3) := hD
  have fg3 : ∀ z8, z8 ≠ xa → z8 ≠ xw → g3 z8 = g2 z8 := fun z8 z1 z2 => by rw [hg3]; exact ups_k (kp_n z1 (kp_n z2 (kp_s g2_1 (kp_s g2_2 kp_0))))
  have g3_0 : g3 xa = some (.inr (4, [.ref (ad xw), .int n1u3, .int b1u3])) := by rw [hg3]; exact ups_1
  have g3_1 : g3 xw = some (.inl (cT 0, R9, .inl f1u3)) := by rw [hg3]; exact ups_2 (by omega)
  have hP9 : va_P D vwCl ([] ++ pg cds ad g3) _ := hP.part (cx := []) [] rfl
  have hD9 : va_D A ([] ++ pg cds ad g3) := hD.part (cx := []) [] (by decide) rfl
  refine W.widen (k := 0) (n := 0) (Nat.le_of_ble_eq_true rfl) (Nat.le_of_ble_eq_true rfl) ?_
  exact W.vret hx hb hr (fun t9 ht9 hW9 => ⟨⟨g3, rfl, (show (∀ z8, z8 ≠ xa → z8 ≠ xw → z8 ≠ 50 → z8 ≠ 51 → g3 z8 = gg z8) ∧ WHO cT ad g3 xa xw R9 (xF F vr x0 (t + 1)) ∧ ∃ z8, WHO cT ad g3 50 51 24 z8 from ⟨fun z8 n1 n2 n3 n4 => (fg3 z8 n1 n2).trans ((fg2 z8 n3 n4).trans (fg1 z8 n1 n2)), ⟨_, _, _, g3_0, g3_1, a3⟩, ⟨_, _, _, _, (fg3 _ (by omega) (by omega)).trans g2_1, (fg3 _ (by omega) (by omega)).trans g2_2, a2⟩⟩), by rw [ht9]; exact hP9, hD9⟩, hS.F ht9⟩) hS.2.2 dR_leaveBehind_37
set_option maxHeartbeats 4000000 in
set_option maxRecDepth 100000 in
theorem k_leave (l : Launch) (D : va_G) (cT : Nat → ClassId) (cds : List Nat) (ad : Nat → Nat) (gg : Nat → Option va_E) (tc : Int32) (wd9 : Int32) (rw9 : Int32) (xa : Nat) (xw : Nat) (R9 : Nat) (fm : Nat) (F : TFR) (T : Nat) (k9 : Nat) (row : Nat) (vr : Nat → Int32) (x0 : Int32) (zf : Int) (zu : Int) (hcd : CD cds) (hob : gg 0 = some (eOB ad tc)) (htb : gg 1 = some (eTB ad wd9 rw9)) (hFr : FRp cT ad gg fm) (hTm : T ≤ fm) (hTs : TRS cT ad gg F T) (hTOK : TOK F T) (hT16 : T ≤ 16) (hk9 : k9 ≤ T) (hCa : CAp cT ad gg) (hCr : COLr cT ad gg row vr) (hrw : row < 49) (hTg : ∃ ft : Nat → Int32, gg 3 = some (eA (cT 0) 49 ft) ∧ ft row = x0) (hxw : 41 ≤ xa ∧ xa < 1000 ∧ 41 ≤ xw ∧ xw < 1000 ∧ xw ≠ xa ∧ xa ≠ 50 ∧ xa ≠ 51 ∧ xw ≠ 50 ∧ xw ≠ 51) (hR24 : 24 ≤ R9) (hR48 : R9 ≤ 48) (hL : WHO cT ad gg xa xw R9 zu) (hLf : WHO cT ad gg 50 51 24 zf) (hx9 : -1000 ≤ x0.toInt ∧ x0.toInt ≤ 1000) (sz : Nat) : Met l yR_leave WR_leave ({ frames := 5, cells := 0, slots := 0, locals := 112 } : Room) (RW D vwCl [.ref (ad 0), .int (nI row), .int (nI k9), .ref (ad xa)] ([] ++ pg cds ad gg) (TY cT) sz) (va_Qv (fun u9 : (Nat → Option va_E) => (∀ z8, z8 ≠ xa → z8 ≠ xw → z8 ≠ 50 → z8 ≠ 51 → u9 z8 = gg z8) ∧ WHO cT ad u9 xa xw R9 (xF F vr x0.toInt k9) ∧ ∃ z8, WHO cT ad u9 50 51 24 z8) (BW D vwCl (va_A ([] ++ pg cds ad gg) sz) (fun u9 : (Nat → Option va_E) => ([] ++ pg cds ad u9))) (va_A ([] ++ pg cds ad gg) sz)) 0 0 (va_A ([] ++ pg cds ad gg) sz) := by
  refine Met.ofW (cc := cR_leave) (maxL := 5) (ret := none) (by decide) rfl ?_
  intro p e s m args below meth c s₁ B hml hv
  obtain ⟨rfl, hsz, hZ, hP, hK, hD0⟩ := hv
  have hx := B.exec
  have hb := B.bytes
  have hr := B.returns
  have hts := atoms_spec (ws := WR_leave) B.pre
  have hT : ∀ w ∈ TB, w.before _ s = true := fun w h => hts w (List.mem_cons_of_mem _ h)
  have hown : s.vm.findClass R_R = some m.cls := findClass_of_methodNamed B.named
  have hlocks := B.notSynchronized
  subst hsz
  have hD := hD0.self (sz := s.heap.size)
  generalize hAe : va_A ([] ++ pg cds ad gg) s.heap.size = A at hD hZ ⊢
  have hA : ∀ q : Nat, s.heap.size ≤ q → A q := fun q h => by rw [← hAe]; exact Or.inr h
  have hS : va_S A s.heap s.heap [] := va_S.rf
  have hl := lv_entry ([.ref (ad 0), .int (nI row), .int (nI k9), .ref (ad xa)]) (n := 5) (Nat.le_of_ble_eq_true rfl)
  rw [lg_entry_eq]
  generalize (lg_sl ([.ref (ad 0), .int (nI row), .int (nI k9), .ref (ad xa)]) ++ List.replicate (5 - (lg_sl ([.ref (ad 0), .int (nI row), .int (nI k9), .ref (ad xa)])).length) Slot.unset).toArray = ls at hl ⊢
  have hl : lv_has ls 5 [(0, .ref (ad 0)), (1, .int (nI row)), (2, .int (nI k9)), (3, .ref (ad xa))] := hl
  obtain ⟨x1, x2, x3, x4, x5, x6, x7, x8, x9c⟩ := hxw
  obtain ⟨ft, hft, htg9⟩ := hTg
  obtain ⟨wun, wub, wuf, wu1, wu2, wu3⟩ := hL
  have hTr0 := hTs
  refine lv_aload_n hx hb dR_leave_0 rfl (lv_at hl 3 rfl) ?_
  refine lv_aload_n hx hb dR_leave_1 rfl (lv_at hl 0 rfl) ?_
  refine va_get (D := D) (ci := 0) (v := .ref (ad 1)) (C := R_R) (T := T_R) (N := 13) hx hb hT in_R hown hK (pg_1 (x := 0) hcd hP (by decide) hob) 0 rfl rfl 0 (by decide) (hT _ w324) (fun _ h9 => h9) rfl dR_leave_2 ?_
  refine va_get (D := D) (ci := 2) (v := .ref (ad 3)) (C := R_T) (T := T_T) (N := 4) hx hb hT in_T hown hK (pg_1 (x := 1) hcd hP (by decide) htb) 0 rfl rfl 1 (by decide) (hT _ w77) (fun _ h9 => h9) rfl dR_leave_5 ?_
  refine lv_iload_n hx hb dR_leave_8 rfl (lv_at hl 1 rfl) ?_
  refine lq_iald (j := row) hx hb hK (pg_1 (x := 3) hcd hP (by decide) hft) 0 0 rfl rfl rfl (by omega) (by omega) dR_leave_9 ?_
  refine lv_topi (fun y9 e9 => ?_)
  cases (show y9 = x0 from e9.trans htg9)
  have hB9 : QI gg [(xa, .inr (4, [.ref (ad xw), .int wun, .int wub])), (xw, .inl (cT 0, R9, .inl wuf))] := (qi_c (by omega) wu1 (qi_c (by omega) wu2 qi_0))
  have hN9 := (show NDc [xa, xw] from (nd_c (na_c (by omega) na_0) (nd_c na_0 nd_0)))
  have hP := bo_P (wc := [(xa, .inr (4, [.ref (ad xw), .int wun, .int wub])), (xw, .inl (cT 0, R9, .inl wuf))]) (X := []) hcd hN9 hB9 hP
  have hD := bo_D (wc := [(xa, .inr (4, [.ref (ad xw), .int wun, .int wub])), (xw, .inl (cT 0, R9, .inl wuf))]) (X := []) hcd hN9 hB9 hD
  have hP : va_P D vwCl ([(ad xa, .inr (4, [.ref (ad xw), .int wun, .int wub])), (ad xw, .inl (cT 0, R9, .inl wuf))] ++ pg cds ad (upo gg [xa, xw])) _ := hP
  have hD : va_D A ([(ad xa, .inr (4, [.ref (ad xw), .int wun, .int wub])), (ad xw, .inl (cT 0, R9, .inl wuf))] ++ pg cds ad (upo gg [xa, xw])) := hD
  refine hy_vQ (X := [(ad xa, .inr (4, [.ref (ad xw), .int wun, .int wub])), (ad xw, .inl (cT 0, R9, .inl wuf))]) (pl := pg cds ad (upo gg [xa, xw])) (cx := [(ad xa, .inr (4, [.ref (ad xw), .int wun, .int wub])), (ad xw, .inl (cT 0, R9, .inl wuf))]) (wr := []) hP hD hS hA [0, 1] [] rfl rfl (by decide) (by decide) (va_runV (As := [.int x0]) (rest := []) ⟨hx, hb, hml, hown, hT⟩ (k_setI l D cT (ad xa) (ad xw) R9 wun wub wuf x0 hR48 (by omega) (tg_z hx9) _) ⟨callB_of 1 hT (tb_gd w393) rfl rfl rfl (hT _ w5) (hT _ w390) hW_set ⟨Nat.le_of_ble_eq_true rfl, Nat.le_of_ble_eq_true rfl⟩, (hT _ w391), (hT _ w392)⟩ (RW.preV (ci := 4) (q0 := 0) hZ hS (hy_free (cx := [(ad xa, .inr (4, [.ref (ad xw), .int wun, .int wub])), (ad xw, .inl (cT 0, R9, .inl wuf))]) hD hS hA [0, 1] rfl) (hP.sub (ws' := [(ad xa, .inr (4, [.ref (ad xw), .int wun, .int wub])), (ad xw, .inl (cT 0, R9, .inl wuf))]) [0, 1] rfl) hK (hD.sub (ws' := [(ad xa, .inr (4, [.ref (ad xw), .int wun, .int wub])), (ad xw, .inl (cT 0, R9, .inl wuf))]) [0, 1] (by decide) rfl) rfl rfl) rfl rfl hl.1 rfl (lv_room (Nat.le_of_ble_eq_true rfl)) dR_leave_10 ⟨Nat.le_of_ble_eq_true rfl, Nat.le_of_ble_eq_true rfl⟩) (fun u9 H locs hpu1 hP hD hS => ?_)
  obtain ⟨n1u1, b1u1, f1u1⟩ := u9
  have hpu1 : WN R9 n1u1 b1u1 f1u1 x0.toInt := hpu1
  have hP : va_P D vwCl ([(ad xa, .inr (4, [.ref (ad xw), .int n1u1, .int b1u1])), (ad xw, .inl (cT 0, R9, .inl f1u1))] ++ pg cds ad (upo gg [xa, xw])) _ := hP
  have hD : va_D A ([(ad xa, .inr (4, [.ref (ad xw), .int n1u1, .int b1u1])), (ad xw, .inl (cT 0, R9, .inl f1u1))] ++ pg cds ad (upo gg [xa, xw])) := hD
  have a1 := hpu1
  have hN9 := (show NDc [xa, xw] from (nd_c (na_c (by omega) na_0) (nd_c na_0 nd_0)))
  have hP := gb_P (w9 := [(xa, .inr (4, [.ref (ad xw), .int n1u1, .int b1u1])), (xw, .inl (cT 0, R9, .inl f1u1))]) (X := []) (g := gg) hcd hN9 (show QB [(xa, .inr (4, [.ref (ad xw), .int n1u1, .int b1u1])), (xw, .inl (cT 0, R9, .inl f1u1))] from (qb_c (by omega) (qb_c (by omega) qb_0))) (hP.part (cx := [(ad xa, .inr (4, [.ref (ad xw), .int n1u1, .int b1u1])), (ad xw, .inl (cT 0, R9, .inl f1u1))]) [0, 1] rfl)
  have hD := gb_D (w9 := [(xa, .inr (4, [.ref (ad xw), .int n1u1, .int b1u1])), (xw, .inl (cT 0, R9, .inl f1u1))]) (X := []) (g := gg) hcd hN9 (show QB [(xa, .inr (4, [.ref (ad xw), .int n1u1, .int b1u1])), (xw, .inl (cT 0, R9, .inl f1u1))] from (qb_c (by omega) (qb_c (by omega) qb_0))) (hD.part (cx := [(ad xa, .inr (4, [.ref (ad xw), .int n1u1, .int b1u1])), (ad xw, .inl (cT 0, R9, .inl f1u1))]) [0, 1] (by decide) rfl)
  obtain ⟨g1, hg1⟩ : ∃ q9, q9 = ups gg [(xa, .inr (4, [.ref (ad xw), .int n1u1, .int b1u1])), (xw, .inl (cT 0, R9, .inl f1u1))] := ⟨_, rfl⟩
  rw [← hg1] at hP hD
  have hP : va_P D vwCl ([] ++ pg cds ad g1) _ := hP
  have hD : va_D A ([] ++ pg cds ad g1) := hD
  have fg1 : ∀ z8, z8 ≠ xa → z8 ≠ xw → g1 z8 = gg z8 := fun z8 z1 z2 => by rw [hg1]; exact ups_k (kp_n z1 (kp_n z2 kp_0))
  have g1_0 : g1 xa = some (.inr (4, [.ref (ad xw), .int n1u1, .int b1u1])) := by rw [hg1]; exact ups_1
  have g1_1 : g1 xw = some (.inl (cT 0, R9, .inl f1u1)) := by rw [hg1]; exact ups_2 (by omega)
  refine lv_iconst (v := 0) hx hb dR_leave_13 (by decide) ?_
  refine lv_istore hx hb dR_leave_14 hl (by decide) rfl (fun ls hl => ?_)
  have hl : lv_has ls 5 [(4, .int 0), (0, .ref (ad 0)), (1, .int (nI row)), (2, .int (nI k9)), (3, .ref (ad xa))] := hl
  refine lp_w (α := Nat × (Nat → Option va_E)) (fun a9 => a9.1 ≤ k9 ∧ (∀ z8, z8 ≠ xa → z8 ≠ xw → z8 ≠ 50 → z8 ≠ 51 → a9.2 z8 = gg z8) ∧ WHO cT ad a9.2 xa xw R9 (xF F vr x0.toInt a9.1) ∧ ∃ z8, WHO cT ad a9.2 50 51 24 z8) (fun a9 => k9 - a9.1) (fun a9 => [(0, .ref (ad 0)), (1, .int (nI row)), (2, .int (nI k9)), (3, .ref (ad xa)), (4, .int (nI a9.1))]) (fun a9 => ([] ++ pg cds ad a9.2)) 16 ?_ (0, g1) (show 0 ≤ k9 ∧ (∀ z8, z8 ≠ xa → z8 ≠ xw → z8 ≠ 50 → z8 ≠ 51 → g1 z8 = gg z8) ∧ WHO cT ad g1 xa xw R9 (xF F vr x0.toInt 0) ∧ ∃ z8, WHO cT ad g1 50 51 24 z8 from ⟨by omega, fun z8 n1 n2 _ _ => fg1 z8 n1 n2, ⟨_, _, _, g1_0, g1_1, a1⟩, ⟨zf, hLf.cg (fg1 _ (by omega) (by omega)) (fg1 _ (by omega) (by omega))⟩⟩) (lv_sub hl [1, 2, 3, 4, 0] rfl) hP hD hS
  intro a9 hI16 ih16 ls H locs hl hP hD hS
  obtain ⟨t, g2⟩ := a9
  have hI16 : t ≤ k9 ∧ (∀ z8, z8 ≠ xa → z8 ≠ xw → z8 ≠ 50 → z8 ≠ 51 → g2 z8 = gg z8) ∧ WHO cT ad g2 xa xw R9 (xF F vr x0.toInt t) ∧ ∃ z8, WHO cT ad g2 50 51 24 z8 := hI16
  obtain ⟨it, iF, iW, iL⟩ := hI16
  have hl : lv_has ls 5 [(0, .ref (ad 0)), (1, .int (nI row)), (2, .int (nI k9)), (3, .ref (ad xa)), (4, .int (nI t))] := hl
  have hP : va_P D vwCl ([] ++ pg cds ad g2) _ := hP
  have hD : va_D A ([] ++ pg cds ad g2) := hD
  refine lv_iload hx hb dR_leave_16 (lv_at hl 4 rfl) ?_
  refine lv_iload_n hx hb dR_leave_18 rfl (lv_at hl 2 rfl) ?_
  refine lv_icmp_ge (tgt := 46) hx hb dR_leave_19 rfl (fun h2 => ?_) (fun h2 => ?_)
  · have gh2 : k9 ≤ t := (nI_leI (a := k9) (b := t) (by omega) (by omega)).mp h2
    have hP9 : va_P D vwCl ([] ++ pg cds ad g2) _ := hP.part (cx := []) [] rfl
    have hD9 : va_D A ([] ++ pg cds ad g2) := hD.part (cx := []) [] (by decide) rfl
    refine W.widen (k := 0) (n := 0) (Nat.le_of_ble_eq_true rfl) (Nat.le_of_ble_eq_true rfl) ?_
    exact W.vret hx hb hr (fun t9 ht9 hW9 => ⟨⟨g2, rfl, (show (∀ z8, z8 ≠ xa → z8 ≠ xw → z8 ≠ 50 → z8 ≠ 51 → g2 z8 = gg z8) ∧ WHO cT ad g2 xa xw R9 (xF F vr x0.toInt k9) ∧ ∃ z8, WHO cT ad g2 50 51 24 z8 from ⟨iF, by rw [show k9 = t by omega]; exact iW, iL⟩), by rw [ht9]; exact hP9, hD9⟩, hS.F ht9⟩) hS.2.2 dR_leave_46
  · have gh2 : t < k9 := Nat.not_le.mp (fun q => h2 ((nI_leI (a := k9) (b := t) (by omega) (by omega)).mpr q))
    have htk : t < k9 := by omega
    have hFr1 := hFr.cg (iF 9 (by omega) (by omega) (by omega) (by omega)) (iF 40 (by omega) (by omega) (by omega) (by omega))
    obtain ⟨fcap, fmd, flf, f1, f2, f3, f4, f5⟩ := hFr1.2 (by omega)
    obtain ⟨zl, iL⟩ := iL
    have hTr1 := (hTr0 t (by omega)).cg (g2 := g2) (by omega) (fun z hz => iF z (by omega) (by omega) (by omega) (by omega))
    obtain ⟨mm, tr1, ⟨cap, md, lf, ls1, ls2, ls3, ls4, ls5⟩, tr3, tr4, tr5⟩ := hTr1
    have hTr1 := (hTr0 t (by omega)).cg (g2 := g2) (by omega) (fun z hz => iF z (by omega) (by omega) (by omega) (by omega))
    refine lv_aload_n hx hb dR_leave_22 rfl (lv_at hl 0 rfl) ?_
    refine lv_aload_n hx hb dR_leave_23 rfl (lv_at hl 0 rfl) ?_
    refine va_get (D := D) (ci := 0) (v := .ref (ad 9)) (C := R_R) (T := T_R) (N := 13) hx hb hT in_R hown hK (pg_1 (x := 0) hcd hP (by decide) ((iF 0 (by omega) (by omega) (by omega) (by omega)).trans hob)) 0 rfl rfl 4 (by decide) (hT _ w328) (fun _ h9 => h9) rfl dR_leave_24 ?_
    refine lv_iload hx hb dR_leave_27 (lv_at hl 4 rfl) ?_
    refine ro_r (va_Run.run (va_runV (As := [.int (nI t)]) (rest := [.ref (ad 0)]) ⟨hx, hb, hml, hown, hT⟩ (k_alGet l D cT (ad 9) (ad 40) fm fmd fcap flf t (ad (1000 + t)) (by omega) f3 (by omega) (f5 _ (by omega))) ⟨callB_of 1 hT (tb_gd w401) rfl rfl rfl (hT _ w11) (hT _ w398) hAL_get ⟨Nat.le_of_ble_eq_true rfl, Nat.le_of_ble_eq_true rfl⟩, (hT _ w399), (hT _ w400)⟩ (RO.preV (ci := 12) (q0 := 0) hZ hS ((show va_P D vwCl [(ad 9, .inr (12, [.ref (ad 40), .int (nI fm), .int fmd])), (ad 40, .inl (cT 7, fcap, .inr (.inr (.inr (.inr flf)))))] _ from (pv_c (pg_1 (x := 9) hcd hP (by decide) f1) (pv_c (pg_1 (x := 40) hcd hP (by decide) f2) pv_0)))) hK rfl rfl) rfl rfl hl.1 rfl (lv_room (Nat.le_of_ble_eq_true rfl)) dR_leave_29 ⟨Nat.le_of_ble_eq_true rfl, Nat.le_of_ble_eq_true rfl⟩)) ?_
    refine va_castY (C := "ResidualTrees$Tree") hx hb hown (hT _ w412) (hZ.1.1 ("ResidualTrees$Tree", "ResidualTrees$Tree") (List.mem_of_getElem? (i := 2) rfl)) (va_recv (ci := 9) (q0 := 0) hK (pg_1 (x := 1000 + t) hcd hP (by omega) tr1) rfl rfl) dR_leave_32 ?_
    refine lv_iload_n hx hb dR_leave_35 rfl (lv_at hl 1 rfl) ?_
    refine lv_aload_n hx hb dR_leave_36 rfl (lv_at hl 3 rfl) ?_
    refine hy_vP (X := []) (pl := pg cds ad g2) (cx := []) (wr := []) hP hD hS hA [] [] rfl rfl (by decide) (by decide) (va_runV (As := [.ref (ad (1000 + t)), .int (nI row), .ref (ad xa)]) (rest := []) ⟨hx, hb, hml, hown, hT⟩ (k_leaveB l D cT cds ad g2 tc wd9 rw9 xa xw R9 F T t row vr x0.toInt zl hcd ((iF 0 (by omega) (by omega) (by omega) (by omega)).trans hob) ((iF 1 (by omega) (by omega) (by omega) (by omega)).trans htb) hTr1 hTOK hT16 (by omega) (hCa.cg (iF _ (by omega) (by omega) (by omega) (by omega))) (hCr.cg (fun z hz1 hz2 => iF z (by omega) (by omega) (by omega) (by omega))) hrw (⟨x1, x2, x3, x4, x5, x6, x7, x8, x9c⟩) hR24 hR48 iW iL (by omega) _) ⟨callB_of 3 hT (tb_gd w416) rfl rfl rfl (hT _ w1) (hT _ w413) hR_leaveBehind ⟨Nat.le_of_ble_eq_true rfl, Nat.le_of_ble_eq_true rfl⟩, (hT _ w415), (hT _ wp4)⟩ (RW.preW (ci := 0) (q0 := 0) hZ hS (va_freeP (cx := []) hD hS hA [] rfl) (hP.part (cx := []) [] rfl) hK (hD.part (cx := []) [] (by decide) rfl) (pg_1 (x := 0) hcd hP (by decide) ((iF 0 (by omega) (by omega) (by omega) (by omega)).trans hob)) rfl rfl) rfl rfl hl.1 rfl (lv_room (Nat.le_of_ble_eq_true rfl)) dR_leave_37 ⟨Nat.le_of_ble_eq_true rfl, Nat.le_of_ble_eq_true rfl⟩) (fun u9 H locs hpu3 hP hD hS => ?_)
    obtain ⟨gg7u3, rfl⟩ : ∃ q9, q9 = u9 := ⟨_, rfl⟩
    have hpu3 : (∀ z8, z8 ≠ xa → z8 ≠ xw → z8 ≠ 50 → z8 ≠ 51 → gg7u3 z8 = g2 z8) ∧ WHO cT ad gg7u3 xa xw R9 (xF F vr x0.toInt (t + 1)) ∧ ∃ z8, WHO cT ad gg7u3 50 51 24 z8 := hpu3
    have hP : va_P D vwCl ([] ++ pg cds ad gg7u3) _ := hP
    have hD : va_D A ([] ++ pg cds ad gg7u3) := hD
    obtain ⟨jF, jW, jL⟩ := hpu3
    refine lv_iinc (k := 4) (v := nI (t + 1)) hx hb dR_leave_40 hl rfl (nI_1 t) (by decide) rfl (fun ls hl => ?_)
    have hl : lv_has ls 5 [(4, .int (nI (t + 1))), (0, .ref (ad 0)), (1, .int (nI row)), (2, .int (nI k9)), (3, .ref (ad xa))] := hl
    refine lv_goto (tgt := 16) hx hb dR_leave_43 rfl ?_
    exact ih16 (t + 1, gg7u3) (show (t + 1) ≤ k9 ∧ (∀ z8, z8 ≠ xa → z8 ≠ xw → z8 ≠ 50 → z8 ≠ 51 → gg7u3 z8 = gg z8) ∧ WHO cT ad gg7u3 xa xw R9 (xF F vr x0.toInt (t + 1)) ∧ ∃ z8, WHO cT ad gg7u3 50 51 24 z8 from ⟨by omega, fun z8 n1 n2 n3 n4 => (jF z8 n1 n2 n3 n4).trans (iF z8 n1 n2 n3 n4), jW, jL⟩) (show k9 - (t + 1) < k9 - t from (by omega)) ls H locs (lv_sub hl [1, 2, 3, 4, 0] rfl) hP hD hS
set_option maxHeartbeats 4000000 in
set_option maxRecDepth 100000 in
theorem k_leaveAll (l : Launch) (D : va_G) (cT : Nat → ClassId) (cds : List Nat) (ad : Nat → Nat) (gg : Nat → Option va_E) (tc : Int32) (wd9 : Int32) (rw9 : Int32) (fm : Nat) (F : TFR) (T : Nat) (k9 : Nat) (n : Nat) (vv : Nat → Int32) (vq : Nat → Int32) (tg : Nat → Int32) (n0 : Nat) (zs0 : Nat → Int) (zf : Int) (hcd : CD cds) (hob : gg 0 = some (eOB ad tc)) (htb : gg 1 = some (eTB ad wd9 rw9)) (hrn : rw9 = nI n) (hn48 : n ≤ 48) (hFr : FRp cT ad gg fm) (hTm : T ≤ fm) (hTs : TRS cT ad gg F T) (hTOK : TOK F T) (hT16 : T ≤ 16) (hk9 : k9 ≤ T) (hCa : CAp cT ad gg) (hCo : COLa cT ad gg n vv vq) (hTg : TGp cT gg n tg) (htg : ∀ i, i < n → -1000 ≤ (tg i).toInt ∧ (tg i).toInt ≤ 1000) (hRs : RSp cT ad gg n0 zs0) (hLf : WHO cT ad gg 50 51 24 zf) (sz : Nat) : Met l yR_leaveAll WR_leaveAll ({ frames := 6, cells := 0, slots := 0, locals := 136 } : Room) (RW D vwCl [.ref (ad 0), .int (nI k9)] ([] ++ pg cds ad gg) (TY cT) sz) (va_Qv (fun u9 : (Nat → Option va_E) => (∀ z8, (z8 < 100 ∨ 200 ≤ z8) → z8 ≠ 50 → z8 ≠ 51 → u9 z8 = gg z8) ∧ RSp cT ad u9 n (xR F vv tg k9) ∧ ∃ z8, WHO cT ad u9 50 51 24 z8) (BW D vwCl (va_A ([] ++ pg cds ad gg) sz) (fun u9 : (Nat → Option va_E) => ([] ++ pg cds ad u9))) (va_A ([] ++ pg cds ad gg) sz)) 0 0 (va_A ([] ++ pg cds ad gg) sz) := by
  refine Met.ofW (cc := cR_leaveAll) (maxL := 3) (ret := none) (by decide) rfl ?_
  intro p e s m args below meth c s₁ B hml hv
  obtain ⟨rfl, hsz, hZ, hP, hK, hD0⟩ := hv
  have hx := B.exec
  have hb := B.bytes
  have hr := B.returns
  have hts := atoms_spec (ws := WR_leaveAll) B.pre
  have hT : ∀ w ∈ TB, w.before _ s = true := fun w h => hts w (List.mem_cons_of_mem _ h)
  have hown : s.vm.findClass R_R = some m.cls := findClass_of_methodNamed B.named
  have hlocks := B.notSynchronized
  subst hsz
  have hD := hD0.self (sz := s.heap.size)
  generalize hAe : va_A ([] ++ pg cds ad gg) s.heap.size = A at hD hZ ⊢
  have hA : ∀ q : Nat, s.heap.size ≤ q → A q := fun q h => by rw [← hAe]; exact Or.inr h
  have hS : va_S A s.heap s.heap [] := va_S.rf
  have hl := lv_entry ([.ref (ad 0), .int (nI k9)]) (n := 3) (Nat.le_of_ble_eq_true rfl)
  rw [lg_entry_eq]
  generalize (lg_sl ([.ref (ad 0), .int (nI k9)]) ++ List.replicate (3 - (lg_sl ([.ref (ad 0), .int (nI k9)])).length) Slot.unset).toArray = ls at hl ⊢
  have hl : lv_has ls 3 [(0, .ref (ad 0)), (1, .int (nI k9))] := hl
  obtain ⟨⟨qf, hrq, hrq2⟩, hrs⟩ := hRs
  refine lv_iconst (v := 0) hx hb dR_leaveAll_0 (by decide) ?_
  refine lv_istore_n hx hb dR_leaveAll_1 rfl hl (by decide) rfl (fun ls hl => ?_)
  have hl : lv_has ls 3 [(2, .int 0), (0, .ref (ad 0)), (1, .int (nI k9))] := hl
  have hl : lv_has ls 3 [(2, .int (nI 0)), (0, .ref (ad 0)), (1, .int (nI k9))] := by
    rw [(show nI 0 = 0 from rfl)]; exact hl
  refine lp_w (α := Nat × (Nat → Option va_E)) (fun a9 => a9.1 ≤ n ∧ (∀ z8, (z8 < 100 ∨ 200 ≤ z8) → z8 ≠ 50 → z8 ≠ 51 → a9.2 z8 = gg z8) ∧ (∀ j, j < 48 → ∃ z8, WHO cT ad a9.2 (100 + j) (150 + j) 24 z8 ∧ (j < a9.1 → z8 = xR F vv tg k9 j)) ∧ ∃ z8, WHO cT ad a9.2 50 51 24 z8) (fun a9 => n - a9.1) (fun a9 => [(0, .ref (ad 0)), (1, .int (nI k9)), (2, .int (nI a9.1))]) (fun a9 => ([] ++ pg cds ad a9.2)) 2 ?_ (0, gg) (show 0 ≤ n ∧ (∀ z8, (z8 < 100 ∨ 200 ≤ z8) → z8 ≠ 50 → z8 ≠ 51 → gg z8 = gg z8) ∧ (∀ j, j < 48 → ∃ z8, WHO cT ad gg (100 + j) (150 + j) 24 z8 ∧ (j < 0 → z8 = xR F vv tg k9 j)) ∧ ∃ z8, WHO cT ad gg 50 51 24 z8 from ⟨by omega, fun _ _ _ _ => rfl, fun j hj => (by obtain ⟨z, b1, _⟩ := hrs j hj; exact ⟨z, b1, fun q => absurd q (by omega)⟩), ⟨zf, hLf⟩⟩) (lv_sub hl [1, 2, 0] rfl) hP hD hS
  intro a9 hI2 ih2 ls H locs hl hP hD hS
  obtain ⟨i, g2⟩ := a9
  have hI2 : i ≤ n ∧ (∀ z8, (z8 < 100 ∨ 200 ≤ z8) → z8 ≠ 50 → z8 ≠ 51 → g2 z8 = gg z8) ∧ (∀ j, j < 48 → ∃ z8, WHO cT ad g2 (100 + j) (150 + j) 24 z8 ∧ (j < i → z8 = xR F vv tg k9 j)) ∧ ∃ z8, WHO cT ad g2 50 51 24 z8 := hI2
  obtain ⟨ii, iF, iR, iL⟩ := hI2
  have hl : lv_has ls 3 [(0, .ref (ad 0)), (1, .int (nI k9)), (2, .int (nI i))] := hl
  have hP : va_P D vwCl ([] ++ pg cds ad g2) _ := hP
  have hD : va_D A ([] ++ pg cds ad g2) := hD
  refine lv_iload_n hx hb dR_leaveAll_2 rfl (lv_at hl 2 rfl) ?_
  refine lv_aload_n hx hb dR_leaveAll_3 rfl (lv_at hl 0 rfl) ?_
  refine va_get (D := D) (ci := 0) (v := .ref (ad 1)) (C := R_R) (T := T_R) (N := 13) hx hb hT in_R hown hK (pg_1 (x := 0) hcd hP (by decide) ((iF 0 (by omega) (by omega) (by omega)).trans hob)) 0 rfl rfl 0 (by decide) (hT _ w324) (fun _ h9 => h9) rfl dR_leaveAll_4 ?_
  refine va_get (D := D) (ci := 2) (v := .int rw9) (C := R_T) (T := T_T) (N := 4) hx hb hT in_T hown hK (pg_1 (x := 1) hcd hP (by decide) ((iF 1 (by omega) (by omega) (by omega)).trans htb)) 0 rfl rfl 3 (by decide) (hT _ w82) (fun _ h9 => h9) rfl dR_leaveAll_7 ?_
  refine lv_topi (fun y9 e9 => ?_)
  cases (show y9 = nI n from e9.trans hrn)
  refine lv_icmp_ge (tgt := 31) hx hb dR_leaveAll_10 rfl (fun h1 => ?_) (fun h1 => ?_)
  · have gh1 : n ≤ i := (nI_leI (a := n) (b := i) (by omega) (by omega)).mp h1
    have hP9 : va_P D vwCl ([] ++ pg cds ad g2) _ := hP.part (cx := []) [] rfl
    have hD9 : va_D A ([] ++ pg cds ad g2) := hD.part (cx := []) [] (by decide) rfl
    refine W.widen (k := 0) (n := 0) (Nat.le_of_ble_eq_true rfl) (Nat.le_of_ble_eq_true rfl) ?_
    exact W.vret hx hb hr (fun t9 ht9 hW9 => ⟨⟨g2, rfl, (show (∀ z8, (z8 < 100 ∨ 200 ≤ z8) → z8 ≠ 50 → z8 ≠ 51 → g2 z8 = gg z8) ∧ RSp cT ad g2 n (xR F vv tg k9) ∧ ∃ z8, WHO cT ad g2 50 51 24 z8 from ⟨iF, ⟨⟨qf, (iF 5 (by omega) (by omega) (by omega)).trans hrq, hrq2⟩, by rw [show n = i by omega]; exact iR⟩, iL⟩), by rw [ht9]; exact hP9, hD9⟩, hS.F ht9⟩) hS.2.2 dR_leaveAll_31
  · have gh1 : i < n := Nat.not_le.mp (fun q => h1 ((nI_leI (a := n) (b := i) (by omega) (by omega)).mpr q))
    have hin : i < n := by omega
    obtain ⟨zl, iL⟩ := iL
    obtain ⟨zu, iW, _⟩ := iR i (by omega)
    obtain ⟨ft, hft, htg9, _⟩ := hTg
    refine lv_aload_n hx hb dR_leaveAll_13 rfl (lv_at hl 0 rfl) ?_
    refine lv_iload_n hx hb dR_leaveAll_14 rfl (lv_at hl 2 rfl) ?_
    refine lv_iload_n hx hb dR_leaveAll_15 rfl (lv_at hl 1 rfl) ?_
    refine lv_aload_n hx hb dR_leaveAll_16 rfl (lv_at hl 0 rfl) ?_
    refine va_get (D := D) (ci := 0) (v := .ref (ad 5)) (C := R_R) (T := T_R) (N := 13) hx hb hT in_R hown hK (pg_1 (x := 0) hcd hP (by decide) ((iF 0 (by omega) (by omega) (by omega)).trans hob)) 0 rfl rfl 2 (by decide) (hT _ w326) (fun _ h9 => h9) rfl dR_leaveAll_17 ?_
    refine lv_iload_n hx hb dR_leaveAll_20 rfl (lv_at hl 2 rfl) ?_
    refine al_q (q := ad (100 + i)) hx hb hK (pg_1 (x := 5) hcd hP (by decide) ((iF 5 (by omega) (by omega) (by omega)).trans hrq)) 0 4 rfl rfl (vp_in_nI (by omega) (by decide)) (by rw [nI_clamp (by omega)]; exact hrq2 i (by omega)) dR_leaveAll_21 ?_
    refine hy_vP (X := []) (pl := pg cds ad g2) (cx := []) (wr := []) hP hD hS hA [] [] rfl rfl (by decide) (by decide) (va_runV (As := [.int (nI i), .int (nI k9), .ref (ad (100 + i))]) (rest := []) ⟨hx, hb, hml, hown, hT⟩ (k_leave l D cT cds ad g2 tc wd9 rw9 (100 + i) (150 + i) 24 fm F T k9 i (rwf vv i) (tg i) zl zu hcd ((iF 0 (by omega) (by omega) (by omega)).trans hob) ((iF 1 (by omega) (by omega) (by omega)).trans htb) (hFr.cg (iF _ (by omega) (by omega) (by omega)) (iF _ (by omega) (by omega) (by omega))) hTm (hTs.cg hT16 (fun z hz => iF z (by omega) (by omega) (by omega))) hTOK hT16 hk9 (hCa.cg (iF _ (by omega) (by omega) (by omega))) ((hCo.1 i hin).cg (fun z hz1 hz2 => iF z (by omega) (by omega) (by omega))) (by omega) (⟨ft, (iF _ (by omega) (by omega) (by omega)).trans hft, htg9 i hin⟩) (by omega) (by omega) (by omega) iW iL (htg i hin) _) ⟨callB_of 3 hT (tb_gd w389) rfl rfl rfl (hT _ w1) (hT _ w386) hR_leave ⟨Nat.le_of_ble_eq_true rfl, Nat.le_of_ble_eq_true rfl⟩, (hT _ w388), (hT _ wp2)⟩ (RW.preW (ci := 0) (q0 := 0) hZ hS (va_freeP (cx := []) hD hS hA [] rfl) (hP.part (cx := []) [] rfl) hK (hD.part (cx := []) [] (by decide) rfl) (pg_1 (x := 0) hcd hP (by decide) ((iF 0 (by omega) (by omega) (by omega)).trans hob)) rfl rfl) rfl rfl hl.1 rfl (lv_room (Nat.le_of_ble_eq_true rfl)) dR_leaveAll_22 ⟨Nat.le_of_ble_eq_true rfl, Nat.le_of_ble_eq_true rfl⟩) (fun u9 H locs hpu2 hP hD hS => ?_)
    obtain ⟨gg7u2, rfl⟩ : ∃ q9, q9 = u9 := ⟨_, rfl⟩
    have hpu2 : (∀ z8, z8 ≠ (100 + i) → z8 ≠ (150 + i) → z8 ≠ 50 → z8 ≠ 51 → gg7u2 z8 = g2 z8) ∧ WHO cT ad gg7u2 (100 + i) (150 + i) 24 (xF F (rwf vv i) (tg i).toInt k9) ∧ ∃ z8, WHO cT ad gg7u2 50 51 24 z8 := hpu2
    have hP : va_P D vwCl ([] ++ pg cds ad gg7u2) _ := hP
    have hD : va_D A ([] ++ pg cds ad gg7u2) := hD
    obtain ⟨jF, jW, jL⟩ := hpu2
    refine lv_iinc (k := 2) (v := nI (i + 1)) hx hb dR_leaveAll_25 hl rfl (nI_1 i) (by decide) rfl (fun ls hl => ?_)
    have hl : lv_has ls 3 [(2, .int (nI (i + 1))), (0, .ref (ad 0)), (1, .int (nI k9))] := hl
    refine lv_goto (tgt := 2) hx hb dR_leaveAll_28 rfl ?_
    exact ih2 (i + 1, gg7u2) (show (i + 1) ≤ n ∧ (∀ z8, (z8 < 100 ∨ 200 ≤ z8) → z8 ≠ 50 → z8 ≠ 51 → gg7u2 z8 = gg z8) ∧ (∀ j, j < 48 → ∃ z8, WHO cT ad gg7u2 (100 + j) (150 + j) 24 z8 ∧ (j < (i + 1) → z8 = xR F vv tg k9 j)) ∧ ∃ z8, WHO cT ad gg7u2 50 51 24 z8 from ⟨by omega, fun z8 n1 n2 n3 => (jF z8 (by omega) (by omega) n2 n3).trans (iF z8 n1 n2 n3), fun j hj => (by by_cases q9 : j = i; (subst q9; exact ⟨_, jW, fun _ => rfl⟩); (obtain ⟨z, b1, b2⟩ := iR j hj; exact ⟨z, b1.cg (jF _ (by omega) (by omega) (by omega) (by omega)) (jF _ (by omega) (by omega) (by omega) (by omega)), fun r => b2 (by omega)⟩)), jL⟩) (show n - (i + 1) < n - i from (by omega)) ls H locs (lv_sub hl [1, 2, 0] rfl) hP hD hS
set_option maxHeartbeats 4000000 in
set_option maxRecDepth 100000 in
theorem k_setScales (l : Launch) (D : va_G) (cT : Nat → ClassId) (cds : List Nat) (ad : Nat → Nat) (gg : Nat → Option va_E) (tc : Int32) (wd9 : Int32) (rw9 : Int32) (xa : Nat) (xw : Nat) (R9 : Nat) (fm : Nat) (F : TFR) (T : Nat) (k9 : Nat) (zu : Int) (hcd : CD cds) (hob : gg 0 = some (eOB ad tc)) (htb : gg 1 = some (eTB ad wd9 rw9)) (hFr : FRp cT ad gg fm) (hTm : T ≤ fm) (hTs : TRS cT ad gg F T) (hTOK : TOK F T) (hT16 : T ≤ 16) (hk9 : k9 ≤ T) (hxw : 41 ≤ xa ∧ xa < 1000 ∧ 41 ≤ xw ∧ xw < 1000 ∧ xw ≠ xa) (hR24 : 24 ≤ R9) (hR48 : R9 ≤ 48) (hL : WHO cT ad gg xa xw R9 zu) (sz : Nat) : Met l yR_setToScales WR_setToScales ({ frames := 3, cells := 0, slots := 0, locals := 64 } : Room) (RW D vwCl [.ref (ad 0), .ref (ad xa), .int (nI k9)] ([] ++ pg cds ad gg) (TY cT) sz) (va_Qv (fun u9 : (Nat → Option va_E) => (∀ z8, z8 ≠ xa → z8 ≠ xw → u9 z8 = gg z8) ∧ WHO cT ad u9 xa xw R9 ((Ppf F k9 : Nat) : Int)) (BW D vwCl (va_A ([] ++ pg cds ad gg) sz) (fun u9 : (Nat → Option va_E) => ([] ++ pg cds ad u9))) (va_A ([] ++ pg cds ad gg) sz)) 0 0 (va_A ([] ++ pg cds ad gg) sz) := by
  refine Met.ofW (cc := cR_setToScales) (maxL := 4) (ret := none) (by decide) rfl ?_
  intro p e s m args below meth c s₁ B hml hv
  obtain ⟨rfl, hsz, hZ, hP, hK, hD0⟩ := hv
  have hx := B.exec
  have hb := B.bytes
  have hr := B.returns
  have hts := atoms_spec (ws := WR_setToScales) B.pre
  have hT : ∀ w ∈ TB, w.before _ s = true := fun w h => hts w (List.mem_cons_of_mem _ h)
  have hown : s.vm.findClass R_R = some m.cls := findClass_of_methodNamed B.named
  have hlocks := B.notSynchronized
  subst hsz
  have hD := hD0.self (sz := s.heap.size)
  generalize hAe : va_A ([] ++ pg cds ad gg) s.heap.size = A at hD hZ ⊢
  have hA : ∀ q : Nat, s.heap.size ≤ q → A q := fun q h => by rw [← hAe]; exact Or.inr h
  have hS : va_S A s.heap s.heap [] := va_S.rf
  have hl := lv_entry ([.ref (ad 0), .ref (ad xa), .int (nI k9)]) (n := 4) (Nat.le_of_ble_eq_true rfl)
  rw [lg_entry_eq]
  generalize (lg_sl ([.ref (ad 0), .ref (ad xa), .int (nI k9)]) ++ List.replicate (4 - (lg_sl ([.ref (ad 0), .ref (ad xa), .int (nI k9)])).length) Slot.unset).toArray = ls at hl ⊢
  have hl : lv_has ls 4 [(0, .ref (ad 0)), (1, .ref (ad xa)), (2, .int (nI k9))] := hl
  obtain ⟨x1, x2, x3, x4, x5⟩ := hxw
  obtain ⟨wun, wub, wuf, wu1, wu2, wu3⟩ := hL
  refine lv_aload_n hx hb dR_setToScales_0 rfl (lv_at hl 1 rfl) ?_
  refine lv_iconst (v := 1) hx hb dR_setToScales_1 (by decide) ?_
  have hB9 : QI gg [(xa, .inr (4, [.ref (ad xw), .int wun, .int wub])), (xw, .inl (cT 0, R9, .inl wuf))] := (qi_c (by omega) wu1 (qi_c (by omega) wu2 qi_0))
  have hN9 := (show NDc [xa, xw] from (nd_c (na_c (by omega) na_0) (nd_c na_0 nd_0)))
  have hP := bo_P (wc := [(xa, .inr (4, [.ref (ad xw), .int wun, .int wub])), (xw, .inl (cT 0, R9, .inl wuf))]) (X := []) hcd hN9 hB9 hP
  have hD := bo_D (wc := [(xa, .inr (4, [.ref (ad xw), .int wun, .int wub])), (xw, .inl (cT 0, R9, .inl wuf))]) (X := []) hcd hN9 hB9 hD
  have hP : va_P D vwCl ([(ad xa, .inr (4, [.ref (ad xw), .int wun, .int wub])), (ad xw, .inl (cT 0, R9, .inl wuf))] ++ pg cds ad (upo gg [xa, xw])) _ := hP
  have hD : va_D A ([(ad xa, .inr (4, [.ref (ad xw), .int wun, .int wub])), (ad xw, .inl (cT 0, R9, .inl wuf))] ++ pg cds ad (upo gg [xa, xw])) := hD
  refine hy_vQ (X := [(ad xa, .inr (4, [.ref (ad xw), .int wun, .int wub])), (ad xw, .inl (cT 0, R9, .inl wuf))]) (pl := pg cds ad (upo gg [xa, xw])) (cx := [(ad xa, .inr (4, [.ref (ad xw), .int wun, .int wub])), (ad xw, .inl (cT 0, R9, .inl wuf))]) (wr := []) hP hD hS hA [0, 1] [] rfl rfl (by decide) (by decide) (va_runV (As := [.int 1]) (rest := []) ⟨hx, hb, hml, hown, hT⟩ (k_setI l D cT (ad xa) (ad xw) R9 wun wub wuf (1 : Int32) hR48 (by omega) (by decide) _) ⟨callB_of 1 hT (tb_gd w393) rfl rfl rfl (hT _ w5) (hT _ w390) hW_set ⟨Nat.le_of_ble_eq_true rfl, Nat.le_of_ble_eq_true rfl⟩, (hT _ w391), (hT _ w392)⟩ (RW.preV (ci := 4) (q0 := 0) hZ hS (hy_free (cx := [(ad xa, .inr (4, [.ref (ad xw), .int wun, .int wub])), (ad xw, .inl (cT 0, R9, .inl wuf))]) hD hS hA [0, 1] rfl) (hP.sub (ws' := [(ad xa, .inr (4, [.ref (ad xw), .int wun, .int wub])), (ad xw, .inl (cT 0, R9, .inl wuf))]) [0, 1] rfl) hK (hD.sub (ws' := [(ad xa, .inr (4, [.ref (ad xw), .int wun, .int wub])), (ad xw, .inl (cT 0, R9, .inl wuf))]) [0, 1] (by decide) rfl) rfl rfl) rfl rfl hl.1 rfl (lv_room (Nat.le_of_ble_eq_true rfl)) dR_setToScales_2 ⟨Nat.le_of_ble_eq_true rfl, Nat.le_of_ble_eq_true rfl⟩) (fun u9 H locs hpu1 hP hD hS => ?_)
  obtain ⟨n1u1, b1u1, f1u1⟩ := u9
  have hpu1 : WN R9 n1u1 b1u1 f1u1 (1 : Int32).toInt := hpu1
  have hP : va_P D vwCl ([(ad xa, .inr (4, [.ref (ad xw), .int n1u1, .int b1u1])), (ad xw, .inl (cT 0, R9, .inl f1u1))] ++ pg cds ad (upo gg [xa, xw])) _ := hP
  have hD : va_D A ([(ad xa, .inr (4, [.ref (ad xw), .int n1u1, .int b1u1])), (ad xw, .inl (cT 0, R9, .inl f1u1))] ++ pg cds ad (upo gg [xa, xw])) := hD
  have a1 : WN R9 n1u1 b1u1 f1u1 ((Ppf F 0 : Nat) : Int) := by have q9 := hpu1; rw [show (1 : Int32).toInt = 1 by decide] at q9; exact q9
  have hN9 := (show NDc [xa, xw] from (nd_c (na_c (by omega) na_0) (nd_c na_0 nd_0)))
  have hP := gb_P (w9 := [(xa, .inr (4, [.ref (ad xw), .int n1u1, .int b1u1])), (xw, .inl (cT 0, R9, .inl f1u1))]) (X := []) (g := gg) hcd hN9 (show QB [(xa, .inr (4, [.ref (ad xw), .int n1u1, .int b1u1])), (xw, .inl (cT 0, R9, .inl f1u1))] from (qb_c (by omega) (qb_c (by omega) qb_0))) (hP.part (cx := [(ad xa, .inr (4, [.ref (ad xw), .int n1u1, .int b1u1])), (ad xw, .inl (cT 0, R9, .inl f1u1))]) [0, 1] rfl)
  have hD := gb_D (w9 := [(xa, .inr (4, [.ref (ad xw), .int n1u1, .int b1u1])), (xw, .inl (cT 0, R9, .inl f1u1))]) (X := []) (g := gg) hcd hN9 (show QB [(xa, .inr (4, [.ref (ad xw), .int n1u1, .int b1u1])), (xw, .inl (cT 0, R9, .inl f1u1))] from (qb_c (by omega) (qb_c (by omega) qb_0))) (hD.part (cx := [(ad xa, .inr (4, [.ref (ad xw), .int n1u1, .int b1u1])), (ad xw, .inl (cT 0, R9, .inl f1u1))]) [0, 1] (by decide) rfl)
  obtain ⟨g1, hg1⟩ : ∃ q9, q9 = ups gg [(xa, .inr (4, [.ref (ad xw), .int n1u1, .int b1u1])), (xw, .inl (cT 0, R9, .inl f1u1))] := ⟨_, rfl⟩
  rw [← hg1] at hP hD
  have hP : va_P D vwCl ([] ++ pg cds ad g1) _ := hP
  have hD : va_D A ([] ++ pg cds ad g1) := hD
  have fg1 : ∀ z8, z8 ≠ xa → z8 ≠ xw → g1 z8 = gg z8 := fun z8 z1 z2 => by rw [hg1]; exact ups_k (kp_n z1 (kp_n z2 kp_0))
  have g1_0 : g1 xa = some (.inr (4, [.ref (ad xw), .int n1u1, .int b1u1])) := by rw [hg1]; exact ups_1
  have g1_1 : g1 xw = some (.inl (cT 0, R9, .inl f1u1)) := by rw [hg1]; exact ups_2 (by omega)
  refine lv_iconst (v := 0) hx hb dR_setToScales_5 (by decide) ?_
  refine lv_istore_n hx hb dR_setToScales_6 rfl hl (by decide) rfl (fun ls hl => ?_)
  have hl : lv_has ls 4 [(3, .int 0), (0, .ref (ad 0)), (1, .ref (ad xa)), (2, .int (nI k9))] := hl
  have hl : lv_has ls 4 [(3, .int (nI 0)), (0, .ref (ad 0)), (1, .ref (ad xa)), (2, .int (nI k9))] := by
    rw [(show nI 0 = 0 from rfl)]; exact hl
  refine lp_w (α := Nat × (Nat → Option va_E)) (fun a9 => a9.1 ≤ k9 ∧ (∀ z8, z8 ≠ xa → z8 ≠ xw → a9.2 z8 = gg z8) ∧ WHO cT ad a9.2 xa xw R9 ((Ppf F a9.1 : Nat) : Int)) (fun a9 => k9 - a9.1) (fun a9 => [(0, .ref (ad 0)), (1, .ref (ad xa)), (2, .int (nI k9)), (3, .int (nI a9.1))]) (fun a9 => ([] ++ pg cds ad a9.2)) 7 ?_ (0, g1) (show 0 ≤ k9 ∧ (∀ z8, z8 ≠ xa → z8 ≠ xw → g1 z8 = gg z8) ∧ WHO cT ad g1 xa xw R9 ((Ppf F 0 : Nat) : Int) from ⟨by omega, fg1, ⟨_, _, _, g1_0, g1_1, a1⟩⟩) (lv_sub hl [1, 2, 3, 0] rfl) hP hD hS
  intro a9 hI7 ih7 ls H locs hl hP hD hS
  obtain ⟨t, g2⟩ := a9
  have hI7 : t ≤ k9 ∧ (∀ z8, z8 ≠ xa → z8 ≠ xw → g2 z8 = gg z8) ∧ WHO cT ad g2 xa xw R9 ((Ppf F t : Nat) : Int) := hI7
  obtain ⟨it, iF, iW⟩ := hI7
  have hl : lv_has ls 4 [(0, .ref (ad 0)), (1, .ref (ad xa)), (2, .int (nI k9)), (3, .int (nI t))] := hl
  have hP : va_P D vwCl ([] ++ pg cds ad g2) _ := hP
  have hD : va_D A ([] ++ pg cds ad g2) := hD
  refine lv_iload_n hx hb dR_setToScales_7 rfl (lv_at hl 3 rfl) ?_
  refine lv_iload_n hx hb dR_setToScales_8 rfl (lv_at hl 2 rfl) ?_
  refine lv_icmp_ge (tgt := 36) hx hb dR_setToScales_9 rfl (fun h2 => ?_) (fun h2 => ?_)
  · have gh2 : k9 ≤ t := (nI_leI (a := k9) (b := t) (by omega) (by omega)).mp h2
    have hP9 : va_P D vwCl ([] ++ pg cds ad g2) _ := hP.part (cx := []) [] rfl
    have hD9 : va_D A ([] ++ pg cds ad g2) := hD.part (cx := []) [] (by decide) rfl
    refine W.widen (k := 0) (n := 0) (Nat.le_of_ble_eq_true rfl) (Nat.le_of_ble_eq_true rfl) ?_
    exact W.vret hx hb hr (fun t9 ht9 hW9 => ⟨⟨g2, rfl, (show (∀ z8, z8 ≠ xa → z8 ≠ xw → g2 z8 = gg z8) ∧ WHO cT ad g2 xa xw R9 ((Ppf F k9 : Nat) : Int) from ⟨iF, by rw [show k9 = t by omega]; exact iW⟩), by rw [ht9]; exact hP9, hD9⟩, hS.F ht9⟩) hS.2.2 dR_setToScales_36
  · have gh2 : t < k9 := Nat.not_le.mp (fun q => h2 ((nI_leI (a := k9) (b := t) (by omega) (by omega)).mpr q))
    have htk : t < k9 := by omega
    have hFr1 := hFr.cg (iF 9 (by omega) (by omega)) (iF 40 (by omega) (by omega))
    obtain ⟨fcap, fmd, flf, f1, f2, f3, f4, f5⟩ := hFr1.2 (by omega)
    have hTr1 := (hTs t (by omega)).cg (g2 := g2) (by omega) (fun z hz => iF z (by omega) (by omega))
    obtain ⟨mm, tr1, ⟨cap, md, lf, ls1, ls2, ls3, ls4, ls5⟩, tr3, tr4, tr5⟩ := hTr1
    obtain ⟨wqn, wqb, wqf, wq1, wq2, wq3⟩ := iW
    have hP1 := (Ppf_16 (t := t + 1) hTOK hT16 (by omega)).2
    have hsl := sca_le (hTOK.2 t (by omega))
    have hpc := xbc_3
    refine lv_aload_n hx hb dR_setToScales_12 rfl (lv_at hl 1 rfl) ?_
    refine lv_aload_n hx hb dR_setToScales_13 rfl (lv_at hl 0 rfl) ?_
    refine va_get (D := D) (ci := 0) (v := .ref (ad 9)) (C := R_R) (T := T_R) (N := 13) hx hb hT in_R hown hK (pg_1 (x := 0) hcd hP (by decide) ((iF 0 (by omega) (by omega)).trans hob)) 0 rfl rfl 4 (by decide) (hT _ w328) (fun _ h9 => h9) rfl dR_setToScales_14 ?_
    refine lv_iload_n hx hb dR_setToScales_17 rfl (lv_at hl 3 rfl) ?_
    refine ro_r (va_Run.run (va_runV (As := [.int (nI t)]) (rest := [.ref (ad xa)]) ⟨hx, hb, hml, hown, hT⟩ (k_alGet l D cT (ad 9) (ad 40) fm fmd fcap flf t (ad (1000 + t)) (by omega) f3 (by omega) (f5 _ (by omega))) ⟨callB_of 1 hT (tb_gd w401) rfl rfl rfl (hT _ w11) (hT _ w398) hAL_get ⟨Nat.le_of_ble_eq_true rfl, Nat.le_of_ble_eq_true rfl⟩, (hT _ w399), (hT _ w400)⟩ (RO.preV (ci := 12) (q0 := 0) hZ hS ((show va_P D vwCl [(ad 9, .inr (12, [.ref (ad 40), .int (nI fm), .int fmd])), (ad 40, .inl (cT 7, fcap, .inr (.inr (.inr (.inr flf)))))] _ from (pv_c (pg_1 (x := 9) hcd hP (by decide) f1) (pv_c (pg_1 (x := 40) hcd hP (by decide) f2) pv_0)))) hK rfl rfl) rfl rfl hl.1 rfl (lv_room (Nat.le_of_ble_eq_true rfl)) dR_setToScales_18 ⟨Nat.le_of_ble_eq_true rfl, Nat.le_of_ble_eq_true rfl⟩)) ?_
    refine va_castY (C := "ResidualTrees$Tree") hx hb hown (hT _ w412) (hZ.1.1 ("ResidualTrees$Tree", "ResidualTrees$Tree") (List.mem_of_getElem? (i := 2) rfl)) (va_recv (ci := 9) (q0 := 0) hK (pg_1 (x := 1000 + t) hcd hP (by omega) tr1) rfl rfl) dR_setToScales_21 ?_
    refine va_get (D := D) (ci := 9) (v := .long (lN (sca F t))) (C := R_Tr) (T := T_Tr) (N := 6) hx hb hT in_Tr hown hK (pg_1 (x := 1000 + t) hcd hP (by omega) tr1) 0 rfl rfl 5 (by decide) (hT _ w740) (fun _ h9 => h9) rfl dR_setToScales_24 ?_
    have hB9 : QI g2 [(xa, .inr (4, [.ref (ad xw), .int wqn, .int wqb])), (xw, .inl (cT 0, R9, .inl wqf))] := (qi_c (by omega) wq1 (qi_c (by omega) wq2 qi_0))
    have hN9 := (show NDc [xa, xw] from (nd_c (na_c (by omega) na_0) (nd_c na_0 nd_0)))
    have hP := bo_P (wc := [(xa, .inr (4, [.ref (ad xw), .int wqn, .int wqb])), (xw, .inl (cT 0, R9, .inl wqf))]) (X := []) hcd hN9 hB9 hP
    have hD := bo_D (wc := [(xa, .inr (4, [.ref (ad xw), .int wqn, .int wqb])), (xw, .inl (cT 0, R9, .inl wqf))]) (X := []) hcd hN9 hB9 hD
    have hP : va_P D vwCl ([(ad xa, .inr (4, [.ref (ad xw), .int wqn, .int wqb])), (ad xw, .inl (cT 0, R9, .inl wqf))] ++ pg cds ad (upo g2 [xa, xw])) _ := hP
    have hD : va_D A ([(ad xa, .inr (4, [.ref (ad xw), .int wqn, .int wqb])), (ad xw, .inl (cT 0, R9, .inl wqf))] ++ pg cds ad (upo g2 [xa, xw])) := hD
    refine hy_vQ (X := [(ad xa, .inr (4, [.ref (ad xw), .int wqn, .int wqb])), (ad xw, .inl (cT 0, R9, .inl wqf))]) (pl := pg cds ad (upo g2 [xa, xw])) (cx := [(ad xa, .inr (4, [.ref (ad xw), .int wqn, .int wqb])), (ad xw, .inl (cT 0, R9, .inl wqf))]) (wr := []) hP hD hS hA [0, 1] [] rfl rfl (by decide) (by decide) (va_runV (As := [.long (lN (sca F t))]) (rest := []) ⟨hx, hb, hml, hown, hT⟩ (k_times l D cT (ad xa) (ad xw) R9 wqn wqb wqf ((Ppf F t : Nat) : Int) (sca F t) hR48 wq3 (by omega) (p24 (Nat.lt_of_le_of_lt (show Ppf F t * sca F t ≤ PBc from hP1) hpc) hR24) _) ⟨callB_of 1 hT (tb_gd w420) rfl rfl rfl (hT _ w5) (hT _ w417) hW_times ⟨Nat.le_of_ble_eq_true rfl, Nat.le_of_ble_eq_true rfl⟩, (hT _ w418), (hT _ w419)⟩ (RW.preV (ci := 4) (q0 := 0) hZ hS (hy_free (cx := [(ad xa, .inr (4, [.ref (ad xw), .int wqn, .int wqb])), (ad xw, .inl (cT 0, R9, .inl wqf))]) hD hS hA [0, 1] rfl) (hP.sub (ws' := [(ad xa, .inr (4, [.ref (ad xw), .int wqn, .int wqb])), (ad xw, .inl (cT 0, R9, .inl wqf))]) [0, 1] rfl) hK (hD.sub (ws' := [(ad xa, .inr (4, [.ref (ad xw), .int wqn, .int wqb])), (ad xw, .inl (cT 0, R9, .inl wqf))]) [0, 1] (by decide) rfl) rfl rfl) rfl rfl hl.1 rfl (lv_room (Nat.le_of_ble_eq_true rfl)) dR_setToScales_27 ⟨Nat.le_of_ble_eq_true rfl, Nat.le_of_ble_eq_true rfl⟩) (fun u9 H locs hpu3 hP hD hS => ?_)
    obtain ⟨n1u3, f1u3⟩ := u9
    have hpu3 : WN R9 n1u3 wqb f1u3 (((Ppf F t : Nat) : Int) * (sca F t)) := hpu3
    have hP : va_P D vwCl ([(ad xa, .inr (4, [.ref (ad xw), .int n1u3, .int wqb])), (ad xw, .inl (cT 0, R9, .inl f1u3))] ++ pg cds ad (upo g2 [xa, xw])) _ := hP
    have hD : va_D A ([(ad xa, .inr (4, [.ref (ad xw), .int n1u3, .int wqb])), (ad xw, .inl (cT 0, R9, .inl f1u3))] ++ pg cds ad (upo g2 [xa, xw])) := hD
    have a3 : WN R9 n1u3 wqb f1u3 ((Ppf F (t + 1) : Nat) : Int) := by have q9 := hpu3; rw [show ((Ppf F t : Nat) : Int) * ((sca F t : Nat) : Int) = ((Ppf F (t + 1) : Nat) : Int) from (Int.natCast_mul _ _).symm] at q9; exact q9
    have hN9 := (show NDc [xa, xw] from (nd_c (na_c (by omega) na_0) (nd_c na_0 nd_0)))
    have hP := gb_P (w9 := [(xa, .inr (4, [.ref (ad xw), .int n1u3, .int wqb])), (xw, .inl (cT 0, R9, .inl f1u3))]) (X := []) (g := g2) hcd hN9 (show QB [(xa, .inr (4, [.ref (ad xw), .int n1u3, .int wqb])), (xw, .inl (cT 0, R9, .inl f1u3))] from (qb_c (by omega) (qb_c (by omega) qb_0))) (hP.part (cx := [(ad xa, .inr (4, [.ref (ad xw), .int n1u3, .int wqb])), (ad xw, .inl (cT 0, R9, .inl f1u3))]) [0, 1] rfl)
    have hD := gb_D (w9 := [(xa, .inr (4, [.ref (ad xw), .int n1u3, .int wqb])), (xw, .inl (cT 0, R9, .inl f1u3))]) (X := []) (g := g2) hcd hN9 (show QB [(xa, .inr (4, [.ref (ad xw), .int n1u3, .int wqb])), (xw, .inl (cT 0, R9, .inl f1u3))] from (qb_c (by omega) (qb_c (by omega) qb_0))) (hD.part (cx := [(ad xa, .inr (4, [.ref (ad xw), .int n1u3, .int wqb])), (ad xw, .inl (cT 0, R9, .inl f1u3))]) [0, 1] (by decide) rfl)
    obtain ⟨g3, hg3⟩ : ∃ q9, q9 = ups g2 [(xa, .inr (4, [.ref (ad xw), .int n1u3, .int wqb])), (xw, .inl (cT 0, R9, .inl f1u3))] := ⟨_, rfl⟩
    rw [← hg3] at hP hD
    have hP : va_P D vwCl ([] ++ pg cds ad g3) _ := hP
    have hD : va_D A ([] ++ pg cds ad g3) := hD
    have fg3 : ∀ z8, z8 ≠ xa → z8 ≠ xw → g3 z8 = g2 z8 := fun z8 z1 z2 => by rw [hg3]; exact ups_k (kp_n z1 (kp_n z2 kp_0))
    have g3_0 : g3 xa = some (.inr (4, [.ref (ad xw), .int n1u3, .int wqb])) := by rw [hg3]; exact ups_1
    have g3_1 : g3 xw = some (.inl (cT 0, R9, .inl f1u3)) := by rw [hg3]; exact ups_2 (by omega)
    refine lv_iinc (k := 3) (v := nI (t + 1)) hx hb dR_setToScales_30 hl rfl (nI_1 t) (by decide) rfl (fun ls hl => ?_)
    have hl : lv_has ls 4 [(3, .int (nI (t + 1))), (0, .ref (ad 0)), (1, .ref (ad xa)), (2, .int (nI k9))] := hl
    refine lv_goto (tgt := 7) hx hb dR_setToScales_33 rfl ?_
    exact ih7 (t + 1, g3) (show (t + 1) ≤ k9 ∧ (∀ z8, z8 ≠ xa → z8 ≠ xw → g3 z8 = gg z8) ∧ WHO cT ad g3 xa xw R9 ((Ppf F (t + 1) : Nat) : Int) from ⟨by omega, fun z8 n1 n2 => (fg3 z8 n1 n2).trans (iF z8 n1 n2), ⟨_, _, _, g3_0, g3_1, a3⟩⟩) (show k9 - (t + 1) < k9 - t from (by omega)) ls H locs (lv_sub hl [1, 2, 3, 0] rfl) hP hD hS
