set_option maxHeartbeats 4000000 in
set_option maxRecDepth 100000 in
theorem k_settle (l : Launch) (D : va_G) (cT : Nat → ClassId) (cds : List Nat) (ad : Nat → Nat) (gg : Nat → Option va_E) (F : TFR) (t : Nat) (sc0 : Int64) (tw0 : Int32) (tu0 : Int32) (tl0 : Int32) (pd : Int32) (pl9 : Int32) (psb : Int64) (pcb : Int32) (hcd : CD cds) (htr : gg (1000 + t) = some (eTR (ad (1020 + t)) (nI (tM F t)) tw0 tu0 tl0 sc0)) (hTn : ∃ m, LSp cT ad gg t m ∧ tM F t ≤ m ∧ m ≤ 31 ∧ ∀ k, k < tM F t → NDp ad gg (tA F) t k ∧ WHO cT ad gg (3000 + 32 * t + k) (4000 + 32 * t + k) 24 (tS F t k)) (ht16 : t < 16) (hT1 : TOK1 F t) (hpl : gg 4 = some (ePL pd pl9 (nI (tW F t)) (nI (tU F t)) (nI (tL F t)) psb pcb)) (sz : Nat) : Met l yTr_settle WTr_settle ({ frames := 3, cells := 0, slots := 0, locals := 64 } : Room) (RW D vwCl [.ref (ad (1000 + t)), .ref (ad 4)] ([] ++ pg cds ad gg) (TY cT) sz) (va_Qv (fun u9 : (Nat → Option va_E) => (∀ z8, z8 ≠ 1000 + t → u9 z8 = gg z8) ∧ u9 (1000 + t) = some (eTR (ad (1020 + t)) (nI (tM F t)) (nI (tW F t)) (nI (tU F t)) (nI (tL F t)) (lN (sca F t)))) (BW D vwCl (va_A ([] ++ pg cds ad gg) sz) (fun u9 : (Nat → Option va_E) => ([] ++ pg cds ad u9))) (va_A ([] ++ pg cds ad gg) sz)) 0 0 (va_A ([] ++ pg cds ad gg) sz) := by
  refine Met.ofW (cc := cTr_settle) (maxL := 7) (ret := none) (by decide) rfl ?_
  intro p e s m args below meth c s₁ B hml hv
  obtain ⟨rfl, hsz, hZ, hP, hK, hD0⟩ := hv
  have hx := B.exec
  have hb := B.bytes
  have hr := B.returns
  have hts := atoms_spec (ws := WTr_settle) B.pre
  have hT : ∀ w ∈ TB, w.before _ s = true := fun w h => hts w (List.mem_cons_of_mem _ h)
  have hown : s.vm.findClass R_Tr = some m.cls := findClass_of_methodNamed B.named
  have hlocks := B.notSynchronized
  subst hsz
  have hD := hD0.self (sz := s.heap.size)
  generalize hAe : va_A ([] ++ pg cds ad gg) s.heap.size = A at hD hZ ⊢
  have hA : ∀ q : Nat, s.heap.size ≤ q → A q := fun q h => by rw [← hAe]; exact Or.inr h
  have hS : va_S A s.heap s.heap [] := va_S.rf
  have hl := lv_entry ([.ref (ad (1000 + t)), .ref (ad 4)]) (n := 7) (Nat.le_of_ble_eq_true rfl)
  rw [lg_entry_eq]
  generalize (lg_sl ([.ref (ad (1000 + t)), .ref (ad 4)]) ++ List.replicate (7 - (lg_sl ([.ref (ad (1000 + t)), .ref (ad 4)])).length) Slot.unset).toArray = ls at hl ⊢
  have hl : lv_has ls 7 [(0, .ref (ad (1000 + t))), (1, .ref (ad 4))] := hl
  obtain ⟨mm, ⟨cap, md, lf, ls1, ls2, ls3, ls4, ls5⟩, tr3, tr4, tr5⟩ := hTn
  have hm31 := hT1.1.2.1
  have hrt := hT1.2.1
  have hw20 := hT1.2.2.1
  have hB9 : QI gg [(1000 + t, .inr (9, [.ref (ad (1020 + t)), .int (nI (tM F t)), .int tw0, .int tu0, .int tl0, .long sc0]))] := (qi_c (by omega) htr qi_0)
  have hN9 := (show NDc [1000 + t] from (nd_c na_0 nd_0))
  have hP := bo_P (wc := [(1000 + t, .inr (9, [.ref (ad (1020 + t)), .int (nI (tM F t)), .int tw0, .int tu0, .int tl0, .long sc0]))]) (X := []) hcd hN9 hB9 hP
  have hD := bo_D (wc := [(1000 + t, .inr (9, [.ref (ad (1020 + t)), .int (nI (tM F t)), .int tw0, .int tu0, .int tl0, .long sc0]))]) (X := []) hcd hN9 hB9 hD
  have hP : va_P D vwCl ([(ad (1000 + t), .inr (9, [.ref (ad (1020 + t)), .int (nI (tM F t)), .int tw0, .int tu0, .int tl0, .long sc0]))] ++ pg cds ad (upo gg [1000 + t])) _ := hP
  have hD : va_D A ([(ad (1000 + t), .inr (9, [.ref (ad (1020 + t)), .int (nI (tM F t)), .int tw0, .int tu0, .int tl0, .long sc0]))] ++ pg cds ad (upo gg [1000 + t])) := hD
  refine lv_aload_n hx hb dTr_settle_0 rfl (lv_at hl 0 rfl) ?_
  refine lv_aload_n hx hb dTr_settle_1 rfl (lv_at hl 1 rfl) ?_
  refine va_get (D := D) (ci := 3) (v := .int (nI (tW F t))) (C := R_P) (T := T_P) (N := 7) hx hb hT in_P hown hK (pg_1 (x := 4) hcd hP (by decide) ((upo_o (na_c (by omega) na_0)).trans hpl)) 0 rfl rfl 2 (by decide) (hT _ w106) (fun _ h9 => h9) rfl dTr_settle_2 ?_
  refine va_put (D := D) (ci := 9) (v := .int (nI (tW F t))) (ty := .int) (C := R_Tr) (T := T_Tr) (N := 6) hx hb hT in_Tr ty_Tr ty_Tr_ok m_Tr hown hK hP hD hS 0 rfl rfl 2 (by decide) (hT _ w733) (fun _ h9 => h9) rfl (by decide +kernel) rfl rfl (Nat.le_of_ble_eq_true rfl) dTr_settle_5 (fun H locs hP hD hS => ?_)
  have hP : va_P D vwCl ([(ad (1000 + t), .inr (9, [.ref (ad (1020 + t)), .int (nI (tM F t)), .int (nI (tW F t)), .int tu0, .int tl0, .long sc0]))] ++ pg cds ad (upo gg [1000 + t])) _ := hP
  have hD : va_D A ([(ad (1000 + t), .inr (9, [.ref (ad (1020 + t)), .int (nI (tM F t)), .int (nI (tW F t)), .int tu0, .int tl0, .long sc0]))] ++ pg cds ad (upo gg [1000 + t])) := hD
  refine lv_aload_n hx hb dTr_settle_8 rfl (lv_at hl 0 rfl) ?_
  refine lv_aload_n hx hb dTr_settle_9 rfl (lv_at hl 1 rfl) ?_
  refine va_get (D := D) (ci := 3) (v := .int (nI (tU F t))) (C := R_P) (T := T_P) (N := 7) hx hb hT in_P hown hK (pg_1 (x := 4) hcd hP (by decide) ((upo_o (na_c (by omega) na_0)).trans hpl)) 0 rfl rfl 3 (by decide) (hT _ w110) (fun _ h9 => h9) rfl dTr_settle_10 ?_
  refine va_put (D := D) (ci := 9) (v := .int (nI (tU F t))) (ty := .int) (C := R_Tr) (T := T_Tr) (N := 6) hx hb hT in_Tr ty_Tr ty_Tr_ok m_Tr hown hK hP hD hS 0 rfl rfl 3 (by decide) (hT _ w735) (fun _ h9 => h9) rfl (by decide +kernel) rfl rfl (Nat.le_of_ble_eq_true rfl) dTr_settle_13 (fun H locs hP hD hS => ?_)
  have hP : va_P D vwCl ([(ad (1000 + t), .inr (9, [.ref (ad (1020 + t)), .int (nI (tM F t)), .int (nI (tW F t)), .int (nI (tU F t)), .int tl0, .long sc0]))] ++ pg cds ad (upo gg [1000 + t])) _ := hP
  have hD : va_D A ([(ad (1000 + t), .inr (9, [.ref (ad (1020 + t)), .int (nI (tM F t)), .int (nI (tW F t)), .int (nI (tU F t)), .int tl0, .long sc0]))] ++ pg cds ad (upo gg [1000 + t])) := hD
  refine lv_aload_n hx hb dTr_settle_16 rfl (lv_at hl 0 rfl) ?_
  refine lv_aload_n hx hb dTr_settle_17 rfl (lv_at hl 1 rfl) ?_
  refine va_get (D := D) (ci := 3) (v := .int (nI (tL F t))) (C := R_P) (T := T_P) (N := 7) hx hb hT in_P hown hK (pg_1 (x := 4) hcd hP (by decide) ((upo_o (na_c (by omega) na_0)).trans hpl)) 0 rfl rfl 4 (by decide) (hT _ w113) (fun _ h9 => h9) rfl dTr_settle_18 ?_
  refine va_put (D := D) (ci := 9) (v := .int (nI (tL F t))) (ty := .int) (C := R_Tr) (T := T_Tr) (N := 6) hx hb hT in_Tr ty_Tr ty_Tr_ok m_Tr hown hK hP hD hS 0 rfl rfl 4 (by decide) (hT _ w737) (fun _ h9 => h9) rfl (by decide +kernel) rfl rfl (Nat.le_of_ble_eq_true rfl) dTr_settle_21 (fun H locs hP hD hS => ?_)
  have hP : va_P D vwCl ([(ad (1000 + t), .inr (9, [.ref (ad (1020 + t)), .int (nI (tM F t)), .int (nI (tW F t)), .int (nI (tU F t)), .int (nI (tL F t)), .long sc0]))] ++ pg cds ad (upo gg [1000 + t])) _ := hP
  have hD : va_D A ([(ad (1000 + t), .inr (9, [.ref (ad (1020 + t)), .int (nI (tM F t)), .int (nI (tW F t)), .int (nI (tU F t)), .int (nI (tL F t)), .long sc0]))] ++ pg cds ad (upo gg [1000 + t])) := hD
  refine lv_aload_n hx hb dTr_settle_24 rfl (lv_at hl 0 rfl) ?_
  refine lv_lconst (v := 1) hx hb dTr_settle_25 (by decide) ?_
  refine va_put (D := D) (ci := 9) (v := .long 1) (ty := .long) (C := R_Tr) (T := T_Tr) (N := 6) hx hb hT in_Tr ty_Tr ty_Tr_ok m_Tr hown hK hP hD hS 0 rfl rfl 5 (by decide) (hT _ w739) (fun _ h9 => h9) rfl (by decide +kernel) rfl rfl (Nat.le_of_ble_eq_true rfl) dTr_settle_26 (fun H locs hP hD hS => ?_)
  have hP : va_P D vwCl ([(ad (1000 + t), .inr (9, [.ref (ad (1020 + t)), .int (nI (tM F t)), .int (nI (tW F t)), .int (nI (tU F t)), .int (nI (tL F t)), .long 1]))] ++ pg cds ad (upo gg [1000 + t])) _ := hP
  have hD : va_D A ([(ad (1000 + t), .inr (9, [.ref (ad (1020 + t)), .int (nI (tM F t)), .int (nI (tW F t)), .int (nI (tU F t)), .int (nI (tL F t)), .long 1]))] ++ pg cds ad (upo gg [1000 + t])) := hD
  have hN9 := (show NDc [1000 + t] from (nd_c na_0 nd_0))
  have hP := gb_P (w9 := [(1000 + t, .inr (9, [.ref (ad (1020 + t)), .int (nI (tM F t)), .int (nI (tW F t)), .int (nI (tU F t)), .int (nI (tL F t)), .long 1]))]) (X := []) (g := gg) hcd hN9 (show QB [(1000 + t, .inr (9, [.ref (ad (1020 + t)), .int (nI (tM F t)), .int (nI (tW F t)), .int (nI (tU F t)), .int (nI (tL F t)), .long 1]))] from (qb_c (by omega) qb_0)) (hP.part (cx := [(ad (1000 + t), .inr (9, [.ref (ad (1020 + t)), .int (nI (tM F t)), .int (nI (tW F t)), .int (nI (tU F t)), .int (nI (tL F t)), .long 1]))]) [0] rfl)
  have hD := gb_D (w9 := [(1000 + t, .inr (9, [.ref (ad (1020 + t)), .int (nI (tM F t)), .int (nI (tW F t)), .int (nI (tU F t)), .int (nI (tL F t)), .long 1]))]) (X := []) (g := gg) hcd hN9 (show QB [(1000 + t, .inr (9, [.ref (ad (1020 + t)), .int (nI (tM F t)), .int (nI (tW F t)), .int (nI (tU F t)), .int (nI (tL F t)), .long 1]))] from (qb_c (by omega) qb_0)) (hD.part (cx := [(ad (1000 + t), .inr (9, [.ref (ad (1020 + t)), .int (nI (tM F t)), .int (nI (tW F t)), .int (nI (tU F t)), .int (nI (tL F t)), .long 1]))]) [0] (by decide) rfl)
  obtain ⟨g1, hg1⟩ : ∃ q9, q9 = ups gg [(1000 + t, .inr (9, [.ref (ad (1020 + t)), .int (nI (tM F t)), .int (nI (tW F t)), .int (nI (tU F t)), .int (nI (tL F t)), .long 1]))] := ⟨_, rfl⟩
  rw [← hg1] at hP hD
  have hP : va_P D vwCl ([] ++ pg cds ad g1) _ := hP
  have hD : va_D A ([] ++ pg cds ad g1) := hD
  have fg1 : ∀ z8, z8 ≠ 1000 + t → g1 z8 = gg z8 := fun z8 z1 => by rw [hg1]; exact ups_k (kp_n z1 kp_0)
  have g1_0 : g1 (1000 + t) = some (.inr (9, [.ref (ad (1020 + t)), .int (nI (tM F t)), .int (nI (tW F t)), .int (nI (tU F t)), .int (nI (tL F t)), .long 1])) := by rw [hg1]; exact ups_1
  refine lv_iconst (v := 0) hx hb dTr_settle_29 (by decide) ?_
  refine lv_istore_n hx hb dTr_settle_30 rfl hl (by decide) rfl (fun ls hl => ?_)
  have hl : lv_has ls 7 [(2, .int 0), (0, .ref (ad (1000 + t))), (1, .ref (ad 4))] := hl
  have hl : lv_has ls 7 [(2, .int (nI 0)), (0, .ref (ad (1000 + t))), (1, .ref (ad 4))] := by
    rw [(show nI 0 = 0 from rfl)]; exact hl
  refine lp_w (α := Nat × (Nat → Option va_E)) (fun a9 => a9.1 ≤ tM F t ∧ (∀ z8, z8 ≠ 1000 + t → a9.2 z8 = gg z8) ∧ a9.2 (1000 + t) = some (eTR (ad (1020 + t)) (nI (tM F t)) (nI (tW F t)) (nI (tU F t)) (nI (tL F t)) (lN (scl F t a9.1)))) (fun a9 => tM F t - a9.1) (fun a9 => [(0, .ref (ad (1000 + t))), (1, .ref (ad 4)), (2, .int (nI a9.1))]) (fun a9 => ([] ++ pg cds ad a9.2)) 31 ?_ (0, g1) (show 0 ≤ tM F t ∧ (∀ z8, z8 ≠ 1000 + t → g1 z8 = gg z8) ∧ g1 (1000 + t) = some (eTR (ad (1020 + t)) (nI (tM F t)) (nI (tW F t)) (nI (tU F t)) (nI (tL F t)) (lN (scl F t 0))) from ⟨Nat.zero_le _, fun z8 n1 => fg1 z8 n1, g1_0⟩) (lv_sub hl [1, 2, 0] rfl) hP hD hS
  intro a9 hI31 ih31 ls H locs hl hP hD hS
  obtain ⟨i, g2⟩ := a9
  have hI31 : i ≤ tM F t ∧ (∀ z8, z8 ≠ 1000 + t → g2 z8 = gg z8) ∧ g2 (1000 + t) = some (eTR (ad (1020 + t)) (nI (tM F t)) (nI (tW F t)) (nI (tU F t)) (nI (tL F t)) (lN (scl F t i))) := hI31
  obtain ⟨ii, iF, i1⟩ := hI31
  have hl : lv_has ls 7 [(0, .ref (ad (1000 + t))), (1, .ref (ad 4)), (2, .int (nI i))] := hl
  have hP : va_P D vwCl ([] ++ pg cds ad g2) _ := hP
  have hD : va_D A ([] ++ pg cds ad g2) := hD
  refine lv_iload_n hx hb dTr_settle_31 rfl (lv_at hl 2 rfl) ?_
  refine lv_aload_n hx hb dTr_settle_32 rfl (lv_at hl 0 rfl) ?_
  refine va_get (D := D) (ci := 9) (v := .int (nI (tM F t))) (C := R_Tr) (T := T_Tr) (N := 6) hx hb hT in_Tr hown hK (pg_1 (x := 1000 + t) hcd hP (by omega) i1) 0 rfl rfl 1 (by decide) (hT _ w731) (fun _ h9 => h9) rfl dTr_settle_33 ?_
  refine lv_icmp_ge (tgt := 130) hx hb dTr_settle_36 rfl (fun h1 => ?_) (fun h1 => ?_)
  · have gh1 : tM F t ≤ i := (nI_leI (a := tM F t) (b := i) (by omega) (by omega)).mp h1
    have hP9 : va_P D vwCl ([] ++ pg cds ad g2) _ := hP.part (cx := []) [] rfl
    have hD9 : va_D A ([] ++ pg cds ad g2) := hD.part (cx := []) [] (by decide) rfl
    refine W.widen (k := 0) (n := 0) (Nat.le_of_ble_eq_true rfl) (Nat.le_of_ble_eq_true rfl) ?_
    exact W.vret hx hb hr (fun t9 ht9 hW9 => ⟨⟨g2, rfl, (show (∀ z8, z8 ≠ 1000 + t → g2 z8 = gg z8) ∧ g2 (1000 + t) = some (eTR (ad (1020 + t)) (nI (tM F t)) (nI (tW F t)) (nI (tU F t)) (nI (tL F t)) (lN (sca F t))) from ⟨iF, (by have q9 := i1; rw [show i = tM F t by omega] at q9; exact q9)⟩), by rw [ht9]; exact hP9, hD9⟩, hS.F ht9⟩) hS.2.2 dTr_settle_130
  · have gh1 : i < tM F t := Nat.not_le.mp (fun q => h1 ((nI_leI (a := tM F t) (b := i) (by omega) (by omega)).mpr q))
    have him : i < tM F t := by omega
    obtain ⟨hnd, hns⟩ := tr5 i him
    have hns2 := hns.cg (g2 := g2) (iF _ (by omega)) (iF _ (by omega))
    obtain ⟨wnn, wnb, wnf, wn1, wn2, wn3⟩ := hns2
    have hnr := (hT1.2.2.2.2 i him).1.1
    have hnb := (hT1.2.2.2.2 i him).2.1
    have hup := unr_pos hT1 him
    have hub : unr F t i ≤ 16 * 68 := Nat.mul_le_mul (by omega) (by omega)
    have hsc := scl_le hT1 (show i ≤ tM F t by omega)
    have hs0 := scl_pos (F := F) (t := t) (k := i) (fun j hj => unr_pos hT1 (by omega))
    refine lv_aload_n hx hb dTr_settle_39 rfl (lv_at hl 0 rfl) ?_
    refine va_get (D := D) (ci := 9) (v := .ref (ad (1020 + t))) (C := R_Tr) (T := T_Tr) (N := 6) hx hb hT in_Tr hown hK (pg_1 (x := 1000 + t) hcd hP (by omega) i1) 0 rfl rfl 0 (by decide) (hT _ w730) (fun _ h9 => h9) rfl dTr_settle_40 ?_
    refine lv_iload_n hx hb dTr_settle_43 rfl (lv_at hl 2 rfl) ?_
    refine ro_r (va_Run.run (va_runV (As := [.int (nI i)]) (rest := []) ⟨hx, hb, hml, hown, hT⟩ (k_alGet l D cT (ad (1020 + t)) (ad (1040 + t)) mm md cap lf i (ad (2000 + 32 * t + i)) (by omega) ls3 (by omega) (ls5 _ (by omega))) ⟨callB_of 1 hT (tb_gd w401) rfl rfl rfl (hT _ w11) (hT _ w426) hAL_get ⟨Nat.le_of_ble_eq_true rfl, Nat.le_of_ble_eq_true rfl⟩, (hT _ w399), (hT _ w400)⟩ (RO.preV (ci := 12) (q0 := 0) hZ hS ((show va_P D vwCl [(ad (1020 + t), .inr (12, [.ref (ad (1040 + t)), .int (nI mm), .int md])), (ad (1040 + t), .inl (cT 7, cap, .inr (.inr (.inr (.inr lf)))))] _ from (pv_c (pg_1 (x := 1020 + t) hcd hP (by omega) ((iF _ (by omega)).trans ls1)) (pv_c (pg_1 (x := 1040 + t) hcd hP (by omega) ((iF _ (by omega)).trans ls2)) pv_0)))) hK rfl rfl) rfl rfl hl.1 rfl (lv_room (Nat.le_of_ble_eq_true rfl)) dTr_settle_44 ⟨Nat.le_of_ble_eq_true rfl, Nat.le_of_ble_eq_true rfl⟩)) ?_
    refine va_castY (C := "ResidualTrees$Node") hx hb hown (hT _ w427) (hZ.1.1 ("ResidualTrees$Node", "ResidualTrees$Node") (List.mem_of_getElem? (i := 3) rfl)) (va_recv (ci := 10) (q0 := 0) hK (pg_1 (x := 2000 + 32 * t + i) hcd hP (by omega) ((iF _ (by omega)).trans hnd)) rfl rfl) dTr_settle_47 ?_
    refine lv_astore_n hx hb dTr_settle_50 rfl hl (by decide) rfl (fun ls hl => ?_)
    have hl : lv_has ls 7 [(3, .ref (ad (2000 + 32 * t + i))), (0, .ref (ad (1000 + t))), (1, .ref (ad 4)), (2, .int (nI i))] := hl
    refine lv_aload_n hx hb dTr_settle_51 rfl (lv_at hl 0 rfl) ?_
    refine va_get (D := D) (ci := 10) (v := .int (tA F 0 (31 * t + i))) (C := R_N) (T := T_N) (N := 9) hx hb hT in_N hown hK (pg_1 (x := 2000 + 32 * t + i) hcd hP (by omega) ((iF _ (by omega)).trans hnd)) 0 rfl rfl 0 (by decide) (hT _ w831) (fun _ h9 => h9) rfl dTr_settle_52 ?_
    refine lv_iconst (v := (-1)) hx hb dTr_settle_55 (by decide) ?_
    refine lv_icmp_ne (tgt := 124) hx hb dTr_settle_56 rfl (fun h2 => ?_) (fun h2 => ?_)
    · have hlf : ¬ tA F 0 (31 * t + i) = -1 := h2
      refine lv_iinc (k := 3) (v := nI (i + 1)) hx hb dTr_settle_124 hl rfl (nI_1 i) (by decide) rfl (fun ls hl => ?_)
      have hl : lv_has ls 7 [(2, .int (nI (i + 1))), (3, .ref (ad (2000 + 32 * t + i))), (0, .ref (ad (1000 + t))), (1, .ref (ad 4))] := hl
      refine lv_goto (tgt := 31) hx hb dTr_settle_127 rfl ?_
      exact ih31 (i + 1, g2) (show (i + 1) ≤ tM F t ∧ (∀ z8, z8 ≠ 1000 + t → g2 z8 = gg z8) ∧ g2 (1000 + t) = some (eTR (ad (1020 + t)) (nI (tM F t)) (nI (tW F t)) (nI (tU F t)) (nI (tL F t)) (lN (scl F t (i + 1)))) from ⟨by omega, iF, by rw [scl_n hlf]; exact i1⟩) (show tM F t - (i + 1) < tM F t - i from (by omega)) ls H locs (lv_sub hl [2, 3, 0] rfl) hP hD hS
    · have hlf : tA F 0 (31 * t + i) = -1 := h2
      refine lv_aload_n hx hb dTr_settle_59 rfl (lv_at hl 1 rfl) ?_
      refine va_get (D := D) (ci := 9) (v := .int (nI (tL F t))) (C := R_Tr) (T := T_Tr) (N := 6) hx hb hT in_Tr hown hK (pg_1 (x := 1000 + t) hcd hP (by omega) i1) 0 rfl rfl 4 (by decide) (hT _ w737) (fun _ h9 => h9) rfl dTr_settle_60 ?_
      refine lv_aload_n hx hb dTr_settle_63 rfl (lv_at hl 0 rfl) ?_
      refine va_get (D := D) (ci := 10) (v := .int (tA F 5 (31 * t + i))) (C := R_N) (T := T_N) (N := 9) hx hb hT in_N hown hK (pg_1 (x := 2000 + 32 * t + i) hcd hP (by omega) ((iF _ (by omega)).trans hnd)) 0 rfl rfl 6 (by decide) (hT _ w850) (fun _ h9 => h9) rfl dTr_settle_64 ?_
      refine lv_topi (fun y9 e9 => ?_)
      cases (show y9 = nI (nR F t i) from e9.trans hnr)
      refine lv_aload_n hx hb dTr_settle_67 rfl (lv_at hl 1 rfl) ?_
      refine va_get (D := D) (ci := 9) (v := .int (nI (tW F t))) (C := R_Tr) (T := T_Tr) (N := 6) hx hb hT in_Tr hown hK (pg_1 (x := 1000 + t) hcd hP (by omega) i1) 0 rfl rfl 2 (by decide) (hT _ w733) (fun _ h9 => h9) rfl dTr_settle_68 ?_
      refine lv_iadd hx hb dTr_settle_71 ?_
      refine lv_topi (fun y9 e9 => ?_)
      cases (show y9 = nI ((nR F t i) + (tW F t)) from e9.trans (nI_add (nR F t i) (tW F t)))
      refine lv_imul hx hb dTr_settle_72 ?_
      refine lv_topi (fun y9 e9 => ?_)
      cases (show y9 = nI ((tL F t) * ((nR F t i) + (tW F t))) from e9.trans (pk_mul (tL F t) ((nR F t i) + (tW F t))))
      refine lv_topi (fun y9 e9 => ?_)
      cases (show y9 = nI (unr F t i) from e9.trans rfl)
      obtain ⟨u9, hu9⟩ : ∃ q9 : Nat, q9 = unr F t i := ⟨_, rfl⟩
      refine lv_topi (fun y9 e9 => ?_)
      cases (show y9 = nI u9 from e9.trans (congrArg nI hu9.symm))
      rw [← hu9] at hup hub
      refine lv_istore hx hb dTr_settle_73 hl (by decide) rfl (fun ls hl => ?_)
      have hl : lv_has ls 7 [(4, .int (nI u9)), (3, .ref (ad (2000 + 32 * t + i))), (0, .ref (ad (1000 + t))), (1, .ref (ad 4)), (2, .int (nI i))] := hl
      refine lv_iload hx hb dTr_settle_75 (lv_at hl 0 rfl) ?_
      refine lv_i2l hx hb dTr_settle_77 rfl ?_
      refine lv_topl (fun y9 e9 => ?_)
      cases (show y9 = lN u9 from e9.trans (nI_l (n := u9) (by omega)))
      refine lv_iload hx hb dTr_settle_78 (lv_at hl 0 rfl) ?_
      refine lv_i2l hx hb dTr_settle_80 rfl ?_
      refine lv_topl (fun y9 e9 => ?_)
      cases (show y9 = lN u9 from e9.trans (nI_l (n := u9) (by omega)))
      refine lv_aload_n hx hb dTr_settle_81 rfl (lv_at hl 2 rfl) ?_
      refine va_get (D := D) (ci := 9) (v := .int (nI (tU F t))) (C := R_Tr) (T := T_Tr) (N := 6) hx hb hT in_Tr hown hK (pg_1 (x := 1000 + t) hcd hP (by omega) i1) 0 rfl rfl 3 (by decide) (hT _ w735) (fun _ h9 => h9) rfl dTr_settle_82 ?_
      refine lv_i2l hx hb dTr_settle_85 rfl ?_
      refine lv_topl (fun y9 e9 => ?_)
      cases (show y9 = lN (tU F t) from e9.trans (nI_l (n := tU F t) (by omega)))
      refine lv_aload_n hx hb dTr_settle_86 rfl (lv_at hl 1 rfl) ?_
      refine va_get (D := D) (ci := 10) (v := .ref (ad (3000 + 32 * t + i))) (C := R_N) (T := T_N) (N := 9) hx hb hT in_N hown hK (pg_1 (x := 2000 + 32 * t + i) hcd hP (by omega) ((iF _ (by omega)).trans hnd)) 0 rfl rfl 8 (by decide) (hT _ w857) (fun _ h9 => h9) rfl dTr_settle_87 ?_
      refine lv_iload hx hb dTr_settle_90 (lv_at hl 0 rfl) ?_
      refine ro_i (va_Run.run (va_runV (As := [.int (nI u9)]) (rest := [.long (lN (tU F t)), .long (lN u9), .long (lN u9)]) ⟨hx, hb, hml, hown, hT⟩ (k_rest l D cT (ad (3000 + 32 * t + i)) (ad (4000 + 32 * t + i)) 24 wnn wnb wnf (tS F t i) u9 (by decide) wn3 hup (by omega)) ⟨callB_of 1 hT (tb_gd w958) rfl rfl rfl (hT _ w5) (hT _ w955) hW_rest ⟨Nat.le_of_ble_eq_true rfl, Nat.le_of_ble_eq_true rfl⟩, (hT _ w956), (hT _ w957)⟩ (RO.preV (ci := 4) (q0 := 0) hZ hS ((show va_P D vwCl [(ad (3000 + 32 * t + i), .inr (4, [.ref (ad (4000 + 32 * t + i)), .int wnn, .int wnb])), (ad (4000 + 32 * t + i), .inl (cT 0, 24, .inl wnf))] _ from (pv_c (pg_1 (x := 3000 + 32 * t + i) hcd hP (by omega) wn1) (pv_c (pg_1 (x := 4000 + 32 * t + i) hcd hP (by omega) wn2) pv_0)))) hK rfl rfl) rfl rfl hl.1 rfl (lv_room (Nat.le_of_ble_eq_true rfl)) dTr_settle_92 ⟨Nat.le_of_ble_eq_true rfl, Nat.le_of_ble_eq_true rfl⟩)) ?_
      obtain ⟨r9, hr9⟩ : ∃ q9 : Nat, q9 = (tS F t i).natAbs % u9 := ⟨_, rfl⟩
      refine lv_topi (fun y9 e9 => ?_)
      cases (show y9 = nI r9 from e9.trans (congrArg nI hr9.symm))
      have hrl9 : r9 < u9 := by rw [hr9]; exact Nat.mod_lt _ hup
      have hur : tU F t * r9 ≤ 16 * 1088 := Nat.mul_le_mul (by omega) (by omega)
      refine lv_i2l hx hb dTr_settle_95 rfl ?_
      refine lv_topl (fun y9 e9 => ?_)
      cases (show y9 = lN r9 from e9.trans (nI_l (n := r9) (by omega)))
      refine lv_lmul hx hb dTr_settle_96 ?_
      refine lv_topl (fun y9 e9 => ?_)
      cases (show y9 = lN ((tU F t) * r9) from e9.trans (lN_mul (tU F t) r9))
      refine ro_l (va_Run.run (va_runSN (As := [.long (lN u9), .long (lN ((tU F t) * r9))]) (rest := [.long (lN u9)]) ⟨hx, hb, hml, hown, hT⟩ (k_gdiv l D cT u9 (tU F t * r9) (by omega) (by omega)) ⟨va_cnB 2 hT (tb_gd w442) rfl rfl rfl (hZ.1.2.1 ("ResidualTrees$Tree", 77, ⟨"ResidualTrees", "greatestDivisor", "(JJ)J"⟩, "ResidualTrees") (List.mem_of_getElem? (i := 6) rfl)) (hT _ w1) hR_greatestDivisor ⟨Nat.le_of_ble_eq_true rfl, Nat.le_of_ble_eq_true rfl⟩, (hT _ w441), trivial⟩ (RO.preS hZ hS ((show va_P D vwCl [] _ from fun _ _ h => nomatch h)) hK) rfl rfl hl.1 rfl (lv_room (Nat.le_of_ble_eq_true rfl)) dTr_settle_97 ⟨Nat.le_of_ble_eq_true rfl, Nat.le_of_ble_eq_true rfl⟩)) ?_
      have hgq : Nat.gcd u9 (tU F t * r9) = Nat.gcd (unr F t i) (tU F t * (tS F t i).natAbs) := by rw [hr9, gcd_rm, hu9]
      have hg0 : 0 < Nat.gcd u9 (tU F t * r9) := Nat.gcd_pos_of_pos_left _ hup
      have hgl : Nat.gcd u9 (tU F t * r9) ≤ u9 := Nat.le_of_dvd hup (Nat.gcd_dvd_left _ _)
      have hnd9 : u9 / Nat.gcd u9 (tU F t * r9) = ndd F t i := by unfold ndd; rw [hgq, hu9]
      have hdl : u9 / Nat.gcd u9 (tU F t * r9) ≤ u9 := Nat.div_le_self _ _
      have hdp : 0 < u9 / Nat.gcd u9 (tU F t * r9) := Nat.div_pos hgl hg0
      refine lv_ldiv hx hb dTr_settle_100 (fun q => absurd ((pk_lEQ (b := 0) (by omega) (by decide)).mp q) (by omega)) ?_
      refine lv_topl (fun y9 e9 => ?_)
      cases (show y9 = lN (u9 / (Nat.gcd u9 (tU F t * r9))) from e9.trans (pk_lDiv (a := u9) (b := Nat.gcd u9 (tU F t * r9)) (by omega) (by omega) (by omega)))
      obtain ⟨d9, hd9⟩ : ∃ q9 : Nat, q9 = u9 / Nat.gcd u9 (tU F t * r9) := ⟨_, rfl⟩
      refine lv_topl (fun y9 e9 => ?_)
      cases (show y9 = lN d9 from e9.trans (congrArg lN hd9.symm))
      rw [← hd9] at hnd9 hdl hdp
      refine lv_lstore hx hb dTr_settle_101 hl (by decide) rfl (fun ls hl => ?_)
      have hl : lv_has ls 7 [(5, .long (lN d9)), (4, .int (nI u9)), (3, .ref (ad (2000 + 32 * t + i))), (0, .ref (ad (1000 + t))), (1, .ref (ad 4)), (2, .int (nI i))] := hl
      refine lv_aload_n hx hb dTr_settle_103 rfl (lv_at hl 3 rfl) ?_
      refine lv_aload_n hx hb dTr_settle_104 rfl (lv_at hl 3 rfl) ?_
      refine va_get (D := D) (ci := 9) (v := .long (lN (scl F t i))) (C := R_Tr) (T := T_Tr) (N := 6) hx hb hT in_Tr hown hK (pg_1 (x := 1000 + t) hcd hP (by omega) i1) 0 rfl rfl 5 (by decide) (hT _ w739) (fun _ h9 => h9) rfl dTr_settle_105 ?_
      refine lv_aload_n hx hb dTr_settle_108 rfl (lv_at hl 3 rfl) ?_
      refine va_get (D := D) (ci := 9) (v := .long (lN (scl F t i))) (C := R_Tr) (T := T_Tr) (N := 6) hx hb hT in_Tr hown hK (pg_1 (x := 1000 + t) hcd hP (by omega) i1) 0 rfl rfl 5 (by decide) (hT _ w739) (fun _ h9 => h9) rfl dTr_settle_109 ?_
      refine lv_lload hx hb dTr_settle_112 (lv_at hl 0 rfl) ?_
      refine ro_l (va_Run.run (va_runSN (As := [.long (lN (scl F t i)), .long (lN d9)]) (rest := [.long (lN (scl F t i)), .ref (ad (1000 + t))]) ⟨hx, hb, hml, hown, hT⟩ (k_gdiv l D cT (scl F t i) d9 (by omega) (by omega)) ⟨va_cnB 2 hT (tb_gd w442) rfl rfl rfl (hZ.1.2.1 ("ResidualTrees$Tree", 77, ⟨"ResidualTrees", "greatestDivisor", "(JJ)J"⟩, "ResidualTrees") (List.mem_of_getElem? (i := 6) rfl)) (hT _ w1) hR_greatestDivisor ⟨Nat.le_of_ble_eq_true rfl, Nat.le_of_ble_eq_true rfl⟩, (hT _ w441), trivial⟩ (RO.preS hZ hS ((show va_P D vwCl [] _ from fun _ _ h => nomatch h)) hK) rfl rfl hl.1 rfl (lv_room (Nat.le_of_ble_eq_true rfl)) dTr_settle_114 ⟨Nat.le_of_ble_eq_true rfl, Nat.le_of_ble_eq_true rfl⟩)) ?_
      have hg1 : 0 < Nat.gcd (scl F t i) d9 := Nat.gcd_pos_of_pos_left _ hs0
      have hg2 : Nat.gcd (scl F t i) d9 ≤ scl F t i := Nat.le_of_dvd hs0 (Nat.gcd_dvd_left _ _)
      have hlc : scl F t i / Nat.gcd (scl F t i) d9 * d9 = scl F t (i + 1) := by rw [lcm_dg, scl_y hlf, hnd9]
      refine lv_ldiv hx hb dTr_settle_117 (fun q => absurd ((pk_lEQ (b := 0) (by omega) (by decide)).mp q) (by omega)) ?_
      refine lv_topl (fun y9 e9 => ?_)
      cases (show y9 = lN ((scl F t i) / (Nat.gcd (scl F t i) d9)) from e9.trans (pk_lDiv (a := scl F t i) (b := Nat.gcd (scl F t i) d9) (by omega) (by omega) (by omega)))
      refine lv_lload hx hb dTr_settle_118 (lv_at hl 0 rfl) ?_
      refine lv_lmul hx hb dTr_settle_120 ?_
      refine lv_topl (fun y9 e9 => ?_)
      cases (show y9 = lN (((scl F t i) / (Nat.gcd (scl F t i) d9)) * d9) from e9.trans (lN_mul ((scl F t i) / (Nat.gcd (scl F t i) d9)) d9))
      refine lv_topl (fun y9 e9 => ?_)
      cases (show y9 = lN (scl F t (i + 1)) from e9.trans (congrArg lN hlc))
      have hB9 : QI g2 [(1000 + t, .inr (9, [.ref (ad (1020 + t)), .int (nI (tM F t)), .int (nI (tW F t)), .int (nI (tU F t)), .int (nI (tL F t)), .long (lN (scl F t i))]))] := (qi_c (by omega) i1 qi_0)
      have hN9 := (show NDc [1000 + t] from (nd_c na_0 nd_0))
      have hP := bo_P (wc := [(1000 + t, .inr (9, [.ref (ad (1020 + t)), .int (nI (tM F t)), .int (nI (tW F t)), .int (nI (tU F t)), .int (nI (tL F t)), .long (lN (scl F t i))]))]) (X := []) hcd hN9 hB9 hP
      have hD := bo_D (wc := [(1000 + t, .inr (9, [.ref (ad (1020 + t)), .int (nI (tM F t)), .int (nI (tW F t)), .int (nI (tU F t)), .int (nI (tL F t)), .long (lN (scl F t i))]))]) (X := []) hcd hN9 hB9 hD
      have hP : va_P D vwCl ([(ad (1000 + t), .inr (9, [.ref (ad (1020 + t)), .int (nI (tM F t)), .int (nI (tW F t)), .int (nI (tU F t)), .int (nI (tL F t)), .long (lN (scl F t i))]))] ++ pg cds ad (upo g2 [1000 + t])) _ := hP
      have hD : va_D A ([(ad (1000 + t), .inr (9, [.ref (ad (1020 + t)), .int (nI (tM F t)), .int (nI (tW F t)), .int (nI (tU F t)), .int (nI (tL F t)), .long (lN (scl F t i))]))] ++ pg cds ad (upo g2 [1000 + t])) := hD
      refine va_put (D := D) (ci := 9) (v := .long (lN (scl F t (i + 1)))) (ty := .long) (C := R_Tr) (T := T_Tr) (N := 6) hx hb hT in_Tr ty_Tr ty_Tr_ok m_Tr hown hK hP hD hS 0 rfl rfl 5 (by decide) (hT _ w739) (fun _ h9 => h9) rfl (by decide +kernel) rfl rfl (Nat.le_of_ble_eq_true rfl) dTr_settle_121 (fun H locs hP hD hS => ?_)
      have hP : va_P D vwCl ([(ad (1000 + t), .inr (9, [.ref (ad (1020 + t)), .int (nI (tM F t)), .int (nI (tW F t)), .int (nI (tU F t)), .int (nI (tL F t)), .long (lN (scl F t (i + 1)))]))] ++ pg cds ad (upo g2 [1000 + t])) _ := hP
      have hD : va_D A ([(ad (1000 + t), .inr (9, [.ref (ad (1020 + t)), .int (nI (tM F t)), .int (nI (tW F t)), .int (nI (tU F t)), .int (nI (tL F t)), .long (lN (scl F t (i + 1)))]))] ++ pg cds ad (upo g2 [1000 + t])) := hD
      have hN9 := (show NDc [1000 + t] from (nd_c na_0 nd_0))
      have hP := gb_P (w9 := [(1000 + t, .inr (9, [.ref (ad (1020 + t)), .int (nI (tM F t)), .int (nI (tW F t)), .int (nI (tU F t)), .int (nI (tL F t)), .long (lN (scl F t (i + 1)))]))]) (X := []) (g := g2) hcd hN9 (show QB [(1000 + t, .inr (9, [.ref (ad (1020 + t)), .int (nI (tM F t)), .int (nI (tW F t)), .int (nI (tU F t)), .int (nI (tL F t)), .long (lN (scl F t (i + 1)))]))] from (qb_c (by omega) qb_0)) (hP.part (cx := [(ad (1000 + t), .inr (9, [.ref (ad (1020 + t)), .int (nI (tM F t)), .int (nI (tW F t)), .int (nI (tU F t)), .int (nI (tL F t)), .long (lN (scl F t (i + 1)))]))]) [0] rfl)
      have hD := gb_D (w9 := [(1000 + t, .inr (9, [.ref (ad (1020 + t)), .int (nI (tM F t)), .int (nI (tW F t)), .int (nI (tU F t)), .int (nI (tL F t)), .long (lN (scl F t (i + 1)))]))]) (X := []) (g := g2) hcd hN9 (show QB [(1000 + t, .inr (9, [.ref (ad (1020 + t)), .int (nI (tM F t)), .int (nI (tW F t)), .int (nI (tU F t)), .int (nI (tL F t)), .long (lN (scl F t (i + 1)))]))] from (qb_c (by omega) qb_0)) (hD.part (cx := [(ad (1000 + t), .inr (9, [.ref (ad (1020 + t)), .int (nI (tM F t)), .int (nI (tW F t)), .int (nI (tU F t)), .int (nI (tL F t)), .long (lN (scl F t (i + 1)))]))]) [0] (by decide) rfl)
      obtain ⟨g3, hg3⟩ : ∃ q9, q9 = ups g2 [(1000 + t, .inr (9, [.ref (ad (1020 + t)), .int (nI (tM F t)), .int (nI (tW F t)), .int (nI (tU F t)), .int (nI (tL F t)), .long (lN (scl F t (i + 1)))]))] := ⟨_, rfl⟩
      rw [← hg3] at hP hD
      have hP : va_P D vwCl ([] ++ pg cds ad g3) _ := hP
      have hD : va_D A ([] ++ pg cds ad g3) := hD
      have fg3 : ∀ z8, z8 ≠ 1000 + t → g3 z8 = g2 z8 := fun z8 z1 => by rw [hg3]; exact ups_k (kp_n z1 kp_0)
      have g3_0 : g3 (1000 + t) = some (.inr (9, [.ref (ad (1020 + t)), .int (nI (tM F t)), .int (nI (tW F t)), .int (nI (tU F t)), .int (nI (tL F t)), .long (lN (scl F t (i + 1)))])) := by rw [hg3]; exact ups_1
      refine lv_iinc (k := 5) (v := nI (i + 1)) hx hb dTr_settle_124 hl rfl (nI_1 i) (by decide) rfl (fun ls hl => ?_)
      have hl : lv_has ls 7 [(2, .int (nI (i + 1))), (5, .long (lN d9)), (4, .int (nI u9)), (3, .ref (ad (2000 + 32 * t + i))), (0, .ref (ad (1000 + t))), (1, .ref (ad 4))] := hl
      refine lv_goto (tgt := 31) hx hb dTr_settle_127 rfl ?_
      exact ih31 (i + 1, g3) (show (i + 1) ≤ tM F t ∧ (∀ z8, z8 ≠ 1000 + t → g3 z8 = gg z8) ∧ g3 (1000 + t) = some (eTR (ad (1020 + t)) (nI (tM F t)) (nI (tW F t)) (nI (tU F t)) (nI (tL F t)) (lN (scl F t (i + 1)))) from ⟨by omega, fun z8 n1 => (fg3 z8 n1).trans (iF z8 n1), g3_0⟩) (show tM F t - (i + 1) < tM F t - i from (by omega)) ls H locs (lv_sub hl [4, 5, 0] rfl) hP hD hS
