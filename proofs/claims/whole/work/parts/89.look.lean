/-! The scale of a tree, as the class works it out. -/
theorem gcd_rm {u r s : Nat} : Nat.gcd u (r * (s % u)) = Nat.gcd u (r * s) := by
  have e : r * s = r * (s % u) + u * (r * (s / u)) := by
    have h := Nat.div_add_mod s u
    calc r * s = r * (u * (s / u) + s % u) := by rw [h]
      _ = r * (s % u) + u * (r * (s / u)) := by rw [Nat.mul_add, Nat.add_comm]; congr 1; ac_rfl
  rw [e, Nat.gcd_add_mul_left_right]
theorem lcm_dg {a b : Nat} : a / Nat.gcd a b * b = Nat.lcm a b := by
  show _ = a * b / Nat.gcd a b
  obtain ⟨k, hk⟩ := Nat.gcd_dvd_left a b
  rcases Nat.eq_zero_or_pos (Nat.gcd a b) with q | q
  · rw [q, Nat.div_zero, Nat.div_zero, Nat.zero_mul]
  · have e : a / Nat.gcd a b = k := by
      conv => lhs; lhs; rw [hk]
      exact Nat.mul_div_cancel_left _ q
    rw [e]
    conv => rhs; lhs; rw [hk]
    rw [Nat.mul_assoc, Nat.mul_div_cancel_left _ q]
theorem scl_dv {F : TFR} {t k : Nat} : ∀ j, scl F t k ∣ scl F t (k + j)
  | 0 => Nat.dvd_refl _
  | j + 1 => by
    have ih := scl_dv (F := F) (t := t) (k := k) j
    show scl F t k ∣ if _ then _ else _
    split
    · exact Nat.dvd_trans ih (Nat.dvd_lcm_left _ _)
    · exact ih
theorem scl_le {F : TFR} {t k : Nat} (h : TOK1 F t) (hk : k ≤ tM F t) : scl F t k ≤ 1788279292800 := by
  have h1 := scl_dv (F := F) (t := t) (k := k) (tM F t - k)
  rw [show k + (tM F t - k) = tM F t by omega] at h1
  exact Nat.le_trans (Nat.le_of_dvd (sca_pos h) h1) (sca_le h)
theorem scl_y {F : TFR} {t k : Nat} (h : tA F 0 (31 * t + k) = -1) : scl F t (k + 1) = Nat.lcm (scl F t k) (ndd F t k) := if_pos h
theorem scl_n {F : TFR} {t k : Nat} (h : ¬ tA F 0 (31 * t + k) = -1) : scl F t (k + 1) = scl F t k := if_neg h
set_option maxHeartbeats 4000000 in
set_option maxRecDepth 100000 in
theorem k_settle (l : Launch) (D : va_G) (cT : Nat → ClassId) (cds : List Nat) (ad : Nat → Nat) (gg : Nat → Option va_E) (F : TFR) (t : Nat) (sc0 : Int64) (tw0 : Int32) (tu0 : Int32) (tl0 : Int32) (pd : Int32) (pl9 : Int32) (psb : Int64) (pcb : Int32) (hcd : CD cds) (htr : gg (1000 + t) = some (eTR (ad (1020 + t)) (nI (tM F t)) tw0 tu0 tl0 sc0)) (hTn : ∃ m, LSp cT ad gg t m ∧ tM F t ≤ m ∧ m ≤ 31 ∧ ∀ k, k < tM F t → NDp ad gg (tA F) t k ∧ WHO cT ad gg (3000 + 32 * t + k) (4000 + 32 * t + k) 24 (tS F t k)) (ht16 : t < 16) (hT1 : TOK1 F t) (hpl : gg 4 = some (ePL pd pl9 (nI (tW F t)) (nI (tU F t)) (nI (tL F t)) psb pcb)) (sz : Nat) : Met l yTr_settle WTr_settle ({ frames := 3, cells := 0, slots := 0, locals := 64 } : Room) (RW D vwCl [.ref (ad (1000 + t)), .ref (ad 4)] ([] ++ pg cds ad gg) (TY cT) sz) (va_Qv (fun u9 : (Nat → Option va_E) => (∀ z8, z8 ≠ 1000 + t → u9 z8 = gg z8) ∧ u9 (1000 + t) = some (eTR (ad (1020 + t)) (nI (tM F t)) (nI (tW F t)) (nI (tU F t)) (nI (tL F t)) (lN (sca F t)))) (BW D vwCl (va_A ([] ++ pg cds ad gg) sz) (fun u9 : (Nat → Option va_E) => ([] ++ pg cds ad u9))) (va_A ([] ++ pg cds ad gg) sz)) 0 0 (va_A ([] ++ pg cds ad gg) sz) := by
  refine Met.ofW (cc := cTr_settle) (maxL := 7) (ret := none) (by decide) rfl ?_
  intro p e s m args below meth c s₁ B hml hv
  obtain ⟨rfl, hsz, hZ, hP, hK, hD0⟩ := hv
  have hx := B.exec
  have hb := B.bytes
  have hr := B.returns
  have hts := atoms_spec (ws := WTr_settle) B.pre
  have hT : ∀ w ∈ TB, w.before _ s = true := fun w h => hts w (List.mem_cons_of_mem _ h)
  have hown : s.vm.findClass R_Tr = some m.cls := findClass_of_methodNamed B.named
  have hlocks := B.notSynchronized
  subst hsz
  have hD := hD0.self (sz := s.heap.size)
  generalize hAe : va_A ([] ++ pg cds ad gg) s.heap.size = A at hD hZ ⊢
  have hA : ∀ q : Nat, s.heap.size ≤ q → A q := fun q h => by rw [← hAe]; exact Or.inr h
  have hS : va_S A s.heap s.heap [] := va_S.rf
  have hl := lv_entry ([.ref (ad (1000 + t)), .ref (ad 4)]) (n := 7) (Nat.le_of_ble_eq_true rfl)
  rw [lg_entry_eq]
  generalize (lg_sl ([.ref (ad (1000 + t)), .ref (ad 4)]) ++ List.replicate (7 - (lg_sl ([.ref (ad (1000 + t)), .ref (ad 4)])).length) Slot.unset).toArray = ls at hl ⊢
  have hl : lv_has ls 7 [(0, .ref (ad (1000 + t))), (1, .ref (ad 4))] := hl
  obtain ⟨mm, ⟨cap, md, lf, ls1, ls2, ls3, ls4, ls5⟩, tr3, tr4, tr5⟩ := hTn
  have hm31 := hT1.1.2.1
  have hrt := hT1.2.1
  have hw20 := hT1.2.2.1
  have hB9 : QI gg [(1000 + t, .inr (9, [.ref (ad (1020 + t)), .int (nI (tM F t)), .int tw0, .int tu0, .int tl0, .long sc0]))] := (qi_c (by omega) htr qi_0)
  have hN9 := (show NDc [1000 + t] from (nd_c na_0 nd_0))
  have hP := bo_P (wc := [(1000 + t, .inr (9, [.ref (ad (1020 + t)), .int (nI (tM F t)), .int tw0, .int tu0, .int tl0, .long sc0]))]) (X := []) hcd hN9 hB9 hP
  have hD := bo_D (wc := [(1000 + t, .inr (9, [.ref (ad (1020 + t)), .int (nI (tM F t)), .int tw0, .int tu0, .int tl0, .long sc0]))]) (X := []) hcd hN9 hB9 hD
  have hP : va_P D vwCl ([(ad (1000 + t), .inr (9, [.ref (ad (1020 + t)), .int (nI (tM F t)), .int tw0, .int tu0, .int tl0, .long sc0]))] ++ pg cds ad (upo gg [1000 + t])) _ := hP
  have hD : va_D A ([(ad (1000 + t), .inr (9, [.ref (ad (1020 + t)), .int (nI (tM F t)), .int tw0, .int tu0, .int tl0, .long sc0]))] ++ pg cds ad (upo gg [1000 + t])) := hD
  refine lv_aload_n hx hb dTr_settle_0 rfl (lv_at hl 0 rfl) ?_
  refine lv_aload_n hx hb dTr_settle_1 rfl (lv_at hl 1 rfl) ?_
  refine va_get (D := D) (ci := 3) (v := .int (nI (tW F t))) (C := R_P) (T := T_P) (N := 7) hx hb hT in_P hown hK (pg_1 (x := 4) hcd hP (by decide) ((upo_o (na_c (by omega) na_0)).trans hpl)) 0 rfl rfl 2 (by decide) (hT _ w106) (fun _ h9 => h9) rfl dTr_settle_2 ?_
  refine va_put (D := D) (ci := 9) (v := .int (nI (tW F t))) (ty := .int) (C := R_Tr) (T := T_Tr) (N := 6) hx hb hT in_Tr ty_Tr ty_Tr_ok m_Tr hown hK hP hD hS 0 rfl rfl 2 (by decide) (hT _ w733) (fun _ h9 => h9) rfl (by decide +kernel) rfl rfl (Nat.le_of_ble_eq_true rfl) dTr_settle_5 (fun H locs hP hD hS => ?_)
  have hP : va_P D vwCl ([(ad (1000 + t), .inr (9, [.ref (ad (1020 + t)), .int (nI (tM F t)), .int (nI (tW F t)), .int tu0, .int tl0, .long sc0]))] ++ pg cds ad (upo gg [1000 + t])) _ := hP
  have hD : va_D A ([(ad (1000 + t), .inr (9, [.ref (ad (1020 + t)), .int (nI (tM F t)), .int (nI (tW F t)), .int tu0, .int tl0, .long sc0]))] ++ pg cds ad (upo gg [1000 + t])) := hD
  refine lv_aload_n hx hb dTr_settle_8 rfl (lv_at hl 0 rfl) ?_
  refine lv_aload_n hx hb dTr_settle_9 rfl (lv_at hl 1 rfl) ?_
  refine va_get (D := D) (ci := 3) (v := .int (nI (tU F t))) (C := R_P) (T := T_P) (N := 7) hx hb hT in_P hown hK (pg_1 (x := 4) hcd hP (by decide) ((upo_o (na_c (by omega) na_0)).trans hpl)) 0 rfl rfl 3 (by decide) (hT _ w110) (fun _ h9 => h9) rfl dTr_settle_10 ?_
  refine va_put (D := D) (ci := 9) (v := .int (nI (tU F t))) (ty := .int) (C := R_Tr) (T := T_Tr) (N := 6) hx hb hT in_Tr ty_Tr ty_Tr_ok m_Tr hown hK hP hD hS 0 rfl rfl 3 (by decide) (hT _ w735) (fun _ h9 => h9) rfl (by decide +kernel) rfl rfl (Nat.le_of_ble_eq_true rfl) dTr_settle_13 (fun H locs hP hD hS => ?_)
  have hP : va_P D vwCl ([(ad (1000 + t), .inr (9, [.ref (ad (1020 + t)), .int (nI (tM F t)), .int (nI (tW F t)), .int (nI (tU F t)), .int tl0, .long sc0]))] ++ pg cds ad (upo gg [1000 + t])) _ := hP
  have hD : va_D A ([(ad (1000 + t), .inr (9, [.ref (ad (1020 + t)), .int (nI (tM F t)), .int (nI (tW F t)), .int (nI (tU F t)), .int tl0, .long sc0]))] ++ pg cds ad (upo gg [1000 + t])) := hD
  refine lv_aload_n hx hb dTr_settle_16 rfl (lv_at hl 0 rfl) ?_
  refine lv_aload_n hx hb dTr_settle_17 rfl (lv_at hl 1 rfl) ?_
  refine va_get (D := D) (ci := 3) (v := .int (nI (tL F t))) (C := R_P) (T := T_P) (N := 7) hx hb hT in_P hown hK (pg_1 (x := 4) hcd hP (by decide) ((upo_o (na_c (by omega) na_0)).trans hpl)) 0 rfl rfl 4 (by decide) (hT _ w113) (fun _ h9 => h9) rfl dTr_settle_18 ?_
  refine va_put (D := D) (ci := 9) (v := .int (nI (tL F t))) (ty := .int) (C := R_Tr) (T := T_Tr) (N := 6) hx hb hT in_Tr ty_Tr ty_Tr_ok m_Tr hown hK hP hD hS 0 rfl rfl 4 (by decide) (hT _ w737) (fun _ h9 => h9) rfl (by decide +kernel) rfl rfl (Nat.le_of_ble_eq_true rfl) dTr_settle_21 (fun H locs hP hD hS => ?_)
  have hP : va_P D vwCl ([(ad (1000 + t), .inr (9, [.ref (ad (1020 + t)), .int (nI (tM F t)), .int (nI (tW F t)), .int (nI (tU F t)), .int (nI (tL F t)), .long sc0]))] ++ pg cds ad (upo gg [1000 + t])) _ := hP
  have hD : va_D A ([(ad (1000 + t), .inr (9, [.ref (ad (1020 + t)), .int (nI (tM F t)), .int (nI (tW F t)), .int (nI (tU F t)), .int (nI (tL F t)), .long sc0]))] ++ pg cds ad (upo gg [1000 + t])) := hD
  refine lv_aload_n hx hb dTr_settle_24 rfl (lv_at hl 0 rfl) ?_
  refine lv_lconst (v := 1) hx hb dTr_settle_25 (by decide) ?_
  refine va_put (D := D) (ci := 9) (v := .long 1) (ty := .long) (C := R_Tr) (T := T_Tr) (N := 6) hx hb hT in_Tr ty_Tr ty_Tr_ok m_Tr hown hK hP hD hS 0 rfl rfl 5 (by decide) (hT _ w739) (fun _ h9 => h9) rfl (by decide +kernel) rfl rfl (Nat.le_of_ble_eq_true rfl) dTr_settle_26 (fun H locs hP hD hS => ?_)
  have hP : va_P D vwCl ([(ad (1000 + t), .inr (9, [.ref (ad (1020 + t)), .int (nI (tM F t)), .int (nI (tW F t)), .int (nI (tU F t)), .int (nI (tL F t)), .long 1]))] ++ pg cds ad (upo gg [1000 + t])) _ := hP
  have hD : va_D A ([(ad (1000 + t), .inr (9, [.ref (ad (1020 + t)), .int (nI (tM F t)), .int (nI (tW F t)), .int (nI (tU F t)), .int (nI (tL F t)), .long 1]))] ++ pg cds ad (upo gg [1000 + t])) := hD
  have hN9 := (show NDc [1000 + t] from (nd_c na_0 nd_0))
  have hP := gb_P (w9 := [(1000 + t, .inr (9, [.ref (ad (1020 + t)), .int (nI (tM F t)), .int (nI (tW F t)), .int (nI (tU F t)), .int (nI (tL F t)), .long 1]))]) (X := []) (g := gg) hcd hN9 (show QB [(1000 + t, .inr (9, [.ref (ad (1020 + t)), .int (nI (tM F t)), .int (nI (tW F t)), .int (nI (tU F t)), .int (nI (tL F t)), .long 1]))] from (qb_c (by omega) qb_0)) (hP.part (cx := [(ad (1000 + t), .inr (9, [.ref (ad (1020 + t)), .int (nI (tM F t)), .int (nI (tW F t)), .int (nI (tU F t)), .int (nI (tL F t)), .long 1]))]) [0] rfl)
  have hD := gb_D (w9 := [(1000 + t, .inr (9, [.ref (ad (1020 + t)), .int (nI (tM F t)), .int (nI (tW F t)), .int (nI (tU F t)), .int (nI (tL F t)), .long 1]))]) (X := []) (g := gg) hcd hN9 (show QB [(1000 + t, .inr (9, [.ref (ad (1020 + t)), .int (nI (tM F t)), .int (nI (tW F t)), .int (nI (tU F t)), .int (nI (tL F t)), .long 1]))] from (qb_c (by omega) qb_0)) (hD.part (cx := [(ad (1000 + t), .inr (9, [.ref (ad (1020 + t)), .int (nI (tM F t)), .int (nI (tW F t)), .int (nI (tU F t)), .int (nI (tL F t)), .long 1]))]) [0] (by decide) rfl)
  obtain ⟨g1, hg1⟩ : ∃ q9, q9 = ups gg [(1000 + t, .inr (9, [.ref (ad (1020 + t)), .int (nI (tM F t)), .int (nI (tW F t)), .int (nI (tU F t)), .int (nI (tL F t)), .long 1]))] := ⟨_, rfl⟩
  rw [← hg1] at hP hD
  have hP : va_P D vwCl ([] ++ pg cds ad g1) _ := hP
  have hD : va_D A ([] ++ pg cds ad g1) := hD
  have fg1 : ∀ z8, z8 ≠ 1000 + t → g1 z8 = gg z8 := fun z8 z1 => by rw [hg1]; exact ups_k (kp_n z1 kp_0)
  have g1_0 : g1 (1000 + t) = some (.inr (9, [.ref (ad (1020 + t)), .int (nI (tM F t)), .int (nI (tW F t)), .int (nI (tU F t)), .int (nI (tL F t)), .long 1])) := by rw [hg1]; exact ups_1
  refine lv_iconst (v := 0) hx hb dTr_settle_29 (by decide) ?_
  refine lv_istore_n hx hb dTr_settle_30 rfl hl (by decide) rfl (fun ls hl => ?_)
  have hl : lv_has ls 7 [(2, .int 0), (0, .ref (ad (1000 + t))), (1, .ref (ad 4))] := hl
  have hl : lv_has ls 7 [(2, .int (nI 0)), (0, .ref (ad (1000 + t))), (1, .ref (ad 4))] := by
    rw [(show nI 0 = 0 from rfl)]; exact hl
  refine lp_w (α := Nat × (Nat → Option va_E)) (fun a9 => a9.1 ≤ tM F t ∧ (∀ z8, z8 ≠ 1000 + t → a9.2 z8 = gg z8) ∧ a9.2 (1000 + t) = some (eTR (ad (1020 + t)) (nI (tM F t)) (nI (tW F t)) (nI (tU F t)) (nI (tL F t)) (lN (scl F t a9.1)))) (fun a9 => tM F t - a9.1) (fun a9 => [(0, .ref (ad (1000 + t))), (1, .ref (ad 4)), (2, .int (nI a9.1))]) (fun a9 => ([] ++ pg cds ad a9.2)) 31 ?_ (0, g1) (show 0 ≤ tM F t ∧ (∀ z8, z8 ≠ 1000 + t → g1 z8 = gg z8) ∧ g1 (1000 + t) = some (eTR (ad (1020 + t)) (nI (tM F t)) (nI (tW F t)) (nI (tU F t)) (nI (tL F t)) (lN (scl F t 0))) from ⟨Nat.zero_le _, fun z8 n1 => fg1 z8 n1, g1_0⟩) (lv_sub hl [1, 2, 0] rfl) hP hD hS
  intro a9 hI31 ih31 ls H locs hl hP hD hS
  obtain ⟨i, g2⟩ := a9
  have hI31 : i ≤ tM F t ∧ (∀ z8, z8 ≠ 1000 + t → g2 z8 = gg z8) ∧ g2 (1000 + t) = some (eTR (ad (1020 + t)) (nI (tM F t)) (nI (tW F t)) (nI (tU F t)) (nI (tL F t)) (lN (scl F t i))) := hI31
  obtain ⟨ii, iF, i1⟩ := hI31
  have hl : lv_has ls 7 [(0, .ref (ad (1000 + t))), (1, .ref (ad 4)), (2, .int (nI i))] := hl
  have hP : va_P D vwCl ([] ++ pg cds ad g2) _ := hP
  have hD : va_D A ([] ++ pg cds ad g2) := hD
  refine lv_iload_n hx hb dTr_settle_31 rfl (lv_at hl 2 rfl) ?_
  refine lv_aload_n hx hb dTr_settle_32 rfl (lv_at hl 0 rfl) ?_
  refine va_get (D := D) (ci := 9) (v := .int (nI (tM F t))) (C := R_Tr) (T := T_Tr) (N := 6) hx hb hT in_Tr hown hK (pg_1 (x := 1000 + t) hcd hP (by omega) i1) 0 rfl rfl 1 (by decide) (hT _ w731) (fun _ h9 => h9) rfl dTr_settle_33 ?_
  refine lv_icmp_ge (tgt := 130) hx hb dTr_settle_36 rfl (fun h1 => ?_) (fun h1 => ?_)
  · have gh1 : tM F t ≤ i := (nI_leI (a := tM F t) (b := i) (by omega) (by omega)).mp h1
    have hP9 : va_P D vwCl ([] ++ pg cds ad g2) _ := hP.part (cx := []) [] rfl
    have hD9 : va_D A ([] ++ pg cds ad g2) := hD.part (cx := []) [] (by decide) rfl
    refine W.widen (k := 0) (n := 0) (Nat.le_of_ble_eq_true rfl) (Nat.le_of_ble_eq_true rfl) ?_
    exact W.vret hx hb hr (fun t9 ht9 hW9 => ⟨⟨g2, rfl, (show (∀ z8, z8 ≠ 1000 + t → g2 z8 = gg z8) ∧ g2 (1000 + t) = some (eTR (ad (1020 + t)) (nI (tM F t)) (nI (tW F t)) (nI (tU F t)) (nI (tL F t)) (lN (sca F t))) from ⟨iF, (by have q9 := i1; rw [show i = tM F t by omega] at q9; exact q9)⟩), by rw [ht9]; exact hP9, hD9⟩, hS.F ht9⟩) hS.2.2 dTr_settle_130
  · have gh1 : i < tM F t := Nat.not_le.mp (fun q => h1 ((nI_leI (a := tM F t) (b := i) (by omega) (by omega)).mpr q))
    have him : i < tM F t := by omega
    obtain ⟨hnd, hns⟩ := tr5 i him
    have hns2 := hns.cg (g2 := g2) (iF _ (by omega)) (iF _ (by omega))
    obtain ⟨wnn, wnb, wnf, wn1, wn2, wn3⟩ := hns2
    have hnr := (hT1.2.2.2.2 i him).1.1
    have hnb := (hT1.2.2.2.2 i him).2.1
    have hup := unr_pos hT1 him
    have hub : unr F t i ≤ 16 * 68 := Nat.mul_le_mul (by omega) (by omega)
    have hsc := scl_le hT1 (show i ≤ tM F t by omega)
    have hs0 := scl_pos (F := F) (t := t) (k := i) (fun j hj => unr_pos hT1 (by omega))
    refine lv_aload_n hx hb dTr_settle_39 rfl (lv_at hl 0 rfl) ?_
    refine va_get (D := D) (ci := 9) (v := .ref (ad (1020 + t))) (C := R_Tr) (T := T_Tr) (N := 6) hx hb hT in_Tr hown hK (pg_1 (x := 1000 + t) hcd hP (by omega) i1) 0 rfl rfl 0 (by decide) (hT _ w730) (fun _ h9 => h9) rfl dTr_settle_40 ?_
    refine lv_iload_n hx hb dTr_settle_43 rfl (lv_at hl 2 rfl) ?_
    refine ro_r (va_Run.run (va_runV (As := [.int (nI i)]) (rest := []) ⟨hx, hb, hml, hown, hT⟩ (k_alGet l D cT (ad (1020 + t)) (ad (1040 + t)) mm md cap lf i (ad (2000 + 32 * t + i)) (by omega) ls3 (by omega) (ls5 _ (by omega))) ⟨callB_of 1 hT (tb_gd w401) rfl rfl rfl (hT _ w11) (hT _ w426) hAL_get ⟨Nat.le_of_ble_eq_true rfl, Nat.le_of_ble_eq_true rfl⟩, (hT _ w399), (hT _ w400)⟩ (RO.preV (ci := 12) (q0 := 0) hZ hS ((show va_P D vwCl [(ad (1020 + t), .inr (12, [.ref (ad (1040 + t)), .int (nI mm), .int md])), (ad (1040 + t), .inl (cT 7, cap, .inr (.inr (.inr (.inr lf)))))] _ from (pv_c (pg_1 (x := 1020 + t) hcd hP (by omega) ((iF _ (by omega)).trans ls1)) (pv_c (pg_1 (x := 1040 + t) hcd hP (by omega) ((iF _ (by omega)).trans ls2)) pv_0)))) hK rfl rfl) rfl rfl hl.1 rfl (lv_room (Nat.le_of_ble_eq_true rfl)) dTr_settle_44 ⟨Nat.le_of_ble_eq_true rfl, Nat.le_of_ble_eq_true rfl⟩)) ?_
    refine va_castY (C := "ResidualTrees$Node") hx hb hown (hT _ w427) (hZ.1.1 ("ResidualTrees$Node", "ResidualTrees$Node") (List.mem_of_getElem? (i := 3) rfl)) (va_recv (ci := 10) (q0 := 0) hK (pg_1 (x := 2000 + 32 * t + i) hcd hP (by omega) ((iF _ (by omega)).trans hnd)) rfl rfl) dTr_settle_47 ?_
    refine lv_astore_n hx hb dTr_settle_50 rfl hl (by decide) rfl (fun ls hl => ?_)
    have hl : lv_has ls 7 [(3, .ref (ad (2000 + 32 * t + i))), (0, .ref (ad (1000 + t))), (1, .ref (ad 4)), (2, .int (nI i))] := hl
    refine lv_aload_n hx hb dTr_settle_51 rfl (lv_at hl 0 rfl) ?_
    refine va_get (D := D) (ci := 10) (v := .int (tA F 0 (31 * t + i))) (C := R_N) (T := T_N) (N := 9) hx hb hT in_N hown hK (pg_1 (x := 2000 + 32 * t + i) hcd hP (by omega) ((iF _ (by omega)).trans hnd)) 0 rfl rfl 0 (by decide) (hT _ w831) (fun _ h9 => h9) rfl dTr_settle_52 ?_
    refine lv_iconst (v := (-1)) hx hb dTr_settle_55 (by decide) ?_
    refine lv_icmp_ne (tgt := 124) hx hb dTr_settle_56 rfl (fun h2 => ?_) (fun h2 => ?_)
    · have hlf : ¬ tA F 0 (31 * t + i) = -1 := h2
      refine lv_iinc (k := 3) (v := nI (i + 1)) hx hb dTr_settle_124 hl rfl (nI_1 i) (by decide) rfl (fun ls hl => ?_)
      have hl : lv_has ls 7 [(2, .int (nI (i + 1))), (3, .ref (ad (2000 + 32 * t + i))), (0, .ref (ad (1000 + t))), (1, .ref (ad 4))] := hl
      refine lv_goto (tgt := 31) hx hb dTr_settle_127 rfl ?_
      exact ih31 (i + 1, g2) (show (i + 1) ≤ tM F t ∧ (∀ z8, z8 ≠ 1000 + t → g2 z8 = gg z8) ∧ g2 (1000 + t) = some (eTR (ad (1020 + t)) (nI (tM F t)) (nI (tW F t)) (nI (tU F t)) (nI (tL F t)) (lN (scl F t (i + 1)))) from ⟨by omega, iF, by rw [scl_n hlf]; exact i1⟩) (show tM F t - (i + 1) < tM F t - i from (by omega)) ls H locs (lv_sub hl [2, 3, 0] rfl) hP hD hS
    · have hlf : tA F 0 (31 * t + i) = -1 := h2
      refine lv_aload_n hx hb dTr_settle_59 rfl (lv_at hl 1 rfl) ?_
      refine va_get (D := D) (ci := 9) (v := .int (nI (tL F t))) (C := R_Tr) (T := T_Tr) (N := 6) hx hb hT in_Tr hown hK (pg_1 (x := 1000 + t) hcd hP (by omega) i1) 0 rfl rfl 4 (by decide) (hT _ w737) (fun _ h9 => h9) rfl dTr_settle_60 ?_
      refine lv_aload_n hx hb dTr_settle_63 rfl (lv_at hl 0 rfl) ?_
      refine va_get (D := D) (ci := 10) (v := .int (tA F 5 (31 * t + i))) (C := R_N) (T := T_N) (N := 9) hx hb hT in_N hown hK (pg_1 (x := 2000 + 32 * t + i) hcd hP (by omega) ((iF _ (by omega)).trans hnd)) 0 rfl rfl 6 (by decide) (hT _ w850) (fun _ h9 => h9) rfl dTr_settle_64 ?_
      refine lv_topi (fun y9 e9 => ?_)
      cases (show y9 = nI (nR F t i) from e9.trans hnr)
      refine lv_aload_n hx hb dTr_settle_67 rfl (lv_at hl 1 rfl) ?_
      refine va_get (D := D) (ci := 9) (v := .int (nI (tW F t))) (C := R_Tr) (T := T_Tr) (N := 6) hx hb hT in_Tr hown hK (pg_1 (x := 1000 + t) hcd hP (by omega) i1) 0 rfl rfl 2 (by decide) (hT _ w733) (fun _ h9 => h9) rfl dTr_settle_68 ?_
      refine lv_iadd hx hb dTr_settle_71 ?_
      refine lv_topi (fun y9 e9 => ?_)
      cases (show y9 = nI ((nR F t i) + (tW F t)) from e9.trans (nI_add (nR F t i) (tW F t)))
      refine lv_imul hx hb dTr_settle_72 ?_
      refine lv_topi (fun y9 e9 => ?_)
      cases (show y9 = nI ((tL F t) * ((nR F t i) + (tW F t))) from e9.trans (pk_mul (tL F t) ((nR F t i) + (tW F t))))
      refine lv_topi (fun y9 e9 => ?_)
      cases (show y9 = nI (unr F t i) from e9.trans rfl)
      obtain ⟨u9, hu9⟩ : ∃ q9 : Nat, q9 = unr F t i := ⟨_, rfl⟩
      refine lv_topi (fun y9 e9 => ?_)
      cases (show y9 = nI u9 from e9.trans (congrArg nI hu9.symm))
      rw [← hu9] at hup hub
      refine lv_istore hx hb dTr_settle_73 hl (by decide) rfl (fun ls hl => ?_)
      have hl : lv_has ls 7 [(4, .int (nI u9)), (3, .ref (ad (2000 + 32 * t + i))), (0, .ref (ad (1000 + t))), (1, .ref (ad 4)), (2, .int (nI i))] := hl
      refine lv_iload hx hb dTr_settle_75 (lv_at hl 0 rfl) ?_
      refine lv_i2l hx hb dTr_settle_77 rfl ?_
      refine lv_topl (fun y9 e9 => ?_)
      cases (show y9 = lN u9 from e9.trans (nI_l (n := u9) (by omega)))
      refine lv_iload hx hb dTr_settle_78 (lv_at hl 0 rfl) ?_
      refine lv_i2l hx hb dTr_settle_80 rfl ?_
      refine lv_topl (fun y9 e9 => ?_)
      cases (show y9 = lN u9 from e9.trans (nI_l (n := u9) (by omega)))
      refine lv_aload_n hx hb dTr_settle_81 rfl (lv_at hl 2 rfl) ?_
      refine va_get (D := D) (ci := 9) (v := .int (nI (tU F t))) (C := R_Tr) (T := T_Tr) (N := 6) hx hb hT in_Tr hown hK (pg_1 (x := 1000 + t) hcd hP (by omega) i1) 0 rfl rfl 3 (by decide) (hT _ w735) (fun _ h9 => h9) rfl dTr_settle_82 ?_
      refine lv_i2l hx hb dTr_settle_85 rfl ?_
      refine lv_topl (fun y9 e9 => ?_)
      cases (show y9 = lN (tU F t) from e9.trans (nI_l (n := tU F t) (by omega)))
      refine lv_aload_n hx hb dTr_settle_86 rfl (lv_at hl 1 rfl) ?_
      refine va_get (D := D) (ci := 10) (v := .ref (ad (3000 + 32 * t + i))) (C := R_N) (T := T_N) (N := 9) hx hb hT in_N hown hK (pg_1 (x := 2000 + 32 * t + i) hcd hP (by omega) ((iF _ (by omega)).trans hnd)) 0 rfl rfl 8 (by decide) (hT _ w857) (fun _ h9 => h9) rfl dTr_settle_87 ?_
      refine lv_iload hx hb dTr_settle_90 (lv_at hl 0 rfl) ?_
      refine ro_i (va_Run.run (va_runV (As := [.int (nI u9)]) (rest := [.long (lN (tU F t)), .long (lN u9), .long (lN u9)]) ⟨hx, hb, hml, hown, hT⟩ (k_rest l D cT (ad (3000 + 32 * t + i)) (ad (4000 + 32 * t + i)) 24 wnn wnb wnf (tS F t i) u9 (by decide) wn3 hup (by omega)) ⟨callB_of 1 hT (tb_gd w958) rfl rfl rfl (hT _ w5) (hT _ w955) hW_rest ⟨Nat.le_of_ble_eq_true rfl, Nat.le_of_ble_eq_true rfl⟩, (hT _ w956), (hT _ w957)⟩ (RO.preV (ci := 4) (q0 := 0) hZ hS ((show va_P D vwCl [(ad (3000 + 32 * t + i), .inr (4, [.ref (ad (4000 + 32 * t + i)), .int wnn, .int wnb])), (ad (4000 + 32 * t + i), .inl (cT 0, 24, .inl wnf))] _ from (pv_c (pg_1 (x := 3000 + 32 * t + i) hcd hP (by omega) wn1) (pv_c (pg_1 (x := 4000 + 32 * t + i) hcd hP (by omega) wn2) pv_0)))) hK rfl rfl) rfl rfl hl.1 rfl (lv_room (Nat.le_of_ble_eq_true rfl)) dTr_settle_92 ⟨Nat.le_of_ble_eq_true rfl, Nat.le_of_ble_eq_true rfl⟩)) ?_
      obtain ⟨r9, hr9⟩ : ∃ q9 : Nat, q9 = (tS F t i).natAbs % u9 := ⟨_, rfl⟩
      refine lv_topi (fun y9 e9 => ?_)
      cases (show y9 = nI r9 from e9.trans (congrArg nI hr9.symm))
      have hrl9 : r9 < u9 := by rw [hr9]; exact Nat.mod_lt _ hup
      have hur : tU F t * r9 ≤ 16 * 1088 := Nat.mul_le_mul (by omega) (by omega)
      refine lv_i2l hx hb dTr_settle_95 rfl ?_
      refine lv_topl (fun y9 e9 => ?_)
      cases (show y9 = lN r9 from e9.trans (nI_l (n := r9) (by omega)))
      refine lv_lmul hx hb dTr_settle_96 ?_
      refine lv_topl (fun y9 e9 => ?_)
      cases (show y9 = lN ((tU F t) * r9) from e9.trans (lN_mul (tU F t) r9))
      refine ro_l (va_Run.run (va_runSN (As := [.long (lN u9), .long (lN ((tU F t) * r9))]) (rest := [.long (lN u9)]) ⟨hx, hb, hml, hown, hT⟩ (k_gdiv l D cT u9 (tU F t * r9) (by omega) (by omega)) ⟨va_cnB 2 hT (tb_gd w442) rfl rfl rfl (hZ.1.2.1 ("ResidualTrees$Tree", 77, ⟨"ResidualTrees", "greatestDivisor", "(JJ)J"⟩, "ResidualTrees") (List.mem_of_getElem? (i := 6) rfl)) (hT _ w1) hR_greatestDivisor ⟨Nat.le_of_ble_eq_true rfl, Nat.le_of_ble_eq_true rfl⟩, (hT _ w441), trivial⟩ (RO.preS hZ hS ((show va_P D vwCl [] _ from fun _ _ h => nomatch h)) hK) rfl rfl hl.1 rfl (lv_room (Nat.le_of_ble_eq_true rfl)) dTr_settle_97 ⟨Nat.le_of_ble_eq_true rfl, Nat.le_of_ble_eq_true rfl⟩)) ?_
      have hgq : Nat.gcd u9 (tU F t * r9) = Nat.gcd (unr F t i) (tU F t * (tS F t i).natAbs) := by rw [hr9, gcd_rm, hu9]
      have hg0 : 0 < Nat.gcd u9 (tU F t * r9) := Nat.gcd_pos_of_pos_left _ hup
      have hgl : Nat.gcd u9 (tU F t * r9) ≤ u9 := Nat.le_of_dvd hup (Nat.gcd_dvd_left _ _)
      have hnd9 : u9 / Nat.gcd u9 (tU F t * r9) = ndd F t i := by unfold ndd; rw [hgq, hu9]
      have hdl : u9 / Nat.gcd u9 (tU F t * r9) ≤ u9 := Nat.div_le_self _ _
      have hdp : 0 < u9 / Nat.gcd u9 (tU F t * r9) := Nat.div_pos hgl hg0
      refine lv_ldiv hx hb dTr_settle_100 (fun q => absurd ((pk_lEQ (b := 0) (by omega) (by decide)).mp q) (by omega)) ?_
      refine lv_topl (fun y9 e9 => ?_)
      cases (show y9 = lN (u9 / (Nat.gcd u9 (tU F t * r9))) from e9.trans (pk_lDiv (a := u9) (b := Nat.gcd u9 (tU F t * r9)) (by omega) (by omega) (by omega)))
      obtain ⟨d9, hd9⟩ : ∃ q9 : Nat, q9 = u9 / Nat.gcd u9 (tU F t * r9) := ⟨_, rfl⟩
      refine lv_topl (fun y9 e9 => ?_)
      cases (show y9 = lN d9 from e9.trans (congrArg lN hd9.symm))
      rw [← hd9] at hnd9 hdl hdp
      refine lv_lstore hx hb dTr_settle_101 hl (by decide) rfl (fun ls hl => ?_)
      have hl : lv_has ls 7 [(5, .long (lN d9)), (4, .int (nI u9)), (3, .ref (ad (2000 + 32 * t + i))), (0, .ref (ad (1000 + t))), (1, .ref (ad 4)), (2, .int (nI i))] := hl
      refine lv_aload_n hx hb dTr_settle_103 rfl (lv_at hl 3 rfl) ?_
      refine lv_aload_n hx hb dTr_settle_104 rfl (lv_at hl 3 rfl) ?_
      refine va_get (D := D) (ci := 9) (v := .long (lN (scl F t i))) (C := R_Tr) (T := T_Tr) (N := 6) hx hb hT in_Tr hown hK (pg_1 (x := 1000 + t) hcd hP (by omega) i1) 0 rfl rfl 5 (by decide) (hT _ w739) (fun _ h9 => h9) rfl dTr_settle_105 ?_
      refine lv_aload_n hx hb dTr_settle_108 rfl (lv_at hl 3 rfl) ?_
      refine va_get (D := D) (ci := 9) (v := .long (lN (scl F t i))) (C := R_Tr) (T := T_Tr) (N := 6) hx hb hT in_Tr hown hK (pg_1 (x := 1000 + t) hcd hP (by omega) i1) 0 rfl rfl 5 (by decide) (hT _ w739) (fun _ h9 => h9) rfl dTr_settle_109 ?_
      refine lv_lload hx hb dTr_settle_112 (lv_at hl 0 rfl) ?_
      refine ro_l (va_Run.run (va_runSN (As := [.long (lN (scl F t i)), .long (lN d9)]) (rest := [.long (lN (scl F t i)), .ref (ad (1000 + t))]) ⟨hx, hb, hml, hown, hT⟩ (k_gdiv l D cT (scl F t i) d9 (by omega) (by omega)) ⟨va_cnB 2 hT (tb_gd w442) rfl rfl rfl (hZ.1.2.1 ("ResidualTrees$Tree", 77, ⟨"ResidualTrees", "greatestDivisor", "(JJ)J"⟩, "ResidualTrees") (List.mem_of_getElem? (i := 6) rfl)) (hT _ w1) hR_greatestDivisor ⟨Nat.le_of_ble_eq_true rfl, Nat.le_of_ble_eq_true rfl⟩, (hT _ w441), trivial⟩ (RO.preS hZ hS ((show va_P D vwCl [] _ from fun _ _ h => nomatch h)) hK) rfl rfl hl.1 rfl (lv_room (Nat.le_of_ble_eq_true rfl)) dTr_settle_114 ⟨Nat.le_of_ble_eq_true rfl, Nat.le_of_ble_eq_true rfl⟩)) ?_
      have hg1 : 0 < Nat.gcd (scl F t i) d9 := Nat.gcd_pos_of_pos_left _ hs0
      have hg2 : Nat.gcd (scl F t i) d9 ≤ scl F t i := Nat.le_of_dvd hs0 (Nat.gcd_dvd_left _ _)
      have hlc : scl F t i / Nat.gcd (scl F t i) d9 * d9 = scl F t (i + 1) := by rw [lcm_dg, scl_y hlf, hnd9]
      refine lv_ldiv hx hb dTr_settle_117 (fun q => absurd ((pk_lEQ (b := 0) (by omega) (by decide)).mp q) (by omega)) ?_
      refine lv_topl (fun y9 e9 => ?_)
      cases (show y9 = lN ((scl F t i) / (Nat.gcd (scl F t i) d9)) from e9.trans (pk_lDiv (a := scl F t i) (b := Nat.gcd (scl F t i) d9) (by omega) (by omega) (by omega)))
      refine lv_lload hx hb dTr_settle_118 (lv_at hl 0 rfl) ?_
      refine lv_lmul hx hb dTr_settle_120 ?_
      refine lv_topl (fun y9 e9 => ?_)
      cases (show y9 = lN (((scl F t i) / (Nat.gcd (scl F t i) d9)) * d9) from e9.trans (lN_mul ((scl F t i) / (Nat.gcd (scl F t i) d9)) d9))
      refine lv_topl (fun y9 e9 => ?_)
      cases (show y9 = lN (scl F t (i + 1)) from e9.trans (congrArg lN hlc))
      have hB9 : QI g2 [(1000 + t, .inr (9, [.ref (ad (1020 + t)), .int (nI (tM F t)), .int (nI (tW F t)), .int (nI (tU F t)), .int (nI (tL F t)), .long (lN (scl F t i))]))] := (qi_c (by omega) i1 qi_0)
      have hN9 := (show NDc [1000 + t] from (nd_c na_0 nd_0))
      have hP := bo_P (wc := [(1000 + t, .inr (9, [.ref (ad (1020 + t)), .int (nI (tM F t)), .int (nI (tW F t)), .int (nI (tU F t)), .int (nI (tL F t)), .long (lN (scl F t i))]))]) (X := []) hcd hN9 hB9 hP
      have hD := bo_D (wc := [(1000 + t, .inr (9, [.ref (ad (1020 + t)), .int (nI (tM F t)), .int (nI (tW F t)), .int (nI (tU F t)), .int (nI (tL F t)), .long (lN (scl F t i))]))]) (X := []) hcd hN9 hB9 hD
      have hP : va_P D vwCl ([(ad (1000 + t), .inr (9, [.ref (ad (1020 + t)), .int (nI (tM F t)), .int (nI (tW F t)), .int (nI (tU F t)), .int (nI (tL F t)), .long (lN (scl F t i))]))] ++ pg cds ad (upo g2 [1000 + t])) _ := hP
      have hD : va_D A ([(ad (1000 + t), .inr (9, [.ref (ad (1020 + t)), .int (nI (tM F t)), .int (nI (tW F t)), .int (nI (tU F t)), .int (nI (tL F t)), .long (lN (scl F t i))]))] ++ pg cds ad (upo g2 [1000 + t])) := hD
      refine va_put (D := D) (ci := 9) (v := .long (lN (scl F t (i + 1)))) (ty := .long) (C := R_Tr) (T := T_Tr) (N := 6) hx hb hT in_Tr ty_Tr ty_Tr_ok m_Tr hown hK hP hD hS 0 rfl rfl 5 (by decide) (hT _ w739) (fun _ h9 => h9) rfl (by decide +kernel) rfl rfl (Nat.le_of_ble_eq_true rfl) dTr_settle_121 (fun H locs hP hD hS => ?_)
      have hP : va_P D vwCl ([(ad (1000 + t), .inr (9, [.ref (ad (1020 + t)), .int (nI (tM F t)), .int (nI (tW F t)), .int (nI (tU F t)), .int (nI (tL F t)), .long (lN (scl F t (i + 1)))]))] ++ pg cds ad (upo g2 [1000 + t])) _ := hP
      have hD : va_D A ([(ad (1000 + t), .inr (9, [.ref (ad (1020 + t)), .int (nI (tM F t)), .int (nI (tW F t)), .int (nI (tU F t)), .int (nI (tL F t)), .long (lN (scl F t (i + 1)))]))] ++ pg cds ad (upo g2 [1000 + t])) := hD
      have hN9 := (show NDc [1000 + t] from (nd_c na_0 nd_0))
      have hP := gb_P (w9 := [(1000 + t, .inr (9, [.ref (ad (1020 + t)), .int (nI (tM F t)), .int (nI (tW F t)), .int (nI (tU F t)), .int (nI (tL F t)), .long (lN (scl F t (i + 1)))]))]) (X := []) (g := g2) hcd hN9 (show QB [(1000 + t, .inr (9, [.ref (ad (1020 + t)), .int (nI (tM F t)), .int (nI (tW F t)), .int (nI (tU F t)), .int (nI (tL F t)), .long (lN (scl F t (i + 1)))]))] from (qb_c (by omega) qb_0)) (hP.part (cx := [(ad (1000 + t), .inr (9, [.ref (ad (1020 + t)), .int (nI (tM F t)), .int (nI (tW F t)), .int (nI (tU F t)), .int (nI (tL F t)), .long (lN (scl F t (i + 1)))]))]) [0] rfl)
      have hD := gb_D (w9 := [(1000 + t, .inr (9, [.ref (ad (1020 + t)), .int (nI (tM F t)), .int (nI (tW F t)), .int (nI (tU F t)), .int (nI (tL F t)), .long (lN (scl F t (i + 1)))]))]) (X := []) (g := g2) hcd hN9 (show QB [(1000 + t, .inr (9, [.ref (ad (1020 + t)), .int (nI (tM F t)), .int (nI (tW F t)), .int (nI (tU F t)), .int (nI (tL F t)), .long (lN (scl F t (i + 1)))]))] from (qb_c (by omega) qb_0)) (hD.part (cx := [(ad (1000 + t), .inr (9, [.ref (ad (1020 + t)), .int (nI (tM F t)), .int (nI (tW F t)), .int (nI (tU F t)), .int (nI (tL F t)), .long (lN (scl F t (i + 1)))]))]) [0] (by decide) rfl)
      obtain ⟨g3, hg3⟩ : ∃ q9, q9 = ups g2 [(1000 + t, .inr (9, [.ref (ad (1020 + t)), .int (nI (tM F t)), .int (nI (tW F t)), .int (nI (tU F t)), .int (nI (tL F t)), .long (lN (scl F t (i + 1)))]))] := ⟨_, rfl⟩
      rw [← hg3] at hP hD
      have hP : va_P D vwCl ([] ++ pg cds ad g3) _ := hP
      have hD : va_D A ([] ++ pg cds ad g3) := hD
      have fg3 : ∀ z8, z8 ≠ 1000 + t → g3 z8 = g2 z8 := fun z8 z1 => by rw [hg3]; exact ups_k (kp_n z1 kp_0)
      have g3_0 : g3 (1000 + t) = some (.inr (9, [.ref (ad (1020 + t)), .int (nI (tM F t)), .int (nI (tW F t)), .int (nI (tU F t)), .int (nI (tL F t)), .long (lN (scl F t (i + 1)))])) := by rw [hg3]; exact ups_1
      refine lv_iinc (k := 5) (v := nI (i + 1)) hx hb dTr_settle_124 hl rfl (nI_1 i) (by decide) rfl (fun ls hl => ?_)
      have hl : lv_has ls 7 [(2, .int (nI (i + 1))), (5, .long (lN d9)), (4, .int (nI u9)), (3, .ref (ad (2000 + 32 * t + i))), (0, .ref (ad (1000 + t))), (1, .ref (ad 4))] := hl
      refine lv_goto (tgt := 31) hx hb dTr_settle_127 rfl ?_
      exact ih31 (i + 1, g3) (show (i + 1) ≤ tM F t ∧ (∀ z8, z8 ≠ 1000 + t → g3 z8 = gg z8) ∧ g3 (1000 + t) = some (eTR (ad (1020 + t)) (nI (tM F t)) (nI (tW F t)) (nI (tU F t)) (nI (tL F t)) (lN (scl F t (i + 1)))) from ⟨by omega, fun z8 n1 => (fg3 z8 n1).trans (iF z8 n1), g3_0⟩) (show tM F t - (i + 1) < tM F t - i from (by omega)) ls H locs (lv_sub hl [4, 5, 0] rfl) hP hD hS
/-! Kinds: the class's groups and their order. -/
theorem ni_mis {k : Nat} (h : k < 12) : ¬ nI k = -2147483648 := fun q => by
  have e := congrArg Int32.toInt q
  rw [nI_toInt (by omega), show (-2147483648 : Int32).toInt = -2147483648 by decide] at e
  omega
theorem gg_kdr {vv eg ik : Nat → Int32} {ne : Nat → Nat} {c n k : Nat} {A : Int64} (hn : n ≤ 64) (hk : k < 12) (hik : ¬ ik c = 0) (hV : ∀ r, r < n → ¬ vv (6 * r + c) = (-2147483648) → 0 ≤ vv (6 * r + c) ∧ vv (6 * r + c) < 12) : gsG vv eg ik ne c A k n = kdr n vv c A k := bx_ext (fun r hr => by
  rw [bx_gg hr hn]
  show _ = bx (rwk vv c (nI k) n &&& A) r
  rw [bx_and, bx_rwk hr n hn]
  by_cases q : r < n
  · rw [decide_eq_true q]
    by_cases e : vv (6 * r + c) = nI k
    · have e2 : bnF eg ik ne c (vv (6 * r + c)) = k := by
        unfold bnF
        rw [if_neg hik, e, nI_clamp (by omega)]
      rw [decide_eq_true e, decide_eq_true e2, decide_eq_false (show ¬ vv (6 * r + c) = -2147483648 by rw [e]; exact ni_mis hk)]
      cases bx A r <;> rfl
    · rw [decide_eq_false e]
      by_cases m : vv (6 * r + c) = -2147483648
      · rw [decide_eq_true m]; cases bx A r <;> rfl
      · have e2 : ¬ bnF eg ik ne c (vv (6 * r + c)) = k := fun z => by
          unfold bnF at z
          rw [if_neg hik] at z
          exact e (by rw [kx12 (hV r q m), z])
        rw [decide_eq_false m, decide_eq_false e2]; cases bx A r <;> rfl
  · rw [decide_eq_false q]; rfl)
theorem bx_kd {vv : Nat → Int32} {c n r k : Nat} {A : Int64} (hr : r < 64) (hn : n ≤ 64) (h : bx (kdr n vv c A k) r = true) : vv (6 * r + c) = nI k := by
  have h : bx (rwk vv c (nI k) n &&& A) r = true := h
  rw [bx_and, bx_rwk hr n hn] at h
  simp only [Bool.and_eq_true, decide_eq_true_eq] at h
  exact h.1.2
theorem bx_sid {vv : Nat → Int32} {c n r : Nat} {A : Int64} {od : Nat → Nat} (hr : r < 64) (hn : n ≤ 64) : ∀ p, bx (sidK n vv c A od p) r = true → ∃ i, i < p ∧ vv (6 * r + c) = nI (od i)
  | 0, h => by
    have h : bx 0 r = true := h
    rw [bx_zero] at h; exact absurd h (by decide)
  | p + 1, h => by
    have h : bx (sidK n vv c A od p ||| kdr n vv c A (od p)) r = true := h
    rw [bx_or, Bool.or_eq_true] at h
    rcases h with q | q
    · obtain ⟨i, hi, e⟩ := bx_sid hr hn p q
      exact ⟨i, by omega, e⟩
    · exact ⟨p, by omega, bx_kd hr hn q⟩
theorem sid_dj {RR : Nat → Int} {vv : Nat → Int32} {c n w r p F : Nat} {A : Int64} {od : Nat → Nat} (hr : r < 64) (hn : n ≤ 64) (hK : KOR RR n w vv c A od F) (hp : p < F) : ¬ (bx (sidK n vv c A od p) r = true ∧ bx (kdr n vv c A (od p)) r = true) := fun ⟨h1, h2⟩ => by
  obtain ⟨i, hi, e⟩ := bx_sid hr hn p h1
  have e2 := bx_kd hr hn h2
  have h3 := hK.1 i (by omega)
  have h4 := hK.1 p hp
  have e3 : od i = od p := by
    have := congrArg Int32.toNatClampNeg (e.symm.trans e2)
    rw [nI_clamp (by omega), nI_clamp (by omega)] at this
    exact this
  exact absurd (kor_in hK (by omega) hp e3) (by omega)
theorem sid_mr {RR : Nat → Int} {vv : Nat → Int32} {c n w r p F : Nat} {A : Int64} {od : Nat → Nat} (hr : r < 64) (hn : n ≤ 64) (hK : KOR RR n w vv c A od F) (hp : p ≤ F) : ¬ (bx (sidK n vv c A od p) r = true ∧ bx (mrw vv c n A) r = true) := fun ⟨h1, h2⟩ => by
  obtain ⟨i, hi, e⟩ := bx_sid hr hn p h1
  rw [bx_and, bx_rwk hr n hn] at h2
  simp only [Bool.and_eq_true, decide_eq_true_eq] at h2
  exact ni_mis (hK.1 i (by omega)).1 (e.symm.trans h2.1.2)
/-- the kinds below kd that rows have, sorted -/
def KOI (RR : Nat → Int) (n w : Nat) (vv : Nat → Int32) (c : Nat) (A : Int64) (kd : Nat) (od : Nat → Nat) (F : Nat) : Prop :=
  (∀ p, p < F → od p < kd ∧ ¬ kdr n vv c A (od p) = 0) ∧ (∀ p q, p < q → q < F → kbf RR n w vv c A (od p) (od q)) ∧ ∀ j, j < kd → ¬ kdr n vv c A j = 0 → ∃ p, p < F ∧ od p = j
def insA (od : Nat → Nat) (a kd : Nat) : Nat → Nat := fun p => if p < a then od p else if p = a then kd else od (p - 1)
theorem koi_ins {RR : Nat → Int} {n w : Nat} {vv : Nat → Int32} {c : Nat} {A : Int64} {kd F a : Nat} {od : Nat → Nat} (h : KOI RR n w vv c A kd od F) (hkd : kd < 12) (hz : ¬ kdr n vv c A kd = 0) (ha : a ≤ F) (h1 : ∀ p, a ≤ p → p < F → kbf RR n w vv c A kd (od p)) (h2 : a = 0 ∨ kbf RR n w vv c A (od (a - 1)) kd) : KOI RR n w vv c A (kd + 1) (insA od a kd) (F + 1) := by
  have lt : ∀ p, p < a → insA od a kd p = od p := fun p q => if_pos q
  have eq : insA od a kd a = kd := by unfold insA; rw [if_neg (by omega), if_pos rfl]
  have gt : ∀ p, a < p → insA od a kd p = od (p - 1) := fun p q => by unfold insA; rw [if_neg (by omega), if_neg (by omega)]
  have bk : ∀ p, p < a → kbf RR n w vv c A (od p) kd := fun p q => by
    have q2 := h2.resolve_left (by omega)
    by_cases e : p = a - 1
    · rw [e]; exact q2
    · have i1 := h.1 p (by omega)
      have i2 := h.1 (a - 1) (by omega)
      exact kbf_tr (by omega) (by omega) hkd i1.2 i2.2 hz (h.2.1 p (a - 1) (by omega) (by omega)) q2
  refine ⟨fun p hp => ?_, fun p q hpq hq => ?_, fun j hj hjz => ?_⟩
  · rcases Nat.lt_trichotomy p a with r | r | r
    · rw [lt p r]; exact ⟨by have := (h.1 p (by omega)).1; omega, (h.1 p (by omega)).2⟩
    · rw [r, eq]; exact ⟨by omega, hz⟩
    · rw [gt p r]; exact ⟨by have := (h.1 (p - 1) (by omega)).1; omega, (h.1 (p - 1) (by omega)).2⟩
  · rcases Nat.lt_trichotomy p a with r | r | r
    · rw [lt p r]
      rcases Nat.lt_trichotomy q a with s | s | s
      · rw [lt q s]; exact h.2.1 p q hpq (by omega)
      · rw [s, eq]; exact bk p r
      · rw [gt q s]
        by_cases e : p = q - 1
        · omega
        · exact h.2.1 p (q - 1) (by omega) (by omega)
    · rw [r, eq, gt q (by omega)]; exact h1 (q - 1) (by omega) (by omega)
    · rw [gt p r, gt q (by omega)]; exact h.2.1 (p - 1) (q - 1) (by omega) (by omega)
  · by_cases e : j = kd
    · exact ⟨a, by omega, by rw [eq, e]⟩
    · obtain ⟨p, hp, e2⟩ := h.2.2 j (by omega) hjz
      by_cases r : p < a
      · exact ⟨p, by omega, by rw [lt p r]; exact e2⟩
      · exact ⟨p + 1, by omega, by rw [gt (p + 1) (by omega)]; exact e2⟩
theorem koi_skip {RR : Nat → Int} {n w : Nat} {vv : Nat → Int32} {c : Nat} {A : Int64} {kd F : Nat} {od : Nat → Nat} (h : KOI RR n w vv c A kd od F) (hz : kdr n vv c A kd = 0) : KOI RR n w vv c A (kd + 1) od F :=
  ⟨fun p hp => ⟨by have := (h.1 p hp).1; omega, (h.1 p hp).2⟩, h.2.1, fun j hj hjz => h.2.2 j (by rcases Nat.lt_or_ge j kd with q | q; (exact q); (exact absurd (by rw [show j = kd by omega]; exact hz) hjz)) hjz⟩
theorem kbf_y {RR : Nat → Int} {n w : Nat} {vv : Nat → Int32} {c : Nat} {A : Int64} {i j : Nat} (hi : i < 12) (hj : j < 12) (h : smv RR (kdr n vv c A i) n * ((cb (kdr n vv c A j) + w : Nat) : Int) < smv RR (kdr n vv c A j) n * ((cb (kdr n vv c A i) + w : Nat) : Int)) : kbf RR n w vv c A i j := (kbf_e hi hj).mpr ⟨by omega, fun q => absurd q (by omega)⟩
theorem kbf_n {RR : Nat → Int} {n w : Nat} {vv : Nat → Int32} {c : Nat} {A : Int64} {i j : Nat} (hi : i < 12) (hj : j < 12) (hji : j < i) (h : ¬ smv RR (kdr n vv c A i) n * ((cb (kdr n vv c A j) + w : Nat) : Int) < smv RR (kdr n vv c A j) n * ((cb (kdr n vv c A i) + w : Nat) : Int)) : kbf RR n w vv c A j i := (kbf_e hj hi).mpr ⟨by omega, fun _ => hji⟩
theorem nd_bef {kd o9 : Nat} (h1 : kd < 12) (h2 : o9 < 12) (h3 : o9 ≠ kd) : NDc [6, 4, 200 + kd, 220 + kd, 240 + kd, 200 + o9, 220 + o9, 240 + o9, 62, 63, 64, 65] := (show NDc [6, 4, 200 + kd, 220 + kd, 240 + kd, 200 + o9, 220 + o9, 240 + o9, 62, 63, 64, 65] from (nd_c (na_c (by decide) (na_c (by omega) (na_c (by omega) (na_c (by omega) (na_c (by omega) (na_c (by omega) (na_c (by omega) (na_c (by decide) (na_c (by decide) (na_c (by decide) (na_c (by decide) na_0))))))))))) (nd_c (na_c (by omega) (na_c (by omega) (na_c (by omega) (na_c (by omega) (na_c (by omega) (na_c (by omega) (na_c (by decide) (na_c (by decide) (na_c (by decide) (na_c (by decide) na_0)))))))))) (nd_c (na_c (by omega) (na_c (by omega) (na_c (by omega) (na_c (by omega) (na_c (by omega) (na_c (by omega) (na_c (by omega) (na_c (by omega) (na_c (by omega) na_0))))))))) (nd_c (na_c (by omega) (na_c (by omega) (na_c (by omega) (na_c (by omega) (na_c (by omega) (na_c (by omega) (na_c (by omega) (na_c (by omega) na_0)))))))) (nd_c (na_c (by omega) (na_c (by omega) (na_c (by omega) (na_c (by omega) (na_c (by omega) (na_c (by omega) (na_c (by omega) na_0))))))) (nd_c (na_c (by omega) (na_c (by omega) (na_c (by omega) (na_c (by omega) (na_c (by omega) (na_c (by omega) na_0)))))) (nd_c (na_c (by omega) (na_c (by omega) (na_c (by omega) (na_c (by omega) (na_c (by omega) na_0))))) (nd_c (na_c (by omega) (na_c (by omega) (na_c (by omega) (na_c (by omega) na_0)))) (nd_c (na_c (by decide) (na_c (by decide) (na_c (by decide) na_0))) (nd_c (na_c (by decide) (na_c (by decide) na_0)) (nd_c (na_c (by decide) na_0) (nd_c na_0 nd_0)))))))))))))
theorem dn_1 {a : Nat} (h : 0 < a) : nI a + (-1) = nI (a - 1) := by rw [← nI_sub1 h, Int32.sub_eq_add_neg]
set_option maxHeartbeats 4000000 in
set_option maxRecDepth 100000 in
theorem k_orderKinds (l : Launch) (D : va_G) (cT : Nat → ClassId) (cds : List Nat) (ad : Nat → Nat) (gg : Nat → Option va_E) (bb9 : Nat) (tt9 : Nat) (n : Nat) (zs : Nat → Int) (XB : Nat) (vv : Nat → Int32) (c0 : Nat) (x : Int64) (fo : Nat → Int32) (pd : Int32) (pu : Int32) (pq9 : Int32) (psb : Int64) (pcb : Int32) (w : Nat) (lst : Nat) (hcd : CD cds) (hgr : gg 6 = some (eGR ad bb9 tt9)) (hGa : GAp cT ad gg) (hG : ∀ j, j < 12 → GPp cT ad gg j (kdr n vv c0 x j) (smv zs (kdr n vv c0 x j) n)) (hpl : gg 4 = some (ePL pd (nI lst) (nI w) pu pq9 psb pcb)) (hw20 : w ≤ 20) (hod : gg 8 = some (eA (cT 0) 12 fo)) (hSc : SCG cT ad gg) (hn48 : n ≤ 48) (hXB : ∀ i, i < n → (zs i).natAbs ≤ XB) (hB5 : 48 * XB * 100 < 1000000000 ^ 48) (sz : Nat) : Met l yGr_orderKinds WGr_orderKinds ({ frames := 3, cells := 0, slots := 0, locals := 83 } : Room) (RW D vwCl [.ref (ad 6)] ([] ++ pg cds ad gg) (TY cT) sz) (va_Qi (fun (r9 : Int32) (u9 : (Nat → Option va_E) × (Nat → Int32) × (Nat → Nat) × Nat) => r9 = nI u9.2.2.2 ∧ u9.2.2.2 ≤ 12 ∧ (∀ z8, z8 ≠ 8 → (z8 < 62 ∨ 65 < z8) → u9.1 z8 = gg z8) ∧ u9.1 8 = some (eA (cT 0) 12 u9.2.1) ∧ (∀ p8, p8 < u9.2.2.2 → u9.2.1 p8 = nI (u9.2.2.1 p8)) ∧ KOR zs n w vv c0 x u9.2.2.1 u9.2.2.2 ∧ SCG cT ad u9.1) (BW D vwCl (va_A ([] ++ pg cds ad gg) sz) (fun u9 : (Nat → Option va_E) × (Nat → Int32) × (Nat → Nat) × Nat => ([] ++ pg cds ad u9.1))) (va_A ([] ++ pg cds ad gg) sz)) 0 0 (va_A ([] ++ pg cds ad gg) sz) := by
  refine Met.ofW (cc := cGr_orderKinds) (maxL := 4) (ret := (some .int)) (by decide) rfl ?_
  intro p e s m args below meth c s₁ B hml hv
  obtain ⟨rfl, hsz, hZ, hP, hK, hD0⟩ := hv
  have hx := B.exec
  have hb := B.bytes
  have hr := B.returns
  have hts := atoms_spec (ws := WGr_orderKinds) B.pre
  have hT : ∀ w ∈ TB, w.before _ s = true := fun w h => hts w (List.mem_cons_of_mem _ h)
  have hown : s.vm.findClass R_Gr = some m.cls := findClass_of_methodNamed B.named
  have hlocks := B.notSynchronized
  subst hsz
  have hD := hD0.self (sz := s.heap.size)
  generalize hAe : va_A ([] ++ pg cds ad gg) s.heap.size = A at hD hZ ⊢
  have hA : ∀ q : Nat, s.heap.size ≤ q → A q := fun q h => by rw [← hAe]; exact Or.inr h
  have hS : va_S A s.heap s.heap [] := va_S.rf
  have hl := lv_entry ([.ref (ad 6)]) (n := 4) (Nat.le_of_ble_eq_true rfl)
  rw [lg_entry_eq]
  generalize (lg_sl ([.ref (ad 6)]) ++ List.replicate (4 - (lg_sl ([.ref (ad 6)])).length) Slot.unset).toArray = ls at hl ⊢
  have hl : lv_has ls 4 [(0, .ref (ad 6))] := hl
  obtain ⟨qg, hga, hgb⟩ := hGa
  refine lv_iconst (v := 0) hx hb dGr_orderKinds_0 (by decide) ?_
  refine lv_istore_n hx hb dGr_orderKinds_1 rfl hl (by decide) rfl (fun ls hl => ?_)
  have hl : lv_has ls 4 [(1, .int 0), (0, .ref (ad 6))] := hl
  refine lv_iconst (v := 0) hx hb dGr_orderKinds_2 (by decide) ?_
  refine lv_istore_n hx hb dGr_orderKinds_3 rfl hl (by decide) rfl (fun ls hl => ?_)
  have hl : lv_has ls 4 [(2, .int 0), (1, .int 0), (0, .ref (ad 6))] := hl
  have hl : lv_has ls 4 [(2, .int 0), (1, .int (nI 0)), (0, .ref (ad 6))] := by
    rw [(show nI 0 = 0 from rfl)]; exact hl
  have hl : lv_has ls 4 [(2, .int (nI 0)), (1, .int (nI 0)), (0, .ref (ad 6))] := by
    rw [(show nI 0 = 0 from rfl)]; exact hl
  refine lp_w (α := Nat × Nat × (Nat → Nat) × (Nat → Int32) × (Nat → Option va_E)) (fun a9 => a9.1 ≤ 12 ∧ a9.2.1 ≤ a9.1 ∧ (∀ z8, z8 ≠ 8 → (z8 < 62 ∨ 65 < z8) → a9.2.2.2.2 z8 = gg z8) ∧ a9.2.2.2.2 8 = some (eA (cT 0) 12 a9.2.2.2.1) ∧ (∀ p, p < a9.2.1 → a9.2.2.2.1 p = nI (a9.2.2.1 p)) ∧ KOI zs n w vv c0 x a9.1 a9.2.2.1 a9.2.1 ∧ SCG cT ad a9.2.2.2.2) (fun a9 => 12 - a9.1) (fun a9 => [(0, .ref (ad 6)), (1, .int (nI a9.2.1)), (2, .int (nI a9.1))]) (fun a9 => ([] ++ pg cds ad a9.2.2.2.2)) 4 ?_ (0, 0, fun _ => 0, fo, gg) (show 0 ≤ 12 ∧ 0 ≤ 0 ∧ (∀ z8, z8 ≠ 8 → (z8 < 62 ∨ 65 < z8) → gg z8 = gg z8) ∧ gg 8 = some (eA (cT 0) 12 fo) ∧ (∀ p, p < 0 → fo p = nI ((fun _ => 0) p)) ∧ KOI zs n w vv c0 x 0 (fun _ => 0) 0 ∧ SCG cT ad gg from ⟨by omega, by omega, fun _ _ _ => rfl, hod, fun p hp => absurd hp (by omega), ⟨fun p hp => absurd hp (by omega), fun p q _ hq => absurd hq (by omega), fun j hj => absurd hj (by omega)⟩, hSc⟩) (lv_sub hl [2, 1, 0] rfl) hP hD hS
  intro a9 hI4 ih4 ls H locs hl hP hD hS
  obtain ⟨kd, F, od, fo1, g1⟩ := a9
  have hI4 : kd ≤ 12 ∧ F ≤ kd ∧ (∀ z8, z8 ≠ 8 → (z8 < 62 ∨ 65 < z8) → g1 z8 = gg z8) ∧ g1 8 = some (eA (cT 0) 12 fo1) ∧ (∀ p, p < F → fo1 p = nI (od p)) ∧ KOI zs n w vv c0 x kd od F ∧ SCG cT ad g1 := hI4
  obtain ⟨ikd, iFk, iF, i8, iO, iK, iC⟩ := hI4
  have hl : lv_has ls 4 [(0, .ref (ad 6)), (1, .int (nI F)), (2, .int (nI kd))] := hl
  have hP : va_P D vwCl ([] ++ pg cds ad g1) _ := hP
  have hD : va_D A ([] ++ pg cds ad g1) := hD
  refine lv_iload_n hx hb dGr_orderKinds_4 rfl (lv_at hl 2 rfl) ?_
  refine lv_bipush (v := 12) hx hb dGr_orderKinds_5 (by decide) ?_
  refine lv_icmp_ge (tgt := 92) hx hb dGr_orderKinds_7 rfl (fun h1 => ?_) (fun h1 => ?_)
  · have gh1 : 12 ≤ kd := (nI_leI (a := 12) (b := kd) (by omega) (by omega)).mp h1
    refine lv_iload_n hx hb dGr_orderKinds_92 rfl (lv_at hl 1 rfl) ?_
    have hP9 : va_P D vwCl ([] ++ pg cds ad g1) _ := hP.part (cx := []) [] rfl
    have hD9 : va_D A ([] ++ pg cds ad g1) := hD.part (cx := []) [] (by decide) rfl
    refine W.widen (k := 0) (n := 0) (Nat.le_of_ble_eq_true rfl) (Nat.le_of_ble_eq_true rfl) ?_
    exact W.iret (v := nI F) hx hb hr (fun t9 ht9 hW9 => ⟨⟨nI F, (g1, fo1, od, F), rfl, (show (nI F) = nI F ∧ F ≤ 12 ∧ (∀ z8, z8 ≠ 8 → (z8 < 62 ∨ 65 < z8) → g1 z8 = gg z8) ∧ g1 8 = some (eA (cT 0) 12 fo1) ∧ (∀ p8, p8 < F → fo1 p8 = nI (od p8)) ∧ KOR zs n w vv c0 x od F ∧ SCG cT ad g1 from (by obtain rfl : kd = 12 := (by omega); exact ⟨rfl, iFk, iF, i8, iO, iK, iC⟩)), by rw [ht9]; exact hP9, hD9⟩, hS.F ht9⟩) hS.2.2 dGr_orderKinds_93
  · have gh1 : kd < 12 := Nat.not_le.mp (fun q => h1 ((nI_leI (a := 12) (b := kd) (by omega) (by omega)).mpr q))
    have hkd : kd < 12 := by omega
    have hGk := (hG kd hkd).cg (g2 := g1) (iF _ (by omega) (by omega)) (iF _ (by omega) (by omega)) (iF _ (by omega) (by omega))
    obtain ⟨wkg, wkw⟩ := hGk
    obtain ⟨wkn, wkb, wkf, wk1, wk2, wk3⟩ := wkw
    refine lv_aload_n hx hb dGr_orderKinds_10 rfl (lv_at hl 0 rfl) ?_
    refine va_get (D := D) (ci := 7) (v := .ref (ad 7)) (C := R_Gr) (T := T_Gr) (N := 13) hx hb hT in_Gr hown hK (pg_1 (x := 6) hcd hP (by decide) ((iF 6 (by decide) (by decide)).trans hgr)) 0 rfl rfl 3 (by decide) (hT _ w217) (fun _ h9 => h9) rfl dGr_orderKinds_11 ?_
    refine lv_iload_n hx hb dGr_orderKinds_14 rfl (lv_at hl 2 rfl) ?_
    refine al_q (q := ad (200 + kd)) hx hb hK (pg_1 (x := 7) hcd hP (by decide) ((iF 7 (by decide) (by decide)).trans hga)) 0 6 rfl rfl (vp_in_nI (by omega) (by decide)) (by rw [nI_clamp (by omega)]; exact hgb kd hkd) dGr_orderKinds_15 ?_
    refine va_get (D := D) (ci := 5) (v := .long (kdr n vv c0 x kd)) (C := R_G) (T := T_G) (N := 2) hx hb hT in_G hown hK (pg_1 (x := 200 + kd) hcd hP (by omega) wkg) 0 rfl rfl 0 (by decide) (hT _ w173) (fun _ h9 => h9) rfl dGr_orderKinds_16 ?_
    refine lv_lconst (v := 0) hx hb dGr_orderKinds_19 (by decide) ?_
    refine W.lcmp hx hb dGr_orderKinds_20 ?_
    refine lv_if_eq (tgt := 86) hx hb dGr_orderKinds_21 rfl (fun h2 => ?_) (fun h2 => ?_)
    · have hkz : kdr n vv c0 x kd = 0 := (lg_cmp_eq _ _).mp h2
      refine lv_iinc (k := 2) (v := nI (kd + 1)) hx hb dGr_orderKinds_86 hl rfl (nI_1 kd) (by decide) rfl (fun ls hl => ?_)
      have hl : lv_has ls 4 [(2, .int (nI (kd + 1))), (0, .ref (ad 6)), (1, .int (nI F))] := hl
      refine lv_goto (tgt := 4) hx hb dGr_orderKinds_89 rfl ?_
      exact ih4 (kd + 1, F, od, fo1, g1) (show (kd + 1) ≤ 12 ∧ F ≤ (kd + 1) ∧ (∀ z8, z8 ≠ 8 → (z8 < 62 ∨ 65 < z8) → g1 z8 = gg z8) ∧ g1 8 = some (eA (cT 0) 12 fo1) ∧ (∀ p, p < F → fo1 p = nI (od p)) ∧ KOI zs n w vv c0 x (kd + 1) od F ∧ SCG cT ad g1 from ⟨by omega, by omega, iF, i8, iO, koi_skip iK hkz, iC⟩) (show 12 - (kd + 1) < 12 - kd from (by omega)) ls H locs (lv_sub hl [1, 2, 0] rfl) hP hD hS
    · have hkz : ¬ kdr n vv c0 x kd = 0 := fun q => h2 ((lg_cmp_eq _ _).mpr q)
      refine lv_iload_n hx hb dGr_orderKinds_24 rfl (lv_at hl 1 rfl) ?_
      refine lv_iinc (k := 1) (v := nI (F + 1)) hx hb dGr_orderKinds_25 hl rfl (nI_1 F) (by decide) rfl (fun ls hl => ?_)
      have hl : lv_has ls 4 [(1, .int (nI (F + 1))), (0, .ref (ad 6)), (2, .int (nI kd))] := hl
      refine lv_istore_n hx hb dGr_orderKinds_28 rfl hl (by decide) rfl (fun ls hl => ?_)
      have hl : lv_has ls 4 [(3, .int (nI F)), (1, .int (nI (F + 1))), (0, .ref (ad 6)), (2, .int (nI kd))] := hl
      refine lp_w (α := Nat × (Nat → Int32) × (Nat → Option va_E)) (fun a9 => a9.1 ≤ F ∧ (∀ z8, z8 ≠ 8 → (z8 < 62 ∨ 65 < z8) → a9.2.2 z8 = g1 z8) ∧ a9.2.2 8 = some (eA (cT 0) 12 a9.2.1) ∧ (∀ p, p < a9.1 → a9.2.1 p = nI (od p)) ∧ (∀ p, a9.1 ≤ p → p < F → a9.2.1 (p + 1) = nI (od p) ∧ kbf zs n w vv c0 x kd (od p)) ∧ SCG cT ad a9.2.2) (fun a9 => a9.1) (fun a9 => [(0, .ref (ad 6)), (1, .int (nI (F + 1))), (2, .int (nI kd)), (3, .int (nI a9.1))]) (fun a9 => ([] ++ pg cds ad a9.2.2)) 29 ?_ (F, fo1, g1) (show F ≤ F ∧ (∀ z8, z8 ≠ 8 → (z8 < 62 ∨ 65 < z8) → g1 z8 = g1 z8) ∧ g1 8 = some (eA (cT 0) 12 fo1) ∧ (∀ p, p < F → fo1 p = nI (od p)) ∧ (∀ p, F ≤ p → p < F → fo1 (p + 1) = nI (od p) ∧ kbf zs n w vv c0 x kd (od p)) ∧ SCG cT ad g1 from ⟨Nat.le_refl _, fun _ _ _ => rfl, i8, iO, fun p h1 h2 => absurd h1 (by omega), iC⟩) (lv_sub hl [2, 1, 3, 0] rfl) hP hD hS
      intro a9 hI29 ih29 ls H locs hl hP hD hS
      obtain ⟨a, fo2, g2⟩ := a9
      have hI29 : a ≤ F ∧ (∀ z8, z8 ≠ 8 → (z8 < 62 ∨ 65 < z8) → g2 z8 = g1 z8) ∧ g2 8 = some (eA (cT 0) 12 fo2) ∧ (∀ p, p < a → fo2 p = nI (od p)) ∧ (∀ p, a ≤ p → p < F → fo2 (p + 1) = nI (od p) ∧ kbf zs n w vv c0 x kd (od p)) ∧ SCG cT ad g2 := hI29
      obtain ⟨ja, jF, j8, jO, jP, jC⟩ := hI29
      have hl : lv_has ls 4 [(0, .ref (ad 6)), (1, .int (nI (F + 1))), (2, .int (nI kd)), (3, .int (nI a))] := hl
      have hP : va_P D vwCl ([] ++ pg cds ad g2) _ := hP
      have hD : va_D A ([] ++ pg cds ad g2) := hD
      refine lv_iload_n hx hb dGr_orderKinds_29 rfl (lv_at hl 3 rfl) ?_
      refine lv_if_le (tgt := 79) hx hb dGr_orderKinds_30 rfl (fun h3 => ?_) (fun h3 => ?_)
      · have gh3 : a ≤ 0 := (nI_leI (a := a) (b := 0) (by omega) (by omega)).mp h3
        have hsc5 := jC
        have f5i : ∀ z8, z8 ≠ 8 → (z8 < 62 ∨ 65 < z8) → g2 z8 = g1 z8 := jF
        refine lv_aload_n hx hb dGr_orderKinds_79 rfl (lv_at hl 0 rfl) ?_
        refine va_get (D := D) (ci := 7) (v := .ref (ad 8)) (C := R_Gr) (T := T_Gr) (N := 13) hx hb hT in_Gr hown hK (pg_1 (x := 6) hcd hP (by decide) (((jF 6 (by decide) (by decide)).trans (iF 6 (by decide) (by decide))).trans hgr)) 0 rfl rfl 4 (by decide) (hT _ w218) (fun _ h9 => h9) rfl dGr_orderKinds_80 ?_
        refine lv_iload_n hx hb dGr_orderKinds_83 rfl (lv_at hl 3 rfl) ?_
        refine lv_iload_n hx hb dGr_orderKinds_84 rfl (lv_at hl 2 rfl) ?_
        have hB9 : QI g2 [(8, .inl (cT 0, 12, .inl fo2))] := (qi_c (by decide) j8 qi_0)
        have hN9 := (show NDc [8] from (nd_c na_0 nd_0))
        have hP := bo_P (wc := [(8, .inl (cT 0, 12, .inl fo2))]) (X := []) hcd hN9 hB9 hP
        have hD := bo_D (wc := [(8, .inl (cT 0, 12, .inl fo2))]) (X := []) hcd hN9 hB9 hD
        have hP : va_P D vwCl ([(ad 8, .inl (cT 0, 12, .inl fo2))] ++ pg cds ad (upo g2 [8])) _ := hP
        have hD : va_D A ([(ad 8, .inl (cT 0, 12, .inl fo2))] ++ pg cds ad (upo g2 [8])) := hD
        refine lq_iast (j := a) hx hb hK hP hD hS 0 0 rfl rfl rfl (by omega) (by omega) dGr_orderKinds_85 (fun H locs hP hD hS => ?_)
        have hP : va_P D vwCl ([(ad 8, .inl (cT 0, 12, .inl (upd fo2 a (nI kd))))] ++ pg cds ad (upo g2 [8])) _ := hP
        have hD : va_D A ([(ad 8, .inl (cT 0, 12, .inl (upd fo2 a (nI kd))))] ++ pg cds ad (upo g2 [8])) := hD
        have hN9 := (show NDc [8] from (nd_c na_0 nd_0))
        have hP := gb_P (w9 := [(8, .inl (cT 0, 12, .inl (upd fo2 a (nI kd))))]) (X := []) (g := g2) hcd hN9 (show QB [(8, .inl (cT 0, 12, .inl (upd fo2 a (nI kd))))] from (qb_c (by decide) qb_0)) (hP.part (cx := [(ad 8, .inl (cT 0, 12, .inl (upd fo2 a (nI kd))))]) [0] rfl)
        have hD := gb_D (w9 := [(8, .inl (cT 0, 12, .inl (upd fo2 a (nI kd))))]) (X := []) (g := g2) hcd hN9 (show QB [(8, .inl (cT 0, 12, .inl (upd fo2 a (nI kd))))] from (qb_c (by decide) qb_0)) (hD.part (cx := [(ad 8, .inl (cT 0, 12, .inl (upd fo2 a (nI kd))))]) [0] (by decide) rfl)
        obtain ⟨g6, hg6⟩ : ∃ q9, q9 = ups g2 [(8, .inl (cT 0, 12, .inl (upd fo2 a (nI kd))))] := ⟨_, rfl⟩
        rw [← hg6] at hP hD
        have hP : va_P D vwCl ([] ++ pg cds ad g6) _ := hP
        have hD : va_D A ([] ++ pg cds ad g6) := hD
        have fg6 : ∀ z8, z8 ≠ 8 → g6 z8 = g2 z8 := fun z8 z1 => by rw [hg6]; exact ups_k (kp_n z1 kp_0)
        have g6_0 : g6 8 = some (.inl (cT 0, 12, .inl (upd fo2 a (nI kd)))) := by rw [hg6]; exact ups_1
        refine lv_iinc (k := 2) (v := nI (kd + 1)) hx hb dGr_orderKinds_86 hl rfl (nI_1 kd) (by decide) rfl (fun ls hl => ?_)
        have hl : lv_has ls 4 [(2, .int (nI (kd + 1))), (0, .ref (ad 6)), (1, .int (nI (F + 1))), (3, .int (nI a))] := hl
        refine lv_goto (tgt := 4) hx hb dGr_orderKinds_89 rfl ?_
        exact ih4 (kd + 1, F + 1, insA od a kd, upd fo2 a (nI kd), g6) (show (kd + 1) ≤ 12 ∧ (F + 1) ≤ (kd + 1) ∧ (∀ z8, z8 ≠ 8 → (z8 < 62 ∨ 65 < z8) → g6 z8 = gg z8) ∧ g6 8 = some (eA (cT 0) 12 (upd fo2 a (nI kd))) ∧ (∀ p, p < (F + 1) → (upd fo2 a (nI kd)) p = nI ((insA od a kd) p)) ∧ KOI zs n w vv c0 x (kd + 1) (insA od a kd) (F + 1) ∧ SCG cT ad g6 from ⟨by omega, by omega, fun z8 n1 n2 => (fg6 z8 n1).trans ((f5i z8 n1 n2).trans (iF z8 n1 n2)), g6_0, fun p hp => (by unfold insA; by_cases q1 : p < a; (rw [if_pos q1, pk_un (by omega)]; exact jO p q1); (rw [if_neg q1]; by_cases q2 : p = a; (rw [if_pos q2, q2, pk_us]); (rw [if_neg q2, pk_un q2]; have q9 := (jP (p - 1) (by omega) (by omega)).1; rw [show p - 1 + 1 = p by omega] at q9; exact q9))), koi_ins iK hkd hkz ja (fun p h1 h2 => (jP p h1 h2).2) (Or.inl (by omega)), hsc5.cg (fun z h1 h2 => fg6 z (by omega))⟩) (show 12 - (kd + 1) < 12 - kd from (by omega)) ls H locs (lv_sub hl [1, 2, 0] rfl) hP hD hS
      · have gh3 : 0 < a := Nat.not_le.mp (fun q => h3 ((nI_leI (a := a) (b := 0) (by omega) (by omega)).mpr q))
        have ha0 : 0 < a := by omega
        obtain ⟨o9, ho9⟩ : ∃ q9 : Nat, q9 = od (a - 1) := ⟨_, rfl⟩
        have ho1 : o9 < kd ∧ ¬ kdr n vv c0 x o9 = 0 := by rw [ho9]; exact iK.1 (a - 1) (by omega)
        have hGk2 := (hG kd hkd).cg (g2 := g2) ((jF _ (by omega) (by omega)).trans (iF _ (by omega) (by omega))) ((jF _ (by omega) (by omega)).trans (iF _ (by omega) (by omega))) ((jF _ (by omega) (by omega)).trans (iF _ (by omega) (by omega)))
        obtain ⟨vkg, vkw⟩ := hGk2
        obtain ⟨vkn, vkb, vkf, vk1, vk2, vk3⟩ := vkw
        have hGo := (hG o9 (by omega)).cg (g2 := g2) ((jF _ (by omega) (by omega)).trans (iF _ (by omega) (by omega))) ((jF _ (by omega) (by omega)).trans (iF _ (by omega) (by omega))) ((jF _ (by omega) (by omega)).trans (iF _ (by omega) (by omega)))
        obtain ⟨vog, vow⟩ := hGo
        obtain ⟨von, vob, vof, vo1, vo2, vo3⟩ := vow
        obtain ⟨⟨zo1, hso⟩, ⟨zo2, hss⟩, ⟨zo3, hst⟩⟩ := jC
        have hso0 := hso
        obtain ⟨wscn, wscb, wscf, wsc1, wsc2, wsc3⟩ := hss
        obtain ⟨wotn, wotb, wotf, wot1, wot2, wot3⟩ := hst
        refine lv_aload_n hx hb dGr_orderKinds_33 rfl (lv_at hl 0 rfl) ?_
        refine lv_aload_n hx hb dGr_orderKinds_34 rfl (lv_at hl 0 rfl) ?_
        refine va_get (D := D) (ci := 7) (v := .ref (ad 7)) (C := R_Gr) (T := T_Gr) (N := 13) hx hb hT in_Gr hown hK (pg_1 (x := 6) hcd hP (by decide) (((jF 6 (by decide) (by decide)).trans (iF 6 (by decide) (by decide))).trans hgr)) 0 rfl rfl 3 (by decide) (hT _ w217) (fun _ h9 => h9) rfl dGr_orderKinds_35 ?_
        refine lv_iload_n hx hb dGr_orderKinds_38 rfl (lv_at hl 2 rfl) ?_
        refine al_q (q := ad (200 + kd)) hx hb hK (pg_1 (x := 7) hcd hP (by decide) (((jF 7 (by decide) (by decide)).trans (iF 7 (by decide) (by decide))).trans hga)) 0 6 rfl rfl (vp_in_nI (by omega) (by decide)) (by rw [nI_clamp (by omega)]; exact hgb kd hkd) dGr_orderKinds_39 ?_
        refine lv_aload_n hx hb dGr_orderKinds_40 rfl (lv_at hl 0 rfl) ?_
        refine va_get (D := D) (ci := 7) (v := .ref (ad 7)) (C := R_Gr) (T := T_Gr) (N := 13) hx hb hT in_Gr hown hK (pg_1 (x := 6) hcd hP (by decide) (((jF 6 (by decide) (by decide)).trans (iF 6 (by decide) (by decide))).trans hgr)) 0 rfl rfl 3 (by decide) (hT _ w217) (fun _ h9 => h9) rfl dGr_orderKinds_41 ?_
        refine lv_aload_n hx hb dGr_orderKinds_44 rfl (lv_at hl 0 rfl) ?_
        refine va_get (D := D) (ci := 7) (v := .ref (ad 8)) (C := R_Gr) (T := T_Gr) (N := 13) hx hb hT in_Gr hown hK (pg_1 (x := 6) hcd hP (by decide) (((jF 6 (by decide) (by decide)).trans (iF 6 (by decide) (by decide))).trans hgr)) 0 rfl rfl 4 (by decide) (hT _ w218) (fun _ h9 => h9) rfl dGr_orderKinds_45 ?_
        refine lv_iload_n hx hb dGr_orderKinds_48 rfl (lv_at hl 3 rfl) ?_
        refine lv_iconst (v := 1) hx hb dGr_orderKinds_49 (by decide) ?_
        refine lv_isub hx hb dGr_orderKinds_50 ?_
        refine lv_topi (fun y9 e9 => ?_)
        cases (show y9 = nI (a - 1) from e9.trans (pk_sub (a := a) (b := 1) (by omega)))
        refine lq_iald (j := a - 1) hx hb hK (pg_1 (x := 8) hcd hP (by decide) j8) 0 0 rfl rfl rfl (by omega) (by omega) dGr_orderKinds_51 ?_
        refine lv_topi (fun y9 e9 => ?_)
        cases (show y9 = nI o9 from e9.trans ((jO (a - 1) (by omega)).trans (congrArg nI ho9.symm)))
        refine al_q (q := ad (200 + o9)) hx hb hK (pg_1 (x := 7) hcd hP (by decide) (((jF 7 (by decide) (by decide)).trans (iF 7 (by decide) (by decide))).trans hga)) 0 6 rfl rfl (vp_in_nI (by omega) (by decide)) (by rw [nI_clamp (by omega)]; exact hgb o9 (by omega)) dGr_orderKinds_52 ?_
        have b12 : o9 < 12 := by omega
        have bne : o9 ≠ kd := by omega
        have hB9 : QI g2 [(6, .inr (7, [.ref (ad 1), .ref (ad 4), .ref (ad 5), .ref (ad 7), .ref (ad 8), .ref (ad 212), .ref (ad 213), .ref (ad 214), .ref (ad 60), .ref (ad 62), .ref (ad 64), .ref (ad bb9), .ref (ad tt9)])), (4, .inr (3, [.int pd, .int (nI lst), .int (nI w), .int pu, .int pq9, .long psb, .int pcb])), (200 + kd, .inr (5, [.long (kdr n vv c0 x kd), .ref (ad (220 + kd))])), (220 + kd, .inr (4, [.ref (ad (240 + kd)), .int vkn, .int vkb])), (240 + kd, .inl (cT 0, 24, .inl vkf)), (200 + o9, .inr (5, [.long (kdr n vv c0 x o9), .ref (ad (220 + o9))])), (220 + o9, .inr (4, [.ref (ad (240 + o9)), .int von, .int vob])), (240 + o9, .inl (cT 0, 24, .inl vof)), (62, .inr (4, [.ref (ad 63), .int wscn, .int wscb])), (63, .inl (cT 0, 48, .inl wscf)), (64, .inr (4, [.ref (ad 65), .int wotn, .int wotb])), (65, .inl (cT 0, 48, .inl wotf))] := (qi_c (by decide) (((jF 6 (by decide) (by decide)).trans (iF 6 (by decide) (by decide))).trans hgr) (qi_c (by decide) (((jF 4 (by decide) (by decide)).trans (iF 4 (by decide) (by decide))).trans hpl) (qi_c (by omega) vkg (qi_c (by omega) vk1 (qi_c (by omega) vk2 (qi_c (by omega) vog (qi_c (by omega) vo1 (qi_c (by omega) vo2 (qi_c (by decide) wsc1 (qi_c (by decide) wsc2 (qi_c (by decide) wot1 (qi_c (by decide) wot2 qi_0))))))))))))
        have hN9 := (nd_bef hkd b12 bne)
        have hP := bo_P (wc := [(6, .inr (7, [.ref (ad 1), .ref (ad 4), .ref (ad 5), .ref (ad 7), .ref (ad 8), .ref (ad 212), .ref (ad 213), .ref (ad 214), .ref (ad 60), .ref (ad 62), .ref (ad 64), .ref (ad bb9), .ref (ad tt9)])), (4, .inr (3, [.int pd, .int (nI lst), .int (nI w), .int pu, .int pq9, .long psb, .int pcb])), (200 + kd, .inr (5, [.long (kdr n vv c0 x kd), .ref (ad (220 + kd))])), (220 + kd, .inr (4, [.ref (ad (240 + kd)), .int vkn, .int vkb])), (240 + kd, .inl (cT 0, 24, .inl vkf)), (200 + o9, .inr (5, [.long (kdr n vv c0 x o9), .ref (ad (220 + o9))])), (220 + o9, .inr (4, [.ref (ad (240 + o9)), .int von, .int vob])), (240 + o9, .inl (cT 0, 24, .inl vof)), (62, .inr (4, [.ref (ad 63), .int wscn, .int wscb])), (63, .inl (cT 0, 48, .inl wscf)), (64, .inr (4, [.ref (ad 65), .int wotn, .int wotb])), (65, .inl (cT 0, 48, .inl wotf))]) (X := []) hcd hN9 hB9 hP
        have hD := bo_D (wc := [(6, .inr (7, [.ref (ad 1), .ref (ad 4), .ref (ad 5), .ref (ad 7), .ref (ad 8), .ref (ad 212), .ref (ad 213), .ref (ad 214), .ref (ad 60), .ref (ad 62), .ref (ad 64), .ref (ad bb9), .ref (ad tt9)])), (4, .inr (3, [.int pd, .int (nI lst), .int (nI w), .int pu, .int pq9, .long psb, .int pcb])), (200 + kd, .inr (5, [.long (kdr n vv c0 x kd), .ref (ad (220 + kd))])), (220 + kd, .inr (4, [.ref (ad (240 + kd)), .int vkn, .int vkb])), (240 + kd, .inl (cT 0, 24, .inl vkf)), (200 + o9, .inr (5, [.long (kdr n vv c0 x o9), .ref (ad (220 + o9))])), (220 + o9, .inr (4, [.ref (ad (240 + o9)), .int von, .int vob])), (240 + o9, .inl (cT 0, 24, .inl vof)), (62, .inr (4, [.ref (ad 63), .int wscn, .int wscb])), (63, .inl (cT 0, 48, .inl wscf)), (64, .inr (4, [.ref (ad 65), .int wotn, .int wotb])), (65, .inl (cT 0, 48, .inl wotf))]) (X := []) hcd hN9 hB9 hD
        have hP : va_P D vwCl ([(ad 6, .inr (7, [.ref (ad 1), .ref (ad 4), .ref (ad 5), .ref (ad 7), .ref (ad 8), .ref (ad 212), .ref (ad 213), .ref (ad 214), .ref (ad 60), .ref (ad 62), .ref (ad 64), .ref (ad bb9), .ref (ad tt9)])), (ad 4, .inr (3, [.int pd, .int (nI lst), .int (nI w), .int pu, .int pq9, .long psb, .int pcb])), (ad (200 + kd), .inr (5, [.long (kdr n vv c0 x kd), .ref (ad (220 + kd))])), (ad (220 + kd), .inr (4, [.ref (ad (240 + kd)), .int vkn, .int vkb])), (ad (240 + kd), .inl (cT 0, 24, .inl vkf)), (ad (200 + o9), .inr (5, [.long (kdr n vv c0 x o9), .ref (ad (220 + o9))])), (ad (220 + o9), .inr (4, [.ref (ad (240 + o9)), .int von, .int vob])), (ad (240 + o9), .inl (cT 0, 24, .inl vof)), (ad 62, .inr (4, [.ref (ad 63), .int wscn, .int wscb])), (ad 63, .inl (cT 0, 48, .inl wscf)), (ad 64, .inr (4, [.ref (ad 65), .int wotn, .int wotb])), (ad 65, .inl (cT 0, 48, .inl wotf))] ++ pg cds ad (upo g2 [6, 4, 200 + kd, 220 + kd, 240 + kd, 200 + o9, 220 + o9, 240 + o9, 62, 63, 64, 65])) _ := hP
        have hD : va_D A ([(ad 6, .inr (7, [.ref (ad 1), .ref (ad 4), .ref (ad 5), .ref (ad 7), .ref (ad 8), .ref (ad 212), .ref (ad 213), .ref (ad 214), .ref (ad 60), .ref (ad 62), .ref (ad 64), .ref (ad bb9), .ref (ad tt9)])), (ad 4, .inr (3, [.int pd, .int (nI lst), .int (nI w), .int pu, .int pq9, .long psb, .int pcb])), (ad (200 + kd), .inr (5, [.long (kdr n vv c0 x kd), .ref (ad (220 + kd))])), (ad (220 + kd), .inr (4, [.ref (ad (240 + kd)), .int vkn, .int vkb])), (ad (240 + kd), .inl (cT 0, 24, .inl vkf)), (ad (200 + o9), .inr (5, [.long (kdr n vv c0 x o9), .ref (ad (220 + o9))])), (ad (220 + o9), .inr (4, [.ref (ad (240 + o9)), .int von, .int vob])), (ad (240 + o9), .inl (cT 0, 24, .inl vof)), (ad 62, .inr (4, [.ref (ad 63), .int wscn, .int wscb])), (ad 63, .inl (cT 0, 48, .inl wscf)), (ad 64, .inr (4, [.ref (ad 65), .int wotn, .int wotb])), (ad 65, .inl (cT 0, 48, .inl wotf))] ++ pg cds ad (upo g2 [6, 4, 200 + kd, 220 + kd, 240 + kd, 200 + o9, 220 + o9, 240 + o9, 62, 63, 64, 65])) := hD
        refine hy_iQ (X := [(ad 6, .inr (7, [.ref (ad 1), .ref (ad 4), .ref (ad 5), .ref (ad 7), .ref (ad 8), .ref (ad 212), .ref (ad 213), .ref (ad 214), .ref (ad 60), .ref (ad 62), .ref (ad 64), .ref (ad bb9), .ref (ad tt9)])), (ad 4, .inr (3, [.int pd, .int (nI lst), .int (nI w), .int pu, .int pq9, .long psb, .int pcb])), (ad (200 + kd), .inr (5, [.long (kdr n vv c0 x kd), .ref (ad (220 + kd))])), (ad (220 + kd), .inr (4, [.ref (ad (240 + kd)), .int vkn, .int vkb])), (ad (240 + kd), .inl (cT 0, 24, .inl vkf)), (ad (200 + o9), .inr (5, [.long (kdr n vv c0 x o9), .ref (ad (220 + o9))])), (ad (220 + o9), .inr (4, [.ref (ad (240 + o9)), .int von, .int vob])), (ad (240 + o9), .inl (cT 0, 24, .inl vof)), (ad 62, .inr (4, [.ref (ad 63), .int wscn, .int wscb])), (ad 63, .inl (cT 0, 48, .inl wscf)), (ad 64, .inr (4, [.ref (ad 65), .int wotn, .int wotb])), (ad 65, .inl (cT 0, 48, .inl wotf))]) (pl := pg cds ad (upo g2 [6, 4, 200 + kd, 220 + kd, 240 + kd, 200 + o9, 220 + o9, 240 + o9, 62, 63, 64, 65])) (cx := [(ad 6, .inr (7, [.ref (ad 1), .ref (ad 4), .ref (ad 5), .ref (ad 7), .ref (ad 8), .ref (ad 212), .ref (ad 213), .ref (ad 214), .ref (ad 60), .ref (ad 62), .ref (ad 64), .ref (ad bb9), .ref (ad tt9)])), (ad 4, .inr (3, [.int pd, .int (nI lst), .int (nI w), .int pu, .int pq9, .long psb, .int pcb])), (ad (200 + kd), .inr (5, [.long (kdr n vv c0 x kd), .ref (ad (220 + kd))])), (ad (220 + kd), .inr (4, [.ref (ad (240 + kd)), .int vkn, .int vkb])), (ad (240 + kd), .inl (cT 0, 24, .inl vkf)), (ad (200 + o9), .inr (5, [.long (kdr n vv c0 x o9), .ref (ad (220 + o9))])), (ad (220 + o9), .inr (4, [.ref (ad (240 + o9)), .int von, .int vob])), (ad (240 + o9), .inl (cT 0, 24, .inl vof)), (ad 62, .inr (4, [.ref (ad 63), .int wscn, .int wscb])), (ad 63, .inl (cT 0, 48, .inl wscf)), (ad 64, .inr (4, [.ref (ad 65), .int wotn, .int wotb])), (ad 65, .inl (cT 0, 48, .inl wotf))]) (wr := []) hP hD hS hA [0, 1, 2, 3, 4, 5, 6, 7, 8, 9, 10, 11] [] rfl rfl (by decide) (by decide) (va_runV (As := [.ref (ad (200 + kd)), .ref (ad (200 + o9))]) (rest := []) ⟨hx, hb, hml, hown, hT⟩ (k_isBefore l D cT (ad 6) (ad 1) (ad 4) (ad 5) (ad 7) (ad 8) (ad 212) (ad 213) (ad 214) (ad 60) (ad 62) (ad 64) (ad bb9) (ad tt9) pd (nI lst) (nI w) pu pq9 psb pcb (ad (200 + kd)) (kdr n vv c0 x kd) (ad (220 + kd)) (ad (240 + kd)) vkn vkb vkf (ad (200 + o9)) (kdr n vv c0 x o9) (ad (220 + o9)) (ad (240 + o9)) von vob vof (ad 63) wscn wscb wscf (ad 65) wotn wotb wotf w (smv zs (kdr n vv c0 x kd) n) (smv zs (kdr n vv c0 x o9) n) (48 * XB) rfl hw20 vk3 vo3 (smv_sb hn48 hXB) (smv_sb hn48 hXB) hB5 _) ⟨callB_of 2 hT (tb_gd w924) rfl rfl rfl (hT _ w6) (hT _ w921) hGr_isBefore ⟨Nat.le_of_ble_eq_true rfl, Nat.le_of_ble_eq_true rfl⟩, (hT _ w923), (hT _ wp18)⟩ (RW.preV (ci := 7) (q0 := 0) hZ hS (hy_free (cx := [(ad 6, .inr (7, [.ref (ad 1), .ref (ad 4), .ref (ad 5), .ref (ad 7), .ref (ad 8), .ref (ad 212), .ref (ad 213), .ref (ad 214), .ref (ad 60), .ref (ad 62), .ref (ad 64), .ref (ad bb9), .ref (ad tt9)])), (ad 4, .inr (3, [.int pd, .int (nI lst), .int (nI w), .int pu, .int pq9, .long psb, .int pcb])), (ad (200 + kd), .inr (5, [.long (kdr n vv c0 x kd), .ref (ad (220 + kd))])), (ad (220 + kd), .inr (4, [.ref (ad (240 + kd)), .int vkn, .int vkb])), (ad (240 + kd), .inl (cT 0, 24, .inl vkf)), (ad (200 + o9), .inr (5, [.long (kdr n vv c0 x o9), .ref (ad (220 + o9))])), (ad (220 + o9), .inr (4, [.ref (ad (240 + o9)), .int von, .int vob])), (ad (240 + o9), .inl (cT 0, 24, .inl vof)), (ad 62, .inr (4, [.ref (ad 63), .int wscn, .int wscb])), (ad 63, .inl (cT 0, 48, .inl wscf)), (ad 64, .inr (4, [.ref (ad 65), .int wotn, .int wotb])), (ad 65, .inl (cT 0, 48, .inl wotf))]) hD hS hA [0, 1, 2, 3, 4, 5, 6, 7, 8, 9, 10, 11] rfl) (hP.sub (ws' := [(ad 6, .inr (7, [.ref (ad 1), .ref (ad 4), .ref (ad 5), .ref (ad 7), .ref (ad 8), .ref (ad 212), .ref (ad 213), .ref (ad 214), .ref (ad 60), .ref (ad 62), .ref (ad 64), .ref (ad bb9), .ref (ad tt9)])), (ad 4, .inr (3, [.int pd, .int (nI lst), .int (nI w), .int pu, .int pq9, .long psb, .int pcb])), (ad (200 + kd), .inr (5, [.long (kdr n vv c0 x kd), .ref (ad (220 + kd))])), (ad (220 + kd), .inr (4, [.ref (ad (240 + kd)), .int vkn, .int vkb])), (ad (240 + kd), .inl (cT 0, 24, .inl vkf)), (ad (200 + o9), .inr (5, [.long (kdr n vv c0 x o9), .ref (ad (220 + o9))])), (ad (220 + o9), .inr (4, [.ref (ad (240 + o9)), .int von, .int vob])), (ad (240 + o9), .inl (cT 0, 24, .inl vof)), (ad 62, .inr (4, [.ref (ad 63), .int wscn, .int wscb])), (ad 63, .inl (cT 0, 48, .inl wscf)), (ad 64, .inr (4, [.ref (ad 65), .int wotn, .int wotb])), (ad 65, .inl (cT 0, 48, .inl wotf))]) [0, 1, 2, 3, 4, 5, 6, 7, 8, 9, 10, 11] rfl) hK (hD.sub (ws' := [(ad 6, .inr (7, [.ref (ad 1), .ref (ad 4), .ref (ad 5), .ref (ad 7), .ref (ad 8), .ref (ad 212), .ref (ad 213), .ref (ad 214), .ref (ad 60), .ref (ad 62), .ref (ad 64), .ref (ad bb9), .ref (ad tt9)])), (ad 4, .inr (3, [.int pd, .int (nI lst), .int (nI w), .int pu, .int pq9, .long psb, .int pcb])), (ad (200 + kd), .inr (5, [.long (kdr n vv c0 x kd), .ref (ad (220 + kd))])), (ad (220 + kd), .inr (4, [.ref (ad (240 + kd)), .int vkn, .int vkb])), (ad (240 + kd), .inl (cT 0, 24, .inl vkf)), (ad (200 + o9), .inr (5, [.long (kdr n vv c0 x o9), .ref (ad (220 + o9))])), (ad (220 + o9), .inr (4, [.ref (ad (240 + o9)), .int von, .int vob])), (ad (240 + o9), .inl (cT 0, 24, .inl vof)), (ad 62, .inr (4, [.ref (ad 63), .int wscn, .int wscb])), (ad 63, .inl (cT 0, 48, .inl wscf)), (ad 64, .inr (4, [.ref (ad 65), .int wotn, .int wotb])), (ad 65, .inl (cT 0, 48, .inl wotf))]) [0, 1, 2, 3, 4, 5, 6, 7, 8, 9, 10, 11] (by decide) rfl) rfl rfl) rfl rfl hl.1 rfl (lv_room (Nat.le_of_ble_eq_true rfl)) dGr_orderKinds_53 ⟨Nat.le_of_ble_eq_true rfl, Nat.le_of_ble_eq_true rfl⟩) (fun ru4 u9 H locs hpu4 hP hD hS => ?_)
        obtain ⟨scdn7u4, scdb7u4, scdf7u4, otsn7u4, otsb7u4, otsf7u4⟩ := u9
        have hpu4 : ru4 = bn (decide ((smv zs (kdr n vv c0 x kd) n) * ((cb (kdr n vv c0 x o9) + w : Nat) : Int) < (smv zs (kdr n vv c0 x o9) n) * ((cb (kdr n vv c0 x kd) + w : Nat) : Int))) ∧ WN 48 scdn7u4 scdb7u4 scdf7u4 ((smv zs (kdr n vv c0 x kd) n) * ((cb (kdr n vv c0 x o9) + w : Nat) : Int)) ∧ WN 48 otsn7u4 otsb7u4 otsf7u4 ((smv zs (kdr n vv c0 x o9) n) * ((cb (kdr n vv c0 x kd) + w : Nat) : Int)) := hpu4
        have hP : va_P D vwCl ([(ad 6, .inr (7, [.ref (ad 1), .ref (ad 4), .ref (ad 5), .ref (ad 7), .ref (ad 8), .ref (ad 212), .ref (ad 213), .ref (ad 214), .ref (ad 60), .ref (ad 62), .ref (ad 64), .ref (ad bb9), .ref (ad tt9)])), (ad 4, .inr (3, [.int pd, .int (nI lst), .int (nI w), .int pu, .int pq9, .long psb, .int pcb])), (ad (200 + kd), .inr (5, [.long (kdr n vv c0 x kd), .ref (ad (220 + kd))])), (ad (220 + kd), .inr (4, [.ref (ad (240 + kd)), .int vkn, .int vkb])), (ad (240 + kd), .inl (cT 0, 24, .inl vkf)), (ad (200 + o9), .inr (5, [.long (kdr n vv c0 x o9), .ref (ad (220 + o9))])), (ad (220 + o9), .inr (4, [.ref (ad (240 + o9)), .int von, .int vob])), (ad (240 + o9), .inl (cT 0, 24, .inl vof)), (ad 62, .inr (4, [.ref (ad 63), .int scdn7u4, .int scdb7u4])), (ad 63, .inl (cT 0, 48, .inl scdf7u4)), (ad 64, .inr (4, [.ref (ad 65), .int otsn7u4, .int otsb7u4])), (ad 65, .inl (cT 0, 48, .inl otsf7u4))] ++ pg cds ad (upo g2 [6, 4, 200 + kd, 220 + kd, 240 + kd, 200 + o9, 220 + o9, 240 + o9, 62, 63, 64, 65])) _ := hP
        have hD : va_D A ([(ad 6, .inr (7, [.ref (ad 1), .ref (ad 4), .ref (ad 5), .ref (ad 7), .ref (ad 8), .ref (ad 212), .ref (ad 213), .ref (ad 214), .ref (ad 60), .ref (ad 62), .ref (ad 64), .ref (ad bb9), .ref (ad tt9)])), (ad 4, .inr (3, [.int pd, .int (nI lst), .int (nI w), .int pu, .int pq9, .long psb, .int pcb])), (ad (200 + kd), .inr (5, [.long (kdr n vv c0 x kd), .ref (ad (220 + kd))])), (ad (220 + kd), .inr (4, [.ref (ad (240 + kd)), .int vkn, .int vkb])), (ad (240 + kd), .inl (cT 0, 24, .inl vkf)), (ad (200 + o9), .inr (5, [.long (kdr n vv c0 x o9), .ref (ad (220 + o9))])), (ad (220 + o9), .inr (4, [.ref (ad (240 + o9)), .int von, .int vob])), (ad (240 + o9), .inl (cT 0, 24, .inl vof)), (ad 62, .inr (4, [.ref (ad 63), .int scdn7u4, .int scdb7u4])), (ad 63, .inl (cT 0, 48, .inl scdf7u4)), (ad 64, .inr (4, [.ref (ad 65), .int otsn7u4, .int otsb7u4])), (ad 65, .inl (cT 0, 48, .inl otsf7u4))] ++ pg cds ad (upo g2 [6, 4, 200 + kd, 220 + kd, 240 + kd, 200 + o9, 220 + o9, 240 + o9, 62, 63, 64, 65])) := hD
        obtain ⟨p1, p2, p3⟩ := hpu4
        have hN9 := (nd_bef hkd b12 bne)
        have hP := gb_P (w9 := [(6, .inr (7, [.ref (ad 1), .ref (ad 4), .ref (ad 5), .ref (ad 7), .ref (ad 8), .ref (ad 212), .ref (ad 213), .ref (ad 214), .ref (ad 60), .ref (ad 62), .ref (ad 64), .ref (ad bb9), .ref (ad tt9)])), (4, .inr (3, [.int pd, .int (nI lst), .int (nI w), .int pu, .int pq9, .long psb, .int pcb])), (200 + kd, .inr (5, [.long (kdr n vv c0 x kd), .ref (ad (220 + kd))])), (220 + kd, .inr (4, [.ref (ad (240 + kd)), .int vkn, .int vkb])), (240 + kd, .inl (cT 0, 24, .inl vkf)), (200 + o9, .inr (5, [.long (kdr n vv c0 x o9), .ref (ad (220 + o9))])), (220 + o9, .inr (4, [.ref (ad (240 + o9)), .int von, .int vob])), (240 + o9, .inl (cT 0, 24, .inl vof)), (62, .inr (4, [.ref (ad 63), .int scdn7u4, .int scdb7u4])), (63, .inl (cT 0, 48, .inl scdf7u4)), (64, .inr (4, [.ref (ad 65), .int otsn7u4, .int otsb7u4])), (65, .inl (cT 0, 48, .inl otsf7u4))]) (X := []) (g := g2) hcd hN9 (show QB [(6, .inr (7, [.ref (ad 1), .ref (ad 4), .ref (ad 5), .ref (ad 7), .ref (ad 8), .ref (ad 212), .ref (ad 213), .ref (ad 214), .ref (ad 60), .ref (ad 62), .ref (ad 64), .ref (ad bb9), .ref (ad tt9)])), (4, .inr (3, [.int pd, .int (nI lst), .int (nI w), .int pu, .int pq9, .long psb, .int pcb])), (200 + kd, .inr (5, [.long (kdr n vv c0 x kd), .ref (ad (220 + kd))])), (220 + kd, .inr (4, [.ref (ad (240 + kd)), .int vkn, .int vkb])), (240 + kd, .inl (cT 0, 24, .inl vkf)), (200 + o9, .inr (5, [.long (kdr n vv c0 x o9), .ref (ad (220 + o9))])), (220 + o9, .inr (4, [.ref (ad (240 + o9)), .int von, .int vob])), (240 + o9, .inl (cT 0, 24, .inl vof)), (62, .inr (4, [.ref (ad 63), .int scdn7u4, .int scdb7u4])), (63, .inl (cT 0, 48, .inl scdf7u4)), (64, .inr (4, [.ref (ad 65), .int otsn7u4, .int otsb7u4])), (65, .inl (cT 0, 48, .inl otsf7u4))] from (qb_c (by decide) (qb_c (by decide) (qb_c (by omega) (qb_c (by omega) (qb_c (by omega) (qb_c (by omega) (qb_c (by omega) (qb_c (by omega) (qb_c (by decide) (qb_c (by decide) (qb_c (by decide) (qb_c (by decide) qb_0))))))))))))) (hP.part (cx := [(ad 6, .inr (7, [.ref (ad 1), .ref (ad 4), .ref (ad 5), .ref (ad 7), .ref (ad 8), .ref (ad 212), .ref (ad 213), .ref (ad 214), .ref (ad 60), .ref (ad 62), .ref (ad 64), .ref (ad bb9), .ref (ad tt9)])), (ad 4, .inr (3, [.int pd, .int (nI lst), .int (nI w), .int pu, .int pq9, .long psb, .int pcb])), (ad (200 + kd), .inr (5, [.long (kdr n vv c0 x kd), .ref (ad (220 + kd))])), (ad (220 + kd), .inr (4, [.ref (ad (240 + kd)), .int vkn, .int vkb])), (ad (240 + kd), .inl (cT 0, 24, .inl vkf)), (ad (200 + o9), .inr (5, [.long (kdr n vv c0 x o9), .ref (ad (220 + o9))])), (ad (220 + o9), .inr (4, [.ref (ad (240 + o9)), .int von, .int vob])), (ad (240 + o9), .inl (cT 0, 24, .inl vof)), (ad 62, .inr (4, [.ref (ad 63), .int scdn7u4, .int scdb7u4])), (ad 63, .inl (cT 0, 48, .inl scdf7u4)), (ad 64, .inr (4, [.ref (ad 65), .int otsn7u4, .int otsb7u4])), (ad 65, .inl (cT 0, 48, .inl otsf7u4))]) [0, 1, 2, 3, 4, 5, 6, 7, 8, 9, 10, 11] rfl)
        have hD := gb_D (w9 := [(6, .inr (7, [.ref (ad 1), .ref (ad 4), .ref (ad 5), .ref (ad 7), .ref (ad 8), .ref (ad 212), .ref (ad 213), .ref (ad 214), .ref (ad 60), .ref (ad 62), .ref (ad 64), .ref (ad bb9), .ref (ad tt9)])), (4, .inr (3, [.int pd, .int (nI lst), .int (nI w), .int pu, .int pq9, .long psb, .int pcb])), (200 + kd, .inr (5, [.long (kdr n vv c0 x kd), .ref (ad (220 + kd))])), (220 + kd, .inr (4, [.ref (ad (240 + kd)), .int vkn, .int vkb])), (240 + kd, .inl (cT 0, 24, .inl vkf)), (200 + o9, .inr (5, [.long (kdr n vv c0 x o9), .ref (ad (220 + o9))])), (220 + o9, .inr (4, [.ref (ad (240 + o9)), .int von, .int vob])), (240 + o9, .inl (cT 0, 24, .inl vof)), (62, .inr (4, [.ref (ad 63), .int scdn7u4, .int scdb7u4])), (63, .inl (cT 0, 48, .inl scdf7u4)), (64, .inr (4, [.ref (ad 65), .int otsn7u4, .int otsb7u4])), (65, .inl (cT 0, 48, .inl otsf7u4))]) (X := []) (g := g2) hcd hN9 (show QB [(6, .inr (7, [.ref (ad 1), .ref (ad 4), .ref (ad 5), .ref (ad 7), .ref (ad 8), .ref (ad 212), .ref (ad 213), .ref (ad 214), .ref (ad 60), .ref (ad 62), .ref (ad 64), .ref (ad bb9), .ref (ad tt9)])), (4, .inr (3, [.int pd, .int (nI lst), .int (nI w), .int pu, .int pq9, .long psb, .int pcb])), (200 + kd, .inr (5, [.long (kdr n vv c0 x kd), .ref (ad (220 + kd))])), (220 + kd, .inr (4, [.ref (ad (240 + kd)), .int vkn, .int vkb])), (240 + kd, .inl (cT 0, 24, .inl vkf)), (200 + o9, .inr (5, [.long (kdr n vv c0 x o9), .ref (ad (220 + o9))])), (220 + o9, .inr (4, [.ref (ad (240 + o9)), .int von, .int vob])), (240 + o9, .inl (cT 0, 24, .inl vof)), (62, .inr (4, [.ref (ad 63), .int scdn7u4, .int scdb7u4])), (63, .inl (cT 0, 48, .inl scdf7u4)), (64, .inr (4, [.ref (ad 65), .int otsn7u4, .int otsb7u4])), (65, .inl (cT 0, 48, .inl otsf7u4))] from (qb_c (by decide) (qb_c (by decide) (qb_c (by omega) (qb_c (by omega) (qb_c (by omega) (qb_c (by omega) (qb_c (by omega) (qb_c (by omega) (qb_c (by decide) (qb_c (by decide) (qb_c (by decide) (qb_c (by decide) qb_0))))))))))))) (hD.part (cx := [(ad 6, .inr (7, [.ref (ad 1), .ref (ad 4), .ref (ad 5), .ref (ad 7), .ref (ad 8), .ref (ad 212), .ref (ad 213), .ref (ad 214), .ref (ad 60), .ref (ad 62), .ref (ad 64), .ref (ad bb9), .ref (ad tt9)])), (ad 4, .inr (3, [.int pd, .int (nI lst), .int (nI w), .int pu, .int pq9, .long psb, .int pcb])), (ad (200 + kd), .inr (5, [.long (kdr n vv c0 x kd), .ref (ad (220 + kd))])), (ad (220 + kd), .inr (4, [.ref (ad (240 + kd)), .int vkn, .int vkb])), (ad (240 + kd), .inl (cT 0, 24, .inl vkf)), (ad (200 + o9), .inr (5, [.long (kdr n vv c0 x o9), .ref (ad (220 + o9))])), (ad (220 + o9), .inr (4, [.ref (ad (240 + o9)), .int von, .int vob])), (ad (240 + o9), .inl (cT 0, 24, .inl vof)), (ad 62, .inr (4, [.ref (ad 63), .int scdn7u4, .int scdb7u4])), (ad 63, .inl (cT 0, 48, .inl scdf7u4)), (ad 64, .inr (4, [.ref (ad 65), .int otsn7u4, .int otsb7u4])), (ad 65, .inl (cT 0, 48, .inl otsf7u4))]) [0, 1, 2, 3, 4, 5, 6, 7, 8, 9, 10, 11] (by decide) rfl)
        obtain ⟨g4, hg4⟩ : ∃ q9, q9 = ups g2 [(6, .inr (7, [.ref (ad 1), .ref (ad 4), .ref (ad 5), .ref (ad 7), .ref (ad 8), .ref (ad 212), .ref (ad 213), .ref (ad 214), .ref (ad 60), .ref (ad 62), .ref (ad 64), .ref (ad bb9), .ref (ad tt9)])), (4, .inr (3, [.int pd, .int (nI lst), .int (nI w), .int pu, .int pq9, .long psb, .int pcb])), (200 + kd, .inr (5, [.long (kdr n vv c0 x kd), .ref (ad (220 + kd))])), (220 + kd, .inr (4, [.ref (ad (240 + kd)), .int vkn, .int vkb])), (240 + kd, .inl (cT 0, 24, .inl vkf)), (200 + o9, .inr (5, [.long (kdr n vv c0 x o9), .ref (ad (220 + o9))])), (220 + o9, .inr (4, [.ref (ad (240 + o9)), .int von, .int vob])), (240 + o9, .inl (cT 0, 24, .inl vof)), (62, .inr (4, [.ref (ad 63), .int scdn7u4, .int scdb7u4])), (63, .inl (cT 0, 48, .inl scdf7u4)), (64, .inr (4, [.ref (ad 65), .int otsn7u4, .int otsb7u4])), (65, .inl (cT 0, 48, .inl otsf7u4))] := ⟨_, rfl⟩
        rw [← hg4] at hP hD
        have hP : va_P D vwCl ([] ++ pg cds ad g4) _ := hP
        have hD : va_D A ([] ++ pg cds ad g4) := hD
        have fg4 : ∀ z8, z8 ≠ 62 → z8 ≠ 63 → z8 ≠ 64 → z8 ≠ 65 → g4 z8 = g2 z8 := fun z8 z9 z10 z11 z12 => by rw [hg4]; exact ups_k (kp_s (((jF 6 (by decide) (by decide)).trans (iF 6 (by decide) (by decide))).trans hgr) (kp_s (((jF 4 (by decide) (by decide)).trans (iF 4 (by decide) (by decide))).trans hpl) (kp_s vkg (kp_s vk1 (kp_s vk2 (kp_s vog (kp_s vo1 (kp_s vo2 (kp_n z9 (kp_n z10 (kp_n z11 (kp_n z12 kp_0))))))))))))
        have g4_0 : g4 6 = some (.inr (7, [.ref (ad 1), .ref (ad 4), .ref (ad 5), .ref (ad 7), .ref (ad 8), .ref (ad 212), .ref (ad 213), .ref (ad 214), .ref (ad 60), .ref (ad 62), .ref (ad 64), .ref (ad bb9), .ref (ad tt9)])) := by rw [hg4]; exact ups_i (q := (6, .inr (7, [.ref (ad 1), .ref (ad 4), .ref (ad 5), .ref (ad 7), .ref (ad 8), .ref (ad 212), .ref (ad 213), .ref (ad 214), .ref (ad 60), .ref (ad 62), .ref (ad 64), .ref (ad bb9), .ref (ad tt9)]))) (ndc hN9) (.head _)
        have g4_1 : g4 4 = some (.inr (3, [.int pd, .int (nI lst), .int (nI w), .int pu, .int pq9, .long psb, .int pcb])) := by rw [hg4]; exact ups_i (q := (4, .inr (3, [.int pd, .int (nI lst), .int (nI w), .int pu, .int pq9, .long psb, .int pcb]))) (ndc hN9) (.tail _ (.head _))
        have g4_2 : g4 (200 + kd) = some (.inr (5, [.long (kdr n vv c0 x kd), .ref (ad (220 + kd))])) := by rw [hg4]; exact ups_i (q := (200 + kd, .inr (5, [.long (kdr n vv c0 x kd), .ref (ad (220 + kd))]))) (ndc hN9) (.tail _ (.tail _ (.head _)))
        have g4_3 : g4 (220 + kd) = some (.inr (4, [.ref (ad (240 + kd)), .int vkn, .int vkb])) := by rw [hg4]; exact ups_i (q := (220 + kd, .inr (4, [.ref (ad (240 + kd)), .int vkn, .int vkb]))) (ndc hN9) (.tail _ (.tail _ (.tail _ (.head _))))
        have g4_4 : g4 (240 + kd) = some (.inl (cT 0, 24, .inl vkf)) := by rw [hg4]; exact ups_i (q := (240 + kd, .inl (cT 0, 24, .inl vkf))) (ndc hN9) (.tail _ (.tail _ (.tail _ (.tail _ (.head _)))))
        have g4_5 : g4 (200 + o9) = some (.inr (5, [.long (kdr n vv c0 x o9), .ref (ad (220 + o9))])) := by rw [hg4]; exact ups_i (q := (200 + o9, .inr (5, [.long (kdr n vv c0 x o9), .ref (ad (220 + o9))]))) (ndc hN9) (.tail _ (.tail _ (.tail _ (.tail _ (.tail _ (.head _))))))
        have g4_6 : g4 (220 + o9) = some (.inr (4, [.ref (ad (240 + o9)), .int von, .int vob])) := by rw [hg4]; exact ups_i (q := (220 + o9, .inr (4, [.ref (ad (240 + o9)), .int von, .int vob]))) (ndc hN9) (.tail _ (.tail _ (.tail _ (.tail _ (.tail _ (.tail _ (.head _)))))))
        have g4_7 : g4 (240 + o9) = some (.inl (cT 0, 24, .inl vof)) := by rw [hg4]; exact ups_i (q := (240 + o9, .inl (cT 0, 24, .inl vof))) (ndc hN9) (.tail _ (.tail _ (.tail _ (.tail _ (.tail _ (.tail _ (.tail _ (.head _))))))))
        have g4_8 : g4 62 = some (.inr (4, [.ref (ad 63), .int scdn7u4, .int scdb7u4])) := by rw [hg4]; exact ups_i (q := (62, .inr (4, [.ref (ad 63), .int scdn7u4, .int scdb7u4]))) (ndc hN9) (.tail _ (.tail _ (.tail _ (.tail _ (.tail _ (.tail _ (.tail _ (.tail _ (.head _)))))))))
        have g4_9 : g4 63 = some (.inl (cT 0, 48, .inl scdf7u4)) := by rw [hg4]; exact ups_i (q := (63, .inl (cT 0, 48, .inl scdf7u4))) (ndc hN9) (.tail _ (.tail _ (.tail _ (.tail _ (.tail _ (.tail _ (.tail _ (.tail _ (.tail _ (.head _))))))))))
        have g4_10 : g4 64 = some (.inr (4, [.ref (ad 65), .int otsn7u4, .int otsb7u4])) := by rw [hg4]; exact ups_i (q := (64, .inr (4, [.ref (ad 65), .int otsn7u4, .int otsb7u4]))) (ndc hN9) (.tail _ (.tail _ (.tail _ (.tail _ (.tail _ (.tail _ (.tail _ (.tail _ (.tail _ (.tail _ (.head _)))))))))))
        have g4_11 : g4 65 = some (.inl (cT 0, 48, .inl otsf7u4)) := by rw [hg4]; exact ups_i (q := (65, .inl (cT 0, 48, .inl otsf7u4))) (ndc hN9) (.tail _ (.tail _ (.tail _ (.tail _ (.tail _ (.tail _ (.tail _ (.tail _ (.tail _ (.tail _ (.tail _ (.head _))))))))))))
        have f4i : ∀ z8, (z8 < 62 ∨ 65 < z8) → g4 z8 = g2 z8 := fun z8 n1 => fg4 z8 (by omega) (by omega) (by omega) (by omega)
        have hsc4 : SCG cT ad g4 := ⟨⟨_, hso0.cg (f4i _ (by omega)) (f4i _ (by omega))⟩, ⟨_, _, _, _, g4_8, g4_9, p2⟩, ⟨_, _, _, _, g4_10, g4_11, p3⟩⟩
        refine lv_topi (fun y9 e9 => ?_)
        cases (show y9 = bn (decide (smv zs (kdr n vv c0 x kd) n * ((cb (kdr n vv c0 x o9) + w : Nat) : Int) < smv zs (kdr n vv c0 x o9) n * ((cb (kdr n vv c0 x kd) + w : Nat) : Int))) from e9.trans p1)
        refine lv_if_eq (tgt := 79) hx hb dGr_orderKinds_56 rfl (fun h5 => ?_) (fun h5 => ?_)
        · have hnb : kbf zs n w vv c0 x (od (a - 1)) kd := by rw [← ho9]; exact kbf_n hkd (by omega) ho1.1 (fun q => absurd (decide_eq_true q) (by rw [bn_0.mp h5]; decide))
          have hsc5 := hsc4
          have f5i : ∀ z8, z8 ≠ 8 → (z8 < 62 ∨ 65 < z8) → g4 z8 = g1 z8 := fun z8 n1 n2 => (f4i z8 n2).trans (jF z8 n1 n2)
          refine lv_aload_n hx hb dGr_orderKinds_79 rfl (lv_at hl 0 rfl) ?_
          refine va_get (D := D) (ci := 7) (v := .ref (ad 8)) (C := R_Gr) (T := T_Gr) (N := 13) hx hb hT in_Gr hown hK (pg_1 (x := 6) hcd hP (by decide) g4_0) 0 rfl rfl 4 (by decide) (hT _ w218) (fun _ h9 => h9) rfl dGr_orderKinds_80 ?_
          refine lv_iload_n hx hb dGr_orderKinds_83 rfl (lv_at hl 3 rfl) ?_
          refine lv_iload_n hx hb dGr_orderKinds_84 rfl (lv_at hl 2 rfl) ?_
          have hB9 : QI g4 [(8, .inl (cT 0, 12, .inl fo2))] := (qi_c (by decide) ((fg4 _ (by decide) (by decide) (by decide) (by decide)).trans j8) qi_0)
          have hN9 := (show NDc [8] from (nd_c na_0 nd_0))
          have hP := bo_P (wc := [(8, .inl (cT 0, 12, .inl fo2))]) (X := []) hcd hN9 hB9 hP
          have hD := bo_D (wc := [(8, .inl (cT 0, 12, .inl fo2))]) (X := []) hcd hN9 hB9 hD
          have hP : va_P D vwCl ([(ad 8, .inl (cT 0, 12, .inl fo2))] ++ pg cds ad (upo g4 [8])) _ := hP
          have hD : va_D A ([(ad 8, .inl (cT 0, 12, .inl fo2))] ++ pg cds ad (upo g4 [8])) := hD
          refine lq_iast (j := a) hx hb hK hP hD hS 0 0 rfl rfl rfl (by omega) (by omega) dGr_orderKinds_85 (fun H locs hP hD hS => ?_)
          have hP : va_P D vwCl ([(ad 8, .inl (cT 0, 12, .inl (upd fo2 a (nI kd))))] ++ pg cds ad (upo g4 [8])) _ := hP
          have hD : va_D A ([(ad 8, .inl (cT 0, 12, .inl (upd fo2 a (nI kd))))] ++ pg cds ad (upo g4 [8])) := hD
          have hN9 := (show NDc [8] from (nd_c na_0 nd_0))
          have hP := gb_P (w9 := [(8, .inl (cT 0, 12, .inl (upd fo2 a (nI kd))))]) (X := []) (g := g4) hcd hN9 (show QB [(8, .inl (cT 0, 12, .inl (upd fo2 a (nI kd))))] from (qb_c (by decide) qb_0)) (hP.part (cx := [(ad 8, .inl (cT 0, 12, .inl (upd fo2 a (nI kd))))]) [0] rfl)
          have hD := gb_D (w9 := [(8, .inl (cT 0, 12, .inl (upd fo2 a (nI kd))))]) (X := []) (g := g4) hcd hN9 (show QB [(8, .inl (cT 0, 12, .inl (upd fo2 a (nI kd))))] from (qb_c (by decide) qb_0)) (hD.part (cx := [(ad 8, .inl (cT 0, 12, .inl (upd fo2 a (nI kd))))]) [0] (by decide) rfl)
          obtain ⟨g6, hg6⟩ : ∃ q9, q9 = ups g4 [(8, .inl (cT 0, 12, .inl (upd fo2 a (nI kd))))] := ⟨_, rfl⟩
          rw [← hg6] at hP hD
          have hP : va_P D vwCl ([] ++ pg cds ad g6) _ := hP
          have hD : va_D A ([] ++ pg cds ad g6) := hD
          have fg6 : ∀ z8, z8 ≠ 8 → g6 z8 = g4 z8 := fun z8 z1 => by rw [hg6]; exact ups_k (kp_n z1 kp_0)
          have g6_0 : g6 8 = some (.inl (cT 0, 12, .inl (upd fo2 a (nI kd)))) := by rw [hg6]; exact ups_1
          refine lv_iinc (k := 2) (v := nI (kd + 1)) hx hb dGr_orderKinds_86 hl rfl (nI_1 kd) (by decide) rfl (fun ls hl => ?_)
          have hl : lv_has ls 4 [(2, .int (nI (kd + 1))), (0, .ref (ad 6)), (1, .int (nI (F + 1))), (3, .int (nI a))] := hl
          refine lv_goto (tgt := 4) hx hb dGr_orderKinds_89 rfl ?_
          exact ih4 (kd + 1, F + 1, insA od a kd, upd fo2 a (nI kd), g6) (show (kd + 1) ≤ 12 ∧ (F + 1) ≤ (kd + 1) ∧ (∀ z8, z8 ≠ 8 → (z8 < 62 ∨ 65 < z8) → g6 z8 = gg z8) ∧ g6 8 = some (eA (cT 0) 12 (upd fo2 a (nI kd))) ∧ (∀ p, p < (F + 1) → (upd fo2 a (nI kd)) p = nI ((insA od a kd) p)) ∧ KOI zs n w vv c0 x (kd + 1) (insA od a kd) (F + 1) ∧ SCG cT ad g6 from ⟨by omega, by omega, fun z8 n1 n2 => (fg6 z8 n1).trans ((f5i z8 n1 n2).trans (iF z8 n1 n2)), g6_0, fun p hp => (by unfold insA; by_cases q1 : p < a; (rw [if_pos q1, pk_un (by omega)]; exact jO p q1); (rw [if_neg q1]; by_cases q2 : p = a; (rw [if_pos q2, q2, pk_us]); (rw [if_neg q2, pk_un q2]; have q9 := (jP (p - 1) (by omega) (by omega)).1; rw [show p - 1 + 1 = p by omega] at q9; exact q9))), koi_ins iK hkd hkz ja (fun p h1 h2 => (jP p h1 h2).2) (Or.inr hnb), hsc5.cg (fun z h1 h2 => fg6 z (by omega))⟩) (show 12 - (kd + 1) < 12 - kd from (by omega)) ls H locs (lv_sub hl [1, 2, 0] rfl) hP hD hS
        · have hbf : kbf zs n w vv c0 x kd (od (a - 1)) := by rw [← ho9]; exact kbf_y hkd (by omega) (bn_dt h5)
          refine lv_aload_n hx hb dGr_orderKinds_59 rfl (lv_at hl 0 rfl) ?_
          refine va_get (D := D) (ci := 7) (v := .ref (ad 8)) (C := R_Gr) (T := T_Gr) (N := 13) hx hb hT in_Gr hown hK (pg_1 (x := 6) hcd hP (by decide) g4_0) 0 rfl rfl 4 (by decide) (hT _ w218) (fun _ h9 => h9) rfl dGr_orderKinds_60 ?_
          refine lv_iload_n hx hb dGr_orderKinds_63 rfl (lv_at hl 3 rfl) ?_
          refine lv_aload_n hx hb dGr_orderKinds_64 rfl (lv_at hl 0 rfl) ?_
          refine va_get (D := D) (ci := 7) (v := .ref (ad 8)) (C := R_Gr) (T := T_Gr) (N := 13) hx hb hT in_Gr hown hK (pg_1 (x := 6) hcd hP (by decide) g4_0) 0 rfl rfl 4 (by decide) (hT _ w218) (fun _ h9 => h9) rfl dGr_orderKinds_65 ?_
          refine lv_iload_n hx hb dGr_orderKinds_68 rfl (lv_at hl 3 rfl) ?_
          refine lv_iconst (v := 1) hx hb dGr_orderKinds_69 (by decide) ?_
          refine lv_isub hx hb dGr_orderKinds_70 ?_
          refine lv_topi (fun y9 e9 => ?_)
          cases (show y9 = nI (a - 1) from e9.trans (pk_sub (a := a) (b := 1) (by omega)))
          refine lq_iald (j := a - 1) hx hb hK (pg_1 (x := 8) hcd hP (by decide) ((fg4 _ (by decide) (by decide) (by decide) (by decide)).trans j8)) 0 0 rfl rfl rfl (by omega) (by omega) dGr_orderKinds_71 ?_
          have hB9 : QI g4 [(8, .inl (cT 0, 12, .inl fo2))] := (qi_c (by decide) ((fg4 _ (by decide) (by decide) (by decide) (by decide)).trans j8) qi_0)
          have hN9 := (show NDc [8] from (nd_c na_0 nd_0))
          have hP := bo_P (wc := [(8, .inl (cT 0, 12, .inl fo2))]) (X := []) hcd hN9 hB9 hP
          have hD := bo_D (wc := [(8, .inl (cT 0, 12, .inl fo2))]) (X := []) hcd hN9 hB9 hD
          have hP : va_P D vwCl ([(ad 8, .inl (cT 0, 12, .inl fo2))] ++ pg cds ad (upo g4 [8])) _ := hP
          have hD : va_D A ([(ad 8, .inl (cT 0, 12, .inl fo2))] ++ pg cds ad (upo g4 [8])) := hD
          refine lq_iast (j := a) hx hb hK hP hD hS 0 0 rfl rfl rfl (by omega) (by omega) dGr_orderKinds_72 (fun H locs hP hD hS => ?_)
          have hP : va_P D vwCl ([(ad 8, .inl (cT 0, 12, .inl (upd fo2 a (fo2 (a - 1)))))] ++ pg cds ad (upo g4 [8])) _ := hP
          have hD : va_D A ([(ad 8, .inl (cT 0, 12, .inl (upd fo2 a (fo2 (a - 1)))))] ++ pg cds ad (upo g4 [8])) := hD
          have hN9 := (show NDc [8] from (nd_c na_0 nd_0))
          have hP := gb_P (w9 := [(8, .inl (cT 0, 12, .inl (upd fo2 a (fo2 (a - 1)))))]) (X := []) (g := g4) hcd hN9 (show QB [(8, .inl (cT 0, 12, .inl (upd fo2 a (fo2 (a - 1)))))] from (qb_c (by decide) qb_0)) (hP.part (cx := [(ad 8, .inl (cT 0, 12, .inl (upd fo2 a (fo2 (a - 1)))))]) [0] rfl)
          have hD := gb_D (w9 := [(8, .inl (cT 0, 12, .inl (upd fo2 a (fo2 (a - 1)))))]) (X := []) (g := g4) hcd hN9 (show QB [(8, .inl (cT 0, 12, .inl (upd fo2 a (fo2 (a - 1)))))] from (qb_c (by decide) qb_0)) (hD.part (cx := [(ad 8, .inl (cT 0, 12, .inl (upd fo2 a (fo2 (a - 1)))))]) [0] (by decide) rfl)
          obtain ⟨g5, hg5⟩ : ∃ q9, q9 = ups g4 [(8, .inl (cT 0, 12, .inl (upd fo2 a (fo2 (a - 1)))))] := ⟨_, rfl⟩
          rw [← hg5] at hP hD
          have hP : va_P D vwCl ([] ++ pg cds ad g5) _ := hP
          have hD : va_D A ([] ++ pg cds ad g5) := hD
          have fg5 : ∀ z8, z8 ≠ 8 → g5 z8 = g4 z8 := fun z8 z1 => by rw [hg5]; exact ups_k (kp_n z1 kp_0)
          have g5_0 : g5 8 = some (.inl (cT 0, 12, .inl (upd fo2 a (fo2 (a - 1))))) := by rw [hg5]; exact ups_1
          refine lv_iinc (k := 3) (v := nI (a - 1)) hx hb dGr_orderKinds_73 hl rfl (dn_1 (by omega)) (by decide) rfl (fun ls hl => ?_)
          have hl : lv_has ls 4 [(3, .int (nI (a - 1))), (0, .ref (ad 6)), (1, .int (nI (F + 1))), (2, .int (nI kd))] := hl
          refine lv_goto (tgt := 29) hx hb dGr_orderKinds_76 rfl ?_
          exact ih29 (a - 1, upd fo2 a (fo2 (a - 1)), g5) (show (a - 1) ≤ F ∧ (∀ z8, z8 ≠ 8 → (z8 < 62 ∨ 65 < z8) → g5 z8 = g1 z8) ∧ g5 8 = some (eA (cT 0) 12 (upd fo2 a (fo2 (a - 1)))) ∧ (∀ p, p < (a - 1) → (upd fo2 a (fo2 (a - 1))) p = nI (od p)) ∧ (∀ p, (a - 1) ≤ p → p < F → (upd fo2 a (fo2 (a - 1))) (p + 1) = nI (od p) ∧ kbf zs n w vv c0 x kd (od p)) ∧ SCG cT ad g5 from ⟨by omega, fun z8 n1 n2 => (fg5 z8 n1).trans ((f4i z8 n2).trans (jF z8 n1 n2)), g5_0, fun p hp => (pk_un (by omega)).trans (jO p (by omega)), fun p h1 h2 => (by by_cases q9 : p = a - 1; (rw [q9, show a - 1 + 1 = a by omega]; exact ⟨pk_us.trans (jO (a - 1) (by omega)), hbf⟩); (exact ⟨(pk_un (by omega)).trans (jP p (by omega) h2).1, (jP p (by omega) h2).2⟩)), hsc4.cg (fun z h1 h2 => fg5 z (by omega))⟩) (show (a - 1) < a from (by omega)) ls H locs (lv_sub hl [1, 2, 3, 0] rfl) hP hD hS
