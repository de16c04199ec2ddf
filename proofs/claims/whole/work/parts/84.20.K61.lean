set_option maxHeartbeats 4000000 in
set_option maxRecDepth 100000 in
theorem k_newRow (l : Launch) (D : va_G) (cT : Nat → ClassId) (cds : List Nat) (ad : Nat → Nat) (gg : Nat → Option va_E) (wd9 : Int32) (n : Nat) (vv : Nat → Int32) (vq : Nat → Int32) (eg : Nat → Int32) (ik : Nat → Int32) (ne : Nat → Nat) (tg : Nat → Int32) (v7 : Nat → Int32) (v : Int32) (hcd : CD cds) (htb : gg 1 = some (eTB ad wd9 (nI n))) (hCa : CAp cT ad gg) (hCf : COLF cT ad gg n vv vq eg ik ne) (hTg : TGp cT gg n tg) (hn48 : n < 48) (hv71 : ∀ q, q < 6 → v7 (6 * n + q) = (-2147483648)) (hv72 : ∀ q, q < 6 * n → v7 q = vv q) (sz : Nat) : Met l yT_newRow WT_newRow ({ frames := 0, cells := 0, slots := 0, locals := 0 } : Room) (RW D vwCl [.ref (ad 1), .int v] ([] ++ pg cds ad gg) (TY cT) sz) (va_Qi (fun (r9 : Int32) (u9 : (Nat → Option va_E)) => r9 = nI n ∧ (∀ z8, z8 ≠ 1 → z8 ≠ 3 → (z8 < 20 ∨ 26 ≤ z8) → u9 z8 = gg z8) ∧ u9 1 = some (eTB ad wd9 (nI (n + 1))) ∧ TGp cT u9 (n + 1) (upd tg n v) ∧ COLF cT ad u9 (n + 1) v7 vq eg ik ne) (BW D vwCl (va_A ([] ++ pg cds ad gg) sz) (fun u9 : (Nat → Option va_E) => ([] ++ pg cds ad u9))) (va_A ([] ++ pg cds ad gg) sz)) 0 0 (va_A ([] ++ pg cds ad gg) sz) := by
  refine Met.ofW (cc := cT_newRow) (maxL := 6) (ret := (some .int)) (by decide) rfl ?_
  intro p e s m args below meth c s₁ B hml hv
  obtain ⟨rfl, hsz, hZ, hP, hK, hD0⟩ := hv
  have hx := B.exec
  have hb := B.bytes
  have hr := B.returns
  have hts := atoms_spec (ws := WT_newRow) B.pre
  have hT : ∀ w ∈ TB, w.before _ s = true := fun w h => hts w (List.mem_cons_of_mem _ h)
  have hown : s.vm.findClass R_T = some m.cls := findClass_of_methodNamed B.named
  have hlocks := B.notSynchronized
  subst hsz
  have hD := hD0.self (sz := s.heap.size)
  generalize hAe : va_A ([] ++ pg cds ad gg) s.heap.size = A at hD hZ ⊢
  have hA : ∀ q : Nat, s.heap.size ≤ q → A q := fun q h => by rw [← hAe]; exact Or.inr h
  have hS : va_S A s.heap s.heap [] := va_S.rf
  have hl := lv_entry ([.ref (ad 1), .int v]) (n := 6) (Nat.le_of_ble_eq_true rfl)
  rw [lg_entry_eq]
  generalize (lg_sl ([.ref (ad 1), .int v]) ++ List.replicate (6 - (lg_sl ([.ref (ad 1), .int v])).length) Slot.unset).toArray = ls at hl ⊢
  have hl : lv_has ls 6 [(0, .ref (ad 1)), (1, .int v)] := hl
  obtain ⟨ft, hft, htg9, htq⟩ := hTg
  obtain ⟨qf, hca, hcb⟩ := hCa
  have hn49 : n < 49 := by omega
  refine lv_aload_n hx hb dT_newRow_0 rfl (lv_at hl 0 rfl) ?_
  refine va_get (D := D) (ci := 2) (v := .ref (ad 3)) (C := R_T) (T := T_T) (N := 4) hx hb hT in_T hown hK (pg_1 (x := 1) hcd hP (by decide) htb) 0 rfl rfl 1 (by decide) (hT _ w76) (fun _ h9 => h9) rfl dT_newRow_1 ?_
  refine lv_aload_n hx hb dT_newRow_4 rfl (lv_at hl 0 rfl) ?_
  refine va_get (D := D) (ci := 2) (v := .int (nI n)) (C := R_T) (T := T_T) (N := 4) hx hb hT in_T hown hK (pg_1 (x := 1) hcd hP (by decide) htb) 0 rfl rfl 3 (by decide) (hT _ w81) (fun _ h9 => h9) rfl dT_newRow_5 ?_
  refine lv_iload_n hx hb dT_newRow_8 rfl (lv_at hl 1 rfl) ?_
  have hB9 : QI gg [(3, .inl (cT 0, 49, .inl ft))] := (qi_c (by decide) hft qi_0)
  have hN9 := (show NDc [3] from (nd_c na_0 nd_0))
  have hP := bo_P (wc := [(3, .inl (cT 0, 49, .inl ft))]) (X := []) hcd hN9 hB9 hP
  have hD := bo_D (wc := [(3, .inl (cT 0, 49, .inl ft))]) (X := []) hcd hN9 hB9 hD
  have hP : va_P D vwCl ([(ad 3, .inl (cT 0, 49, .inl ft))] ++ pg cds ad (upo gg [3])) _ := hP
  have hD : va_D A ([(ad 3, .inl (cT 0, 49, .inl ft))] ++ pg cds ad (upo gg [3])) := hD
  refine lq_iast (j := n) hx hb hK hP hD hS 0 0 rfl rfl rfl (by omega) (by omega) dT_newRow_9 (fun H locs hP hD hS => ?_)
  have hP : va_P D vwCl ([(ad 3, .inl (cT 0, 49, .inl (upd ft n v)))] ++ pg cds ad (upo gg [3])) _ := hP
  have hD : va_D A ([(ad 3, .inl (cT 0, 49, .inl (upd ft n v)))] ++ pg cds ad (upo gg [3])) := hD
  have hN9 := (show NDc [3] from (nd_c na_0 nd_0))
  have hP := gb_P (w9 := [(3, .inl (cT 0, 49, .inl (upd ft n v)))]) (X := []) (g := gg) hcd hN9 (show QB [(3, .inl (cT 0, 49, .inl (upd ft n v)))] from (qb_c (by decide) qb_0)) (hP.part (cx := [(ad 3, .inl (cT 0, 49, .inl (upd ft n v)))]) [0] rfl)
  have hD := gb_D (w9 := [(3, .inl (cT 0, 49, .inl (upd ft n v)))]) (X := []) (g := gg) hcd hN9 (show QB [(3, .inl (cT 0, 49, .inl (upd ft n v)))] from (qb_c (by decide) qb_0)) (hD.part (cx := [(ad 3, .inl (cT 0, 49, .inl (upd ft n v)))]) [0] (by decide) rfl)
  obtain ⟨g1, hg1⟩ : ∃ q9, q9 = ups gg [(3, .inl (cT 0, 49, .inl (upd ft n v)))] := ⟨_, rfl⟩
  rw [← hg1] at hP hD
  have hP : va_P D vwCl ([] ++ pg cds ad g1) _ := hP
  have hD : va_D A ([] ++ pg cds ad g1) := hD
  have fg1 : ∀ z8, z8 ≠ 3 → g1 z8 = gg z8 := fun z8 z1 => by rw [hg1]; exact ups_k (kp_n z1 kp_0)
  have g1_0 : g1 3 = some (.inl (cT 0, 49, .inl (upd ft n v))) := by rw [hg1]; exact ups_1
  refine lv_aload_n hx hb dT_newRow_10 rfl (lv_at hl 0 rfl) ?_
  refine va_get (D := D) (ci := 2) (v := .ref (ad 2)) (C := R_T) (T := T_T) (N := 4) hx hb hT in_T hown hK (pg_1 (x := 1) hcd hP (by decide) ((fg1 _ (by decide)).trans htb)) 0 rfl rfl 0 (by decide) (hT _ w73) (fun _ h9 => h9) rfl dT_newRow_11 ?_
  refine lv_astore_n hx hb dT_newRow_14 rfl hl (by decide) rfl (fun ls hl => ?_)
  have hl : lv_has ls 6 [(2, .ref (ad 2)), (0, .ref (ad 1)), (1, .int v)] := hl
  refine lv_aload_n hx hb dT_newRow_15 rfl (lv_at hl 0 rfl) ?_
  refine va_alen (v := 6) hx hb hK (pg_1 (x := 2) hcd hP (by decide) ((fg1 _ (by decide)).trans hca)) 0 5 rfl rfl rfl dT_newRow_16 ?_
  refine lv_istore_n hx hb dT_newRow_17 rfl hl (by decide) rfl (fun ls hl => ?_)
  have hl : lv_has ls 6 [(3, .int 6), (2, .ref (ad 2)), (0, .ref (ad 1)), (1, .int v)] := hl
  refine lv_iconst (v := 0) hx hb dT_newRow_18 (by decide) ?_
  refine lv_istore hx hb dT_newRow_19 hl (by decide) rfl (fun ls hl => ?_)
  have hl : lv_has ls 6 [(4, .int 0), (3, .int 6), (2, .ref (ad 2)), (0, .ref (ad 1)), (1, .int v)] := hl
  have hl : lv_has ls 6 [(4, .int (nI 0)), (3, .int 6), (2, .ref (ad 2)), (0, .ref (ad 1)), (1, .int v)] := by
    rw [(show nI 0 = 0 from rfl)]; exact hl
  refine lp_w (α := Nat × (Nat → Option va_E)) (fun a9 => a9.1 ≤ 6 ∧ (∀ z8, (z8 < 20 ∨ 26 ≤ z8) → a9.2 z8 = g1 z8) ∧ (∀ j, j < 6 → ∃ fv fe : Nat → Int32, COLe cT ad a9.2 j (nI (ne j)) (ik j) fv fe ∧ (∀ r, r < n → fv r = vv (6 * r + j)) ∧ fv 48 = vq j ∧ (∀ q, q < ne j → fe q = eg (11 * j + q)) ∧ (j < a9.1 → fv n = (-2147483648)))) (fun a9 => 6 - a9.1) (fun a9 => [(0, .ref (ad 1)), (1, .int v), (2, .ref (ad 2)), (3, .int 6), (4, .int (nI a9.1))]) (fun a9 => ([] ++ pg cds ad a9.2)) 21 ?_ (0, g1) (show 0 ≤ 6 ∧ (∀ z8, (z8 < 20 ∨ 26 ≤ z8) → g1 z8 = g1 z8) ∧ (∀ j, j < 6 → ∃ fv fe : Nat → Int32, COLe cT ad g1 j (nI (ne j)) (ik j) fv fe ∧ (∀ r, r < n → fv r = vv (6 * r + j)) ∧ fv 48 = vq j ∧ (∀ q, q < ne j → fe q = eg (11 * j + q)) ∧ (j < 0 → fv n = (-2147483648))) from ⟨by omega, fun _ _ => rfl, fun j hj => (by obtain ⟨fv, fe, e1, e2, e3, e4⟩ := hCf j hj; exact ⟨fv, fe, e1.cg (fg1 _ (by omega)) (fg1 _ (by omega)) (fg1 _ (by omega)), e2, e3, e4, fun q => absurd q (by omega)⟩)⟩) (lv_sub hl [3, 4, 2, 1, 0] rfl) hP hD hS
  intro a9 hI21 ih21 ls H locs hl hP hD hS
  obtain ⟨i, g2⟩ := a9
  have hI21 : i ≤ 6 ∧ (∀ z8, (z8 < 20 ∨ 26 ≤ z8) → g2 z8 = g1 z8) ∧ (∀ j, j < 6 → ∃ fv fe : Nat → Int32, COLe cT ad g2 j (nI (ne j)) (ik j) fv fe ∧ (∀ r, r < n → fv r = vv (6 * r + j)) ∧ fv 48 = vq j ∧ (∀ q, q < ne j → fe q = eg (11 * j + q)) ∧ (j < i → fv n = (-2147483648))) := hI21
  obtain ⟨ii, iF, iC⟩ := hI21
  have hl : lv_has ls 6 [(0, .ref (ad 1)), (1, .int v), (2, .ref (ad 2)), (3, .int 6), (4, .int (nI i))] := hl
  have hP : va_P D vwCl ([] ++ pg cds ad g2) _ := hP
  have hD : va_D A ([] ++ pg cds ad g2) := hD
  refine lv_iload hx hb dT_newRow_21 (lv_at hl 4 rfl) ?_
  refine lv_iload_n hx hb dT_newRow_23 rfl (lv_at hl 3 rfl) ?_
  refine lv_icmp_ge (tgt := 51) hx hb dT_newRow_24 rfl (fun h1 => ?_) (fun h1 => ?_)
  · have gh1 : 6 ≤ i := (nI_leI (a := 6) (b := i) (by omega) (by omega)).mp h1
    refine lv_aload_n hx hb dT_newRow_51 rfl (lv_at hl 0 rfl) ?_
    refine lv_dup hx hb dT_newRow_52 rfl ?_
    refine va_get (D := D) (ci := 2) (v := .int (nI n)) (C := R_T) (T := T_T) (N := 4) hx hb hT in_T hown hK (pg_1 (x := 1) hcd hP (by decide) ((iF 1 (by omega)).trans ((fg1 1 (by omega)).trans htb))) 0 rfl rfl 3 (by decide) (hT _ w81) (fun _ h9 => h9) rfl dT_newRow_53 ?_
    refine lv_dup_x1 hx hb dT_newRow_56 rfl rfl ?_
    refine lv_iconst (v := 1) hx hb dT_newRow_57 (by decide) ?_
    refine lv_iadd hx hb dT_newRow_58 ?_
    refine lv_topi (fun y9 e9 => ?_)
    cases (show y9 = nI (n + 1) from e9.trans (nI_add n 1))
    have hB9 : QI g2 [(1, .inr (2, [.ref (ad 2), .ref (ad 3), .int wd9, .int (nI n)]))] := (qi_c (by decide) ((iF 1 (by omega)).trans ((fg1 1 (by omega)).trans htb)) qi_0)
    have hN9 := (show NDc [1] from (nd_c na_0 nd_0))
    have hP := bo_P (wc := [(1, .inr (2, [.ref (ad 2), .ref (ad 3), .int wd9, .int (nI n)]))]) (X := []) hcd hN9 hB9 hP
    have hD := bo_D (wc := [(1, .inr (2, [.ref (ad 2), .ref (ad 3), .int wd9, .int (nI n)]))]) (X := []) hcd hN9 hB9 hD
    have hP : va_P D vwCl ([(ad 1, .inr (2, [.ref (ad 2), .ref (ad 3), .int wd9, .int (nI n)]))] ++ pg cds ad (upo g2 [1])) _ := hP
    have hD : va_D A ([(ad 1, .inr (2, [.ref (ad 2), .ref (ad 3), .int wd9, .int (nI n)]))] ++ pg cds ad (upo g2 [1])) := hD
    refine va_put (D := D) (ci := 2) (v := .int (nI (n + 1))) (ty := .int) (C := R_T) (T := T_T) (N := 4) hx hb hT in_T ty_T ty_T_ok m_T hown hK hP hD hS 0 rfl rfl 3 (by decide) (hT _ w81) (fun _ h9 => h9) rfl (by decide +kernel) rfl rfl (Nat.le_of_ble_eq_true rfl) dT_newRow_59 (fun H locs hP hD hS => ?_)
    have hP : va_P D vwCl ([(ad 1, .inr (2, [.ref (ad 2), .ref (ad 3), .int wd9, .int (nI (n + 1))]))] ++ pg cds ad (upo g2 [1])) _ := hP
    have hD : va_D A ([(ad 1, .inr (2, [.ref (ad 2), .ref (ad 3), .int wd9, .int (nI (n + 1))]))] ++ pg cds ad (upo g2 [1])) := hD
    have hN9 := (show NDc [1] from (nd_c na_0 nd_0))
    have hP := gb_P (w9 := [(1, .inr (2, [.ref (ad 2), .ref (ad 3), .int wd9, .int (nI (n + 1))]))]) (X := []) (g := g2) hcd hN9 (show QB [(1, .inr (2, [.ref (ad 2), .ref (ad 3), .int wd9, .int (nI (n + 1))]))] from (qb_c (by decide) qb_0)) (hP.part (cx := [(ad 1, .inr (2, [.ref (ad 2), .ref (ad 3), .int wd9, .int (nI (n + 1))]))]) [0] rfl)
    have hD := gb_D (w9 := [(1, .inr (2, [.ref (ad 2), .ref (ad 3), .int wd9, .int (nI (n + 1))]))]) (X := []) (g := g2) hcd hN9 (show QB [(1, .inr (2, [.ref (ad 2), .ref (ad 3), .int wd9, .int (nI (n + 1))]))] from (qb_c (by decide) qb_0)) (hD.part (cx := [(ad 1, .inr (2, [.ref (ad 2), .ref (ad 3), .int wd9, .int (nI (n + 1))]))]) [0] (by decide) rfl)
    obtain ⟨g4, hg4⟩ : ∃ q9, q9 = ups g2 [(1, .inr (2, [.ref (ad 2), .ref (ad 3), .int wd9, .int (nI (n + 1))]))] := ⟨_, rfl⟩
    rw [← hg4] at hP hD
    have hP : va_P D vwCl ([] ++ pg cds ad g4) _ := hP
    have hD : va_D A ([] ++ pg cds ad g4) := hD
    have fg4 : ∀ z8, z8 ≠ 1 → g4 z8 = g2 z8 := fun z8 z1 => by rw [hg4]; exact ups_k (kp_n z1 kp_0)
    have g4_0 : g4 1 = some (.inr (2, [.ref (ad 2), .ref (ad 3), .int wd9, .int (nI (n + 1))])) := by rw [hg4]; exact ups_1
    have hP9 : va_P D vwCl ([] ++ pg cds ad g4) _ := hP.part (cx := []) [] rfl
    have hD9 : va_D A ([] ++ pg cds ad g4) := hD.part (cx := []) [] (by decide) rfl
    refine W.widen (k := 0) (n := 0) (Nat.le_of_ble_eq_true rfl) (Nat.le_of_ble_eq_true rfl) ?_
    exact W.iret (v := nI n) hx hb hr (fun t9 ht9 hW9 => ⟨⟨nI n, g4, rfl, (show (nI n) = nI n ∧ (∀ z8, z8 ≠ 1 → z8 ≠ 3 → (z8 < 20 ∨ 26 ≤ z8) → g4 z8 = gg z8) ∧ g4 1 = some (eTB ad wd9 (nI (n + 1))) ∧ TGp cT g4 (n + 1) (upd tg n v) ∧ COLF cT ad g4 (n + 1) v7 vq eg ik ne from ⟨rfl, fun z8 n1 n2 n3 => (fg4 z8 n1).trans ((iF z8 (by omega)).trans (fg1 z8 n2)), g4_0, ⟨upd ft n v, (fg4 _ (by omega)).trans ((iF _ (by omega)).trans g1_0), fun i hi => (by by_cases q9 : i = n; (rw [q9, pk_us, pk_us]); (rw [pk_un q9, pk_un q9]; exact htg9 i (by omega))), (pk_un (by omega)).trans htq⟩, fun j hj => (by obtain ⟨fv9, fe9, e1, e2, e3, e4, e5⟩ := iC j hj; exact ⟨fv9, fe9, e1.cg (fg4 _ (by omega)) (fg4 _ (by omega)) (fg4 _ (by omega)), fun r hr => (by by_cases q9 : r = n; (rw [q9, e5 (by omega), hv71 j hj]); (rw [e2 r (by omega), hv72 _ (by omega)])), e3, e4⟩)⟩), by rw [ht9]; exact hP9, hD9⟩, hS.F ht9⟩) hS.2.2 dT_newRow_62
  · have gh1 : i < 6 := Nat.not_le.mp (fun q => h1 ((nI_leI (a := 6) (b := i) (by omega) (by omega)).mpr q))
    have hi6 : i < 6 := by omega
    obtain ⟨fv, fe, hce, hcv, hcq, hcg, hcm⟩ := iC i hi6
    obtain ⟨hc1, hc2, hc3⟩ := hce
    refine lv_aload_n hx hb dT_newRow_27 rfl (lv_at hl 2 rfl) ?_
    refine lv_iload hx hb dT_newRow_28 (lv_at hl 4 rfl) ?_
    refine al_q (q := ad (10 + i)) hx hb hK (pg_1 (x := 2) hcd hP (by decide) ((iF 2 (by omega)).trans ((fg1 2 (by omega)).trans hca))) 0 5 rfl rfl (vp_in_nI (by omega) (by decide)) (by rw [nI_clamp (by omega)]; exact hcb i hi6) dT_newRow_30 ?_
    refine lv_astore hx hb dT_newRow_31 hl (by decide) rfl (fun ls hl => ?_)
    have hl : lv_has ls 6 [(5, .ref (ad (10 + i))), (0, .ref (ad 1)), (1, .int v), (2, .ref (ad 2)), (3, .int 6), (4, .int (nI i))] := hl
    refine lv_aload hx hb dT_newRow_33 (lv_at hl 0 rfl) ?_
    refine va_get (D := D) (ci := 1) (v := .ref (ad (20 + i))) (C := R_C) (T := T_C) (N := 4) hx hb hT in_C hown hK (pg_1 (x := 10 + i) hcd hP (by omega) hc1) 0 rfl rfl 0 (by decide) (hT _ w51) (fun _ h9 => h9) rfl dT_newRow_35 ?_
    refine lv_aload_n hx hb dT_newRow_38 rfl (lv_at hl 1 rfl) ?_
    refine va_get (D := D) (ci := 2) (v := .int (nI n)) (C := R_T) (T := T_T) (N := 4) hx hb hT in_T hown hK (pg_1 (x := 1) hcd hP (by decide) ((iF 1 (by omega)).trans ((fg1 1 (by omega)).trans htb))) 0 rfl rfl 3 (by decide) (hT _ w81) (fun _ h9 => h9) rfl dT_newRow_39 ?_
    refine lv_ldc (v := (-2147483648)) hx hb hown (hT _ w318) dT_newRow_42 ?_
    have hB9 : QI g2 [(20 + i, .inl (cT 0, 49, .inl fv))] := (qi_c (by omega) hc2 qi_0)
    have hN9 := (show NDc [20 + i] from (nd_c na_0 nd_0))
    have hP := bo_P (wc := [(20 + i, .inl (cT 0, 49, .inl fv))]) (X := []) hcd hN9 hB9 hP
    have hD := bo_D (wc := [(20 + i, .inl (cT 0, 49, .inl fv))]) (X := []) hcd hN9 hB9 hD
    have hP : va_P D vwCl ([(ad (20 + i), .inl (cT 0, 49, .inl fv))] ++ pg cds ad (upo g2 [20 + i])) _ := hP
    have hD : va_D A ([(ad (20 + i), .inl (cT 0, 49, .inl fv))] ++ pg cds ad (upo g2 [20 + i])) := hD
    refine lq_iast (j := n) hx hb hK hP hD hS 0 0 rfl rfl rfl (by omega) (by omega) dT_newRow_44 (fun H locs hP hD hS => ?_)
    have hP : va_P D vwCl ([(ad (20 + i), .inl (cT 0, 49, .inl (upd fv n (-2147483648))))] ++ pg cds ad (upo g2 [20 + i])) _ := hP
    have hD : va_D A ([(ad (20 + i), .inl (cT 0, 49, .inl (upd fv n (-2147483648))))] ++ pg cds ad (upo g2 [20 + i])) := hD
    have hN9 := (show NDc [20 + i] from (nd_c na_0 nd_0))
    have hP := gb_P (w9 := [(20 + i, .inl (cT 0, 49, .inl (upd fv n (-2147483648))))]) (X := []) (g := g2) hcd hN9 (show QB [(20 + i, .inl (cT 0, 49, .inl (upd fv n (-2147483648))))] from (qb_c (by omega) qb_0)) (hP.part (cx := [(ad (20 + i), .inl (cT 0, 49, .inl (upd fv n (-2147483648))))]) [0] rfl)
    have hD := gb_D (w9 := [(20 + i, .inl (cT 0, 49, .inl (upd fv n (-2147483648))))]) (X := []) (g := g2) hcd hN9 (show QB [(20 + i, .inl (cT 0, 49, .inl (upd fv n (-2147483648))))] from (qb_c (by omega) qb_0)) (hD.part (cx := [(ad (20 + i), .inl (cT 0, 49, .inl (upd fv n (-2147483648))))]) [0] (by decide) rfl)
    obtain ⟨g3, hg3⟩ : ∃ q9, q9 = ups g2 [(20 + i, .inl (cT 0, 49, .inl (upd fv n (-2147483648))))] := ⟨_, rfl⟩
    rw [← hg3] at hP hD
    have hP : va_P D vwCl ([] ++ pg cds ad g3) _ := hP
    have hD : va_D A ([] ++ pg cds ad g3) := hD
    have fg3 : ∀ z8, z8 ≠ 20 + i → g3 z8 = g2 z8 := fun z8 z1 => by rw [hg3]; exact ups_k (kp_n z1 kp_0)
    have g3_0 : g3 (20 + i) = some (.inl (cT 0, 49, .inl (upd fv n (-2147483648)))) := by rw [hg3]; exact ups_1
    refine lv_iinc (k := 5) (v := nI (i + 1)) hx hb dT_newRow_45 hl rfl (nI_1 i) (by decide) rfl (fun ls hl => ?_)
    have hl : lv_has ls 6 [(4, .int (nI (i + 1))), (5, .ref (ad (10 + i))), (0, .ref (ad 1)), (1, .int v), (2, .ref (ad 2)), (3, .int 6)] := hl
    refine lv_goto (tgt := 21) hx hb dT_newRow_48 rfl ?_
    exact ih21 (i + 1, g3) (show (i + 1) ≤ 6 ∧ (∀ z8, (z8 < 20 ∨ 26 ≤ z8) → g3 z8 = g1 z8) ∧ (∀ j, j < 6 → ∃ fv fe : Nat → Int32, COLe cT ad g3 j (nI (ne j)) (ik j) fv fe ∧ (∀ r, r < n → fv r = vv (6 * r + j)) ∧ fv 48 = vq j ∧ (∀ q, q < ne j → fe q = eg (11 * j + q)) ∧ (j < (i + 1) → fv n = (-2147483648))) from ⟨by omega, fun z8 n1 => (fg3 z8 (by omega)).trans (iF z8 n1), fun j hj => (by by_cases q9 : j = i; (subst q9; exact ⟨_, fe, ⟨(fg3 _ (by omega)).trans hc1, g3_0, (fg3 _ (by omega)).trans hc3⟩, fun r hr => (pk_un (by omega)).trans (hcv r hr), (pk_un (by omega)).trans hcq, hcg, fun _ => pk_us⟩); (obtain ⟨fv9, fe9, e1, e2, e3, e4, e5⟩ := iC j hj; exact ⟨fv9, fe9, e1.cg (fg3 _ (by omega)) (fg3 _ (by omega)) (fg3 _ (by omega)), e2, e3, e4, fun q => e5 (by omega)⟩))⟩) (show 6 - (i + 1) < 6 - i from (by omega)) ls H locs (lv_sub hl [2, 3, 4, 5, 0] rfl) hP hD hS
set_option maxHeartbeats 4000000 in
set_option maxRecDepth 100000 in
theorem k_add (l : Launch) (D : va_G) (cT : Nat → ClassId) (cds : List Nat) (ad : Nat → Nat) (gg : Nat → Option va_E) (tc : Int32) (wd9 : Int32) (n : Nat) (vv : Nat → Int32) (vq : Nat → Int32) (eg : Nat → Int32) (ik : Nat → Int32) (ne : Nat → Nat) (tg : Nat → Int32) (v7 : Nat → Int32) (v : Int32) (hcd : CD cds) (hob : gg 0 = some (eOB ad tc)) (htb : gg 1 = some (eTB ad wd9 (nI n))) (hCa : CAp cT ad gg) (hCf : COLF cT ad gg n vv vq eg ik ne) (hTg : TGp cT gg n tg) (hn48 : n < 48) (hv71 : ∀ q, q < 6 → v7 (6 * n + q) = (-2147483648)) (hv72 : ∀ q, q < 6 * n → v7 q = vv q) (hv9 : (-1000) ≤ v ∧ v ≤ 1000) (sz : Nat) : Met l yR_add WR_add ({ frames := 2, cells := 0, slots := 0, locals := 42 } : Room) (RW D vwCl [.ref (ad 0), .int v] ([] ++ pg cds ad gg) (TY cT) sz) (va_Qi (fun (r9 : Int32) (u9 : (Nat → Option va_E)) => r9 = nI n ∧ (∀ z8, z8 ≠ 1 → z8 ≠ 3 → (z8 < 20 ∨ 26 ≤ z8) → u9 z8 = gg z8) ∧ u9 1 = some (eTB ad wd9 (nI (n + 1))) ∧ TGp cT u9 (n + 1) (upd tg n v) ∧ COLF cT ad u9 (n + 1) v7 vq eg ik ne) (BW D vwCl (va_A ([] ++ pg cds ad gg) sz) (fun u9 : (Nat → Option va_E) => ([] ++ pg cds ad u9))) (va_A ([] ++ pg cds ad gg) sz)) 0 0 (va_A ([] ++ pg cds ad gg) sz) := by
  refine Met.ofW (cc := cR_add) (maxL := 2) (ret := (some .int)) (by decide) rfl ?_
  intro p e s m args below meth c s₁ B hml hv
  obtain ⟨rfl, hsz, hZ, hP, hK, hD0⟩ := hv
  have hx := B.exec
  have hb := B.bytes
  have hr := B.returns
  have hts := atoms_spec (ws := WR_add) B.pre
  have hT : ∀ w ∈ TB, w.before _ s = true := fun w h => hts w (List.mem_cons_of_mem _ h)
  have hown : s.vm.findClass R_R = some m.cls := findClass_of_methodNamed B.named
  have hlocks := B.notSynchronized
  subst hsz
  have hD := hD0.self (sz := s.heap.size)
  generalize hAe : va_A ([] ++ pg cds ad gg) s.heap.size = A at hD hZ ⊢
  have hA : ∀ q : Nat, s.heap.size ≤ q → A q := fun q h => by rw [← hAe]; exact Or.inr h
  have hS : va_S A s.heap s.heap [] := va_S.rf
  have hl := lv_entry ([.ref (ad 0), .int v]) (n := 2) (Nat.le_of_ble_eq_true rfl)
  rw [lg_entry_eq]
  generalize (lg_sl ([.ref (ad 0), .int v]) ++ List.replicate (2 - (lg_sl ([.ref (ad 0), .int v])).length) Slot.unset).toArray = ls at hl ⊢
  have hl : lv_has ls 2 [(0, .ref (ad 0)), (1, .int v)] := hl
  refine lv_iload_n hx hb dR_add_0 rfl (lv_at hl 1 rfl) ?_
  refine ro_i (va_Run.run (va_runS (As := [.int v]) (rest := []) ⟨hx, hb, hml, hown, hT⟩ (k_isTarget l D cT v) ⟨callB_of 1 hT (tb_gd w583) rfl rfl rfl (hT _ w1) (hT _ w581) hR_isTarget ⟨Nat.le_of_ble_eq_true rfl, Nat.le_of_ble_eq_true rfl⟩, (hT _ w582)⟩ (RO.preS hZ hS ((show va_P D vwCl [] _ from fun _ _ h => nomatch h)) hK) rfl rfl hl.1 rfl (lv_room (Nat.le_of_ble_eq_true rfl)) dR_add_1 ⟨Nat.le_of_ble_eq_true rfl, Nat.le_of_ble_eq_true rfl⟩)) ?_
  refine ro_v (va_Run.run (va_runS (As := [.int (bi ((-1000) ≤ v ∧ v ≤ 1000))]) (rest := []) ⟨hx, hb, hml, hown, hT⟩ (k_demand_ok l D cT (bi ((-1000) ≤ v ∧ v ≤ 1000)) (by rw [bi_t hv9]; decide)) ⟨callB_of 1 hT (tb_gd w510) rfl rfl rfl (hT _ w1) (hT _ w508) hR_demand ⟨Nat.le_of_ble_eq_true rfl, Nat.le_of_ble_eq_true rfl⟩, (hT _ w509)⟩ (RO.preS hZ hS ((show va_P D vwCl [] _ from fun _ _ h => nomatch h)) hK) rfl rfl hl.1 rfl (lv_room (Nat.le_of_ble_eq_true rfl)) dR_add_4 ⟨Nat.le_of_ble_eq_true rfl, Nat.le_of_ble_eq_true rfl⟩)) ?_
  refine lv_aload_n hx hb dR_add_7 rfl (lv_at hl 0 rfl) ?_
  refine va_get (D := D) (ci := 0) (v := .ref (ad 1)) (C := R_R) (T := T_R) (N := 13) hx hb hT in_R hown hK (pg_1 (x := 0) hcd hP (by decide) hob) 0 rfl rfl 0 (by decide) (hT _ w324) (fun _ h9 => h9) rfl dR_add_8 ?_
  refine va_get (D := D) (ci := 2) (v := .int (nI n)) (C := R_T) (T := T_T) (N := 4) hx hb hT in_T hown hK (pg_1 (x := 1) hcd hP (by decide) htb) 0 rfl rfl 3 (by decide) (hT _ w82) (fun _ h9 => h9) rfl dR_add_11 ?_
  refine lv_bipush (v := 48) hx hb dR_add_14 (by decide) ?_
  refine lv_icmp_ge (tgt := 23) hx hb dR_add_16 rfl (fun h1 => absurd h1 (fun q => absurd ((nI_leI (a := 48) (b := n) (by decide) (by omega)).mp q) (by omega))) (fun _ => ?_)
  refine lv_iconst (v := 1) hx hb dR_add_19 (by decide) ?_
  refine lv_goto (tgt := 24) hx hb dR_add_20 rfl ?_
  refine ro_v (va_Run.run (va_runS (As := [.int 1]) (rest := []) ⟨hx, hb, hml, hown, hT⟩ (k_demandState_ok l D cT 1 (by decide)) ⟨callB_of 1 hT (tb_gd w586) rfl rfl rfl (hT _ w1) (hT _ w584) hR_demandState ⟨Nat.le_of_ble_eq_true rfl, Nat.le_of_ble_eq_true rfl⟩, (hT _ w585)⟩ (RO.preS hZ hS ((show va_P D vwCl [] _ from fun _ _ h => nomatch h)) hK) rfl rfl hl.1 rfl (lv_room (Nat.le_of_ble_eq_true rfl)) dR_add_24 ⟨Nat.le_of_ble_eq_true rfl, Nat.le_of_ble_eq_true rfl⟩)) ?_
  refine lv_aload_n hx hb dR_add_27 rfl (lv_at hl 0 rfl) ?_
  refine va_get (D := D) (ci := 0) (v := .ref (ad 1)) (C := R_R) (T := T_R) (N := 13) hx hb hT in_R hown hK (pg_1 (x := 0) hcd hP (by decide) hob) 0 rfl rfl 0 (by decide) (hT _ w324) (fun _ h9 => h9) rfl dR_add_28 ?_
  refine lv_iload_n hx hb dR_add_31 rfl (lv_at hl 1 rfl) ?_
  refine hy_iP (X := []) (pl := pg cds ad gg) (cx := []) (wr := []) hP hD hS hA [] [] rfl rfl (by decide) (by decide) (va_runV (As := [.int v]) (rest := []) ⟨hx, hb, hml, hown, hT⟩ (k_newRow l D cT cds ad gg wd9 n vv vq eg ik ne tg v7 v hcd htb hCa hCf hTg hn48 hv71 hv72 _) ⟨callB_of 1 hT (tb_gd w605) rfl rfl rfl (hT _ w2) (hT _ w602) hT_newRow ⟨Nat.le_of_ble_eq_true rfl, Nat.le_of_ble_eq_true rfl⟩, (hT _ w603), (hT _ w604)⟩ (RW.preW (ci := 2) (q0 := 0) hZ hS (va_freeP (cx := []) hD hS hA [] rfl) (hP.part (cx := []) [] rfl) hK (hD.part (cx := []) [] (by decide) rfl) (pg_1 (x := 1) hcd hP (by decide) htb) rfl rfl) rfl rfl hl.1 rfl (lv_room (Nat.le_of_ble_eq_true rfl)) dR_add_32 ⟨Nat.le_of_ble_eq_true rfl, Nat.le_of_ble_eq_true rfl⟩) (fun ru2 u9 H locs hpu2 hP hD hS => ?_)
  obtain ⟨gg7u2, rfl⟩ : ∃ q9, q9 = u9 := ⟨_, rfl⟩
  have hpu2 : ru2 = nI n ∧ (∀ z8, z8 ≠ 1 → z8 ≠ 3 → (z8 < 20 ∨ 26 ≤ z8) → gg7u2 z8 = gg z8) ∧ gg7u2 1 = some (eTB ad wd9 (nI (n + 1))) ∧ TGp cT gg7u2 (n + 1) (upd tg n v) ∧ COLF cT ad gg7u2 (n + 1) v7 vq eg ik ne := hpu2
  have hP : va_P D vwCl ([] ++ pg cds ad gg7u2) _ := hP
  have hD : va_D A ([] ++ pg cds ad gg7u2) := hD
  have hP9 : va_P D vwCl ([] ++ pg cds ad gg7u2) _ := hP.part (cx := []) [] rfl
  have hD9 : va_D A ([] ++ pg cds ad gg7u2) := hD.part (cx := []) [] (by decide) rfl
  refine W.widen (k := 0) (n := 0) (Nat.le_of_ble_eq_true rfl) (Nat.le_of_ble_eq_true rfl) ?_
  exact W.iret (v := ru2) hx hb hr (fun t9 ht9 hW9 => ⟨⟨ru2, gg7u2, rfl, (show ru2 = nI n ∧ (∀ z8, z8 ≠ 1 → z8 ≠ 3 → (z8 < 20 ∨ 26 ≤ z8) → gg7u2 z8 = gg z8) ∧ gg7u2 1 = some (eTB ad wd9 (nI (n + 1))) ∧ TGp cT gg7u2 (n + 1) (upd tg n v) ∧ COLF cT ad gg7u2 (n + 1) v7 vq eg ik ne from hpu2), by rw [ht9]; exact hP9, hD9⟩, hS.F ht9⟩) hS.2.2 dR_add_35
set_option maxHeartbeats 4000000 in
set_option maxRecDepth 100000 in
theorem k_add_no1 (l : Launch) (D : va_G) (cT : Nat → ClassId) (cds : List Nat) (ad : Nat → Nat) (gg : Nat → Option va_E) (v : Int32) (hlt : l.stackTraces = false) (hq : ¬ ((-1000) ≤ v ∧ v ≤ 1000)) : MetT l yR_add WR_add ({ frames := 7, cells := 1, slots := 6, locals := 111 } : Room) (RO D vwCl [.ref (ad 0), .int v] ([] ++ pg cds ad gg) (TY cT)) "java/lang/IllegalArgumentException" 1 6 := by
  refine MetT.ofW (cc := cR_add) (maxL := 2) (ret := (some .int)) (by decide) rfl ?_
  intro p e s m args below meth c s₁ B hml hno hv
  obtain ⟨rfl, hZ, hP, hK⟩ := hv
  have hx := B.exec
  have hb := B.bytes
  have hr := B.returns
  have hts := atoms_spec (ws := WR_add) B.pre
  have hT : ∀ w ∈ TB, w.before _ s = true := fun w h => hts w (List.mem_cons_of_mem _ h)
  have hown : s.vm.findClass R_R = some m.cls := findClass_of_methodNamed B.named
  have hlocks := B.notSynchronized
  have hS : va_S (fun _ => False) s.heap s.heap [] := va_S.rf
  have hl := lv_entry ([.ref (ad 0), .int v]) (n := 2) (Nat.le_of_ble_eq_true rfl)
  rw [lg_entry_eq]
  generalize (lg_sl ([.ref (ad 0), .int v]) ++ List.replicate (2 - (lg_sl ([.ref (ad 0), .int v])).length) Slot.unset).toArray = ls at hl ⊢
  have hl : lv_has ls 2 [(0, .ref (ad 0)), (1, .int v)] := hl
  refine lv_iload_n hx hb dR_add_0 rfl (lv_at hl 1 rfl) ?_
  refine ro_i (va_Run.run (va_runS (As := [.int v]) (rest := []) ⟨hx, hb, hml, hown, hT⟩ (k_isTarget l D cT v) ⟨callB_of 1 hT (tb_gd w583) rfl rfl rfl (hT _ w1) (hT _ w581) hR_isTarget ⟨Nat.le_of_ble_eq_true rfl, Nat.le_of_ble_eq_true rfl⟩, (hT _ w582)⟩ (RO.preS hZ hS ((show va_P D vwCl [] _ from fun _ _ h => nomatch h)) hK) rfl rfl hl.1 rfl (lv_room (Nat.le_of_ble_eq_true rfl)) dR_add_1 ⟨Nat.le_of_ble_eq_true rfl, Nat.le_of_ble_eq_true rfl⟩)) ?_
  exact tx_out (tx_goS (As := [.int (bi ((-1000) ≤ v ∧ v ≤ 1000))]) (rest := []) ⟨hx, hb, hml, hown, hT⟩ (k_demand_no l D cT (bi ((-1000) ≤ v ∧ v ≤ 1000)) hlt (bi_f hq)) ⟨callB_of 1 hT (tb_gd w510) rfl rfl rfl (hT _ w1) (hT _ w508) hR_demand ⟨Nat.le_of_ble_eq_true rfl, Nat.le_of_ble_eq_true rfl⟩, (hT _ w509)⟩ (RO.preS hZ hS ((show va_P D vwCl [] _ from fun _ _ h => nomatch h)) hK) rfl hl.1 rfl (Nat.le_of_ble_eq_true rfl) dR_add_4 ⟨Nat.le_of_ble_eq_true rfl, Nat.le_of_ble_eq_true rfl⟩) hno hlocks
set_option maxHeartbeats 4000000 in
set_option maxRecDepth 100000 in
theorem k_add_no2 (l : Launch) (D : va_G) (cT : Nat → ClassId) (cds : List Nat) (ad : Nat → Nat) (gg : Nat → Option va_E) (tc : Int32) (wd9 : Int32) (v : Int32) (hlt : l.stackTraces = false) (hcd : CD cds) (hob : gg 0 = some (eOB ad tc)) (htb : gg 1 = some (eTB ad wd9 (nI 48))) (hv9 : (-1000) ≤ v ∧ v ≤ 1000) : MetT l yR_add WR_add ({ frames := 7, cells := 1, slots := 6, locals := 111 } : Room) (RO D vwCl [.ref (ad 0), .int v] ([] ++ pg cds ad gg) (TY cT)) "java/lang/IllegalStateException" 1 6 := by
  refine MetT.ofW (cc := cR_add) (maxL := 2) (ret := (some .int)) (by decide) rfl ?_
  intro p e s m args below meth c s₁ B hml hno hv
  obtain ⟨rfl, hZ, hP, hK⟩ := hv
  have hx := B.exec
  have hb := B.bytes
  have hr := B.returns
  have hts := atoms_spec (ws := WR_add) B.pre
  have hT : ∀ w ∈ TB, w.before _ s = true := fun w h => hts w (List.mem_cons_of_mem _ h)
  have hown : s.vm.findClass R_R = some m.cls := findClass_of_methodNamed B.named
  have hlocks := B.notSynchronized
  have hS : va_S (fun _ => False) s.heap s.heap [] := va_S.rf
  have hl := lv_entry ([.ref (ad 0), .int v]) (n := 2) (Nat.le_of_ble_eq_true rfl)
  rw [lg_entry_eq]
  generalize (lg_sl ([.ref (ad 0), .int v]) ++ List.replicate (2 - (lg_sl ([.ref (ad 0), .int v])).length) Slot.unset).toArray = ls at hl ⊢
  have hl : lv_has ls 2 [(0, .ref (ad 0)), (1, .int v)] := hl
  refine lv_iload_n hx hb dR_add_0 rfl (lv_at hl 1 rfl) ?_
  refine ro_i (va_Run.run (va_runS (As := [.int v]) (rest := []) ⟨hx, hb, hml, hown, hT⟩ (k_isTarget l D cT v) ⟨callB_of 1 hT (tb_gd w583) rfl rfl rfl (hT _ w1) (hT _ w581) hR_isTarget ⟨Nat.le_of_ble_eq_true rfl, Nat.le_of_ble_eq_true rfl⟩, (hT _ w582)⟩ (RO.preS hZ hS ((show va_P D vwCl [] _ from fun _ _ h => nomatch h)) hK) rfl rfl hl.1 rfl (lv_room (Nat.le_of_ble_eq_true rfl)) dR_add_1 ⟨Nat.le_of_ble_eq_true rfl, Nat.le_of_ble_eq_true rfl⟩)) ?_
  refine ro_v (va_Run.run (va_runS (As := [.int (bi ((-1000) ≤ v ∧ v ≤ 1000))]) (rest := []) ⟨hx, hb, hml, hown, hT⟩ (k_demand_ok l D cT (bi ((-1000) ≤ v ∧ v ≤ 1000)) (by rw [bi_t hv9]; decide)) ⟨callB_of 1 hT (tb_gd w510) rfl rfl rfl (hT _ w1) (hT _ w508) hR_demand ⟨Nat.le_of_ble_eq_true rfl, Nat.le_of_ble_eq_true rfl⟩, (hT _ w509)⟩ (RO.preS hZ hS ((show va_P D vwCl [] _ from fun _ _ h => nomatch h)) hK) rfl rfl hl.1 rfl (lv_room (Nat.le_of_ble_eq_true rfl)) dR_add_4 ⟨Nat.le_of_ble_eq_true rfl, Nat.le_of_ble_eq_true rfl⟩)) ?_
  refine lv_aload_n hx hb dR_add_7 rfl (lv_at hl 0 rfl) ?_
  refine va_get (D := D) (ci := 0) (v := .ref (ad 1)) (C := R_R) (T := T_R) (N := 13) hx hb hT in_R hown hK (pg_1 (x := 0) hcd hP (by decide) hob) 0 rfl rfl 0 (by decide) (hT _ w324) (fun _ h9 => h9) rfl dR_add_8 ?_
  refine va_get (D := D) (ci := 2) (v := .int (nI 48)) (C := R_T) (T := T_T) (N := 4) hx hb hT in_T hown hK (pg_1 (x := 1) hcd hP (by decide) htb) 0 rfl rfl 3 (by decide) (hT _ w82) (fun _ h9 => h9) rfl dR_add_11 ?_
  refine lv_bipush (v := 48) hx hb dR_add_14 (by decide) ?_
  refine lv_icmp_ge (tgt := 23) hx hb dR_add_16 rfl (fun _ => ?_) (fun h1 => absurd (by decide) h1)
  refine lv_iconst (v := 0) hx hb dR_add_23 (by decide) ?_
  exact tx_out (tx_goS (As := [.int 0]) (rest := []) ⟨hx, hb, hml, hown, hT⟩ (k_demandState_no l D cT 0 hlt rfl) ⟨callB_of 1 hT (tb_gd w586) rfl rfl rfl (hT _ w1) (hT _ w584) hR_demandState ⟨Nat.le_of_ble_eq_true rfl, Nat.le_of_ble_eq_true rfl⟩, (hT _ w585)⟩ (RO.preS hZ hS ((show va_P D vwCl [] _ from fun _ _ h => nomatch h)) hK) rfl hl.1 rfl (Nat.le_of_ble_eq_true rfl) dR_add_24 ⟨Nat.le_of_ble_eq_true rfl, Nat.le_of_ble_eq_true rfl⟩) hno hlocks
set_option maxHeartbeats 4000000 in
set_option maxRecDepth 100000 in
theorem k_tclear (l : Launch) (D : va_G) (cT : Nat → ClassId) (cds : List Nat) (ad : Nat → Nat) (gg : Nat → Option va_E) (wd9 : Int32) (rw9 : Int32) (k : Int32) (hcd : CD cds) (htb : gg 1 = some (eTB ad wd9 rw9)) (hCa : CAp cT ad gg) (hCc : ∀ j, j < 6 → ∃ (fv fe : Nat → Int32) (ec ok : Int32), COLe cT ad gg j ec ok fv fe ∧ (ok = 0 ∨ ok = 1)) (sz : Nat) : Met l yT_clear WT_clear ({ frames := 1, cells := 0, slots := 0, locals := 22 } : Room) (RW D vwCl [.ref (ad 1), .int k] ([] ++ pg cds ad gg) (TY cT) sz) (va_Qv (fun u9 : (Nat → Option va_E) => (∀ z8, z8 ≠ 1 → (z8 < 10 ∨ 26 ≤ z8) → u9 z8 = gg z8) ∧ u9 1 = some (eTB ad k (nI 0)) ∧ ∀ j8, j8 < 6 → ∃ fv fe : Nat → Int32, COLe cT ad u9 j8 0 0 fv fe ∧ (∀ r8, r8 < 0 → fv r8 = 0) ∧ fv 48 = (-2147483648) ∧ ∀ q8, q8 < 0 → fe q8 = 0) (BW D vwCl (va_A ([] ++ pg cds ad gg) sz) (fun u9 : (Nat → Option va_E) => ([] ++ pg cds ad u9))) (va_A ([] ++ pg cds ad gg) sz)) 0 0 (va_A ([] ++ pg cds ad gg) sz) := by
  refine Met.ofW (cc := cT_clear) (maxL := 6) (ret := none) (by decide) rfl ?_
  intro p e s m args below meth c s₁ B hml hv
  obtain ⟨rfl, hsz, hZ, hP, hK, hD0⟩ := hv
  have hx := B.exec
  have hb := B.bytes
  have hr := B.returns
  have hts := atoms_spec (ws := WT_clear) B.pre
  have hT : ∀ w ∈ TB, w.before _ s = true := fun w h => hts w (List.mem_cons_of_mem _ h)
  have hown : s.vm.findClass R_T = some m.cls := findClass_of_methodNamed B.named
  have hlocks := B.notSynchronized
  subst hsz
  have hD := hD0.self (sz := s.heap.size)
  generalize hAe : va_A ([] ++ pg cds ad gg) s.heap.size = A at hD hZ ⊢
  have hA : ∀ q : Nat, s.heap.size ≤ q → A q := fun q h => by rw [← hAe]; exact Or.inr h
  have hS : va_S A s.heap s.heap [] := va_S.rf
  have hl := lv_entry ([.ref (ad 1), .int k]) (n := 6) (Nat.le_of_ble_eq_true rfl)
  rw [lg_entry_eq]
  generalize (lg_sl ([.ref (ad 1), .int k]) ++ List.replicate (6 - (lg_sl ([.ref (ad 1), .int k])).length) Slot.unset).toArray = ls at hl ⊢
  have hl : lv_has ls 6 [(0, .ref (ad 1)), (1, .int k)] := hl
  obtain ⟨qf, hca, hcb⟩ := hCa
  have hB9 : QI gg [(1, .inr (2, [.ref (ad 2), .ref (ad 3), .int wd9, .int rw9]))] := (qi_c (by decide) htb qi_0)
  have hN9 := (show NDc [1] from (nd_c na_0 nd_0))
  have hP := bo_P (wc := [(1, .inr (2, [.ref (ad 2), .ref (ad 3), .int wd9, .int rw9]))]) (X := []) hcd hN9 hB9 hP
  have hD := bo_D (wc := [(1, .inr (2, [.ref (ad 2), .ref (ad 3), .int wd9, .int rw9]))]) (X := []) hcd hN9 hB9 hD
  have hP : va_P D vwCl ([(ad 1, .inr (2, [.ref (ad 2), .ref (ad 3), .int wd9, .int rw9]))] ++ pg cds ad (upo gg [1])) _ := hP
  have hD : va_D A ([(ad 1, .inr (2, [.ref (ad 2), .ref (ad 3), .int wd9, .int rw9]))] ++ pg cds ad (upo gg [1])) := hD
  refine lv_aload_n hx hb dT_clear_0 rfl (lv_at hl 0 rfl) ?_
  refine lv_iload_n hx hb dT_clear_1 rfl (lv_at hl 1 rfl) ?_
  refine va_put (D := D) (ci := 2) (v := .int k) (ty := .int) (C := R_T) (T := T_T) (N := 4) hx hb hT in_T ty_T ty_T_ok m_T hown hK hP hD hS 0 rfl rfl 2 (by decide) (hT _ w78) (fun _ h9 => h9) rfl (by decide +kernel) rfl rfl (Nat.le_of_ble_eq_true rfl) dT_clear_2 (fun H locs hP hD hS => ?_)
  have hP : va_P D vwCl ([(ad 1, .inr (2, [.ref (ad 2), .ref (ad 3), .int k, .int rw9]))] ++ pg cds ad (upo gg [1])) _ := hP
  have hD : va_D A ([(ad 1, .inr (2, [.ref (ad 2), .ref (ad 3), .int k, .int rw9]))] ++ pg cds ad (upo gg [1])) := hD
  refine lv_aload_n hx hb dT_clear_5 rfl (lv_at hl 0 rfl) ?_
  refine lv_iconst (v := 0) hx hb dT_clear_6 (by decide) ?_
  refine va_put (D := D) (ci := 2) (v := .int 0) (ty := .int) (C := R_T) (T := T_T) (N := 4) hx hb hT in_T ty_T ty_T_ok m_T hown hK hP hD hS 0 rfl rfl 3 (by decide) (hT _ w81) (fun _ h9 => h9) rfl (by decide +kernel) rfl rfl (Nat.le_of_ble_eq_true rfl) dT_clear_7 (fun H locs hP hD hS => ?_)
  have hP : va_P D vwCl ([(ad 1, .inr (2, [.ref (ad 2), .ref (ad 3), .int k, .int 0]))] ++ pg cds ad (upo gg [1])) _ := hP
  have hD : va_D A ([(ad 1, .inr (2, [.ref (ad 2), .ref (ad 3), .int k, .int 0]))] ++ pg cds ad (upo gg [1])) := hD
  have hN9 := (show NDc [1] from (nd_c na_0 nd_0))
  have hP := gb_P (w9 := [(1, .inr (2, [.ref (ad 2), .ref (ad 3), .int k, .int 0]))]) (X := []) (g := gg) hcd hN9 (show QB [(1, .inr (2, [.ref (ad 2), .ref (ad 3), .int k, .int 0]))] from (qb_c (by decide) qb_0)) (hP.part (cx := [(ad 1, .inr (2, [.ref (ad 2), .ref (ad 3), .int k, .int 0]))]) [0] rfl)
  have hD := gb_D (w9 := [(1, .inr (2, [.ref (ad 2), .ref (ad 3), .int k, .int 0]))]) (X := []) (g := gg) hcd hN9 (show QB [(1, .inr (2, [.ref (ad 2), .ref (ad 3), .int k, .int 0]))] from (qb_c (by decide) qb_0)) (hD.part (cx := [(ad 1, .inr (2, [.ref (ad 2), .ref (ad 3), .int k, .int 0]))]) [0] (by decide) rfl)
  obtain ⟨g1, hg1⟩ : ∃ q9, q9 = ups gg [(1, .inr (2, [.ref (ad 2), .ref (ad 3), .int k, .int 0]))] := ⟨_, rfl⟩
  rw [← hg1] at hP hD
  have hP : va_P D vwCl ([] ++ pg cds ad g1) _ := hP
  have hD : va_D A ([] ++ pg cds ad g1) := hD
  have fg1 : ∀ z8, z8 ≠ 1 → g1 z8 = gg z8 := fun z8 z1 => by rw [hg1]; exact ups_k (kp_n z1 kp_0)
  have g1_0 : g1 1 = some (.inr (2, [.ref (ad 2), .ref (ad 3), .int k, .int 0])) := by rw [hg1]; exact ups_1
  refine lv_aload_n hx hb dT_clear_10 rfl (lv_at hl 0 rfl) ?_
  refine va_get (D := D) (ci := 2) (v := .ref (ad 2)) (C := R_T) (T := T_T) (N := 4) hx hb hT in_T hown hK (pg_1 (x := 1) hcd hP (by decide) g1_0) 0 rfl rfl 0 (by decide) (hT _ w73) (fun _ h9 => h9) rfl dT_clear_11 ?_
  refine lv_astore_n hx hb dT_clear_14 rfl hl (by decide) rfl (fun ls hl => ?_)
  have hl : lv_has ls 6 [(2, .ref (ad 2)), (0, .ref (ad 1)), (1, .int k)] := hl
  refine lv_aload_n hx hb dT_clear_15 rfl (lv_at hl 0 rfl) ?_
  refine va_alen (v := 6) hx hb hK (pg_1 (x := 2) hcd hP (by decide) ((fg1 _ (by decide)).trans hca)) 0 5 rfl rfl rfl dT_clear_16 ?_
  refine lv_istore_n hx hb dT_clear_17 rfl hl (by decide) rfl (fun ls hl => ?_)
  have hl : lv_has ls 6 [(3, .int 6), (2, .ref (ad 2)), (0, .ref (ad 1)), (1, .int k)] := hl
  refine lv_iconst (v := 0) hx hb dT_clear_18 (by decide) ?_
  refine lv_istore hx hb dT_clear_19 hl (by decide) rfl (fun ls hl => ?_)
  have hl : lv_has ls 6 [(4, .int 0), (3, .int 6), (2, .ref (ad 2)), (0, .ref (ad 1)), (1, .int k)] := hl
  have hl : lv_has ls 6 [(4, .int (nI 0)), (3, .int 6), (2, .ref (ad 2)), (0, .ref (ad 1)), (1, .int k)] := by
    rw [(show nI 0 = 0 from rfl)]; exact hl
  refine lp_w (α := Nat × (Nat → Option va_E)) (fun a9 => a9.1 ≤ 6 ∧ (∀ z8, (z8 < 10 ∨ 26 ≤ z8) → a9.2 z8 = g1 z8) ∧ (∀ j, j < 6 → ∃ (fv fe : Nat → Int32) (ec ok : Int32), COLe cT ad a9.2 j ec ok fv fe ∧ (ok = 0 ∨ ok = 1) ∧ (j < a9.1 → ec = 0 ∧ ok = 0 ∧ fv 48 = (-2147483648)))) (fun a9 => 6 - a9.1) (fun a9 => [(0, .ref (ad 1)), (1, .int k), (2, .ref (ad 2)), (3, .int 6), (4, .int (nI a9.1))]) (fun a9 => ([] ++ pg cds ad a9.2)) 21 ?_ (0, g1) (show 0 ≤ 6 ∧ (∀ z8, (z8 < 10 ∨ 26 ≤ z8) → g1 z8 = g1 z8) ∧ (∀ j, j < 6 → ∃ (fv fe : Nat → Int32) (ec ok : Int32), COLe cT ad g1 j ec ok fv fe ∧ (ok = 0 ∨ ok = 1) ∧ (j < 0 → ec = 0 ∧ ok = 0 ∧ fv 48 = (-2147483648))) from ⟨by omega, fun _ _ => rfl, fun j hj => (by obtain ⟨fv, fe, ec, ok, e1, e2⟩ := hCc j hj; exact ⟨fv, fe, ec, ok, e1.cg (fg1 _ (by omega)) (fg1 _ (by omega)) (fg1 _ (by omega)), e2, fun q => absurd q (by omega)⟩)⟩) (lv_sub hl [3, 4, 2, 1, 0] rfl) hP hD hS
  intro a9 hI21 ih21 ls H locs hl hP hD hS
  obtain ⟨i, g2⟩ := a9
  have hI21 : i ≤ 6 ∧ (∀ z8, (z8 < 10 ∨ 26 ≤ z8) → g2 z8 = g1 z8) ∧ (∀ j, j < 6 → ∃ (fv fe : Nat → Int32) (ec ok : Int32), COLe cT ad g2 j ec ok fv fe ∧ (ok = 0 ∨ ok = 1) ∧ (j < i → ec = 0 ∧ ok = 0 ∧ fv 48 = (-2147483648))) := hI21
  obtain ⟨ii, iF, iC⟩ := hI21
  have hl : lv_has ls 6 [(0, .ref (ad 1)), (1, .int k), (2, .ref (ad 2)), (3, .int 6), (4, .int (nI i))] := hl
  have hP : va_P D vwCl ([] ++ pg cds ad g2) _ := hP
  have hD : va_D A ([] ++ pg cds ad g2) := hD
  refine lv_iload hx hb dT_clear_21 (lv_at hl 4 rfl) ?_
  refine lv_iload_n hx hb dT_clear_23 rfl (lv_at hl 3 rfl) ?_
  refine lv_icmp_ge (tgt := 56) hx hb dT_clear_24 rfl (fun h1 => ?_) (fun h1 => ?_)
  · have gh1 : 6 ≤ i := (nI_leI (a := 6) (b := i) (by omega) (by omega)).mp h1
    have hP9 : va_P D vwCl ([] ++ pg cds ad g2) _ := hP.part (cx := []) [] rfl
    have hD9 : va_D A ([] ++ pg cds ad g2) := hD.part (cx := []) [] (by decide) rfl
    refine W.widen (k := 0) (n := 0) (Nat.le_of_ble_eq_true rfl) (Nat.le_of_ble_eq_true rfl) ?_
    exact W.vret hx hb hr (fun t9 ht9 hW9 => ⟨⟨g2, rfl, (show (∀ z8, z8 ≠ 1 → (z8 < 10 ∨ 26 ≤ z8) → g2 z8 = gg z8) ∧ g2 1 = some (eTB ad k (nI 0)) ∧ ∀ j8, j8 < 6 → ∃ fv fe : Nat → Int32, COLe cT ad g2 j8 0 0 fv fe ∧ (∀ r8, r8 < 0 → fv r8 = 0) ∧ fv 48 = (-2147483648) ∧ ∀ q8, q8 < 0 → fe q8 = 0 from ⟨fun z8 n1 n2 => (iF z8 (by omega)).trans (fg1 z8 n1), (iF 1 (by omega)).trans g1_0, fun j hj => (by obtain ⟨fv9, fe9, ec9, ok9, e1, e2, e5⟩ := iC j hj; obtain ⟨r1, r2, r3⟩ := e5 (by omega); subst r1; subst r2; exact ⟨fv9, fe9, e1, fun r hr => absurd hr (by omega), r3, fun q hq => absurd hq (by omega)⟩)⟩), by rw [ht9]; exact hP9, hD9⟩, hS.F ht9⟩) hS.2.2 dT_clear_56
  · have gh1 : i < 6 := Nat.not_le.mp (fun q => h1 ((nI_leI (a := 6) (b := i) (by omega) (by omega)).mpr q))
    have hi6 : i < 6 := by omega
    obtain ⟨fv, fe, ec, ok, hce, hok, hcm⟩ := iC i hi6
    obtain ⟨hc1, hc2, hc3⟩ := hce
    refine lv_aload_n hx hb dT_clear_27 rfl (lv_at hl 2 rfl) ?_
    refine lv_iload hx hb dT_clear_28 (lv_at hl 4 rfl) ?_
    refine al_q (q := ad (10 + i)) hx hb hK (pg_1 (x := 2) hcd hP (by decide) ((iF 2 (by omega)).trans ((fg1 2 (by omega)).trans hca))) 0 5 rfl rfl (vp_in_nI (by omega) (by decide)) (by rw [nI_clamp (by omega)]; exact hcb i hi6) dT_clear_30 ?_
    refine lv_astore hx hb dT_clear_31 hl (by decide) rfl (fun ls hl => ?_)
    have hl : lv_has ls 6 [(5, .ref (ad (10 + i))), (0, .ref (ad 1)), (1, .int k), (2, .ref (ad 2)), (3, .int 6), (4, .int (nI i))] := hl
    refine lv_aload hx hb dT_clear_33 (lv_at hl 0 rfl) ?_
    refine lv_iconst (v := 0) hx hb dT_clear_35 (by decide) ?_
    have hB9 : QI g2 [(10 + i, .inr (1, [.ref (ad (20 + i)), .ref (ad (30 + i)), .int ec, .int ok]))] := (qi_c (by omega) hc1 qi_0)
    have hN9 := (show NDc [10 + i] from (nd_c na_0 nd_0))
    have hP := bo_P (wc := [(10 + i, .inr (1, [.ref (ad (20 + i)), .ref (ad (30 + i)), .int ec, .int ok]))]) (X := []) hcd hN9 hB9 hP
    have hD := bo_D (wc := [(10 + i, .inr (1, [.ref (ad (20 + i)), .ref (ad (30 + i)), .int ec, .int ok]))]) (X := []) hcd hN9 hB9 hD
    have hP : va_P D vwCl ([(ad (10 + i), .inr (1, [.ref (ad (20 + i)), .ref (ad (30 + i)), .int ec, .int ok]))] ++ pg cds ad (upo g2 [10 + i])) _ := hP
    have hD : va_D A ([(ad (10 + i), .inr (1, [.ref (ad (20 + i)), .ref (ad (30 + i)), .int ec, .int ok]))] ++ pg cds ad (upo g2 [10 + i])) := hD
    refine hy_iQ (X := [(ad (10 + i), .inr (1, [.ref (ad (20 + i)), .ref (ad (30 + i)), .int ec, .int ok]))]) (pl := pg cds ad (upo g2 [10 + i])) (cx := [(ad (10 + i), .inr (1, [.ref (ad (20 + i)), .ref (ad (30 + i)), .int ec, .int ok]))]) (wr := []) hP hD hS hA [0] [] rfl rfl (by decide) (by decide) (va_runV (As := [.int 0]) (rest := []) ⟨hx, hb, hml, hown, hT⟩ (k_become l D cT (ad (10 + i)) (ad (20 + i)) (ad (30 + i)) ec ok (0 : Int32) (Or.inl rfl) hok _) ⟨callB_of 1 hT (tb_gd w317) rfl rfl rfl (hT _ w3) (hT _ w314) hC_become ⟨Nat.le_of_ble_eq_true rfl, Nat.le_of_ble_eq_true rfl⟩, (hT _ w315), (hT _ w316)⟩ (RW.preV (ci := 1) (q0 := 0) hZ hS (hy_free (cx := [(ad (10 + i), .inr (1, [.ref (ad (20 + i)), .ref (ad (30 + i)), .int ec, .int ok]))]) hD hS hA [0] rfl) (hP.sub (ws' := [(ad (10 + i), .inr (1, [.ref (ad (20 + i)), .ref (ad (30 + i)), .int ec, .int ok]))]) [0] rfl) hK (hD.sub (ws' := [(ad (10 + i), .inr (1, [.ref (ad (20 + i)), .ref (ad (30 + i)), .int ec, .int ok]))]) [0] (by decide) rfl) rfl rfl) rfl rfl hl.1 rfl (lv_room (Nat.le_of_ble_eq_true rfl)) dT_clear_36 ⟨Nat.le_of_ble_eq_true rfl, Nat.le_of_ble_eq_true rfl⟩) (fun ru2 u9 H locs hpu2 hP hD hS => ?_)
    have hpu2 : ru2 = ok := hpu2
    have hP : va_P D vwCl ([(ad (10 + i), .inr (1, [.ref (ad (20 + i)), .ref (ad (30 + i)), .int 0, .int (0 : Int32)]))] ++ pg cds ad (upo g2 [10 + i])) _ := hP
    have hD : va_D A ([(ad (10 + i), .inr (1, [.ref (ad (20 + i)), .ref (ad (30 + i)), .int 0, .int (0 : Int32)]))] ++ pg cds ad (upo g2 [10 + i])) := hD
    have hN9 := (show NDc [10 + i] from (nd_c na_0 nd_0))
    have hP := gb_P (w9 := [(10 + i, .inr (1, [.ref (ad (20 + i)), .ref (ad (30 + i)), .int 0, .int (0 : Int32)]))]) (X := []) (g := g2) hcd hN9 (show QB [(10 + i, .inr (1, [.ref (ad (20 + i)), .ref (ad (30 + i)), .int 0, .int (0 : Int32)]))] from (qb_c (by omega) qb_0)) (hP.part (cx := [(ad (10 + i), .inr (1, [.ref (ad (20 + i)), .ref (ad (30 + i)), .int 0, .int (0 : Int32)]))]) [0] rfl)
    have hD := gb_D (w9 := [(10 + i, .inr (1, [.ref (ad (20 + i)), .ref (ad (30 + i)), .int 0, .int (0 : Int32)]))]) (X := []) (g := g2) hcd hN9 (show QB [(10 + i, .inr (1, [.ref (ad (20 + i)), .ref (ad (30 + i)), .int 0, .int (0 : Int32)]))] from (qb_c (by omega) qb_0)) (hD.part (cx := [(ad (10 + i), .inr (1, [.ref (ad (20 + i)), .ref (ad (30 + i)), .int 0, .int (0 : Int32)]))]) [0] (by decide) rfl)
    obtain ⟨g3, hg3⟩ : ∃ q9, q9 = ups g2 [(10 + i, .inr (1, [.ref (ad (20 + i)), .ref (ad (30 + i)), .int 0, .int (0 : Int32)]))] := ⟨_, rfl⟩
    rw [← hg3] at hP hD
    have hP : va_P D vwCl ([] ++ pg cds ad g3) _ := hP
    have hD : va_D A ([] ++ pg cds ad g3) := hD
    have fg3 : ∀ z8, z8 ≠ 10 + i → g3 z8 = g2 z8 := fun z8 z1 => by rw [hg3]; exact ups_k (kp_n z1 kp_0)
    have g3_0 : g3 (10 + i) = some (.inr (1, [.ref (ad (20 + i)), .ref (ad (30 + i)), .int 0, .int (0 : Int32)])) := by rw [hg3]; exact ups_1
    refine lv_pop hx hb dT_clear_39 rfl ?_
    refine lv_aload hx hb dT_clear_40 (lv_at hl 0 rfl) ?_
    refine va_get (D := D) (ci := 1) (v := .ref (ad (20 + i))) (C := R_C) (T := T_C) (N := 4) hx hb hT in_C hown hK (pg_1 (x := 10 + i) hcd hP (by omega) g3_0) 0 rfl rfl 0 (by decide) (hT _ w51) (fun _ h9 => h9) rfl dT_clear_42 ?_
    refine lv_bipush (v := 48) hx hb dT_clear_45 (by decide) ?_
    refine lv_ldc (v := (-2147483648)) hx hb hown (hT _ w318) dT_clear_47 ?_
    have hB9 : QI g3 [(20 + i, .inl (cT 0, 49, .inl fv))] := (qi_c (by omega) ((fg3 _ (by omega)).trans hc2) qi_0)
    have hN9 := (show NDc [20 + i] from (nd_c na_0 nd_0))
    have hP := bo_P (wc := [(20 + i, .inl (cT 0, 49, .inl fv))]) (X := []) hcd hN9 hB9 hP
    have hD := bo_D (wc := [(20 + i, .inl (cT 0, 49, .inl fv))]) (X := []) hcd hN9 hB9 hD
    have hP : va_P D vwCl ([(ad (20 + i), .inl (cT 0, 49, .inl fv))] ++ pg cds ad (upo g3 [20 + i])) _ := hP
    have hD : va_D A ([(ad (20 + i), .inl (cT 0, 49, .inl fv))] ++ pg cds ad (upo g3 [20 + i])) := hD
    refine lq_iast (j := 48) hx hb hK hP hD hS 0 0 rfl rfl (by decide) (by decide) (by decide) dT_clear_49 (fun H locs hP hD hS => ?_)
    have hP : va_P D vwCl ([(ad (20 + i), .inl (cT 0, 49, .inl (upd fv 48 (-2147483648))))] ++ pg cds ad (upo g3 [20 + i])) _ := hP
    have hD : va_D A ([(ad (20 + i), .inl (cT 0, 49, .inl (upd fv 48 (-2147483648))))] ++ pg cds ad (upo g3 [20 + i])) := hD
    have hN9 := (show NDc [20 + i] from (nd_c na_0 nd_0))
    have hP := gb_P (w9 := [(20 + i, .inl (cT 0, 49, .inl (upd fv 48 (-2147483648))))]) (X := []) (g := g3) hcd hN9 (show QB [(20 + i, .inl (cT 0, 49, .inl (upd fv 48 (-2147483648))))] from (qb_c (by omega) qb_0)) (hP.part (cx := [(ad (20 + i), .inl (cT 0, 49, .inl (upd fv 48 (-2147483648))))]) [0] rfl)
    have hD := gb_D (w9 := [(20 + i, .inl (cT 0, 49, .inl (upd fv 48 (-2147483648))))]) (X := []) (g := g3) hcd hN9 (show QB [(20 + i, .inl (cT 0, 49, .inl (upd fv 48 (-2147483648))))] from (qb_c (by omega) qb_0)) (hD.part (cx := [(ad (20 + i), .inl (cT 0, 49, .inl (upd fv 48 (-2147483648))))]) [0] (by decide) rfl)
    obtain ⟨g4, hg4⟩ : ∃ q9, q9 = ups g3 [(20 + i, .inl (cT 0, 49, .inl (upd fv 48 (-2147483648))))] := ⟨_, rfl⟩
    rw [← hg4] at hP hD
    have hP : va_P D vwCl ([] ++ pg cds ad g4) _ := hP
    have hD : va_D A ([] ++ pg cds ad g4) := hD
    have fg4 : ∀ z8, z8 ≠ 20 + i → g4 z8 = g3 z8 := fun z8 z1 => by rw [hg4]; exact ups_k (kp_n z1 kp_0)
    have g4_0 : g4 (20 + i) = some (.inl (cT 0, 49, .inl (upd fv 48 (-2147483648)))) := by rw [hg4]; exact ups_1
    refine lv_iinc (k := 5) (v := nI (i + 1)) hx hb dT_clear_50 hl rfl (nI_1 i) (by decide) rfl (fun ls hl => ?_)
    have hl : lv_has ls 6 [(4, .int (nI (i + 1))), (5, .ref (ad (10 + i))), (0, .ref (ad 1)), (1, .int k), (2, .ref (ad 2)), (3, .int 6)] := hl
    refine lv_goto (tgt := 21) hx hb dT_clear_53 rfl ?_
    exact ih21 (i + 1, g4) (show (i + 1) ≤ 6 ∧ (∀ z8, (z8 < 10 ∨ 26 ≤ z8) → g4 z8 = g1 z8) ∧ (∀ j, j < 6 → ∃ (fv fe : Nat → Int32) (ec ok : Int32), COLe cT ad g4 j ec ok fv fe ∧ (ok = 0 ∨ ok = 1) ∧ (j < (i + 1) → ec = 0 ∧ ok = 0 ∧ fv 48 = (-2147483648))) from ⟨by omega, fun z8 n1 => (fg4 z8 (by omega)).trans ((fg3 z8 (by omega)).trans (iF z8 n1)), fun j hj => (by by_cases q9 : j = i; (subst q9; exact ⟨_, fe, 0, 0, ⟨(fg4 _ (by omega)).trans g3_0, g4_0, (fg4 _ (by omega)).trans ((fg3 _ (by omega)).trans hc3)⟩, Or.inl rfl, fun _ => ⟨rfl, rfl, pk_us⟩⟩); (obtain ⟨fv9, fe9, ec9, ok9, e1, e2, e5⟩ := iC j hj; exact ⟨fv9, fe9, ec9, ok9, e1.cg ((fg4 _ (by omega)).trans (fg3 _ (by omega))) ((fg4 _ (by omega)).trans (fg3 _ (by omega))) ((fg4 _ (by omega)).trans (fg3 _ (by omega))), e2, fun q => e5 (by omega)⟩))⟩) (show 6 - (i + 1) < 6 - i from (by omega)) ls H locs (lv_sub hl [2, 3, 4, 5, 0] rfl) hP hD hS
set_option maxHeartbeats 4000000 in
set_option maxRecDepth 100000 in
theorem k_startOver (l : Launch) (D : va_G) (cT : Nat → ClassId) (cds : List Nat) (ad : Nat → Nat) (gg : Nat → Option va_E) (tc : Int32) (wd9 : Int32) (rw9 : Int32) (pd : Int32) (pl9 : Int32) (pw : Int32) (pu : Int32) (pq9 : Int32) (psb : Int64) (pcb : Int32) (L0 : Nat) (fo : Nat → Int32) (k : Int32) (hcd : CD cds) (hob : gg 0 = some (eOB ad tc)) (htb : gg 1 = some (eTB ad wd9 rw9)) (hCa : CAp cT ad gg) (hCc : ∀ j, j < 6 → ∃ (fv fe : Nat → Int32) (ec ok : Int32), COLe cT ad gg j ec ok fv fe ∧ (ok = 0 ∨ ok = 1)) (hpl : gg 4 = some (ePL pd pl9 pw pu pq9 psb pcb)) (hOut : gg 41 = some (.inr (8, [.ref (ad 42), .int (nI L0), .ref (ad 43), .ref (ad 46)])) ∧ True) (sz : Nat) : Met l yR_startOver WR_startOver ({ frames := 2, cells := 0, slots := 0, locals := 47 } : Room) (RW D vwCl [.ref (ad 0), .int k] ([] ++ pg cds ad gg) (TY cT) sz) (va_Qv (fun u9 : (Nat → Option va_E) => (∀ z8, z8 ≠ 0 → z8 ≠ 1 → z8 ≠ 4 → z8 ≠ 41 → (z8 < 10 ∨ 26 ≤ z8) → u9 z8 = gg z8) ∧ u9 0 = some (eOB ad (nI 0)) ∧ u9 1 = some (eTB ad k (nI 0)) ∧ u9 4 = some (ePL 2 1 0 1 2 (-1) (-1)) ∧ (∀ j8, j8 < 6 → ∃ fv fe : Nat → Int32, COLe cT ad u9 j8 0 0 fv fe ∧ (∀ r8, r8 < 0 → fv r8 = 0) ∧ fv 48 = (-2147483648) ∧ ∀ q8, q8 < 0 → fe q8 = 0) ∧ u9 41 = some (.inr (8, [.ref (ad 42), .int (nI 0), .ref (ad 43), .ref (ad 46)]))) (BW D vwCl (va_A ([] ++ pg cds ad gg) sz) (fun u9 : (Nat → Option va_E) => ([] ++ pg cds ad u9))) (va_A ([] ++ pg cds ad gg) sz)) 0 0 (va_A ([] ++ pg cds ad gg) sz) := by
  refine Met.ofW (cc := cR_startOver) (maxL := 2) (ret := none) (by decide) rfl ?_
  intro p e s m args below meth c s₁ B hml hv
  obtain ⟨rfl, hsz, hZ, hP, hK, hD0⟩ := hv
  have hx := B.exec
  have hb := B.bytes
  have hr := B.returns
  have hts := atoms_spec (ws := WR_startOver) B.pre
  have hT : ∀ w ∈ TB, w.before _ s = true := fun w h => hts w (List.mem_cons_of_mem _ h)
  have hown : s.vm.findClass R_R = some m.cls := findClass_of_methodNamed B.named
  have hlocks := B.notSynchronized
  subst hsz
  have hD := hD0.self (sz := s.heap.size)
  generalize hAe : va_A ([] ++ pg cds ad gg) s.heap.size = A at hD hZ ⊢
  have hA : ∀ q : Nat, s.heap.size ≤ q → A q := fun q h => by rw [← hAe]; exact Or.inr h
  have hS : va_S A s.heap s.heap [] := va_S.rf
  have hl := lv_entry ([.ref (ad 0), .int k]) (n := 2) (Nat.le_of_ble_eq_true rfl)
  rw [lg_entry_eq]
  generalize (lg_sl ([.ref (ad 0), .int k]) ++ List.replicate (2 - (lg_sl ([.ref (ad 0), .int k])).length) Slot.unset).toArray = ls at hl ⊢
  have hl : lv_has ls 2 [(0, .ref (ad 0)), (1, .int k)] := hl
  refine lv_aload_n hx hb dR_startOver_0 rfl (lv_at hl 0 rfl) ?_
  refine va_get (D := D) (ci := 0) (v := .ref (ad 1)) (C := R_R) (T := T_R) (N := 13) hx hb hT in_R hown hK (pg_1 (x := 0) hcd hP (by decide) hob) 0 rfl rfl 0 (by decide) (hT _ w324) (fun _ h9 => h9) rfl dR_startOver_1 ?_
  refine lv_iload_n hx hb dR_startOver_4 rfl (lv_at hl 1 rfl) ?_
  refine hy_vP (X := []) (pl := pg cds ad gg) (cx := []) (wr := []) hP hD hS hA [] [] rfl rfl (by decide) (by decide) (va_runV (As := [.int k]) (rest := []) ⟨hx, hb, hml, hown, hT⟩ (k_tclear l D cT cds ad gg wd9 rw9 k hcd htb hCa hCc _) ⟨callB_of 1 hT (tb_gd w313) rfl rfl rfl (hT _ w2) (hT _ w310) hT_clear ⟨Nat.le_of_ble_eq_true rfl, Nat.le_of_ble_eq_true rfl⟩, (hT _ w311), (hT _ w312)⟩ (RW.preW (ci := 2) (q0 := 0) hZ hS (va_freeP (cx := []) hD hS hA [] rfl) (hP.part (cx := []) [] rfl) hK (hD.part (cx := []) [] (by decide) rfl) (pg_1 (x := 1) hcd hP (by decide) htb) rfl rfl) rfl rfl hl.1 rfl (lv_room (Nat.le_of_ble_eq_true rfl)) dR_startOver_5 ⟨Nat.le_of_ble_eq_true rfl, Nat.le_of_ble_eq_true rfl⟩) (fun u9 H locs hpu1 hP hD hS => ?_)
  obtain ⟨gg7u1, rfl⟩ : ∃ q9, q9 = u9 := ⟨_, rfl⟩
  have hpu1 : (∀ z8, z8 ≠ 1 → (z8 < 10 ∨ 26 ≤ z8) → gg7u1 z8 = gg z8) ∧ gg7u1 1 = some (eTB ad k (nI 0)) ∧ ∀ j8, j8 < 6 → ∃ fv fe : Nat → Int32, COLe cT ad gg7u1 j8 0 0 fv fe ∧ (∀ r8, r8 < 0 → fv r8 = 0) ∧ fv 48 = (-2147483648) ∧ ∀ q8, q8 < 0 → fe q8 = 0 := hpu1
  have hP : va_P D vwCl ([] ++ pg cds ad gg7u1) _ := hP
  have hD : va_D A ([] ++ pg cds ad gg7u1) := hD
  obtain ⟨jF, jT, jC⟩ := hpu1
  obtain ⟨o1, o2⟩ := hOut
  refine lv_aload_n hx hb dR_startOver_8 rfl (lv_at hl 0 rfl) ?_
  refine va_get (D := D) (ci := 0) (v := .ref (ad 4)) (C := R_R) (T := T_R) (N := 13) hx hb hT in_R hown hK (pg_1 (x := 0) hcd hP (by decide) ((jF 0 (by omega) (by omega)).trans hob)) 0 rfl rfl 1 (by decide) (hT _ w325) (fun _ h9 => h9) rfl dR_startOver_9 ?_
  have hB9 : QI gg7u1 [(4, .inr (3, [.int pd, .int pl9, .int pw, .int pu, .int pq9, .long psb, .int pcb]))] := (qi_c (by decide) ((jF 4 (by omega) (by omega)).trans hpl) qi_0)
  have hN9 := (show NDc [4] from (nd_c na_0 nd_0))
  have hP := bo_P (wc := [(4, .inr (3, [.int pd, .int pl9, .int pw, .int pu, .int pq9, .long psb, .int pcb]))]) (X := []) hcd hN9 hB9 hP
  have hD := bo_D (wc := [(4, .inr (3, [.int pd, .int pl9, .int pw, .int pu, .int pq9, .long psb, .int pcb]))]) (X := []) hcd hN9 hB9 hD
  have hP : va_P D vwCl ([(ad 4, .inr (3, [.int pd, .int pl9, .int pw, .int pu, .int pq9, .long psb, .int pcb]))] ++ pg cds ad (upo gg7u1 [4])) _ := hP
  have hD : va_D A ([(ad 4, .inr (3, [.int pd, .int pl9, .int pw, .int pu, .int pq9, .long psb, .int pcb]))] ++ pg cds ad (upo gg7u1 [4])) := hD
  refine hy_vQ (X := [(ad 4, .inr (3, [.int pd, .int pl9, .int pw, .int pu, .int pq9, .long psb, .int pcb]))]) (pl := pg cds ad (upo gg7u1 [4])) (cx := [(ad 4, .inr (3, [.int pd, .int pl9, .int pw, .int pu, .int pq9, .long psb, .int pcb]))]) (wr := []) hP hD hS hA [0] [] rfl rfl (by decide) (by decide) (va_runV (As := []) (rest := []) ⟨hx, hb, hml, hown, hT⟩ (k_planClear l D cT (ad 4) pd pl9 pw pu pq9 psb pcb _) ⟨callB_of 0 hT (tb_gd w322) rfl rfl rfl (hT _ w4) (hT _ w319) hP_clear ⟨Nat.le_of_ble_eq_true rfl, Nat.le_of_ble_eq_true rfl⟩, (hT _ w320), (hT _ w321)⟩ (RW.preV (ci := 3) (q0 := 0) hZ hS (hy_free (cx := [(ad 4, .inr (3, [.int pd, .int pl9, .int pw, .int pu, .int pq9, .long psb, .int pcb]))]) hD hS hA [0] rfl) (hP.sub (ws' := [(ad 4, .inr (3, [.int pd, .int pl9, .int pw, .int pu, .int pq9, .long psb, .int pcb]))]) [0] rfl) hK (hD.sub (ws' := [(ad 4, .inr (3, [.int pd, .int pl9, .int pw, .int pu, .int pq9, .long psb, .int pcb]))]) [0] (by decide) rfl) rfl rfl) rfl rfl hl.1 rfl (lv_room (Nat.le_of_ble_eq_true rfl)) dR_startOver_12 ⟨Nat.le_of_ble_eq_true rfl, Nat.le_of_ble_eq_true rfl⟩) (fun u9 H locs hpu2 hP hD hS => ?_)
  have hpu2 : True := hpu2
  have hP : va_P D vwCl ([(ad 4, .inr (3, [.int 2, .int 1, .int 0, .int 1, .int 2, .long (-1), .int (-1)]))] ++ pg cds ad (upo gg7u1 [4])) _ := hP
  have hD : va_D A ([(ad 4, .inr (3, [.int 2, .int 1, .int 0, .int 1, .int 2, .long (-1), .int (-1)]))] ++ pg cds ad (upo gg7u1 [4])) := hD
  have hN9 := (show NDc [4] from (nd_c na_0 nd_0))
  have hP := gb_P (w9 := [(4, .inr (3, [.int 2, .int 1, .int 0, .int 1, .int 2, .long (-1), .int (-1)]))]) (X := []) (g := gg7u1) hcd hN9 (show QB [(4, .inr (3, [.int 2, .int 1, .int 0, .int 1, .int 2, .long (-1), .int (-1)]))] from (qb_c (by decide) qb_0)) (hP.part (cx := [(ad 4, .inr (3, [.int 2, .int 1, .int 0, .int 1, .int 2, .long (-1), .int (-1)]))]) [0] rfl)
  have hD := gb_D (w9 := [(4, .inr (3, [.int 2, .int 1, .int 0, .int 1, .int 2, .long (-1), .int (-1)]))]) (X := []) (g := gg7u1) hcd hN9 (show QB [(4, .inr (3, [.int 2, .int 1, .int 0, .int 1, .int 2, .long (-1), .int (-1)]))] from (qb_c (by decide) qb_0)) (hD.part (cx := [(ad 4, .inr (3, [.int 2, .int 1, .int 0, .int 1, .int 2, .long (-1), .int (-1)]))]) [0] (by decide) rfl)
  obtain ⟨g2, hg2⟩ : ∃ q9, q9 = ups gg7u1 [(4, .inr (3, [.int 2, .int 1, .int 0, .int 1, .int 2, .long (-1), .int (-1)]))] := ⟨_, rfl⟩
  rw [← hg2] at hP hD
  have hP : va_P D vwCl ([] ++ pg cds ad g2) _ := hP
  have hD : va_D A ([] ++ pg cds ad g2) := hD
  have fg2 : ∀ z8, z8 ≠ 4 → g2 z8 = gg7u1 z8 := fun z8 z1 => by rw [hg2]; exact ups_k (kp_n z1 kp_0)
  have g2_0 : g2 4 = some (.inr (3, [.int 2, .int 1, .int 0, .int 1, .int 2, .long (-1), .int (-1)])) := by rw [hg2]; exact ups_1
  refine lv_aload_n hx hb dR_startOver_15 rfl (lv_at hl 0 rfl) ?_
  refine lv_iconst (v := 0) hx hb dR_startOver_16 (by decide) ?_
  have hB9 : QI g2 [(0, .inr (0, [.ref (ad 1), .ref (ad 4), .ref (ad 5), .ref (ad 6), .ref (ad 9), .int tc, .ref (ad 41), .ref (ad 48), .ref (ad 50), .ref (ad 52), .ref (ad 54), .ref (ad 56), .ref (ad 58)]))] := (qi_c (by decide) ((fg2 _ (by decide)).trans ((jF 0 (by omega) (by omega)).trans hob)) qi_0)
  have hN9 := (show NDc [0] from (nd_c na_0 nd_0))
  have hP := bo_P (wc := [(0, .inr (0, [.ref (ad 1), .ref (ad 4), .ref (ad 5), .ref (ad 6), .ref (ad 9), .int tc, .ref (ad 41), .ref (ad 48), .ref (ad 50), .ref (ad 52), .ref (ad 54), .ref (ad 56), .ref (ad 58)]))]) (X := []) hcd hN9 hB9 hP
  have hD := bo_D (wc := [(0, .inr (0, [.ref (ad 1), .ref (ad 4), .ref (ad 5), .ref (ad 6), .ref (ad 9), .int tc, .ref (ad 41), .ref (ad 48), .ref (ad 50), .ref (ad 52), .ref (ad 54), .ref (ad 56), .ref (ad 58)]))]) (X := []) hcd hN9 hB9 hD
  have hP : va_P D vwCl ([(ad 0, .inr (0, [.ref (ad 1), .ref (ad 4), .ref (ad 5), .ref (ad 6), .ref (ad 9), .int tc, .ref (ad 41), .ref (ad 48), .ref (ad 50), .ref (ad 52), .ref (ad 54), .ref (ad 56), .ref (ad 58)]))] ++ pg cds ad (upo g2 [0])) _ := hP
  have hD : va_D A ([(ad 0, .inr (0, [.ref (ad 1), .ref (ad 4), .ref (ad 5), .ref (ad 6), .ref (ad 9), .int tc, .ref (ad 41), .ref (ad 48), .ref (ad 50), .ref (ad 52), .ref (ad 54), .ref (ad 56), .ref (ad 58)]))] ++ pg cds ad (upo g2 [0])) := hD
  refine va_put (D := D) (ci := 0) (v := .int 0) (ty := .int) (C := R_R) (T := T_R) (N := 13) hx hb hT in_R ty_R ty_R_ok m_R hown hK hP hD hS 0 rfl rfl 5 (by decide) (hT _ w329) (fun _ h9 => h9) rfl (by decide +kernel) rfl rfl (Nat.le_of_ble_eq_true rfl) dR_startOver_17 (fun H locs hP hD hS => ?_)
  have hP : va_P D vwCl ([(ad 0, .inr (0, [.ref (ad 1), .ref (ad 4), .ref (ad 5), .ref (ad 6), .ref (ad 9), .int 0, .ref (ad 41), .ref (ad 48), .ref (ad 50), .ref (ad 52), .ref (ad 54), .ref (ad 56), .ref (ad 58)]))] ++ pg cds ad (upo g2 [0])) _ := hP
  have hD : va_D A ([(ad 0, .inr (0, [.ref (ad 1), .ref (ad 4), .ref (ad 5), .ref (ad 6), .ref (ad 9), .int 0, .ref (ad 41), .ref (ad 48), .ref (ad 50), .ref (ad 52), .ref (ad 54), .ref (ad 56), .ref (ad 58)]))] ++ pg cds ad (upo g2 [0])) := hD
  have hN9 := (show NDc [0] from (nd_c na_0 nd_0))
  have hP := gb_P (w9 := [(0, .inr (0, [.ref (ad 1), .ref (ad 4), .ref (ad 5), .ref (ad 6), .ref (ad 9), .int 0, .ref (ad 41), .ref (ad 48), .ref (ad 50), .ref (ad 52), .ref (ad 54), .ref (ad 56), .ref (ad 58)]))]) (X := []) (g := g2) hcd hN9 (show QB [(0, .inr (0, [.ref (ad 1), .ref (ad 4), .ref (ad 5), .ref (ad 6), .ref (ad 9), .int 0, .ref (ad 41), .ref (ad 48), .ref (ad 50), .ref (ad 52), .ref (ad 54), .ref (ad 56), .ref (ad 58)]))] from (qb_c (by decide) qb_0)) (hP.part (cx := [(ad 0, .inr (0, [.ref (ad 1), .ref (ad 4), .ref (ad 5), .ref (ad 6), .ref (ad 9), .int 0, .ref (ad 41), .ref (ad 48), .ref (ad 50), .ref (ad 52), .ref (ad 54), .ref (ad 56), .ref (ad 58)]))]) [0] rfl)
  have hD := gb_D (w9 := [(0, .inr (0, [.ref (ad 1), .ref (ad 4), .ref (ad 5), .ref (ad 6), .ref (ad 9), .int 0, .ref (ad 41), .ref (ad 48), .ref (ad 50), .ref (ad 52), .ref (ad 54), .ref (ad 56), .ref (ad 58)]))]) (X := []) (g := g2) hcd hN9 (show QB [(0, .inr (0, [.ref (ad 1), .ref (ad 4), .ref (ad 5), .ref (ad 6), .ref (ad 9), .int 0, .ref (ad 41), .ref (ad 48), .ref (ad 50), .ref (ad 52), .ref (ad 54), .ref (ad 56), .ref (ad 58)]))] from (qb_c (by decide) qb_0)) (hD.part (cx := [(ad 0, .inr (0, [.ref (ad 1), .ref (ad 4), .ref (ad 5), .ref (ad 6), .ref (ad 9), .int 0, .ref (ad 41), .ref (ad 48), .ref (ad 50), .ref (ad 52), .ref (ad 54), .ref (ad 56), .ref (ad 58)]))]) [0] (by decide) rfl)
  obtain ⟨g3, hg3⟩ : ∃ q9, q9 = ups g2 [(0, .inr (0, [.ref (ad 1), .ref (ad 4), .ref (ad 5), .ref (ad 6), .ref (ad 9), .int 0, .ref (ad 41), .ref (ad 48), .ref (ad 50), .ref (ad 52), .ref (ad 54), .ref (ad 56), .ref (ad 58)]))] := ⟨_, rfl⟩
  rw [← hg3] at hP hD
  have hP : va_P D vwCl ([] ++ pg cds ad g3) _ := hP
  have hD : va_D A ([] ++ pg cds ad g3) := hD
  have fg3 : ∀ z8, z8 ≠ 0 → g3 z8 = g2 z8 := fun z8 z1 => by rw [hg3]; exact ups_k (kp_n z1 kp_0)
  have g3_0 : g3 0 = some (.inr (0, [.ref (ad 1), .ref (ad 4), .ref (ad 5), .ref (ad 6), .ref (ad 9), .int 0, .ref (ad 41), .ref (ad 48), .ref (ad 50), .ref (ad 52), .ref (ad 54), .ref (ad 56), .ref (ad 58)])) := by rw [hg3]; exact ups_1
  refine lv_aload_n hx hb dR_startOver_20 rfl (lv_at hl 0 rfl) ?_
  refine va_get (D := D) (ci := 0) (v := .ref (ad 41)) (C := R_R) (T := T_R) (N := 13) hx hb hT in_R hown hK (pg_1 (x := 0) hcd hP (by decide) g3_0) 0 rfl rfl 6 (by decide) (hT _ w330) (fun _ h9 => h9) rfl dR_startOver_21 ?_
  refine lv_iconst (v := 0) hx hb dR_startOver_24 (by decide) ?_
  have hB9 : QI g3 [(41, .inr (8, [.ref (ad 42), .int (nI L0), .ref (ad 43), .ref (ad 46)]))] := (qi_c (by decide) ((fg3 _ (by decide)).trans ((fg2 _ (by decide)).trans ((jF 41 (by omega) (by omega)).trans o1))) qi_0)
  have hN9 := (show NDc [41] from (nd_c na_0 nd_0))
  have hP := bo_P (wc := [(41, .inr (8, [.ref (ad 42), .int (nI L0), .ref (ad 43), .ref (ad 46)]))]) (X := []) hcd hN9 hB9 hP
  have hD := bo_D (wc := [(41, .inr (8, [.ref (ad 42), .int (nI L0), .ref (ad 43), .ref (ad 46)]))]) (X := []) hcd hN9 hB9 hD
  have hP : va_P D vwCl ([(ad 41, .inr (8, [.ref (ad 42), .int (nI L0), .ref (ad 43), .ref (ad 46)]))] ++ pg cds ad (upo g3 [41])) _ := hP
  have hD : va_D A ([(ad 41, .inr (8, [.ref (ad 42), .int (nI L0), .ref (ad 43), .ref (ad 46)]))] ++ pg cds ad (upo g3 [41])) := hD
  refine va_put (D := D) (ci := 8) (v := .int 0) (ty := .int) (C := R_O) (T := T_O) (N := 4) hx hb hT in_O ty_O ty_O_ok m_O hown hK hP hD hS 0 rfl rfl 1 (by decide) (hT _ w291) (fun _ h9 => h9) rfl (by decide +kernel) rfl rfl (Nat.le_of_ble_eq_true rfl) dR_startOver_25 (fun H locs hP hD hS => ?_)
  have hP : va_P D vwCl ([(ad 41, .inr (8, [.ref (ad 42), .int 0, .ref (ad 43), .ref (ad 46)]))] ++ pg cds ad (upo g3 [41])) _ := hP
  have hD : va_D A ([(ad 41, .inr (8, [.ref (ad 42), .int 0, .ref (ad 43), .ref (ad 46)]))] ++ pg cds ad (upo g3 [41])) := hD
  have hN9 := (show NDc [41] from (nd_c na_0 nd_0))
  have hP := gb_P (w9 := [(41, .inr (8, [.ref (ad 42), .int 0, .ref (ad 43), .ref (ad 46)]))]) (X := []) (g := g3) hcd hN9 (show QB [(41, .inr (8, [.ref (ad 42), .int 0, .ref (ad 43), .ref (ad 46)]))] from (qb_c (by decide) qb_0)) (hP.part (cx := [(ad 41, .inr (8, [.ref (ad 42), .int 0, .ref (ad 43), .ref (ad 46)]))]) [0] rfl)
  have hD := gb_D (w9 := [(41, .inr (8, [.ref (ad 42), .int 0, .ref (ad 43), .ref (ad 46)]))]) (X := []) (g := g3) hcd hN9 (show QB [(41, .inr (8, [.ref (ad 42), .int 0, .ref (ad 43), .ref (ad 46)]))] from (qb_c (by decide) qb_0)) (hD.part (cx := [(ad 41, .inr (8, [.ref (ad 42), .int 0, .ref (ad 43), .ref (ad 46)]))]) [0] (by decide) rfl)
  obtain ⟨g4, hg4⟩ : ∃ q9, q9 = ups g3 [(41, .inr (8, [.ref (ad 42), .int 0, .ref (ad 43), .ref (ad 46)]))] := ⟨_, rfl⟩
  rw [← hg4] at hP hD
  have hP : va_P D vwCl ([] ++ pg cds ad g4) _ := hP
  have hD : va_D A ([] ++ pg cds ad g4) := hD
  have fg4 : ∀ z8, z8 ≠ 41 → g4 z8 = g3 z8 := fun z8 z1 => by rw [hg4]; exact ups_k (kp_n z1 kp_0)
  have g4_0 : g4 41 = some (.inr (8, [.ref (ad 42), .int 0, .ref (ad 43), .ref (ad 46)])) := by rw [hg4]; exact ups_1
  have hP9 : va_P D vwCl ([] ++ pg cds ad g4) _ := hP.part (cx := []) [] rfl
  have hD9 : va_D A ([] ++ pg cds ad g4) := hD.part (cx := []) [] (by decide) rfl
  refine W.widen (k := 0) (n := 0) (Nat.le_of_ble_eq_true rfl) (Nat.le_of_ble_eq_true rfl) ?_
  exact W.vret hx hb hr (fun t9 ht9 hW9 => ⟨⟨g4, rfl, (show (∀ z8, z8 ≠ 0 → z8 ≠ 1 → z8 ≠ 4 → z8 ≠ 41 → (z8 < 10 ∨ 26 ≤ z8) → g4 z8 = gg z8) ∧ g4 0 = some (eOB ad (nI 0)) ∧ g4 1 = some (eTB ad k (nI 0)) ∧ g4 4 = some (ePL 2 1 0 1 2 (-1) (-1)) ∧ (∀ j8, j8 < 6 → ∃ fv fe : Nat → Int32, COLe cT ad g4 j8 0 0 fv fe ∧ (∀ r8, r8 < 0 → fv r8 = 0) ∧ fv 48 = (-2147483648) ∧ ∀ q8, q8 < 0 → fe q8 = 0) ∧ g4 41 = some (.inr (8, [.ref (ad 42), .int (nI 0), .ref (ad 43), .ref (ad 46)])) from ⟨fun z8 n1 n2 n3 n4 n5 => ((fg4 z8 (by omega)).trans ((fg3 z8 (by omega)).trans (fg2 z8 (by omega)))).trans (jF z8 n2 n5), (fg4 _ (by decide)).trans g3_0, ((fg4 _ (by omega)).trans ((fg3 _ (by omega)).trans (fg2 _ (by omega)))).trans jT, (fg4 _ (by decide)).trans ((fg3 _ (by decide)).trans g2_0), fun j hj => (by obtain ⟨fv9, fe9, e1, e2⟩ := jC j hj; exact ⟨fv9, fe9, e1.cg ((fg4 _ (by omega)).trans ((fg3 _ (by omega)).trans (fg2 _ (by omega)))) ((fg4 _ (by omega)).trans ((fg3 _ (by omega)).trans (fg2 _ (by omega)))) ((fg4 _ (by omega)).trans ((fg3 _ (by omega)).trans (fg2 _ (by omega)))), e2⟩), g4_0⟩), by rw [ht9]; exact hP9, hD9⟩, hS.F ht9⟩) hS.2.2 dR_startOver_28
set_option maxHeartbeats 4000000 in
set_option maxRecDepth 100000 in
theorem k_begin (l : Launch) (D : va_G) (cT : Nat → ClassId) (cds : List Nat) (ad : Nat → Nat) (gg : Nat → Option va_E) (tc : Int32) (wd9 : Int32) (rw9 : Int32) (pd : Int32) (pl9 : Int32) (pw : Int32) (pu : Int32) (pq9 : Int32) (psb : Int64) (pcb : Int32) (L0 : Nat) (fo : Nat → Int32) (k : Int32) (hcd : CD cds) (hob : gg 0 = some (eOB ad tc)) (htb : gg 1 = some (eTB ad wd9 rw9)) (hCa : CAp cT ad gg) (hCc : ∀ j, j < 6 → ∃ (fv fe : Nat → Int32) (ec ok : Int32), COLe cT ad gg j ec ok fv fe ∧ (ok = 0 ∨ ok = 1)) (hpl : gg 4 = some (ePL pd pl9 pw pu pq9 psb pcb)) (hOut : gg 41 = some (.inr (8, [.ref (ad 42), .int (nI L0), .ref (ad 43), .ref (ad 46)])) ∧ True) (hk6 : 1 ≤ k ∧ k ≤ 6) (sz : Nat) : Met l yR_begin WR_begin ({ frames := 3, cells := 0, slots := 0, locals := 68 } : Room) (RW D vwCl [.ref (ad 0), .int k] ([] ++ pg cds ad gg) (TY cT) sz) (va_Qv (fun u9 : (Nat → Option va_E) => (∀ z8, z8 ≠ 0 → z8 ≠ 1 → z8 ≠ 4 → z8 ≠ 41 → (z8 < 10 ∨ 26 ≤ z8) → u9 z8 = gg z8) ∧ u9 0 = some (eOB ad (nI 0)) ∧ u9 1 = some (eTB ad k (nI 0)) ∧ u9 4 = some (ePL 2 1 0 1 2 (-1) (-1)) ∧ (∀ j8, j8 < 6 → ∃ fv fe : Nat → Int32, COLe cT ad u9 j8 0 0 fv fe ∧ (∀ r8, r8 < 0 → fv r8 = 0) ∧ fv 48 = (-2147483648) ∧ ∀ q8, q8 < 0 → fe q8 = 0) ∧ u9 41 = some (.inr (8, [.ref (ad 42), .int (nI 0), .ref (ad 43), .ref (ad 46)]))) (BW D vwCl (va_A ([] ++ pg cds ad gg) sz) (fun u9 : (Nat → Option va_E) => ([] ++ pg cds ad u9))) (va_A ([] ++ pg cds ad gg) sz)) 0 0 (va_A ([] ++ pg cds ad gg) sz) := by
  refine Met.ofW (cc := cR_begin) (maxL := 2) (ret := none) (by decide) rfl ?_
  intro p e s m args below meth c s₁ B hml hv
  obtain ⟨rfl, hsz, hZ, hP, hK, hD0⟩ := hv
  have hx := B.exec
  have hb := B.bytes
  have hr := B.returns
  have hts := atoms_spec (ws := WR_begin) B.pre
  have hT : ∀ w ∈ TB, w.before _ s = true := fun w h => hts w (List.mem_cons_of_mem _ h)
  have hown : s.vm.findClass R_R = some m.cls := findClass_of_methodNamed B.named
  have hlocks := B.notSynchronized
  subst hsz
  have hD := hD0.self (sz := s.heap.size)
  generalize hAe : va_A ([] ++ pg cds ad gg) s.heap.size = A at hD hZ ⊢
  have hA : ∀ q : Nat, s.heap.size ≤ q → A q := fun q h => by rw [← hAe]; exact Or.inr h
  have hS : va_S A s.heap s.heap [] := va_S.rf
  have hl := lv_entry ([.ref (ad 0), .int k]) (n := 2) (Nat.le_of_ble_eq_true rfl)
  rw [lg_entry_eq]
  generalize (lg_sl ([.ref (ad 0), .int k]) ++ List.replicate (2 - (lg_sl ([.ref (ad 0), .int k])).length) Slot.unset).toArray = ls at hl ⊢
  have hl : lv_has ls 2 [(0, .ref (ad 0)), (1, .int k)] := hl
  refine lv_iload_n hx hb dR_begin_0 rfl (lv_at hl 1 rfl) ?_
  refine lv_iconst (v := 1) hx hb dR_begin_1 (by decide) ?_
  refine lv_bipush (v := 6) hx hb dR_begin_2 (by decide) ?_
  refine ro_i (va_Run.run (va_runS (As := [.int k, .int 1, .int 6]) (rest := []) ⟨hx, hb, hml, hown, hT⟩ (k_isWithin l D cT k 1 6) ⟨callB_of 3 hT (tb_gd w499) rfl rfl rfl (hT _ w1) (hT _ w497) hR_isWithin ⟨Nat.le_of_ble_eq_true rfl, Nat.le_of_ble_eq_true rfl⟩, (hT _ w498)⟩ (RO.preS hZ hS ((show va_P D vwCl [] _ from fun _ _ h => nomatch h)) hK) rfl rfl hl.1 rfl (lv_room (Nat.le_of_ble_eq_true rfl)) dR_begin_4 ⟨Nat.le_of_ble_eq_true rfl, Nat.le_of_ble_eq_true rfl⟩)) ?_
  refine ro_v (va_Run.run (va_runS (As := [.int (bi (1 ≤ k ∧ k ≤ 6))]) (rest := []) ⟨hx, hb, hml, hown, hT⟩ (k_demand_ok l D cT (bi (1 ≤ k ∧ k ≤ 6)) (by rw [bi_t hk6]; decide)) ⟨callB_of 1 hT (tb_gd w510) rfl rfl rfl (hT _ w1) (hT _ w508) hR_demand ⟨Nat.le_of_ble_eq_true rfl, Nat.le_of_ble_eq_true rfl⟩, (hT _ w509)⟩ (RO.preS hZ hS ((show va_P D vwCl [] _ from fun _ _ h => nomatch h)) hK) rfl rfl hl.1 rfl (lv_room (Nat.le_of_ble_eq_true rfl)) dR_begin_7 ⟨Nat.le_of_ble_eq_true rfl, Nat.le_of_ble_eq_true rfl⟩)) ?_
  refine lv_aload_n hx hb dR_begin_10 rfl (lv_at hl 0 rfl) ?_
  refine lv_iload_n hx hb dR_begin_11 rfl (lv_at hl 1 rfl) ?_
  refine hy_vP (X := []) (pl := pg cds ad gg) (cx := []) (wr := []) hP hD hS hA [] [] rfl rfl (by decide) (by decide) (va_runV (As := [.int k]) (rest := []) ⟨hx, hb, hml, hown, hT⟩ (k_startOver l D cT cds ad gg tc wd9 rw9 pd pl9 pw pu pq9 psb pcb L0 fo k hcd hob htb hCa hCc hpl hOut _) ⟨callB_of 1 hT (tb_gd w309) rfl rfl rfl (hT _ w1) (hT _ w306) hR_startOver ⟨Nat.le_of_ble_eq_true rfl, Nat.le_of_ble_eq_true rfl⟩, (hT _ w308), (hT _ wp0)⟩ (RW.preW (ci := 0) (q0 := 0) hZ hS (va_freeP (cx := []) hD hS hA [] rfl) (hP.part (cx := []) [] rfl) hK (hD.part (cx := []) [] (by decide) rfl) (pg_1 (x := 0) hcd hP (by decide) hob) rfl rfl) rfl rfl hl.1 rfl (lv_room (Nat.le_of_ble_eq_true rfl)) dR_begin_12 ⟨Nat.le_of_ble_eq_true rfl, Nat.le_of_ble_eq_true rfl⟩) (fun u9 H locs hpu1 hP hD hS => ?_)
  obtain ⟨gg7u1, rfl⟩ : ∃ q9, q9 = u9 := ⟨_, rfl⟩
  have hpu1 : (∀ z8, z8 ≠ 0 → z8 ≠ 1 → z8 ≠ 4 → z8 ≠ 41 → (z8 < 10 ∨ 26 ≤ z8) → gg7u1 z8 = gg z8) ∧ gg7u1 0 = some (eOB ad (nI 0)) ∧ gg7u1 1 = some (eTB ad k (nI 0)) ∧ gg7u1 4 = some (ePL 2 1 0 1 2 (-1) (-1)) ∧ (∀ j8, j8 < 6 → ∃ fv fe : Nat → Int32, COLe cT ad gg7u1 j8 0 0 fv fe ∧ (∀ r8, r8 < 0 → fv r8 = 0) ∧ fv 48 = (-2147483648) ∧ ∀ q8, q8 < 0 → fe q8 = 0) ∧ gg7u1 41 = some (.inr (8, [.ref (ad 42), .int (nI 0), .ref (ad 43), .ref (ad 46)])) := hpu1
  have hP : va_P D vwCl ([] ++ pg cds ad gg7u1) _ := hP
  have hD : va_D A ([] ++ pg cds ad gg7u1) := hD
  have hP9 : va_P D vwCl ([] ++ pg cds ad gg7u1) _ := hP.part (cx := []) [] rfl
  have hD9 : va_D A ([] ++ pg cds ad gg7u1) := hD.part (cx := []) [] (by decide) rfl
  refine W.widen (k := 0) (n := 0) (Nat.le_of_ble_eq_true rfl) (Nat.le_of_ble_eq_true rfl) ?_
  exact W.vret hx hb hr (fun t9 ht9 hW9 => ⟨⟨gg7u1, rfl, (show (∀ z8, z8 ≠ 0 → z8 ≠ 1 → z8 ≠ 4 → z8 ≠ 41 → (z8 < 10 ∨ 26 ≤ z8) → gg7u1 z8 = gg z8) ∧ gg7u1 0 = some (eOB ad (nI 0)) ∧ gg7u1 1 = some (eTB ad k (nI 0)) ∧ gg7u1 4 = some (ePL 2 1 0 1 2 (-1) (-1)) ∧ (∀ j8, j8 < 6 → ∃ fv fe : Nat → Int32, COLe cT ad gg7u1 j8 0 0 fv fe ∧ (∀ r8, r8 < 0 → fv r8 = 0) ∧ fv 48 = (-2147483648) ∧ ∀ q8, q8 < 0 → fe q8 = 0) ∧ gg7u1 41 = some (.inr (8, [.ref (ad 42), .int (nI 0), .ref (ad 43), .ref (ad 46)])) from hpu1), by rw [ht9]; exact hP9, hD9⟩, hS.F ht9⟩) hS.2.2 dR_begin_15
set_option maxHeartbeats 4000000 in
set_option maxRecDepth 100000 in
theorem k_begin_no (l : Launch) (D : va_G) (cT : Nat → ClassId) (cds : List Nat) (ad : Nat → Nat) (gg : Nat → Option va_E) (k : Int32) (hlt : l.stackTraces = false) (hq : ¬ (1 ≤ k ∧ k ≤ 6)) : MetT l yR_begin WR_begin ({ frames := 7, cells := 1, slots := 6, locals := 111 } : Room) (RO D vwCl [.ref (ad 0), .int k] ([] ++ pg cds ad gg) (TY cT)) "java/lang/IllegalArgumentException" 1 6 := by
  refine MetT.ofW (cc := cR_begin) (maxL := 2) (ret := none) (by decide) rfl ?_
  intro p e s m args below meth c s₁ B hml hno hv
  obtain ⟨rfl, hZ, hP, hK⟩ := hv
  have hx := B.exec
  have hb := B.bytes
  have hr := B.returns
  have hts := atoms_spec (ws := WR_begin) B.pre
  have hT : ∀ w ∈ TB, w.before _ s = true := fun w h => hts w (List.mem_cons_of_mem _ h)
  have hown : s.vm.findClass R_R = some m.cls := findClass_of_methodNamed B.named
  have hlocks := B.notSynchronized
  have hS : va_S (fun _ => False) s.heap s.heap [] := va_S.rf
  have hl := lv_entry ([.ref (ad 0), .int k]) (n := 2) (Nat.le_of_ble_eq_true rfl)
  rw [lg_entry_eq]
  generalize (lg_sl ([.ref (ad 0), .int k]) ++ List.replicate (2 - (lg_sl ([.ref (ad 0), .int k])).length) Slot.unset).toArray = ls at hl ⊢
  have hl : lv_has ls 2 [(0, .ref (ad 0)), (1, .int k)] := hl
  refine lv_iload_n hx hb dR_begin_0 rfl (lv_at hl 1 rfl) ?_
  refine lv_iconst (v := 1) hx hb dR_begin_1 (by decide) ?_
  refine lv_bipush (v := 6) hx hb dR_begin_2 (by decide) ?_
  refine ro_i (va_Run.run (va_runS (As := [.int k, .int 1, .int 6]) (rest := []) ⟨hx, hb, hml, hown, hT⟩ (k_isWithin l D cT k 1 6) ⟨callB_of 3 hT (tb_gd w499) rfl rfl rfl (hT _ w1) (hT _ w497) hR_isWithin ⟨Nat.le_of_ble_eq_true rfl, Nat.le_of_ble_eq_true rfl⟩, (hT _ w498)⟩ (RO.preS hZ hS ((show va_P D vwCl [] _ from fun _ _ h => nomatch h)) hK) rfl rfl hl.1 rfl (lv_room (Nat.le_of_ble_eq_true rfl)) dR_begin_4 ⟨Nat.le_of_ble_eq_true rfl, Nat.le_of_ble_eq_true rfl⟩)) ?_
  exact tx_out (tx_goS (As := [.int (bi (1 ≤ k ∧ k ≤ 6))]) (rest := []) ⟨hx, hb, hml, hown, hT⟩ (k_demand_no l D cT (bi (1 ≤ k ∧ k ≤ 6)) hlt (bi_f hq)) ⟨callB_of 1 hT (tb_gd w510) rfl rfl rfl (hT _ w1) (hT _ w508) hR_demand ⟨Nat.le_of_ble_eq_true rfl, Nat.le_of_ble_eq_true rfl⟩, (hT _ w509)⟩ (RO.preS hZ hS ((show va_P D vwCl [] _ from fun _ _ h => nomatch h)) hK) rfl hl.1 rfl (Nat.le_of_ble_eq_true rfl) dR_begin_7 ⟨Nat.le_of_ble_eq_true rfl, Nat.le_of_ble_eq_true rfl⟩) hno hlocks
