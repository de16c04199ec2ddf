set_option maxHeartbeats 4000000 in
set_option maxRecDepth 100000 in
theorem k_wholesP (l : Launch) (D : va_G) (cT : Nat → ClassId) (cds : List Nat) (ad : Nat → Nat) (gg : Nat → Option va_E) (hcd : CD cds) (hno : (∀ i, i < 48 → gg (100 + i) = none) ∧ (∀ i, i < 48 → gg (150 + i) = none)) (sz : Nat) : Met l yR_wholes WR_wholes ({ frames := 2, cells := 97, slots := 1344, locals := 33 } : Room) (RW D vwCl [.int 48] ([] ++ pg cds ad gg) (TY cT) sz) (va_Qr (fun u9 : Nat × (Nat → Option Nat) × (Nat → Nat) × (Nat → Option va_E) => (∀ j8, j8 < 48 → u9.2.1 j8 = some (u9.2.2.1 (100 + j8)) ∧ WHO cT u9.2.2.1 u9.2.2.2 (100 + j8) (150 + j8) 24 0) ∧ (∀ z8, (z8 < 100 ∨ 200 ≤ z8) → u9.2.2.2 z8 = gg z8 ∧ u9.2.2.1 z8 = ad z8)) (fun u9 q9 t9 => q9 = u9.1 ∧ BW D vwCl (va_A ([] ++ pg cds ad gg) sz) (fun u9 : Nat × (Nat → Option Nat) × (Nat → Nat) × (Nat → Option va_E) => ([(u9.1, .inl (cT 4, 48, .inr (.inr (.inr (.inr u9.2.1)))))] ++ pg cds u9.2.2.1 u9.2.2.2)) u9 t9) (va_A ([] ++ pg cds ad gg) sz)) 97 1344 (va_A ([] ++ pg cds ad gg) sz) := by
  refine Met.ofW (cc := cR_wholes) (maxL := 3) (ret := (some (.array (.object "ResidualTrees$Whole")))) (by decide) rfl ?_
  intro p e s m args below meth c s₁ B hml hv
  obtain ⟨rfl, hsz, hZ, hP, hK, hD0⟩ := hv
  have hx := B.exec
  have hb := B.bytes
  have hr := B.returns
  have hts := atoms_spec (ws := WR_wholes) B.pre
  have hT : ∀ w ∈ TB, w.before _ s = true := fun w h => hts w (List.mem_cons_of_mem _ h)
  have hown : s.vm.findClass R_R = some m.cls := findClass_of_methodNamed B.named
  have hlocks := B.notSynchronized
  subst hsz
  have hD := hD0.self (sz := s.heap.size)
  generalize hAe : va_A ([] ++ pg cds ad gg) s.heap.size = A at hD hZ ⊢
  have hA : ∀ q : Nat, s.heap.size ≤ q → A q := fun q h => by rw [← hAe]; exact Or.inr h
  have hS : va_S A s.heap s.heap [] := va_S.rf
  have hl := lv_entry ([.int 48]) (n := 3) (Nat.le_of_ble_eq_true rfl)
  rw [lg_entry_eq]
  generalize (lg_sl ([.int 48]) ++ List.replicate (3 - (lg_sl ([.int 48])).length) Slot.unset).toArray = ls at hl ⊢
  have hl : lv_has ls 3 [(0, .int 48)] := hl
  refine lv_iload_n hx hb dR_wholes_0 rfl (lv_at hl 0 rfl) ?_
  refine nw_q (C := "ResidualTrees$Whole") (N' := 48) hx hb hown (hT _ w138) (hZ.1.2.2.2.1 "ResidualTrees$Whole" (List.mem_of_getElem? (i := 1) rfl)) hK hP hD hS hA 4 rfl (by decide +kernel) (by decide +kernel) (by decide +kernel) (Nat.le_of_ble_eq_true rfl) (Nat.le_of_ble_eq_true rfl) dR_wholes_1 (fun q1 H hP hD hS => ?_)
  have hP := hy_push hP
  have hD := hy_pushD hD
  have hP : va_P D vwCl ([(q1, .inl (cT 4, 48, .inr (.inr (.inr (.inr (fun _ => none))))))] ++ pg cds ad gg) _ := hP
  have hD : va_D A ([(q1, .inl (cT 4, 48, .inr (.inr (.inr (.inr (fun _ => none))))))] ++ pg cds ad gg) := hD
  refine lv_astore_n hx hb dR_wholes_4 rfl hl (by decide) rfl (fun ls hl => ?_)
  have hl : lv_has ls 3 [(1, .ref q1), (0, .int 48)] := hl
  refine lv_iconst (v := 0) hx hb dR_wholes_5 (by decide) ?_
  refine lv_istore_n hx hb dR_wholes_6 rfl hl (by decide) rfl (fun ls hl => ?_)
  have hl : lv_has ls 3 [(2, .int 0), (1, .ref q1), (0, .int 48)] := hl
  have hl : lv_has ls 3 [(2, .int (nI 0)), (1, .ref q1), (0, .int 48)] := by
    rw [(show nI 0 = 0 from rfl)]; exact hl
  refine W.widen (k := 1 + 2 * 0) (n := 48 + 27 * 0) (by show 1 ≤ 1 + 2 * 0; omega) (by show 48 ≤ 48 + 27 * 0; omega) ?_
  refine lp_wc (α := Nat × (Nat → Option Nat) × (Nat → Nat) × (Nat → Option va_E)) (fun a9 => a9.1 ≤ 48 ∧ (∀ j8, j8 < a9.1 → a9.2.1 j8 = some (a9.2.2.1 (100 + j8)) ∧ WHO cT a9.2.2.1 a9.2.2.2 (100 + j8) (150 + j8) 24 0) ∧ (∀ z8, (z8 < 100 ∨ (100 + a9.1 ≤ z8 ∧ z8 < 150) ∨ 150 + a9.1 ≤ z8) → a9.2.2.2 z8 = gg z8 ∧ a9.2.2.1 z8 = ad z8)) (fun a9 => 48 - a9.1) (fun a9 => [(0, .int 48), (1, .ref q1), (2, .int (nI a9.1))]) (fun a9 => ([(q1, .inl (cT 4, 48, .inr (.inr (.inr (.inr a9.2.1)))))] ++ pg cds a9.2.2.1 a9.2.2.2)) (fun a9 => 1 + 2 * a9.1) (fun a9 => 48 + 27 * a9.1) 7 ?_ (0, fun _ => none, ad, gg) (show 0 ≤ 48 ∧ (∀ j8, j8 < 0 → (fun _ => none) j8 = some (ad (100 + j8)) ∧ WHO cT ad gg (100 + j8) (150 + j8) 24 0) ∧ (∀ z8, (z8 < 100 ∨ (100 + 0 ≤ z8 ∧ z8 < 150) ∨ 150 + 0 ≤ z8) → gg z8 = gg z8 ∧ ad z8 = ad z8) from ⟨by omega, fun j8 h => absurd h (by omega), fun _ _ => ⟨rfl, rfl⟩⟩) (lv_sub hl [2, 1, 0] rfl) hP hD hS
  intro a9 hI7 ih7 ls H locs hl hP hD hS
  obtain ⟨i, qf, ad1, g1⟩ := a9
  have hI7 : i ≤ 48 ∧ (∀ j8, j8 < i → qf j8 = some (ad1 (100 + j8)) ∧ WHO cT ad1 g1 (100 + j8) (150 + j8) 24 0) ∧ (∀ z8, (z8 < 100 ∨ (100 + i ≤ z8 ∧ z8 < 150) ∨ 150 + i ≤ z8) → g1 z8 = gg z8 ∧ ad1 z8 = ad z8) := hI7
  refine W.widen (k := 1 + 2 * i) (n := 48 + 27 * i) (Nat.le_refl _) (Nat.le_refl _) ?_
  obtain ⟨ii, iW, iF⟩ := hI7
  have hl : lv_has ls 3 [(0, .int 48), (1, .ref q1), (2, .int (nI i))] := hl
  have hP : va_P D vwCl ([(q1, .inl (cT 4, 48, .inr (.inr (.inr (.inr qf)))))] ++ pg cds ad1 g1) _ := hP
  have hD : va_D A ([(q1, .inl (cT 4, 48, .inr (.inr (.inr (.inr qf)))))] ++ pg cds ad1 g1) := hD
  refine lv_iload_n hx hb dR_wholes_7 rfl (lv_at hl 2 rfl) ?_
  refine lv_iload_n hx hb dR_wholes_8 rfl (lv_at hl 0 rfl) ?_
  refine lv_icmp_ge (tgt := 30) hx hb dR_wholes_9 rfl (fun h1 => ?_) (fun h1 => ?_)
  · have gh1 : 48 ≤ i := (nI_leI (a := 48) (b := i) (by omega) (by omega)).mp h1
    refine lv_aload_n hx hb dR_wholes_30 rfl (lv_at hl 1 rfl) ?_
    have hP9 : va_P D vwCl ([(q1, .inl (cT 4, 48, .inr (.inr (.inr (.inr qf)))))] ++ pg cds ad1 g1) _ := hP.part (cx := [(q1, .inl (cT 4, 48, .inr (.inr (.inr (.inr qf)))))]) [0] rfl
    have hD9 : va_D A ([(q1, .inl (cT 4, 48, .inr (.inr (.inr (.inr qf)))))] ++ pg cds ad1 g1) := hD.part (cx := [(q1, .inl (cT 4, 48, .inr (.inr (.inr (.inr qf)))))]) [0] (by decide) rfl
    refine W.widen (k := 97) (n := 1344) ((by show 1 + 2 * i ≤ 97; omega)) ((by show 48 + 27 * i ≤ 1344; omega)) ?_
    exact W.aret (v := .ref q1) hx hb hr (Or.inr ⟨_, rfl⟩) (Or.inr ⟨_, rfl⟩) (fun t9 ht9 hW9 => ⟨⟨(q1, qf, ad1, g1), q1, rfl, (show (∀ j8, j8 < 48 → qf j8 = some (ad1 (100 + j8)) ∧ WHO cT ad1 g1 (100 + j8) (150 + j8) 24 0) ∧ (∀ z8, (z8 < 100 ∨ 200 ≤ z8) → g1 z8 = gg z8 ∧ ad1 z8 = ad z8) from (by obtain rfl : i = 48 := (by omega); exact ⟨iW, fun z8 hz => iF z8 (by omega)⟩)), rfl, by rw [ht9]; exact hP9, hD9⟩, hS.F ht9⟩) hS.2.2 dR_wholes_31
  · have gh1 : i < 48 := Nat.not_le.mp (fun q => h1 ((nI_leI (a := 48) (b := i) (by omega) (by omega)).mpr q))
    refine lv_aload_n hx hb dR_wholes_12 rfl (lv_at hl 1 rfl) ?_
    refine lv_iload_n hx hb dR_wholes_13 rfl (lv_at hl 2 rfl) ?_
    refine va_new (ci := 4) (fs := [.null, .int 0, .int 0]) (C := R_W) (T := T_W) (N := 3) hx hb hT in_W ty_W ty_W_ok hown (hT _ w138) (hT _ w140) (hT _ w5) hK hP hD hS hA rfl (fun j hj => match j, hj with | 0, _ => rfl | 1, _ => rfl | 2, _ => rfl | _ + 3, hj => absurd hj (by omega)) ((by show (1 + 2 * i) + 1 ≤ 97; omega)) ((by show (48 + 27 * i) + 3 ≤ 1344; omega)) dR_wholes_14 (fun q14 H hP hD hS => ?_)
    have hP := hy_push hP
    have hD := hy_pushD hD
    have hP : va_P D vwCl ([(q1, .inl (cT 4, 48, .inr (.inr (.inr (.inr qf))))), (q14, .inr (4, [.null, .int 0, .int 0]))] ++ pg cds ad1 g1) _ := hP
    have hD : va_D A ([(q1, .inl (cT 4, 48, .inr (.inr (.inr (.inr qf))))), (q14, .inr (4, [.null, .int 0, .int 0]))] ++ pg cds ad1 g1) := hD
    refine lv_dup hx hb dR_wholes_17 rfl ?_
    refine lv_bipush (v := 24) hx hb dR_wholes_18 (by decide) ?_
    refine hy_vQ (X := [(q1, .inl (cT 4, 48, .inr (.inr (.inr (.inr qf))))), (q14, .inr (4, [.null, .int 0, .int 0]))]) (pl := pg cds ad1 g1) (cx := [(q14, .inr (4, [.null, .int 0, .int 0]))]) (wr := [(q1, .inl (cT 4, 48, .inr (.inr (.inr (.inr qf)))))]) hP hD hS hA [1] [0] rfl rfl (by decide) (by decide) (va_runI (As := [.int 24]) (rest := [.ref q14, .int (nI i), .ref q1]) ⟨hx, hb, hml, hown, hT⟩ (k_WholeX l D cT q14 _) ⟨callB_of 1 hT (tb_gd w143) rfl rfl rfl (hT _ w5) (hT _ w141) hW_init ⟨Nat.le_of_ble_eq_true rfl, Nat.le_of_ble_eq_true rfl⟩, rfl, (hT _ w142)⟩ (RW.preS hZ hS (hy_free (cx := [(q14, .inr (4, [.null, .int 0, .int 0]))]) hD hS hA [1] rfl) (hP.sub (ws' := [(q14, .inr (4, [.null, .int 0, .int 0]))]) [1] rfl) hK (hD.sub (ws' := [(q14, .inr (4, [.null, .int 0, .int 0]))]) [1] (by decide) rfl)) rfl rfl hl.1 rfl (lv_room (Nat.le_of_ble_eq_true rfl)) dR_wholes_20 ⟨(by show ((1 + 2 * i) + 1) + 1 ≤ 97; omega), (by show ((48 + 27 * i) + 3) + 24 ≤ 1344; omega)⟩) (fun u9 H locs hpu2 hP hD hS => ?_)
    obtain ⟨nwu2, rfl⟩ : ∃ q9, q9 = u9 := ⟨_, rfl⟩
    have hpu2 : True := hpu2
    have hP : va_P D vwCl ([(q1, .inl (cT 4, 48, .inr (.inr (.inr (.inr qf))))), (q14, .inr (4, [.ref nwu2, .int 0, .int 0])), (nwu2, .inl (cT 0, 24, .inl (fun _ => 0)))] ++ pg cds ad1 g1) _ := hP
    have hD : va_D A ([(q1, .inl (cT 4, 48, .inr (.inr (.inr (.inr qf))))), (q14, .inr (4, [.ref nwu2, .int 0, .int 0])), (nwu2, .inl (cT 0, 24, .inl (fun _ => 0)))] ++ pg cds ad1 g1) := hD
    refine va_astq hx hb hK hP hD hS 0 4 1 4 rfl rfl rfl rfl (vp_in_nI (by omega) (by decide)) dR_wholes_23 (fun H locs hP hD hS => ?_)
    rw [nI_clamp (by omega)] at hP hD
    have hP : va_P D vwCl ([(q1, .inl (cT 4, 48, .inr (.inr (.inr (.inr (va_up qf i (some q14))))))), (q14, .inr (4, [.ref nwu2, .int 0, .int 0])), (nwu2, .inl (cT 0, 24, .inl (fun _ => 0)))] ++ pg cds ad1 g1) _ := hP
    have hD : va_D A ([(q1, .inl (cT 4, 48, .inr (.inr (.inr (.inr (va_up qf i (some q14))))))), (q14, .inr (4, [.ref nwu2, .int 0, .int 0])), (nwu2, .inl (cT 0, 24, .inl (fun _ => 0)))] ++ pg cds ad1 g1) := hD
    obtain ⟨ad2, had2⟩ : ∃ f9 : Nat → Nat, f9 = va_up (va_up ad1 (100 + i) q14) (150 + i) nwu2 := ⟨_, rfl⟩
    have ead2_0 : ad2 (100 + i) = q14 := by rw [had2]; exact (va_up_ne _ _ (by omega)).trans (va_up_self _ _ _)
    have ead2_1 : ad2 (150 + i) = nwu2 := by rw [had2]; exact va_up_self _ _ _
    have aad2 : ∀ z8, z8 ≠ 100 + i → z8 ≠ 150 + i → ad2 z8 = ad1 z8 := fun z8 n0 n1 => by rw [had2]; exact (va_up_ne _ _ n1).trans ((va_up_ne _ _ n0).trans (rfl))
    have pad2 : pg cds ad2 g1 = pg cds ad1 g1 := by rw [had2]; exact (pg_ad ((iF (150 + i) (by omega)).1.trans (hno.2 i (by omega)))).trans ((pg_ad ((iF (100 + i) (by omega)).1.trans (hno.1 i (by omega)))).trans (rfl))
    have hw9 : ([(q1, .inl (cT 4, 48, .inr (.inr (.inr (.inr (va_up qf i (some q14))))))), (ad2 (100 + i), .inr (4, [.ref (ad2 (150 + i)), .int 0, .int 0])), (ad2 (150 + i), .inl (cT 0, 24, .inl (fun _ => 0)))] ++ pg cds ad2 g1) = ([(q1, .inl (cT 4, 48, .inr (.inr (.inr (.inr (va_up qf i (some q14))))))), (q14, .inr (4, [.ref nwu2, .int 0, .int 0])), (nwu2, .inl (cT 0, 24, .inl (fun _ => 0)))] ++ pg cds ad1 g1) := by rw [pad2, ead2_0, ead2_1]
    have hP := vP_eq hw9 hP
    have hD := vD_eq hw9 hD
    have hP : va_P D vwCl ([(q1, .inl (cT 4, 48, .inr (.inr (.inr (.inr (va_up qf i (some q14))))))), (ad2 (100 + i), .inr (4, [.ref (ad2 (150 + i)), .int 0, .int 0])), (ad2 (150 + i), .inl (cT 0, 24, .inl (fun _ => 0)))] ++ pg cds ad2 g1) _ := hP
    have hD : va_D A ([(q1, .inl (cT 4, 48, .inr (.inr (.inr (.inr (va_up qf i (some q14))))))), (ad2 (100 + i), .inr (4, [.ref (ad2 (150 + i)), .int 0, .int 0])), (ad2 (150 + i), .inl (cT 0, 24, .inl (fun _ => 0)))] ++ pg cds ad2 g1) := hD
    have hup : upo g1 [100 + i, 150 + i] = g1 := upo_nn (nn_c ((iF (100 + i) (by omega)).1.trans (hno.1 i (by omega))) (nn_c ((iF (150 + i) (by omega)).1.trans (hno.2 i (by omega))) nn_0))
    have hw9 : ([(q1, .inl (cT 4, 48, .inr (.inr (.inr (.inr (va_up qf i (some q14))))))), (ad2 (100 + i), .inr (4, [.ref (ad2 (150 + i)), .int 0, .int 0])), (ad2 (150 + i), .inl (cT 0, 24, .inl (fun _ => 0)))] ++ pg cds ad2 (upo g1 [100 + i, 150 + i])) = ([(q1, .inl (cT 4, 48, .inr (.inr (.inr (.inr (va_up qf i (some q14))))))), (ad2 (100 + i), .inr (4, [.ref (ad2 (150 + i)), .int 0, .int 0])), (ad2 (150 + i), .inl (cT 0, 24, .inl (fun _ => 0)))] ++ pg cds ad2 g1) := by rw [hup]
    have hP := vP_eq hw9 hP
    have hD := vD_eq hw9 hD
    have hN9 := (show NDc [100 + i, 150 + i] from (nd_c (na_c (by omega) na_0) (nd_c na_0 nd_0)))
    have hP := gb_P (w9 := [(100 + i, .inr (4, [.ref (ad2 (150 + i)), .int 0, .int 0])), (150 + i, .inl (cT 0, 24, .inl (fun _ => 0)))]) (X := [(q1, .inl (cT 4, 48, .inr (.inr (.inr (.inr (va_up qf i (some q14)))))))]) (g := g1) hcd hN9 (show QB [(100 + i, .inr (4, [.ref (ad2 (150 + i)), .int 0, .int 0])), (150 + i, .inl (cT 0, 24, .inl (fun _ => 0)))] from (qb_c (by omega) (qb_c (by omega) qb_0))) (hP.part (cx := [(q1, .inl (cT 4, 48, .inr (.inr (.inr (.inr (va_up qf i (some q14))))))), (ad2 (100 + i), .inr (4, [.ref (ad2 (150 + i)), .int 0, .int 0])), (ad2 (150 + i), .inl (cT 0, 24, .inl (fun _ => 0)))]) [0, 1, 2] rfl)
    have hD := gb_D (w9 := [(100 + i, .inr (4, [.ref (ad2 (150 + i)), .int 0, .int 0])), (150 + i, .inl (cT 0, 24, .inl (fun _ => 0)))]) (X := [(q1, .inl (cT 4, 48, .inr (.inr (.inr (.inr (va_up qf i (some q14)))))))]) (g := g1) hcd hN9 (show QB [(100 + i, .inr (4, [.ref (ad2 (150 + i)), .int 0, .int 0])), (150 + i, .inl (cT 0, 24, .inl (fun _ => 0)))] from (qb_c (by omega) (qb_c (by omega) qb_0))) (hD.part (cx := [(q1, .inl (cT 4, 48, .inr (.inr (.inr (.inr (va_up qf i (some q14))))))), (ad2 (100 + i), .inr (4, [.ref (ad2 (150 + i)), .int 0, .int 0])), (ad2 (150 + i), .inl (cT 0, 24, .inl (fun _ => 0)))]) [0, 1, 2] (by decide) rfl)
    obtain ⟨g2, hg2⟩ : ∃ q9, q9 = ups g1 [(100 + i, .inr (4, [.ref (ad2 (150 + i)), .int 0, .int 0])), (150 + i, .inl (cT 0, 24, .inl (fun _ => 0)))] := ⟨_, rfl⟩
    rw [← hg2] at hP hD
    have hP : va_P D vwCl ([(q1, .inl (cT 4, 48, .inr (.inr (.inr (.inr (va_up qf i (some q14)))))))] ++ pg cds ad2 g2) _ := hP
    have hD : va_D A ([(q1, .inl (cT 4, 48, .inr (.inr (.inr (.inr (va_up qf i (some q14)))))))] ++ pg cds ad2 g2) := hD
    have fg2 : ∀ z8, z8 ≠ 100 + i → z8 ≠ 150 + i → g2 z8 = g1 z8 := fun z8 z1 z2 => by rw [hg2]; exact ups_k (kp_n z1 (kp_n z2 kp_0))
    have g2_0 : g2 (100 + i) = some (.inr (4, [.ref (ad2 (150 + i)), .int 0, .int 0])) := by rw [hg2]; exact ups_1
    have g2_1 : g2 (150 + i) = some (.inl (cT 0, 24, .inl (fun _ => 0))) := by rw [hg2]; exact ups_2 (by omega)
    refine lv_iinc (k := 2) (v := nI (i + 1)) hx hb dR_wholes_24 hl rfl (nI_1 i) (by decide) rfl (fun ls hl => ?_)
    have hl : lv_has ls 3 [(2, .int (nI (i + 1))), (0, .int 48), (1, .ref q1)] := hl
    refine lv_goto (tgt := 7) hx hb dR_wholes_27 rfl ?_
    refine W.widen (k := 1 + 2 * (i + 1)) (n := 48 + 27 * (i + 1)) (by show ((1 + 2 * i) + 1) + 1 ≤ 1 + 2 * (i + 1); omega) (by show ((48 + 27 * i) + 3) + 24 ≤ 48 + 27 * (i + 1); omega) ?_
    exact ih7 (i + 1, va_up qf i (some q14), ad2, g2) (show (i + 1) ≤ 48 ∧ (∀ j8, j8 < (i + 1) → (va_up qf i (some q14)) j8 = some (ad2 (100 + j8)) ∧ WHO cT ad2 g2 (100 + j8) (150 + j8) 24 0) ∧ (∀ z8, (z8 < 100 ∨ (100 + (i + 1) ≤ z8 ∧ z8 < 150) ∨ 150 + (i + 1) ≤ z8) → g2 z8 = gg z8 ∧ ad2 z8 = ad z8) from ⟨by omega, fun j8 hj => (by by_cases e : j8 = i; (subst e; exact ⟨by rw [va_up_self, ead2_0], ⟨0, 0, _, g2_0, g2_1, wn_0⟩⟩); (obtain ⟨e1, e2⟩ := iW j8 (by omega); exact ⟨by rw [va_up_ne _ _ e, aad2 _ (by omega) (by omega)]; exact e1, (e2.cg (fg2 _ (by omega) (by omega)) (fg2 _ (by omega) (by omega))).ca (aad2 _ (by omega) (by omega))⟩)), fun z8 hz => ⟨(fg2 z8 (by omega) (by omega)).trans (iF z8 (by omega)).1, (aad2 z8 (by omega) (by omega)).trans (iF z8 (by omega)).2⟩⟩) (show 48 - (i + 1) < 48 - i from (by omega)) ls H locs (lv_sub hl [1, 2, 0] rfl) hP hD hS
set_option maxHeartbeats 4000000 in
set_option maxRecDepth 100000 in
theorem k_tableP (l : Launch) (D : va_G) (cT : Nat → ClassId) (cds : List Nat) (ad : Nat → Nat) (gg : Nat → Option va_E) (h : Nat) (hcd : CD cds) (hno : (∀ i, i < 6 → gg (10 + i) = none) ∧ (∀ i, i < 6 → gg (20 + i) = none) ∧ (∀ i, i < 6 → gg (30 + i) = none)) (sz : Nat) : Met l yT_init WT_init ({ frames := 2, cells := 20, slots := 439, locals := 32 } : Room) (RW D vwCl [.ref h] ([(h, .inr (2, [.null, .null, .int 0, .int 0]))] ++ pg cds ad gg) (TY cT) sz) (va_Qv (fun u9 : Nat × Nat × (Nat → Option Nat) × (Nat → Nat) × (Nat → Option va_E) => (∀ j8, j8 < 6 → u9.2.2.1 j8 = some (u9.2.2.2.1 (10 + j8)) ∧ COLe cT u9.2.2.2.1 u9.2.2.2.2 j8 0 0 (fun _ => 0) (fun _ => 0)) ∧ (∀ z8, (z8 < 10 ∨ 40 ≤ z8) → u9.2.2.2.2 z8 = gg z8 ∧ u9.2.2.2.1 z8 = ad z8)) (BW D vwCl (va_A ([(h, .inr (2, [.null, .null, .int 0, .int 0]))] ++ pg cds ad gg) sz) (fun u9 : Nat × Nat × (Nat → Option Nat) × (Nat → Nat) × (Nat → Option va_E) => ([(h, .inr (2, [.ref u9.1, .ref u9.2.1, .int 0, .int 0])), (u9.1, .inl (cT 5, 6, .inr (.inr (.inr (.inr u9.2.2.1))))), (u9.2.1, .inl (cT 0, 49, .inl (fun _ => 0)))] ++ pg cds u9.2.2.2.1 u9.2.2.2.2))) (va_A ([(h, .inr (2, [.null, .null, .int 0, .int 0]))] ++ pg cds ad gg) sz)) 20 439 (va_A ([(h, .inr (2, [.null, .null, .int 0, .int 0]))] ++ pg cds ad gg) sz) := by
  refine Met.ofW (cc := cT_init) (maxL := 2) (ret := none) (by decide) rfl ?_
  intro p e s m args below meth c s₁ B hml hv
  obtain ⟨rfl, hsz, hZ, hP, hK, hD0⟩ := hv
  have hx := B.exec
  have hb := B.bytes
  have hr := B.returns
  have hts := atoms_spec (ws := WT_init) B.pre
  have hT : ∀ w ∈ TB, w.before _ s = true := fun w h => hts w (List.mem_cons_of_mem _ h)
  have hown : s.vm.findClass R_T = some m.cls := findClass_of_methodNamed B.named
  have hlocks := B.notSynchronized
  have hin : meth.name = "<init>" := (name_of_methodNamed B.named B.method).1
  subst hsz
  have hD := hD0.self (sz := s.heap.size)
  generalize hAe : va_A ([(h, .inr (2, [.null, .null, .int 0, .int 0]))] ++ pg cds ad gg) s.heap.size = A at hD hZ ⊢
  have hA : ∀ q : Nat, s.heap.size ≤ q → A q := fun q h => by rw [← hAe]; exact Or.inr h
  have hS : va_S A s.heap s.heap [] := va_S.rf
  have hl := lv_entry ([.ref h]) (n := 2) (Nat.le_of_ble_eq_true rfl)
  rw [lg_entry_eq]
  generalize (lg_sl ([.ref h]) ++ List.replicate (2 - (lg_sl ([.ref h])).length) Slot.unset).toArray = ls at hl ⊢
  have hl : lv_has ls 2 [(0, .ref h)] := hl
  refine lv_aload_n hx hb dT_init_0 rfl (lv_at hl 0 rfl) ?_
  refine W.objInit hx hb hown (hT _ w42) (hT _ w35) (hT _ w36) rfl (by rw [hml]; exact hl.1) rfl dT_init_1 (Nat.le_of_ble_eq_true rfl) (Nat.le_of_ble_eq_true rfl) ?_
  refine W.eq (g2 := F0 m 4 ls []) rfl ?_
  refine lv_aload_n hx hb dT_init_4 rfl (lv_at hl 0 rfl) ?_
  refine lv_bipush (v := 6) hx hb dT_init_5 (by decide) ?_
  refine nw_q (C := "ResidualTrees$Column") (N' := 6) hx hb hown (hT _ w43) (hZ.1.2.2.2.1 "ResidualTrees$Column" (List.mem_of_getElem? (i := 0) rfl)) hK hP hD hS hA 5 rfl (by decide +kernel) (by decide +kernel) (by decide +kernel) (Nat.le_of_ble_eq_true rfl) (Nat.le_of_ble_eq_true rfl) dT_init_7 (fun q7 H hP hD hS => ?_)
  have hP := hy_push hP
  have hD := hy_pushD hD
  have hP : va_P D vwCl ([(h, .inr (2, [.null, .null, .int 0, .int 0])), (q7, .inl (cT 5, 6, .inr (.inr (.inr (.inr (fun _ => none))))))] ++ pg cds ad gg) _ := hP
  have hD : va_D A ([(h, .inr (2, [.null, .null, .int 0, .int 0])), (q7, .inl (cT 5, 6, .inr (.inr (.inr (.inr (fun _ => none))))))] ++ pg cds ad gg) := hD
  refine va_putF (D := D) (ci := 2) (v := .ref q7) (ty := .array (.object "ResidualTrees$Column")) (C := R_T) (T := T_T) (N := 4) hx hb hT in_T ty_T ty_T_ok m_T hown hK hP hD hS 0 rfl rfl 0 (by decide) (hT _ w73) (fun _ h9 => h9) rfl hin rfl (by decide +kernel) rfl rfl (Nat.le_of_ble_eq_true rfl) dT_init_10 (fun H locs hP hD hS => ?_)
  have hP : va_P D vwCl ([(h, .inr (2, [.ref q7, .null, .int 0, .int 0])), (q7, .inl (cT 5, 6, .inr (.inr (.inr (.inr (fun _ => none))))))] ++ pg cds ad gg) _ := hP
  have hD : va_D A ([(h, .inr (2, [.ref q7, .null, .int 0, .int 0])), (q7, .inl (cT 5, 6, .inr (.inr (.inr (.inr (fun _ => none))))))] ++ pg cds ad gg) := hD
  refine lv_aload_n hx hb dT_init_13 rfl (lv_at hl 0 rfl) ?_
  refine lv_bipush (v := 49) hx hb dT_init_14 (by decide) ?_
  refine nw_a (atype := .int) (ty := .int) (a0 := (49, .inl (fun _ => 0))) (N' := 49) hx hb (hT _ w72) rfl hK hP hD hS hA 0 rfl (fun _ => rfl) (by decide +kernel) (by decide +kernel) (by decide +kernel) (Nat.le_of_ble_eq_true rfl) (Nat.le_of_ble_eq_true rfl) dT_init_16 (fun q16 H hP hD hS => ?_)
  have hP := hy_push hP
  have hD := hy_pushD hD
  have hP : va_P D vwCl ([(h, .inr (2, [.ref q7, .null, .int 0, .int 0])), (q7, .inl (cT 5, 6, .inr (.inr (.inr (.inr (fun _ => none)))))), (q16, .inl (cT 0, 49, .inl (fun _ => 0)))] ++ pg cds ad gg) _ := hP
  have hD : va_D A ([(h, .inr (2, [.ref q7, .null, .int 0, .int 0])), (q7, .inl (cT 5, 6, .inr (.inr (.inr (.inr (fun _ => none)))))), (q16, .inl (cT 0, 49, .inl (fun _ => 0)))] ++ pg cds ad gg) := hD
  refine va_putF (D := D) (ci := 2) (v := .ref q16) (ty := .array .int) (C := R_T) (T := T_T) (N := 4) hx hb hT in_T ty_T ty_T_ok m_T hown hK hP hD hS 0 rfl rfl 1 (by decide) (hT _ w76) (fun _ h9 => h9) rfl hin rfl (by decide +kernel) rfl rfl (Nat.le_of_ble_eq_true rfl) dT_init_18 (fun H locs hP hD hS => ?_)
  have hP : va_P D vwCl ([(h, .inr (2, [.ref q7, .ref q16, .int 0, .int 0])), (q7, .inl (cT 5, 6, .inr (.inr (.inr (.inr (fun _ => none)))))), (q16, .inl (cT 0, 49, .inl (fun _ => 0)))] ++ pg cds ad gg) _ := hP
  have hD : va_D A ([(h, .inr (2, [.ref q7, .ref q16, .int 0, .int 0])), (q7, .inl (cT 5, 6, .inr (.inr (.inr (.inr (fun _ => none)))))), (q16, .inl (cT 0, 49, .inl (fun _ => 0)))] ++ pg cds ad gg) := hD
  refine lv_iconst (v := 0) hx hb dT_init_21 (by decide) ?_
  refine lv_istore_n hx hb dT_init_22 rfl hl (by decide) rfl (fun ls hl => ?_)
  have hl : lv_has ls 2 [(1, .int 0), (0, .ref h)] := hl
  have hl : lv_has ls 2 [(1, .int (nI 0)), (0, .ref h)] := by
    rw [(show nI 0 = 0 from rfl)]; exact hl
  refine W.widen (k := 2 + 3 * 0) (n := 55 + 64 * 0) (by show 2 ≤ 2 + 3 * 0; omega) (by show 55 ≤ 55 + 64 * 0; omega) ?_
  refine lp_wc (α := Nat × (Nat → Option Nat) × (Nat → Nat) × (Nat → Option va_E)) (fun a9 => a9.1 ≤ 6 ∧ (∀ j8, j8 < a9.1 → a9.2.1 j8 = some (a9.2.2.1 (10 + j8)) ∧ COLe cT a9.2.2.1 a9.2.2.2 j8 0 0 (fun _ => 0) (fun _ => 0)) ∧ (∀ z8, (z8 < 10 ∨ (10 + a9.1 ≤ z8 ∧ z8 < 20) ∨ (20 + a9.1 ≤ z8 ∧ z8 < 30) ∨ 30 + a9.1 ≤ z8) → a9.2.2.2 z8 = gg z8 ∧ a9.2.2.1 z8 = ad z8)) (fun a9 => 6 - a9.1) (fun a9 => [(0, .ref h), (1, .int (nI a9.1))]) (fun a9 => ([(h, .inr (2, [.ref q7, .ref q16, .int 0, .int 0])), (q7, .inl (cT 5, 6, .inr (.inr (.inr (.inr a9.2.1))))), (q16, .inl (cT 0, 49, .inl (fun _ => 0)))] ++ pg cds a9.2.2.1 a9.2.2.2)) (fun a9 => 2 + 3 * a9.1) (fun a9 => 55 + 64 * a9.1) 23 ?_ (0, fun _ => none, ad, gg) (show 0 ≤ 6 ∧ (∀ j8, j8 < 0 → (fun _ => none) j8 = some (ad (10 + j8)) ∧ COLe cT ad gg j8 0 0 (fun _ => 0) (fun _ => 0)) ∧ (∀ z8, (z8 < 10 ∨ (10 + 0 ≤ z8 ∧ z8 < 20) ∨ (20 + 0 ≤ z8 ∧ z8 < 30) ∨ 30 + 0 ≤ z8) → gg z8 = gg z8 ∧ ad z8 = ad z8) from ⟨by omega, fun j8 h => absurd h (by omega), fun _ _ => ⟨rfl, rfl⟩⟩) (lv_sub hl [1, 0] rfl) hP hD hS
  intro a9 hI23 ih23 ls H locs hl hP hD hS
  obtain ⟨i, qf, ad1, g1⟩ := a9
  have hI23 : i ≤ 6 ∧ (∀ j8, j8 < i → qf j8 = some (ad1 (10 + j8)) ∧ COLe cT ad1 g1 j8 0 0 (fun _ => 0) (fun _ => 0)) ∧ (∀ z8, (z8 < 10 ∨ (10 + i ≤ z8 ∧ z8 < 20) ∨ (20 + i ≤ z8 ∧ z8 < 30) ∨ 30 + i ≤ z8) → g1 z8 = gg z8 ∧ ad1 z8 = ad z8) := hI23
  refine W.widen (k := 2 + 3 * i) (n := 55 + 64 * i) (Nat.le_refl _) (Nat.le_refl _) ?_
  obtain ⟨ii, iW, iF⟩ := hI23
  have hl : lv_has ls 2 [(0, .ref h), (1, .int (nI i))] := hl
  have hP : va_P D vwCl ([(h, .inr (2, [.ref q7, .ref q16, .int 0, .int 0])), (q7, .inl (cT 5, 6, .inr (.inr (.inr (.inr qf))))), (q16, .inl (cT 0, 49, .inl (fun _ => 0)))] ++ pg cds ad1 g1) _ := hP
  have hD : va_D A ([(h, .inr (2, [.ref q7, .ref q16, .int 0, .int 0])), (q7, .inl (cT 5, 6, .inr (.inr (.inr (.inr qf))))), (q16, .inl (cT 0, 49, .inl (fun _ => 0)))] ++ pg cds ad1 g1) := hD
  refine lv_iload_n hx hb dT_init_23 rfl (lv_at hl 1 rfl) ?_
  refine lv_bipush (v := 6) hx hb dT_init_24 (by decide) ?_
  refine lv_icmp_ge (tgt := 48) hx hb dT_init_26 rfl (fun h1 => ?_) (fun h1 => ?_)
  · have gh1 : 6 ≤ i := (nI_leI (a := 6) (b := i) (by omega) (by omega)).mp h1
    have hP9 : va_P D vwCl ([(h, .inr (2, [.ref q7, .ref q16, .int 0, .int 0])), (q7, .inl (cT 5, 6, .inr (.inr (.inr (.inr qf))))), (q16, .inl (cT 0, 49, .inl (fun _ => 0)))] ++ pg cds ad1 g1) _ := hP.part (cx := [(h, .inr (2, [.ref q7, .ref q16, .int 0, .int 0])), (q7, .inl (cT 5, 6, .inr (.inr (.inr (.inr qf))))), (q16, .inl (cT 0, 49, .inl (fun _ => 0)))]) [0, 1, 2] rfl
    have hD9 : va_D A ([(h, .inr (2, [.ref q7, .ref q16, .int 0, .int 0])), (q7, .inl (cT 5, 6, .inr (.inr (.inr (.inr qf))))), (q16, .inl (cT 0, 49, .inl (fun _ => 0)))] ++ pg cds ad1 g1) := hD.part (cx := [(h, .inr (2, [.ref q7, .ref q16, .int 0, .int 0])), (q7, .inl (cT 5, 6, .inr (.inr (.inr (.inr qf))))), (q16, .inl (cT 0, 49, .inl (fun _ => 0)))]) [0, 1, 2] (by decide) rfl
    refine W.widen (k := 20) (n := 439) ((by show 2 + 3 * i ≤ 20; omega)) ((by show 55 + 64 * i ≤ 439; omega)) ?_
    exact W.vret hx hb hr (fun t9 ht9 hW9 => ⟨⟨(q7, q16, qf, ad1, g1), rfl, (show (∀ j8, j8 < 6 → qf j8 = some (ad1 (10 + j8)) ∧ COLe cT ad1 g1 j8 0 0 (fun _ => 0) (fun _ => 0)) ∧ (∀ z8, (z8 < 10 ∨ 40 ≤ z8) → g1 z8 = gg z8 ∧ ad1 z8 = ad z8) from (by obtain rfl : i = 6 := (by omega); exact ⟨iW, fun z8 hz => iF z8 (by omega)⟩)), by rw [ht9]; exact hP9, hD9⟩, hS.F ht9⟩) hS.2.2 dT_init_48
  · have gh1 : i < 6 := Nat.not_le.mp (fun q => h1 ((nI_leI (a := 6) (b := i) (by omega) (by omega)).mpr q))
    refine lv_aload_n hx hb dT_init_29 rfl (lv_at hl 0 rfl) ?_
    refine va_get (D := D) (ci := 2) (v := .ref q7) (C := R_T) (T := T_T) (N := 4) hx hb hT in_T hown hK hP 0 rfl rfl 0 (by decide) (hT _ w73) (fun _ h9 => h9) rfl dT_init_30 ?_
    refine lv_iload_n hx hb dT_init_33 rfl (lv_at hl 1 rfl) ?_
    refine va_new (ci := 1) (fs := [.null, .null, .int 0, .int 0]) (C := R_C) (T := T_C) (N := 4) hx hb hT in_C ty_C ty_C_ok hown (hT _ w43) (hT _ w45) (hT _ w3) hK hP hD hS hA rfl (fun j hj => match j, hj with | 0, _ => rfl | 1, _ => rfl | 2, _ => rfl | 3, _ => rfl | _ + 4, hj => absurd hj (by omega)) ((by show (2 + 3 * i) + 1 ≤ 20; omega)) ((by show (55 + 64 * i) + 4 ≤ 439; omega)) dT_init_34 (fun q34 H hP hD hS => ?_)
    have hP := hy_push hP
    have hD := hy_pushD hD
    have hP : va_P D vwCl ([(h, .inr (2, [.ref q7, .ref q16, .int 0, .int 0])), (q7, .inl (cT 5, 6, .inr (.inr (.inr (.inr qf))))), (q16, .inl (cT 0, 49, .inl (fun _ => 0))), (q34, .inr (1, [.null, .null, .int 0, .int 0]))] ++ pg cds ad1 g1) _ := hP
    have hD : va_D A ([(h, .inr (2, [.ref q7, .ref q16, .int 0, .int 0])), (q7, .inl (cT 5, 6, .inr (.inr (.inr (.inr qf))))), (q16, .inl (cT 0, 49, .inl (fun _ => 0))), (q34, .inr (1, [.null, .null, .int 0, .int 0]))] ++ pg cds ad1 g1) := hD
    refine lv_dup hx hb dT_init_37 rfl ?_
    refine hy_vQ (X := [(h, .inr (2, [.ref q7, .ref q16, .int 0, .int 0])), (q7, .inl (cT 5, 6, .inr (.inr (.inr (.inr qf))))), (q16, .inl (cT 0, 49, .inl (fun _ => 0))), (q34, .inr (1, [.null, .null, .int 0, .int 0]))]) (pl := pg cds ad1 g1) (cx := [(q34, .inr (1, [.null, .null, .int 0, .int 0]))]) (wr := [(h, .inr (2, [.ref q7, .ref q16, .int 0, .int 0])), (q7, .inl (cT 5, 6, .inr (.inr (.inr (.inr qf))))), (q16, .inl (cT 0, 49, .inl (fun _ => 0)))]) hP hD hS hA [3] [0, 1, 2] rfl rfl (by decide) (by decide) (va_runIN (As := []) (rest := [.ref q34, .int (nI i), .ref q7]) ⟨hx, hb, hml, hown, hT⟩ (k_ColumnX l D cT q34 _) ⟨va_cnB 0 hT (tb_gd w48) rfl rfl rfl (hZ.1.2.1 ("ResidualTrees$Table", 21, ⟨"ResidualTrees$Column", "<init>", "()V"⟩, "ResidualTrees") (List.mem_of_getElem? (i := 0) rfl)) (hT _ w3) hC_init ⟨Nat.le_of_ble_eq_true rfl, Nat.le_of_ble_eq_true rfl⟩, rfl, (hT _ w47)⟩ (RW.preS hZ hS (hy_free (cx := [(q34, .inr (1, [.null, .null, .int 0, .int 0]))]) hD hS hA [3] rfl) (hP.sub (ws' := [(q34, .inr (1, [.null, .null, .int 0, .int 0]))]) [3] rfl) hK (hD.sub (ws' := [(q34, .inr (1, [.null, .null, .int 0, .int 0]))]) [3] (by decide) rfl)) rfl rfl hl.1 rfl (lv_room (Nat.le_of_ble_eq_true rfl)) dT_init_38 ⟨(by show ((2 + 3 * i) + 1) + 2 ≤ 20; omega), (by show ((55 + 64 * i) + 4) + 60 ≤ 439; omega)⟩) (fun u9 H locs hpu2 hP hD hS => ?_)
    obtain ⟨nvu2, nqu2⟩ := u9
    have hpu2 : True := hpu2
    have hP : va_P D vwCl ([(h, .inr (2, [.ref q7, .ref q16, .int 0, .int 0])), (q7, .inl (cT 5, 6, .inr (.inr (.inr (.inr qf))))), (q16, .inl (cT 0, 49, .inl (fun _ => 0))), (q34, .inr (1, [.ref nvu2, .ref nqu2, .int 0, .int 0])), (nvu2, .inl (cT 0, 49, .inl (fun _ => 0))), (nqu2, .inl (cT 0, 11, .inl (fun _ => 0)))] ++ pg cds ad1 g1) _ := hP
    have hD : va_D A ([(h, .inr (2, [.ref q7, .ref q16, .int 0, .int 0])), (q7, .inl (cT 5, 6, .inr (.inr (.inr (.inr qf))))), (q16, .inl (cT 0, 49, .inl (fun _ => 0))), (q34, .inr (1, [.ref nvu2, .ref nqu2, .int 0, .int 0])), (nvu2, .inl (cT 0, 49, .inl (fun _ => 0))), (nqu2, .inl (cT 0, 11, .inl (fun _ => 0)))] ++ pg cds ad1 g1) := hD
    refine va_astq hx hb hK hP hD hS 1 5 3 1 rfl rfl rfl rfl (vp_in_nI (by omega) (by decide)) dT_init_41 (fun H locs hP hD hS => ?_)
    rw [nI_clamp (by omega)] at hP hD
    have hP : va_P D vwCl ([(h, .inr (2, [.ref q7, .ref q16, .int 0, .int 0])), (q7, .inl (cT 5, 6, .inr (.inr (.inr (.inr (va_up qf i (some q34))))))), (q16, .inl (cT 0, 49, .inl (fun _ => 0))), (q34, .inr (1, [.ref nvu2, .ref nqu2, .int 0, .int 0])), (nvu2, .inl (cT 0, 49, .inl (fun _ => 0))), (nqu2, .inl (cT 0, 11, .inl (fun _ => 0)))] ++ pg cds ad1 g1) _ := hP
    have hD : va_D A ([(h, .inr (2, [.ref q7, .ref q16, .int 0, .int 0])), (q7, .inl (cT 5, 6, .inr (.inr (.inr (.inr (va_up qf i (some q34))))))), (q16, .inl (cT 0, 49, .inl (fun _ => 0))), (q34, .inr (1, [.ref nvu2, .ref nqu2, .int 0, .int 0])), (nvu2, .inl (cT 0, 49, .inl (fun _ => 0))), (nqu2, .inl (cT 0, 11, .inl (fun _ => 0)))] ++ pg cds ad1 g1) := hD
    obtain ⟨ad2, had2⟩ : ∃ f9 : Nat → Nat, f9 = va_up (va_up (va_up ad1 (10 + i) q34) (20 + i) nvu2) (30 + i) nqu2 := ⟨_, rfl⟩
    have ead2_0 : ad2 (10 + i) = q34 := by rw [had2]; exact (va_up_ne _ _ (by omega)).trans ((va_up_ne _ _ (by omega)).trans (va_up_self _ _ _))
    have ead2_1 : ad2 (20 + i) = nvu2 := by rw [had2]; exact (va_up_ne _ _ (by omega)).trans (va_up_self _ _ _)
    have ead2_2 : ad2 (30 + i) = nqu2 := by rw [had2]; exact va_up_self _ _ _
    have aad2 : ∀ z8, z8 ≠ 10 + i → z8 ≠ 20 + i → z8 ≠ 30 + i → ad2 z8 = ad1 z8 := fun z8 n0 n1 n2 => by rw [had2]; exact (va_up_ne _ _ n2).trans ((va_up_ne _ _ n1).trans ((va_up_ne _ _ n0).trans (rfl)))
    have pad2 : pg cds ad2 g1 = pg cds ad1 g1 := by rw [had2]; exact (pg_ad ((iF (30 + i) (by omega)).1.trans (hno.2.2 i (by omega)))).trans ((pg_ad ((iF (20 + i) (by omega)).1.trans (hno.2.1 i (by omega)))).trans ((pg_ad ((iF (10 + i) (by omega)).1.trans (hno.1 i (by omega)))).trans (rfl)))
    have hw9 : ([(h, .inr (2, [.ref q7, .ref q16, .int 0, .int 0])), (q7, .inl (cT 5, 6, .inr (.inr (.inr (.inr (va_up qf i (some q34))))))), (q16, .inl (cT 0, 49, .inl (fun _ => 0))), (ad2 (10 + i), .inr (1, [.ref (ad2 (20 + i)), .ref (ad2 (30 + i)), .int 0, .int 0])), (ad2 (20 + i), .inl (cT 0, 49, .inl (fun _ => 0))), (ad2 (30 + i), .inl (cT 0, 11, .inl (fun _ => 0)))] ++ pg cds ad2 g1) = ([(h, .inr (2, [.ref q7, .ref q16, .int 0, .int 0])), (q7, .inl (cT 5, 6, .inr (.inr (.inr (.inr (va_up qf i (some q34))))))), (q16, .inl (cT 0, 49, .inl (fun _ => 0))), (q34, .inr (1, [.ref nvu2, .ref nqu2, .int 0, .int 0])), (nvu2, .inl (cT 0, 49, .inl (fun _ => 0))), (nqu2, .inl (cT 0, 11, .inl (fun _ => 0)))] ++ pg cds ad1 g1) := by rw [pad2, ead2_0, ead2_1, ead2_2]
    have hP := vP_eq hw9 hP
    have hD := vD_eq hw9 hD
    have hP : va_P D vwCl ([(h, .inr (2, [.ref q7, .ref q16, .int 0, .int 0])), (q7, .inl (cT 5, 6, .inr (.inr (.inr (.inr (va_up qf i (some q34))))))), (q16, .inl (cT 0, 49, .inl (fun _ => 0))), (ad2 (10 + i), .inr (1, [.ref (ad2 (20 + i)), .ref (ad2 (30 + i)), .int 0, .int 0])), (ad2 (20 + i), .inl (cT 0, 49, .inl (fun _ => 0))), (ad2 (30 + i), .inl (cT 0, 11, .inl (fun _ => 0)))] ++ pg cds ad2 g1) _ := hP
    have hD : va_D A ([(h, .inr (2, [.ref q7, .ref q16, .int 0, .int 0])), (q7, .inl (cT 5, 6, .inr (.inr (.inr (.inr (va_up qf i (some q34))))))), (q16, .inl (cT 0, 49, .inl (fun _ => 0))), (ad2 (10 + i), .inr (1, [.ref (ad2 (20 + i)), .ref (ad2 (30 + i)), .int 0, .int 0])), (ad2 (20 + i), .inl (cT 0, 49, .inl (fun _ => 0))), (ad2 (30 + i), .inl (cT 0, 11, .inl (fun _ => 0)))] ++ pg cds ad2 g1) := hD
    have hup : upo g1 [10 + i, 20 + i, 30 + i] = g1 := upo_nn (nn_c ((iF (10 + i) (by omega)).1.trans (hno.1 i (by omega))) (nn_c ((iF (20 + i) (by omega)).1.trans (hno.2.1 i (by omega))) (nn_c ((iF (30 + i) (by omega)).1.trans (hno.2.2 i (by omega))) nn_0)))
    have hw9 : ([(h, .inr (2, [.ref q7, .ref q16, .int 0, .int 0])), (q7, .inl (cT 5, 6, .inr (.inr (.inr (.inr (va_up qf i (some q34))))))), (q16, .inl (cT 0, 49, .inl (fun _ => 0))), (ad2 (10 + i), .inr (1, [.ref (ad2 (20 + i)), .ref (ad2 (30 + i)), .int 0, .int 0])), (ad2 (20 + i), .inl (cT 0, 49, .inl (fun _ => 0))), (ad2 (30 + i), .inl (cT 0, 11, .inl (fun _ => 0)))] ++ pg cds ad2 (upo g1 [10 + i, 20 + i, 30 + i])) = ([(h, .inr (2, [.ref q7, .ref q16, .int 0, .int 0])), (q7, .inl (cT 5, 6, .inr (.inr (.inr (.inr (va_up qf i (some q34))))))), (q16, .inl (cT 0, 49, .inl (fun _ => 0))), (ad2 (10 + i), .inr (1, [.ref (ad2 (20 + i)), .ref (ad2 (30 + i)), .int 0, .int 0])), (ad2 (20 + i), .inl (cT 0, 49, .inl (fun _ => 0))), (ad2 (30 + i), .inl (cT 0, 11, .inl (fun _ => 0)))] ++ pg cds ad2 g1) := by rw [hup]
    have hP := vP_eq hw9 hP
    have hD := vD_eq hw9 hD
    have hN9 := (show NDc [10 + i, 20 + i, 30 + i] from (nd_c (na_c (by omega) (na_c (by omega) na_0)) (nd_c (na_c (by omega) na_0) (nd_c na_0 nd_0))))
    have hP := gb_P (w9 := [(10 + i, .inr (1, [.ref (ad2 (20 + i)), .ref (ad2 (30 + i)), .int 0, .int 0])), (20 + i, .inl (cT 0, 49, .inl (fun _ => 0))), (30 + i, .inl (cT 0, 11, .inl (fun _ => 0)))]) (X := [(h, .inr (2, [.ref q7, .ref q16, .int 0, .int 0])), (q7, .inl (cT 5, 6, .inr (.inr (.inr (.inr (va_up qf i (some q34))))))), (q16, .inl (cT 0, 49, .inl (fun _ => 0)))]) (g := g1) hcd hN9 (show QB [(10 + i, .inr (1, [.ref (ad2 (20 + i)), .ref (ad2 (30 + i)), .int 0, .int 0])), (20 + i, .inl (cT 0, 49, .inl (fun _ => 0))), (30 + i, .inl (cT 0, 11, .inl (fun _ => 0)))] from (qb_c (by omega) (qb_c (by omega) (qb_c (by omega) qb_0)))) (hP.part (cx := [(h, .inr (2, [.ref q7, .ref q16, .int 0, .int 0])), (q7, .inl (cT 5, 6, .inr (.inr (.inr (.inr (va_up qf i (some q34))))))), (q16, .inl (cT 0, 49, .inl (fun _ => 0))), (ad2 (10 + i), .inr (1, [.ref (ad2 (20 + i)), .ref (ad2 (30 + i)), .int 0, .int 0])), (ad2 (20 + i), .inl (cT 0, 49, .inl (fun _ => 0))), (ad2 (30 + i), .inl (cT 0, 11, .inl (fun _ => 0)))]) [0, 1, 2, 3, 4, 5] rfl)
    have hD := gb_D (w9 := [(10 + i, .inr (1, [.ref (ad2 (20 + i)), .ref (ad2 (30 + i)), .int 0, .int 0])), (20 + i, .inl (cT 0, 49, .inl (fun _ => 0))), (30 + i, .inl (cT 0, 11, .inl (fun _ => 0)))]) (X := [(h, .inr (2, [.ref q7, .ref q16, .int 0, .int 0])), (q7, .inl (cT 5, 6, .inr (.inr (.inr (.inr (va_up qf i (some q34))))))), (q16, .inl (cT 0, 49, .inl (fun _ => 0)))]) (g := g1) hcd hN9 (show QB [(10 + i, .inr (1, [.ref (ad2 (20 + i)), .ref (ad2 (30 + i)), .int 0, .int 0])), (20 + i, .inl (cT 0, 49, .inl (fun _ => 0))), (30 + i, .inl (cT 0, 11, .inl (fun _ => 0)))] from (qb_c (by omega) (qb_c (by omega) (qb_c (by omega) qb_0)))) (hD.part (cx := [(h, .inr (2, [.ref q7, .ref q16, .int 0, .int 0])), (q7, .inl (cT 5, 6, .inr (.inr (.inr (.inr (va_up qf i (some q34))))))), (q16, .inl (cT 0, 49, .inl (fun _ => 0))), (ad2 (10 + i), .inr (1, [.ref (ad2 (20 + i)), .ref (ad2 (30 + i)), .int 0, .int 0])), (ad2 (20 + i), .inl (cT 0, 49, .inl (fun _ => 0))), (ad2 (30 + i), .inl (cT 0, 11, .inl (fun _ => 0)))]) [0, 1, 2, 3, 4, 5] (by decide) rfl)
    obtain ⟨g2, hg2⟩ : ∃ q9, q9 = ups g1 [(10 + i, .inr (1, [.ref (ad2 (20 + i)), .ref (ad2 (30 + i)), .int 0, .int 0])), (20 + i, .inl (cT 0, 49, .inl (fun _ => 0))), (30 + i, .inl (cT 0, 11, .inl (fun _ => 0)))] := ⟨_, rfl⟩
    rw [← hg2] at hP hD
    have hP : va_P D vwCl ([(h, .inr (2, [.ref q7, .ref q16, .int 0, .int 0])), (q7, .inl (cT 5, 6, .inr (.inr (.inr (.inr (va_up qf i (some q34))))))), (q16, .inl (cT 0, 49, .inl (fun _ => 0)))] ++ pg cds ad2 g2) _ := hP
    have hD : va_D A ([(h, .inr (2, [.ref q7, .ref q16, .int 0, .int 0])), (q7, .inl (cT 5, 6, .inr (.inr (.inr (.inr (va_up qf i (some q34))))))), (q16, .inl (cT 0, 49, .inl (fun _ => 0)))] ++ pg cds ad2 g2) := hD
    have fg2 : ∀ z8, z8 ≠ 10 + i → z8 ≠ 20 + i → z8 ≠ 30 + i → g2 z8 = g1 z8 := fun z8 z1 z2 z3 => by rw [hg2]; exact ups_k (kp_n z1 (kp_n z2 (kp_n z3 kp_0)))
    have g2_0 : g2 (10 + i) = some (.inr (1, [.ref (ad2 (20 + i)), .ref (ad2 (30 + i)), .int 0, .int 0])) := by rw [hg2]; exact ups_1
    have g2_1 : g2 (20 + i) = some (.inl (cT 0, 49, .inl (fun _ => 0))) := by rw [hg2]; exact ups_2 (by omega)
    have g2_2 : g2 (30 + i) = some (.inl (cT 0, 11, .inl (fun _ => 0))) := by rw [hg2]; exact ups_3 (by omega) (by omega)
    refine lv_iinc (k := 1) (v := nI (i + 1)) hx hb dT_init_42 hl rfl (nI_1 i) (by decide) rfl (fun ls hl => ?_)
    have hl : lv_has ls 2 [(1, .int (nI (i + 1))), (0, .ref h)] := hl
    refine lv_goto (tgt := 23) hx hb dT_init_45 rfl ?_
    refine W.widen (k := 2 + 3 * (i + 1)) (n := 55 + 64 * (i + 1)) (by show ((2 + 3 * i) + 1) + 2 ≤ 2 + 3 * (i + 1); omega) (by show ((55 + 64 * i) + 4) + 60 ≤ 55 + 64 * (i + 1); omega) ?_
    exact ih23 (i + 1, va_up qf i (some q34), ad2, g2) (show (i + 1) ≤ 6 ∧ (∀ j8, j8 < (i + 1) → (va_up qf i (some q34)) j8 = some (ad2 (10 + j8)) ∧ COLe cT ad2 g2 j8 0 0 (fun _ => 0) (fun _ => 0)) ∧ (∀ z8, (z8 < 10 ∨ (10 + (i + 1) ≤ z8 ∧ z8 < 20) ∨ (20 + (i + 1) ≤ z8 ∧ z8 < 30) ∨ 30 + (i + 1) ≤ z8) → g2 z8 = gg z8 ∧ ad2 z8 = ad z8) from ⟨by omega, fun j8 hj => (by by_cases e : j8 = i; (subst e; exact ⟨by rw [va_up_self, ead2_0], ⟨g2_0, g2_1, g2_2⟩⟩); (obtain ⟨e1, e2, e3, e4⟩ := iW j8 (by omega); exact ⟨by rw [va_up_ne _ _ e, aad2 _ (by omega) (by omega) (by omega)]; exact e1, ⟨by rw [aad2 _ (by omega) (by omega) (by omega), aad2 _ (by omega) (by omega) (by omega)]; exact (fg2 _ (by omega) (by omega) (by omega)).trans e2, (fg2 _ (by omega) (by omega) (by omega)).trans e3, (fg2 _ (by omega) (by omega) (by omega)).trans e4⟩⟩)), fun z8 hz => ⟨(fg2 z8 (by omega) (by omega) (by omega)).trans (iF z8 (by omega)).1, (aad2 z8 (by omega) (by omega) (by omega)).trans (iF z8 (by omega)).2⟩⟩) (show 6 - (i + 1) < 6 - i from (by omega)) ls H locs (lv_sub hl [1, 0] rfl) hP hD hS
