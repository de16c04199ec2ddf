set_option maxHeartbeats 4000000 in
set_option maxRecDepth 100000 in
theorem m_raise (l : Launch) (D : va_G) (cT : Nat → ClassId) (y : Nat) (yr : Nat → Nat) (yi : Nat → Int32) (ysb : Int64) (ybs : Int64) (fp : Nat → Int32) (a : Nat) (f : Nat → Int32) (z : Int) (lo : Nat) (gl : Nat → Int32) (to : Nat) (gt : Nat → Int32) (bb : Nat) (hPR : PRI fp) (hN : MN f z) (hL : LOK gl bb) (hT19 : LOK gt bb) (hbb : bb < 2 ^ 30) (hfit : z.natAbs * dn gt < 268435456 ^ 250) (sz : Nat) : Met l yM_raise WM_raise ({ frames := 2, cells := 0, slots := 0, locals := 49 } : Room) (RW D vwCl [.ref y, .ref a, .ref lo, .ref to] [(y, .inr (11, MO yr yi ysb ybs)), (yr 0, .inl (cT 0, 19, .inl fp)), (a, .inl (cT 0, 302, .inl f)), (lo, .inl (cT 0, 19, .inl gl)), (to, .inl (cT 0, 19, .inl gt))] (TY cT) sz) (va_Qv (fun u9 : Int × (Nat → Int32) × (Nat → Int32) => MN u9.2.1 u9.1 ∧ LOK u9.2.2 bb ∧ (∀ q8, q8 < 19 → dg u9.2.2 q8 = max (dg gl q8) (dg gt q8)) ∧ u9.1 * (dn gl : Int) = z * (dn u9.2.2 : Int)) (BW D vwCl (va_A [(y, .inr (11, MO yr yi ysb ybs)), (yr 0, .inl (cT 0, 19, .inl fp)), (a, .inl (cT 0, 302, .inl f)), (lo, .inl (cT 0, 19, .inl gl)), (to, .inl (cT 0, 19, .inl gt))] sz) (fun u9 : Int × (Nat → Int32) × (Nat → Int32) => [(y, .inr (11, MO yr yi ysb ybs)), (yr 0, .inl (cT 0, 19, .inl fp)), (a, .inl (cT 0, 302, .inl u9.2.1)), (lo, .inl (cT 0, 19, .inl u9.2.2)), (to, .inl (cT 0, 19, .inl gt))])) (va_A [(y, .inr (11, MO yr yi ysb ybs)), (yr 0, .inl (cT 0, 19, .inl fp)), (a, .inl (cT 0, 302, .inl f)), (lo, .inl (cT 0, 19, .inl gl)), (to, .inl (cT 0, 19, .inl gt))] sz)) 0 0 (va_A [(y, .inr (11, MO yr yi ysb ybs)), (yr 0, .inl (cT 0, 19, .inl fp)), (a, .inl (cT 0, 302, .inl f)), (lo, .inl (cT 0, 19, .inl gl)), (to, .inl (cT 0, 19, .inl gt))] sz) := by
  refine Met.ofW (cc := cM_raise) (maxL := 5) (ret := none) (by decide) rfl ?_
  intro p e s m args below meth c s₁ B hml hv
  obtain ⟨rfl, hsz, hZ, hP, hK, hD0⟩ := hv
  have hx := B.exec
  have hb := B.bytes
  have hr := B.returns
  have hts := atoms_spec (ws := WM_raise) B.pre
  have hT : ∀ w ∈ TB, w.before _ s = true := fun w h => hts w (List.mem_cons_of_mem _ h)
  have hown : s.vm.findClass R_M = some m.cls := findClass_of_methodNamed B.named
  have hlocks := B.notSynchronized
  subst hsz
  have hD := hD0.self (sz := s.heap.size)
  generalize hAe : va_A [(y, .inr (11, MO yr yi ysb ybs)), (yr 0, .inl (cT 0, 19, .inl fp)), (a, .inl (cT 0, 302, .inl f)), (lo, .inl (cT 0, 19, .inl gl)), (to, .inl (cT 0, 19, .inl gt))] s.heap.size = A at hD hZ ⊢
  have hA : ∀ q : Nat, s.heap.size ≤ q → A q := fun q h => by rw [← hAe]; exact Or.inr h
  have hS : va_S A s.heap s.heap [] := va_S.rf
  have hl := lv_entry ([.ref y, .ref a, .ref lo, .ref to]) (n := 5) (Nat.le_of_ble_eq_true rfl)
  rw [lg_entry_eq]
  generalize (lg_sl ([.ref y, .ref a, .ref lo, .ref to]) ++ List.replicate (5 - (lg_sl ([.ref y, .ref a, .ref lo, .ref to])).length) Slot.unset).toArray = ls at hl ⊢
  have hl : lv_has ls 5 [(0, .ref y), (1, .ref a), (2, .ref lo), (3, .ref to)] := hl
  refine lv_iconst (v := 0) hx hb dM_raise_0 (by decide) ?_
  refine lv_istore hx hb dM_raise_1 hl (by decide) rfl (fun ls hl => ?_)
  have hl : lv_has ls 5 [(4, .int 0), (0, .ref y), (1, .ref a), (2, .ref lo), (3, .ref to)] := hl
  refine lp_w (α := Nat × Int × (Nat → Int32) × (Nat → Int32)) (fun a9 => a9.1 ≤ 19 ∧ MN a9.2.2.1 a9.2.1 ∧ LOK a9.2.2.2 bb ∧ (∀ q, q < a9.1 → dg a9.2.2.2 q = max (dg gl q) (dg gt q)) ∧ (∀ q, a9.1 ≤ q → a9.2.2.2 q = gl q) ∧ a9.2.1 * (dn gl : Int) = z * (dn a9.2.2.2 : Int)) (fun a9 => 19 - a9.1) (fun a9 => [(0, .ref y), (1, .ref a), (2, .ref lo), (3, .ref to), (4, .int (nI a9.1))]) (fun a9 => [(y, .inr (11, MO yr yi ysb ybs)), (yr 0, .inl (cT 0, 19, .inl fp)), (a, .inl (cT 0, 302, .inl a9.2.2.1)), (lo, .inl (cT 0, 19, .inl a9.2.2.2)), (to, .inl (cT 0, 19, .inl gt))]) 3 ?_ (0, z, f, gl) (show 0 ≤ 19 ∧ MN f z ∧ LOK gl bb ∧ (∀ q, q < 0 → dg gl q = max (dg gl q) (dg gt q)) ∧ (∀ q, 0 ≤ q → gl q = gl q) ∧ z * (dn gl : Int) = z * (dn gl : Int) from ⟨by omega, hN, hL, fun q h => absurd h (by omega), fun _ _ => rfl, rfl⟩) (lv_sub hl [1, 2, 3, 4, 0] rfl) hP hD hS
  intro a9 hI3 ih3 ls H locs hl hP hD hS
  obtain ⟨i, z1, f1, g⟩ := a9
  have hI3 : i ≤ 19 ∧ MN f1 z1 ∧ LOK g bb ∧ (∀ q, q < i → dg g q = max (dg gl q) (dg gt q)) ∧ (∀ q, i ≤ q → g q = gl q) ∧ z1 * (dn gl : Int) = z * (dn g : Int) := hI3
  obtain ⟨ii, iN, iL, im, ig, iv⟩ := hI3
  have hl : lv_has ls 5 [(0, .ref y), (1, .ref a), (2, .ref lo), (3, .ref to), (4, .int (nI i))] := hl
  have hP : va_P D vwCl [(y, .inr (11, MO yr yi ysb ybs)), (yr 0, .inl (cT 0, 19, .inl fp)), (a, .inl (cT 0, 302, .inl f1)), (lo, .inl (cT 0, 19, .inl g)), (to, .inl (cT 0, 19, .inl gt))] _ := hP
  have hD : va_D A [(y, .inr (11, MO yr yi ysb ybs)), (yr 0, .inl (cT 0, 19, .inl fp)), (a, .inl (cT 0, 302, .inl f1)), (lo, .inl (cT 0, 19, .inl g)), (to, .inl (cT 0, 19, .inl gt))] := hD
  refine lv_iload hx hb dM_raise_3 (lv_at hl 4 rfl) ?_
  refine lv_bipush (v := 19) hx hb dM_raise_5 (by decide) ?_
  refine lv_icmp_ge (tgt := 49) hx hb dM_raise_7 rfl (fun h1 => ?_) (fun h1 => ?_)
  · have gh1 : 19 ≤ i := (nI_leI (a := 19) (b := i) (by omega) (by omega)).mp h1
    have ei : i = 19 := by omega
    subst ei
    have hP9 := hP.sub (ws' := [(y, .inr (11, MO yr yi ysb ybs)), (yr 0, .inl (cT 0, 19, .inl fp)), (a, .inl (cT 0, 302, .inl f1)), (lo, .inl (cT 0, 19, .inl g)), (to, .inl (cT 0, 19, .inl gt))]) [0, 1, 2, 3, 4] rfl
    have hD9 := hD.sub (ws' := [(y, .inr (11, MO yr yi ysb ybs)), (yr 0, .inl (cT 0, 19, .inl fp)), (a, .inl (cT 0, 302, .inl f1)), (lo, .inl (cT 0, 19, .inl g)), (to, .inl (cT 0, 19, .inl gt))]) [0, 1, 2, 3, 4] (by decide) rfl
    refine W.widen (k := 0) (n := 0) (Nat.le_of_ble_eq_true rfl) (Nat.le_of_ble_eq_true rfl) ?_
    exact W.vret hx hb hr (fun t9 ht9 hW9 => ⟨⟨(z1, f1, g), rfl, (show MN f1 z1 ∧ LOK g bb ∧ (∀ q8, q8 < 19 → dg g q8 = max (dg gl q8) (dg gt q8)) ∧ z1 * (dn gl : Int) = z * (dn g : Int) from ⟨iN, iL, im, iv⟩), by rw [ht9]; exact hP9, hD9⟩, hS.F ht9⟩) hS.2.2 dM_raise_49
  · have gh1 : i < 19 := Nat.not_le.mp (fun q => h1 ((nI_leI (a := 19) (b := i) (by omega) (by omega)).mpr q))
    refine lp_w (α := Int × (Nat → Int32) × (Nat → Int32)) (fun a9 => MN a9.2.1 a9.1 ∧ LOK a9.2.2 bb ∧ (∀ q, q < i → dg a9.2.2 q = max (dg gl q) (dg gt q)) ∧ (∀ q, i < q → a9.2.2 q = gl q) ∧ dg gl i ≤ dg a9.2.2 i ∧ dg a9.2.2 i ≤ max (dg gl i) (dg gt i) ∧ a9.1 * (dn gl : Int) = z * (dn a9.2.2 : Int)) (fun a9 => dg gt i - dg a9.2.2 i) (fun a9 => [(0, .ref y), (1, .ref a), (2, .ref lo), (3, .ref to), (4, .int (nI i))]) (fun a9 => [(y, .inr (11, MO yr yi ysb ybs)), (yr 0, .inl (cT 0, 19, .inl fp)), (a, .inl (cT 0, 302, .inl a9.2.1)), (lo, .inl (cT 0, 19, .inl a9.2.2)), (to, .inl (cT 0, 19, .inl gt))]) 10 ?_ (z1, f1, g) (show MN f1 z1 ∧ LOK g bb ∧ (∀ q, q < i → dg g q = max (dg gl q) (dg gt q)) ∧ (∀ q, i < q → g q = gl q) ∧ dg gl i ≤ dg g i ∧ dg g i ≤ max (dg gl i) (dg gt i) ∧ z1 * (dn gl : Int) = z * (dn g : Int) from ⟨iN, iL, im, fun q h => ig q (by omega), by rw [dg_cg (ig i (Nat.le_refl _))]; exact Nat.le_refl _, by rw [dg_cg (ig i (Nat.le_refl _))]; omega, iv⟩) (lv_sub hl [0, 1, 2, 3, 4] rfl) hP hD hS
    intro a9 hI10 ih10 ls H locs hl hP hD hS
    obtain ⟨z2, f2, g2⟩ := a9
    have hI10 : MN f2 z2 ∧ LOK g2 bb ∧ (∀ q, q < i → dg g2 q = max (dg gl q) (dg gt q)) ∧ (∀ q, i < q → g2 q = gl q) ∧ dg gl i ≤ dg g2 i ∧ dg g2 i ≤ max (dg gl i) (dg gt i) ∧ z2 * (dn gl : Int) = z * (dn g2 : Int) := hI10
    obtain ⟨jN, jL, jm, jg, j1, j2, jv⟩ := hI10
    have hl : lv_has ls 5 [(0, .ref y), (1, .ref a), (2, .ref lo), (3, .ref to), (4, .int (nI i))] := hl
    have hP : va_P D vwCl [(y, .inr (11, MO yr yi ysb ybs)), (yr 0, .inl (cT 0, 19, .inl fp)), (a, .inl (cT 0, 302, .inl f2)), (lo, .inl (cT 0, 19, .inl g2)), (to, .inl (cT 0, 19, .inl gt))] _ := hP
    have hD : va_D A [(y, .inr (11, MO yr yi ysb ybs)), (yr 0, .inl (cT 0, 19, .inl fp)), (a, .inl (cT 0, 302, .inl f2)), (lo, .inl (cT 0, 19, .inl g2)), (to, .inl (cT 0, 19, .inl gt))] := hD
    have hgi := jL i (by omega)
    have hti := hT19 i (by omega)
    have hpb := pr_b i (by omega)
    refine lv_aload_n hx hb dM_raise_10 rfl (lv_at hl 2 rfl) ?_
    refine lv_iload hx hb dM_raise_11 (lv_at hl 4 rfl) ?_
    refine lq_iald (j := i) hx hb hK hP 3 0 rfl rfl rfl (by omega) (by omega) dM_raise_13 ?_
    refine lv_topi (fun y9 e9 => ?_)
    cases (show y9 = nI (dg g2 i) from e9.trans hgi.1)
    refine lv_aload_n hx hb dM_raise_14 rfl (lv_at hl 3 rfl) ?_
    refine lv_iload hx hb dM_raise_15 (lv_at hl 4 rfl) ?_
    refine lq_iald (j := i) hx hb hK hP 4 0 rfl rfl rfl (by omega) (by omega) dM_raise_17 ?_
    refine lv_topi (fun y9 e9 => ?_)
    cases (show y9 = nI (dg gt i) from e9.trans hti.1)
    refine lv_icmp_ge (tgt := 43) hx hb dM_raise_18 rfl (fun h2 => ?_) (fun h2 => ?_)
    · have gh2 : dg gt i ≤ dg g2 i := (nI_leI (a := dg gt i) (b := dg g2 i) (by omega) (by omega)).mp h2
      refine lv_iinc (k := 4) (v := nI (i + 1)) hx hb dM_raise_43 hl rfl (nI_1 i) (by decide) rfl (fun ls hl => ?_)
      have hl : lv_has ls 5 [(4, .int (nI (i + 1))), (0, .ref y), (1, .ref a), (2, .ref lo), (3, .ref to)] := hl
      refine lv_goto (tgt := 3) hx hb dM_raise_46 rfl ?_
      exact ih3 (i + 1, z2, f2, g2) (show (i + 1) ≤ 19 ∧ MN f2 z2 ∧ LOK g2 bb ∧ (∀ q, q < (i + 1) → dg g2 q = max (dg gl q) (dg gt q)) ∧ (∀ q, (i + 1) ≤ q → g2 q = gl q) ∧ z2 * (dn gl : Int) = z * (dn g2 : Int) from ⟨by omega, jN, jL, fun q h => (by by_cases r : q = i; (subst r; omega); (exact jm q (by omega))), fun q h => jg q (by omega), jv⟩) (show 19 - (i + 1) < 19 - i from (by omega)) ls H locs (lv_sub hl [1, 2, 3, 4, 0] rfl) hP hD hS
    · have gh2 : dg g2 i < dg gt i := Nat.not_le.mp (fun q => h2 ((nI_leI (a := dg gt i) (b := dg g2 i) (by omega) (by omega)).mpr q))
      have hle : dn g2 * pr i ≤ dn gl * dn gt := by
        have q0 := dnk_le (e := dg (upd g2 i (nI (dg g2 i + 1)))) (e1 := dg gl) (e2 := dg gt) (Nat.le_refl 19) (fun q hq => by
          rcases Nat.lt_trichotomy q i with r | r | r
          · rw [dg_un (by omega), jm q r]; exact max_le2
          · subst r; rw [dg_us (by omega)]; omega
          · rw [dg_un (by omega), dg_cg (jg q r)]; omega)
        rw [show dnk (dg (upd g2 i (nI (dg g2 i + 1)))) 19 = dn g2 * pr i from dn_inc (by omega) (by omega)] at q0
        exact q0
      have hft : z2.natAbs * pr i < 268435456 ^ 250 := by
        have q1 := fr_le (rs_s (p := pr i) jv) dn_pos hle
        rw [Int.natAbs_mul, Int.natAbs_natCast] at q1
        exact Nat.lt_of_le_of_lt q1 hfit
      refine lv_aload_n hx hb dM_raise_21 rfl (lv_at hl 1 rfl) ?_
      refine lv_aload_n hx hb dM_raise_22 rfl (lv_at hl 0 rfl) ?_
      refine va_get (D := D) (ci := 11) (v := .ref (yr 0)) (C := R_M) (T := T_M) (N := 60) hx hb hT in_M hown hK hP 0 rfl rfl 0 (by decide) (hT _ w1104) (fun _ h9 => h9) rfl dM_raise_23 ?_
      refine lv_iload hx hb dM_raise_26 (lv_at hl 4 rfl) ?_
      refine lq_iald (j := i) hx hb hK hP 1 0 rfl rfl rfl (by omega) (by omega) dM_raise_28 ?_
      refine lv_topi (fun y9 e9 => ?_)
      cases (show y9 = nI (pr i) from e9.trans (hPR i (by omega)))
      refine rw_v (wc := [(a, .inl (cT 0, 302, .inl f2))]) (wr := [(y, .inr (11, MO yr yi ysb ybs)), (yr 0, .inl (cT 0, 19, .inl fp)), (lo, .inl (cT 0, 19, .inl g2)), (to, .inl (cT 0, 19, .inl gt))]) hP hD hS hA [2] [0, 1, 3, 4] rfl rfl (by decide) (by decide) (va_runS (As := [.ref a, .int (nI (pr i))]) (rest := []) ⟨hx, hb, hml, hown, hT⟩ (m_times l D cT a f2 z2 (pr i) jN (by omega) (by omega) hft _) ⟨callB_of 2 hT (tb_gd w1417) rfl rfl rfl (hT _ w13) (hT _ w1415) hM_times ⟨Nat.le_of_ble_eq_true rfl, Nat.le_of_ble_eq_true rfl⟩, (hT _ w1416)⟩ (RW.preS hZ hS (va_free (wc := [(a, .inl (cT 0, 302, .inl f2))]) hD hS hA [2] rfl) (hP.sub (ws' := [(a, .inl (cT 0, 302, .inl f2))]) [2] rfl) hK (hD.sub (ws' := [(a, .inl (cT 0, 302, .inl f2))]) [2] (by decide) rfl)) rfl rfl hl.1 rfl (lv_room (Nat.le_of_ble_eq_true rfl)) dM_raise_29 ⟨Nat.le_of_ble_eq_true rfl, Nat.le_of_ble_eq_true rfl⟩) (fun u9 H locs hpu3 hP hD hS => ?_)
      obtain ⟨f1u3, rfl⟩ : ∃ q9, q9 = u9 := ⟨_, rfl⟩
      have hpu3 : MN f1u3 (z2 * (pr i)) := hpu3
      have hP : va_P D vwCl [(y, .inr (11, MO yr yi ysb ybs)), (yr 0, .inl (cT 0, 19, .inl fp)), (lo, .inl (cT 0, 19, .inl g2)), (to, .inl (cT 0, 19, .inl gt)), (a, .inl (cT 0, 302, .inl f1u3))] _ := hP
      have hD : va_D A [(y, .inr (11, MO yr yi ysb ybs)), (yr 0, .inl (cT 0, 19, .inl fp)), (lo, .inl (cT 0, 19, .inl g2)), (to, .inl (cT 0, 19, .inl gt)), (a, .inl (cT 0, 302, .inl f1u3))] := hD
      refine lv_aload_n hx hb dM_raise_32 rfl (lv_at hl 2 rfl) ?_
      refine lv_iload hx hb dM_raise_33 (lv_at hl 4 rfl) ?_
      refine lv_dup2_11 hx hb dM_raise_35 rfl rfl ?_
      refine lq_iald (j := i) hx hb hK hP 2 0 rfl rfl rfl (by omega) (by omega) dM_raise_36 ?_
      refine lv_topi (fun y9 e9 => ?_)
      cases (show y9 = nI (dg g2 i) from e9.trans hgi.1)
      refine lv_iconst (v := 1) hx hb dM_raise_37 (by decide) ?_
      refine lv_iadd hx hb dM_raise_38 ?_
      refine lv_topi (fun y9 e9 => ?_)
      cases (show y9 = nI ((dg g2 i) + 1) from e9.trans (nI_add (dg g2 i) 1))
      refine lq_iast (j := i) hx hb hK hP hD hS 2 0 rfl rfl rfl (by omega) (by omega) dM_raise_39 (fun H locs hP hD hS => ?_)
      have hP : va_P D vwCl [(y, .inr (11, MO yr yi ysb ybs)), (yr 0, .inl (cT 0, 19, .inl fp)), (lo, .inl (cT 0, 19, .inl (upd g2 i (nI ((dg g2 i) + 1))))), (to, .inl (cT 0, 19, .inl gt)), (a, .inl (cT 0, 302, .inl f1u3))] _ := hP
      have hD : va_D A [(y, .inr (11, MO yr yi ysb ybs)), (yr 0, .inl (cT 0, 19, .inl fp)), (lo, .inl (cT 0, 19, .inl (upd g2 i (nI ((dg g2 i) + 1))))), (to, .inl (cT 0, 19, .inl gt)), (a, .inl (cT 0, 302, .inl f1u3))] := hD
      refine lv_goto (tgt := 10) hx hb dM_raise_40 rfl ?_
      exact ih10 (z2 * (pr i : Int), f1u3, upd g2 i (nI (dg g2 i + 1))) (show MN f1u3 (z2 * (pr i : Int)) ∧ LOK (upd g2 i (nI (dg g2 i + 1))) bb ∧ (∀ q, q < i → dg (upd g2 i (nI (dg g2 i + 1))) q = max (dg gl q) (dg gt q)) ∧ (∀ q, i < q → (upd g2 i (nI (dg g2 i + 1))) q = gl q) ∧ dg gl i ≤ dg (upd g2 i (nI (dg g2 i + 1))) i ∧ dg (upd g2 i (nI (dg g2 i + 1))) i ≤ max (dg gl i) (dg gt i) ∧ (z2 * (pr i : Int)) * (dn gl : Int) = z * (dn (upd g2 i (nI (dg g2 i + 1))) : Int) from ⟨hpu3, lok_up jL (by omega) (Nat.le_refl _) (by omega), fun q h => (dg_un (by omega)).trans (jm q h), fun q h => (pk_un (by omega)).trans (jg q h), by rw [dg_us (by omega)]; omega, by rw [dg_us (by omega)]; omega, by rw [dn_inc (by omega) (by omega)]; exact rs_s jv⟩) (show dg gt i - dg (upd g2 i (nI (dg g2 i + 1))) i < dg gt i - dg g2 i from (by rw [dg_us (by omega)]; omega)) ls H locs (lv_sub hl [0, 1, 2, 3, 4] rfl) (hP.sub (ws' := [(y, .inr (11, MO yr yi ysb ybs)), (yr 0, .inl (cT 0, 19, .inl fp)), (a, .inl (cT 0, 302, .inl f1u3)), (lo, .inl (cT 0, 19, .inl (upd g2 i (nI ((dg g2 i) + 1))))), (to, .inl (cT 0, 19, .inl gt))]) [0, 1, 4, 2, 3] rfl) (hD.sub (ws' := [(y, .inr (11, MO yr yi ysb ybs)), (yr 0, .inl (cT 0, 19, .inl fp)), (a, .inl (cT 0, 302, .inl f1u3)), (lo, .inl (cT 0, 19, .inl (upd g2 i (nI ((dg g2 i) + 1))))), (to, .inl (cT 0, 19, .inl gt))]) [0, 1, 4, 2, 3] (by decide) rfl) hS
set_option maxHeartbeats 4000000 in
set_option maxRecDepth 100000 in
theorem m_reduce (l : Launch) (D : va_G) (cT : Nat → ClassId) (y : Nat) (yr : Nat → Nat) (yi : Nat → Int32) (ysb : Int64) (ybs : Int64) (fp : Nat → Int32) (a : Nat) (f : Nat → Int32) (z : Int) (lo : Nat) (gl : Nat → Int32) (bb : Nat) (hPR : PRI fp) (hN : MN f z) (hL : LOK gl bb) (hbb : bb < 2 ^ 30) (sz : Nat) : Met l yM_reduce WM_reduce ({ frames := 2, cells := 0, slots := 0, locals := 48 } : Room) (RW D vwCl [.ref y, .ref a, .ref lo] [(y, .inr (11, MO yr yi ysb ybs)), (yr 0, .inl (cT 0, 19, .inl fp)), (a, .inl (cT 0, 302, .inl f)), (lo, .inl (cT 0, 19, .inl gl))] (TY cT) sz) (va_Qv (fun u9 : Int × (Nat → Int32) × (Nat → Int32) => MN u9.2.1 u9.1 ∧ LOK u9.2.2 bb ∧ RED u9.1 u9.2.2 ∧ u9.1 * (dn gl : Int) = z * (dn u9.2.2 : Int)) (BW D vwCl (va_A [(y, .inr (11, MO yr yi ysb ybs)), (yr 0, .inl (cT 0, 19, .inl fp)), (a, .inl (cT 0, 302, .inl f)), (lo, .inl (cT 0, 19, .inl gl))] sz) (fun u9 : Int × (Nat → Int32) × (Nat → Int32) => [(y, .inr (11, MO yr yi ysb ybs)), (yr 0, .inl (cT 0, 19, .inl fp)), (a, .inl (cT 0, 302, .inl u9.2.1)), (lo, .inl (cT 0, 19, .inl u9.2.2))])) (va_A [(y, .inr (11, MO yr yi ysb ybs)), (yr 0, .inl (cT 0, 19, .inl fp)), (a, .inl (cT 0, 302, .inl f)), (lo, .inl (cT 0, 19, .inl gl))] sz)) 0 0 (va_A [(y, .inr (11, MO yr yi ysb ybs)), (yr 0, .inl (cT 0, 19, .inl fp)), (a, .inl (cT 0, 302, .inl f)), (lo, .inl (cT 0, 19, .inl gl))] sz) := by
  refine Met.ofW (cc := cM_reduce) (maxL := 5) (ret := none) (by decide) rfl ?_
  intro p e s m args below meth c s₁ B hml hv
  obtain ⟨rfl, hsz, hZ, hP, hK, hD0⟩ := hv
  have hx := B.exec
  have hb := B.bytes
  have hr := B.returns
  have hts := atoms_spec (ws := WM_reduce) B.pre
  have hT : ∀ w ∈ TB, w.before _ s = true := fun w h => hts w (List.mem_cons_of_mem _ h)
  have hown : s.vm.findClass R_M = some m.cls := findClass_of_methodNamed B.named
  have hlocks := B.notSynchronized
  subst hsz
  have hD := hD0.self (sz := s.heap.size)
  generalize hAe : va_A [(y, .inr (11, MO yr yi ysb ybs)), (yr 0, .inl (cT 0, 19, .inl fp)), (a, .inl (cT 0, 302, .inl f)), (lo, .inl (cT 0, 19, .inl gl))] s.heap.size = A at hD hZ ⊢
  have hA : ∀ q : Nat, s.heap.size ≤ q → A q := fun q h => by rw [← hAe]; exact Or.inr h
  have hS : va_S A s.heap s.heap [] := va_S.rf
  have hl := lv_entry ([.ref y, .ref a, .ref lo]) (n := 5) (Nat.le_of_ble_eq_true rfl)
  rw [lg_entry_eq]
  generalize (lg_sl ([.ref y, .ref a, .ref lo]) ++ List.replicate (5 - (lg_sl ([.ref y, .ref a, .ref lo])).length) Slot.unset).toArray = ls at hl ⊢
  have hl : lv_has ls 5 [(0, .ref y), (1, .ref a), (2, .ref lo)] := hl
  refine lv_iconst (v := 0) hx hb dM_reduce_0 (by decide) ?_
  refine lv_istore_n hx hb dM_reduce_1 rfl hl (by decide) rfl (fun ls hl => ?_)
  have hl : lv_has ls 5 [(3, .int 0), (0, .ref y), (1, .ref a), (2, .ref lo)] := hl
  refine lp_w (α := Nat × Int × (Nat → Int32) × (Nat → Int32)) (fun a9 => a9.1 ≤ 19 ∧ MN a9.2.2.1 a9.2.1 ∧ LOK a9.2.2.2 bb ∧ (∀ q, q < a9.1 → dg a9.2.2.2 q = 0 ∨ ¬ a9.2.1.natAbs % pr q = 0) ∧ a9.2.1 * (dn gl : Int) = z * (dn a9.2.2.2 : Int)) (fun a9 => 19 - a9.1) (fun a9 => [(0, .ref y), (1, .ref a), (2, .ref lo), (3, .int (nI a9.1))]) (fun a9 => [(y, .inr (11, MO yr yi ysb ybs)), (yr 0, .inl (cT 0, 19, .inl fp)), (a, .inl (cT 0, 302, .inl a9.2.2.1)), (lo, .inl (cT 0, 19, .inl a9.2.2.2))]) 2 ?_ (0, z, f, gl) (show 0 ≤ 19 ∧ MN f z ∧ LOK gl bb ∧ (∀ q, q < 0 → dg gl q = 0 ∨ ¬ z.natAbs % pr q = 0) ∧ z * (dn gl : Int) = z * (dn gl : Int) from ⟨by omega, hN, hL, fun q h => absurd h (by omega), rfl⟩) (lv_sub hl [1, 2, 3, 0] rfl) hP hD hS
  intro a9 hI2 ih2 ls H locs hl hP hD hS
  obtain ⟨i, z1, f1, g⟩ := a9
  have hI2 : i ≤ 19 ∧ MN f1 z1 ∧ LOK g bb ∧ (∀ q, q < i → dg g q = 0 ∨ ¬ z1.natAbs % pr q = 0) ∧ z1 * (dn gl : Int) = z * (dn g : Int) := hI2
  obtain ⟨ii, iN, iL, im, iv⟩ := hI2
  have hl : lv_has ls 5 [(0, .ref y), (1, .ref a), (2, .ref lo), (3, .int (nI i))] := hl
  have hP : va_P D vwCl [(y, .inr (11, MO yr yi ysb ybs)), (yr 0, .inl (cT 0, 19, .inl fp)), (a, .inl (cT 0, 302, .inl f1)), (lo, .inl (cT 0, 19, .inl g))] _ := hP
  have hD : va_D A [(y, .inr (11, MO yr yi ysb ybs)), (yr 0, .inl (cT 0, 19, .inl fp)), (a, .inl (cT 0, 302, .inl f1)), (lo, .inl (cT 0, 19, .inl g))] := hD
  refine lv_iload_n hx hb dM_reduce_2 rfl (lv_at hl 3 rfl) ?_
  refine lv_bipush (v := 19) hx hb dM_reduce_3 (by decide) ?_
  refine lv_icmp_ge (tgt := 67) hx hb dM_reduce_5 rfl (fun h1 => ?_) (fun h1 => ?_)
  · have gh1 : 19 ≤ i := (nI_leI (a := 19) (b := i) (by omega) (by omega)).mp h1
    have ei : i = 19 := by omega
    subst ei
    have hP9 := hP.sub (ws' := [(y, .inr (11, MO yr yi ysb ybs)), (yr 0, .inl (cT 0, 19, .inl fp)), (a, .inl (cT 0, 302, .inl f1)), (lo, .inl (cT 0, 19, .inl g))]) [0, 1, 2, 3] rfl
    have hD9 := hD.sub (ws' := [(y, .inr (11, MO yr yi ysb ybs)), (yr 0, .inl (cT 0, 19, .inl fp)), (a, .inl (cT 0, 302, .inl f1)), (lo, .inl (cT 0, 19, .inl g))]) [0, 1, 2, 3] (by decide) rfl
    refine W.widen (k := 0) (n := 0) (Nat.le_of_ble_eq_true rfl) (Nat.le_of_ble_eq_true rfl) ?_
    exact W.vret hx hb hr (fun t9 ht9 hW9 => ⟨⟨(z1, f1, g), rfl, (show MN f1 z1 ∧ LOK g bb ∧ RED z1 g ∧ z1 * (dn gl : Int) = z * (dn g : Int) from ⟨iN, iL, im, iv⟩), by rw [ht9]; exact hP9, hD9⟩, hS.F ht9⟩) hS.2.2 dM_reduce_67
  · have gh1 : i < 19 := Nat.not_le.mp (fun q => h1 ((nI_leI (a := 19) (b := i) (by omega) (by omega)).mpr q))
    refine lp_w (α := Int × (Nat → Int32) × (Nat → Int32)) (fun a9 => MN a9.2.1 a9.1 ∧ LOK a9.2.2 bb ∧ (∀ q, q < i → dg a9.2.2 q = 0 ∨ ¬ a9.1.natAbs % pr q = 0) ∧ a9.1 * (dn gl : Int) = z * (dn a9.2.2 : Int)) (fun a9 => dg a9.2.2 i) (fun a9 => [(0, .ref y), (1, .ref a), (2, .ref lo), (3, .int (nI i))]) (fun a9 => [(y, .inr (11, MO yr yi ysb ybs)), (yr 0, .inl (cT 0, 19, .inl fp)), (a, .inl (cT 0, 302, .inl a9.2.1)), (lo, .inl (cT 0, 19, .inl a9.2.2))]) 8 ?_ (z1, f1, g) (show MN f1 z1 ∧ LOK g bb ∧ (∀ q, q < i → dg g q = 0 ∨ ¬ z1.natAbs % pr q = 0) ∧ z1 * (dn gl : Int) = z * (dn g : Int) from ⟨iN, iL, im, iv⟩) (lv_sub hl [0, 1, 2, 3] rfl) hP hD hS
    intro a9 hI8 ih8 ls H locs hl hP hD hS
    obtain ⟨z2, f2, g2⟩ := a9
    have hI8 : MN f2 z2 ∧ LOK g2 bb ∧ (∀ q, q < i → dg g2 q = 0 ∨ ¬ z2.natAbs % pr q = 0) ∧ z2 * (dn gl : Int) = z * (dn g2 : Int) := hI8
    obtain ⟨jN, jL, jm, jv⟩ := hI8
    have hl : lv_has ls 5 [(0, .ref y), (1, .ref a), (2, .ref lo), (3, .int (nI i))] := hl
    have hP : va_P D vwCl [(y, .inr (11, MO yr yi ysb ybs)), (yr 0, .inl (cT 0, 19, .inl fp)), (a, .inl (cT 0, 302, .inl f2)), (lo, .inl (cT 0, 19, .inl g2))] _ := hP
    have hD : va_D A [(y, .inr (11, MO yr yi ysb ybs)), (yr 0, .inl (cT 0, 19, .inl fp)), (a, .inl (cT 0, 302, .inl f2)), (lo, .inl (cT 0, 19, .inl g2))] := hD
    have hgi := jL i (by omega)
    have hpb := pr_b i (by omega)
    refine lv_aload_n hx hb dM_reduce_8 rfl (lv_at hl 2 rfl) ?_
    refine lv_iload_n hx hb dM_reduce_9 rfl (lv_at hl 3 rfl) ?_
    refine lq_iald (j := i) hx hb hK hP 3 0 rfl rfl rfl (by omega) (by omega) dM_reduce_10 ?_
    refine lv_topi (fun y9 e9 => ?_)
    cases (show y9 = nI (dg g2 i) from e9.trans hgi.1)
    refine lv_if_le (tgt := 61) hx hb dM_reduce_11 rfl (fun h2 => ?_) (fun h2 => ?_)
    · have gh2 : dg g2 i ≤ 0 := (nI_leI (a := dg g2 i) (b := 0) (by omega) (by omega)).mp h2
      have hend : dg g2 i = 0 ∨ ¬ z2.natAbs % pr i = 0 := by omega
      refine lv_iinc (k := 3) (v := nI (i + 1)) hx hb dM_reduce_61 hl rfl (nI_1 i) (by decide) rfl (fun ls hl => ?_)
      have hl : lv_has ls 5 [(3, .int (nI (i + 1))), (0, .ref y), (1, .ref a), (2, .ref lo)] := hl
      refine lv_goto (tgt := 2) hx hb dM_reduce_64 rfl ?_
      exact ih2 (i + 1, z2, f2, g2) (show (i + 1) ≤ 19 ∧ MN f2 z2 ∧ LOK g2 bb ∧ (∀ q, q < (i + 1) → dg g2 q = 0 ∨ ¬ z2.natAbs % pr q = 0) ∧ z2 * (dn gl : Int) = z * (dn g2 : Int) from ⟨by omega, jN, jL, fun q h => (by by_cases r : q = i; (subst r; exact hend); (exact jm q (by omega))), jv⟩) (show 19 - (i + 1) < 19 - i from (by omega)) ls H locs (lv_sub hl [1, 2, 3, 0] rfl) hP hD hS
    · have gh2 : 0 < dg g2 i := Nat.not_le.mp (fun q => h2 ((nI_leI (a := dg g2 i) (b := 0) (by omega) (by omega)).mpr q))
      refine lv_aload_n hx hb dM_reduce_14 rfl (lv_at hl 1 rfl) ?_
      refine lv_aload_n hx hb dM_reduce_15 rfl (lv_at hl 0 rfl) ?_
      refine va_get (D := D) (ci := 11) (v := .ref (yr 0)) (C := R_M) (T := T_M) (N := 60) hx hb hT in_M hown hK hP 0 rfl rfl 0 (by decide) (hT _ w1104) (fun _ h9 => h9) rfl dM_reduce_16 ?_
      refine lv_iload_n hx hb dM_reduce_19 rfl (lv_at hl 3 rfl) ?_
      refine lq_iald (j := i) hx hb hK hP 1 0 rfl rfl rfl (by omega) (by omega) dM_reduce_20 ?_
      refine lv_topi (fun y9 e9 => ?_)
      cases (show y9 = nI (pr i) from e9.trans (hPR i (by omega)))
      refine ro_i (va_Run.run (va_runS (As := [.ref a, .int (nI (pr i))]) (rest := []) ⟨hx, hb, hml, hown, hT⟩ (m_rest l D cT a f2 z2 (pr i) jN (by omega) (by omega)) ⟨callB_of 2 hT (tb_gd w1443) rfl rfl rfl (hT _ w13) (hT _ w1441) hM_rest ⟨Nat.le_of_ble_eq_true rfl, Nat.le_of_ble_eq_true rfl⟩, (hT _ w1442)⟩ (RO.preS hZ hS (hP.sub (ws' := [(a, .inl (cT 0, 302, .inl f2))]) [2] rfl) hK) rfl rfl hl.1 rfl (lv_room (Nat.le_of_ble_eq_true rfl)) dM_reduce_21 ⟨Nat.le_of_ble_eq_true rfl, Nat.le_of_ble_eq_true rfl⟩)) ?_
      refine lv_if_ne (tgt := 61) hx hb dM_reduce_24 rfl (fun h3 => ?_) (fun h3 => ?_)
      · have gh3 : ¬ (z2.natAbs % (pr i) = 0) := fun q => h3 (congrArg nI q)
        have hend : dg g2 i = 0 ∨ ¬ z2.natAbs % pr i = 0 := by omega
        refine lv_iinc (k := 3) (v := nI (i + 1)) hx hb dM_reduce_61 hl rfl (nI_1 i) (by decide) rfl (fun ls hl => ?_)
        have hl : lv_has ls 5 [(3, .int (nI (i + 1))), (0, .ref y), (1, .ref a), (2, .ref lo)] := hl
        refine lv_goto (tgt := 2) hx hb dM_reduce_64 rfl ?_
        exact ih2 (i + 1, z2, f2, g2) (show (i + 1) ≤ 19 ∧ MN f2 z2 ∧ LOK g2 bb ∧ (∀ q, q < (i + 1) → dg g2 q = 0 ∨ ¬ z2.natAbs % pr q = 0) ∧ z2 * (dn gl : Int) = z * (dn g2 : Int) from ⟨by omega, jN, jL, fun q h => (by by_cases r : q = i; (subst r; exact hend); (exact jm q (by omega))), jv⟩) (show 19 - (i + 1) < 19 - i from (by omega)) ls H locs (lv_sub hl [1, 2, 3, 0] rfl) hP hD hS
      · have gh3 : z2.natAbs % (pr i) = 0 := (nI_eq (a := z2.natAbs % (pr i)) (b := 0) (by have q9 := Nat.mod_lt z2.natAbs (show 0 < pr i by omega); omega) (by decide)).mp h3
        have hre : z2.natAbs % pr i = 0 := by omega
        have jN2 := jN
        obtain ⟨K, h300, hk, hd, htop, hs, hva⟩ := jN2
        refine lv_aload_n hx hb dM_reduce_27 rfl (lv_at hl 2 rfl) ?_
        refine lv_iload_n hx hb dM_reduce_28 rfl (lv_at hl 3 rfl) ?_
        refine lv_dup2_11 hx hb dM_reduce_29 rfl rfl ?_
        refine lq_iald (j := i) hx hb hK hP 3 0 rfl rfl rfl (by omega) (by omega) dM_reduce_30 ?_
        refine lv_topi (fun y9 e9 => ?_)
        cases (show y9 = nI (dg g2 i) from e9.trans hgi.1)
        refine lv_iconst (v := 1) hx hb dM_reduce_31 (by decide) ?_
        refine lv_isub hx hb dM_reduce_32 ?_
        refine lv_topi (fun y9 e9 => ?_)
        cases (show y9 = nI ((dg g2 i) - 1) from e9.trans (pk_sub (a := dg g2 i) (b := 1) (by omega)))
        refine lq_iast (j := i) hx hb hK hP hD hS 3 0 rfl rfl rfl (by omega) (by omega) dM_reduce_33 (fun H locs hP hD hS => ?_)
        have hP : va_P D vwCl [(y, .inr (11, MO yr yi ysb ybs)), (yr 0, .inl (cT 0, 19, .inl fp)), (a, .inl (cT 0, 302, .inl f2)), (lo, .inl (cT 0, 19, .inl (upd g2 i (nI ((dg g2 i) - 1)))))] _ := hP
        have hD : va_D A [(y, .inr (11, MO yr yi ysb ybs)), (yr 0, .inl (cT 0, 19, .inl fp)), (a, .inl (cT 0, 302, .inl f2)), (lo, .inl (cT 0, 19, .inl (upd g2 i (nI ((dg g2 i) - 1)))))] := hD
        refine lv_aload_n hx hb dM_reduce_34 rfl (lv_at hl 1 rfl) ?_
        refine lv_sipush (v := 300) hx hb dM_reduce_35 (by decide) ?_
        refine lq_iald (j := 300) hx hb hK hP 2 0 rfl rfl rfl (by decide) (by decide) dM_reduce_38 ?_
        refine lv_topi (fun y9 e9 => ?_)
        cases (show y9 = nI K from e9.trans h300)
        refine lv_if_ne (tgt := 46) hx hb dM_reduce_39 rfl (fun h4 => ?_) (fun h4 => ?_)
        · have gh4 : ¬ (K = 0) := fun q => h4 (congrArg nI q)
          refine lv_aload_n hx hb dM_reduce_46 rfl (lv_at hl 1 rfl) ?_
          refine lv_aload_n hx hb dM_reduce_47 rfl (lv_at hl 0 rfl) ?_
          refine va_get (D := D) (ci := 11) (v := .ref (yr 0)) (C := R_M) (T := T_M) (N := 60) hx hb hT in_M hown hK hP 0 rfl rfl 0 (by decide) (hT _ w1104) (fun _ h9 => h9) rfl dM_reduce_48 ?_
          refine lv_iload_n hx hb dM_reduce_51 rfl (lv_at hl 3 rfl) ?_
          refine lq_iald (j := i) hx hb hK hP 1 0 rfl rfl rfl (by omega) (by omega) dM_reduce_52 ?_
          refine lv_topi (fun y9 e9 => ?_)
          cases (show y9 = nI (pr i) from e9.trans (hPR i (by omega)))
          refine rw_i (wc := [(a, .inl (cT 0, 302, .inl f2))]) (wr := [(y, .inr (11, MO yr yi ysb ybs)), (yr 0, .inl (cT 0, 19, .inl fp)), (lo, .inl (cT 0, 19, .inl (upd g2 i (nI ((dg g2 i) - 1)))))]) hP hD hS hA [2] [0, 1, 3] rfl rfl (by decide) (by decide) (va_runS (As := [.ref a, .int (nI (pr i))]) (rest := []) ⟨hx, hb, hml, hown, hT⟩ (m_divide l D cT a f2 z2 (pr i) jN (by omega) (by omega) _) ⟨callB_of 2 hT (tb_gd w1446) rfl rfl rfl (hT _ w13) (hT _ w1444) hM_divide ⟨Nat.le_of_ble_eq_true rfl, Nat.le_of_ble_eq_true rfl⟩, (hT _ w1445)⟩ (RW.preS hZ hS (va_free (wc := [(a, .inl (cT 0, 302, .inl f2))]) hD hS hA [2] rfl) (hP.sub (ws' := [(a, .inl (cT 0, 302, .inl f2))]) [2] rfl) hK (hD.sub (ws' := [(a, .inl (cT 0, 302, .inl f2))]) [2] (by decide) rfl)) rfl rfl hl.1 rfl (lv_room (Nat.le_of_ble_eq_true rfl)) dM_reduce_53 ⟨Nat.le_of_ble_eq_true rfl, Nat.le_of_ble_eq_true rfl⟩) (fun ru5 u9 H locs hpu5 hP hD hS => ?_)
          obtain ⟨f1u5, rfl⟩ : ∃ q9, q9 = u9 := ⟨_, rfl⟩
          have hpu5 : ru5 = nI (z2.natAbs % (pr i)) ∧ MN f1u5 (z2.tdiv (pr i)) := hpu5
          have hP : va_P D vwCl [(y, .inr (11, MO yr yi ysb ybs)), (yr 0, .inl (cT 0, 19, .inl fp)), (lo, .inl (cT 0, 19, .inl (upd g2 i (nI ((dg g2 i) - 1))))), (a, .inl (cT 0, 302, .inl f1u5))] _ := hP
          have hD : va_D A [(y, .inr (11, MO yr yi ysb ybs)), (yr 0, .inl (cT 0, 19, .inl fp)), (lo, .inl (cT 0, 19, .inl (upd g2 i (nI ((dg g2 i) - 1))))), (a, .inl (cT 0, 302, .inl f1u5))] := hD
          refine lv_istore hx hb dM_reduce_56 hl (by decide) rfl (fun ls hl => ?_)
          have hl : lv_has ls 5 [(4, .int ru5), (0, .ref y), (1, .ref a), (2, .ref lo), (3, .int (nI i))] := hl
          refine lv_goto (tgt := 8) hx hb dM_reduce_58 rfl ?_
          exact ih8 (z2.tdiv (pr i : Int), f1u5, upd g2 i (nI (dg g2 i - 1))) (show MN f1u5 (z2.tdiv (pr i : Int)) ∧ LOK (upd g2 i (nI (dg g2 i - 1))) bb ∧ (∀ q, q < i → dg (upd g2 i (nI (dg g2 i - 1))) q = 0 ∨ ¬ (z2.tdiv (pr i : Int)).natAbs % pr q = 0) ∧ (z2.tdiv (pr i : Int)) * (dn gl : Int) = z * (dn (upd g2 i (nI (dg g2 i - 1))) : Int) from ⟨hpu5.2, lok_up jL (by omega) (Nat.le_refl _) (by omega), fun q h => (by rw [dg_un (show q ≠ i by omega)]; exact (jm q h).imp id (fun r => by rw [Int.natAbs_tdiv]; exact md_part hre r)), rd_s (p := pr i) (by omega) (by rw [← dn_dec (by omega) (by omega) (by omega)]; exact jv) (td_ex hre)⟩) (show dg (upd g2 i (nI (dg g2 i - 1))) i < dg g2 i from (by rw [dg_us (by omega)]; omega)) ls H locs (lv_sub hl [1, 2, 3, 4] rfl) (hP.sub (ws' := [(y, .inr (11, MO yr yi ysb ybs)), (yr 0, .inl (cT 0, 19, .inl fp)), (a, .inl (cT 0, 302, .inl f1u5)), (lo, .inl (cT 0, 19, .inl (upd g2 i (nI ((dg g2 i) - 1)))))]) [0, 1, 3, 2] rfl) (hD.sub (ws' := [(y, .inr (11, MO yr yi ysb ybs)), (yr 0, .inl (cT 0, 19, .inl fp)), (a, .inl (cT 0, 302, .inl f1u5)), (lo, .inl (cT 0, 19, .inl (upd g2 i (nI ((dg g2 i) - 1)))))]) [0, 1, 3, 2] (by decide) rfl) hS
        · have gh4 : K = 0 := (nI_eq (a := K) (b := 0) (by omega) (by omega)).mp h4
          have hz0 : z2 = 0 := Int.natAbs_eq_zero.mp (by rw [hva, show K = 0 by omega]; rfl)
          refine lv_iconst (v := 0) hx hb dM_reduce_42 (by decide) ?_
          refine lv_goto (tgt := 56) hx hb dM_reduce_43 rfl ?_
          refine lv_istore hx hb dM_reduce_56 hl (by decide) rfl (fun ls hl => ?_)
          have hl : lv_has ls 5 [(4, .int 0), (0, .ref y), (1, .ref a), (2, .ref lo), (3, .int (nI i))] := hl
          refine lv_goto (tgt := 8) hx hb dM_reduce_58 rfl ?_
          exact ih8 (z2, f2, upd g2 i (nI (dg g2 i - 1))) (show MN f2 z2 ∧ LOK (upd g2 i (nI (dg g2 i - 1))) bb ∧ (∀ q, q < i → dg (upd g2 i (nI (dg g2 i - 1))) q = 0 ∨ ¬ z2.natAbs % pr q = 0) ∧ z2 * (dn gl : Int) = z * (dn (upd g2 i (nI (dg g2 i - 1))) : Int) from ⟨jN, lok_up jL (by omega) (Nat.le_refl _) (by omega), fun q h => (by rw [dg_un (show q ≠ i by omega)]; exact (jm q h).imp id (fun r => r)), rd_s (p := pr i) (by omega) (by rw [← dn_dec (by omega) (by omega) (by omega)]; exact jv) (by rw [hz0, Int.zero_mul])⟩) (show dg (upd g2 i (nI (dg g2 i - 1))) i < dg g2 i from (by rw [dg_us (by omega)]; omega)) ls H locs (lv_sub hl [1, 2, 3, 4] rfl) hP hD hS
set_option maxHeartbeats 4000000 in
set_option maxRecDepth 100000 in
theorem m_under (l : Launch) (D : va_G) (cT : Nat → ClassId) (y : Nat) (yr : Nat → Nat) (yi : Nat → Int32) (ysb : Int64) (ybs : Int64) (fp : Nat → Int32) (lo : Nat) (gl : Nat → Int32) (bb : Nat) (md : Nat) (hPR : PRI fp) (hL : LOK gl bb) (hbb : bb < 2 ^ 29) (hm0 : 0 < md) (hm1 : md < 2 ^ 20) (sz : Nat) : Met l yM_under WM_under ({ frames := 0, cells := 0, slots := 0, locals := 0 } : Room) (RW D vwCl [.ref y, .ref lo, .int (nI md)] [(y, .inr (11, MO yr yi ysb ybs)), (yr 0, .inl (cT 0, 19, .inl fp)), (lo, .inl (cT 0, 19, .inl gl))] (TY cT) sz) (va_Qv (fun u9 : Nat × (Nat → Int32) => 0 < u9.1 ∧ LOK u9.2 (bb + 20) ∧ (∀ q8, q8 < 19 → ¬ u9.1 % pr q8 = 0) ∧ dn u9.2 * u9.1 = dn gl * md) (BW D vwCl (va_A [(y, .inr (11, MO yr yi ysb ybs)), (yr 0, .inl (cT 0, 19, .inl fp)), (lo, .inl (cT 0, 19, .inl gl))] sz) (fun u9 : Nat × (Nat → Int32) => [(y, .inr (11, MO yr yi ysb ybs)), (yr 0, .inl (cT 0, 19, .inl fp)), (lo, .inl (cT 0, 19, .inl u9.2))])) (va_A [(y, .inr (11, MO yr yi ysb ybs)), (yr 0, .inl (cT 0, 19, .inl fp)), (lo, .inl (cT 0, 19, .inl gl))] sz)) 0 0 (va_A [(y, .inr (11, MO yr yi ysb ybs)), (yr 0, .inl (cT 0, 19, .inl fp)), (lo, .inl (cT 0, 19, .inl gl))] sz) := by
  refine Met.ofW (cc := cM_under) (maxL := 5) (ret := none) (by decide) rfl ?_
  intro p e s m args below meth c s₁ B hml hv
  obtain ⟨rfl, hsz, hZ, hP, hK, hD0⟩ := hv
  have hx := B.exec
  have hb := B.bytes
  have hr := B.returns
  have hts := atoms_spec (ws := WM_under) B.pre
  have hT : ∀ w ∈ TB, w.before _ s = true := fun w h => hts w (List.mem_cons_of_mem _ h)
  have hown : s.vm.findClass R_M = some m.cls := findClass_of_methodNamed B.named
  have hlocks := B.notSynchronized
  subst hsz
  have hD := hD0.self (sz := s.heap.size)
  generalize hAe : va_A [(y, .inr (11, MO yr yi ysb ybs)), (yr 0, .inl (cT 0, 19, .inl fp)), (lo, .inl (cT 0, 19, .inl gl))] s.heap.size = A at hD hZ ⊢
  have hA : ∀ q : Nat, s.heap.size ≤ q → A q := fun q h => by rw [← hAe]; exact Or.inr h
  have hS : va_S A s.heap s.heap [] := va_S.rf
  have hl := lv_entry ([.ref y, .ref lo, .int (nI md)]) (n := 5) (Nat.le_of_ble_eq_true rfl)
  rw [lg_entry_eq]
  generalize (lg_sl ([.ref y, .ref lo, .int (nI md)]) ++ List.replicate (5 - (lg_sl ([.ref y, .ref lo, .int (nI md)])).length) Slot.unset).toArray = ls at hl ⊢
  have hl : lv_has ls 5 [(0, .ref y), (1, .ref lo), (2, .int (nI md))] := hl
  refine lv_iload_n hx hb dM_under_0 rfl (lv_at hl 2 rfl) ?_
  refine lv_istore_n hx hb dM_under_1 rfl hl (by decide) rfl (fun ls hl => ?_)
  have hl : lv_has ls 5 [(3, .int (nI md)), (0, .ref y), (1, .ref lo), (2, .int (nI md))] := hl
  refine lv_iconst (v := 0) hx hb dM_under_2 (by decide) ?_
  refine lv_istore hx hb dM_under_3 hl (by decide) rfl (fun ls hl => ?_)
  have hl : lv_has ls 5 [(4, .int 0), (3, .int (nI md)), (0, .ref y), (1, .ref lo), (2, .int (nI md))] := hl
  refine lp_w (α := Nat × Nat × Nat × (Nat → Int32)) (fun a9 => a9.1 ≤ 19 ∧ 0 < a9.2.1 ∧ a9.2.1 * 2 ^ a9.2.2.1 ≤ md ∧ LOK a9.2.2.2 (bb + a9.2.2.1) ∧ (∀ q, q < a9.1 → ¬ a9.2.1 % pr q = 0) ∧ dn a9.2.2.2 * a9.2.1 = dn gl * md) (fun a9 => 19 - a9.1) (fun a9 => [(0, .ref y), (1, .ref lo), (3, .int (nI a9.2.1)), (4, .int (nI a9.1))]) (fun a9 => [(y, .inr (11, MO yr yi ysb ybs)), (yr 0, .inl (cT 0, 19, .inl fp)), (lo, .inl (cT 0, 19, .inl a9.2.2.2))]) 5 ?_ (0, md, 0, gl) (show 0 ≤ 19 ∧ 0 < md ∧ md * 2 ^ 0 ≤ md ∧ LOK gl (bb + 0) ∧ (∀ q, q < 0 → ¬ md % pr q = 0) ∧ dn gl * md = dn gl * md from ⟨by omega, hm0, by rw [Nat.pow_zero, Nat.mul_one]; exact Nat.le_refl _, hL, fun q h => absurd h (by omega), rfl⟩) (lv_sub hl [2, 3, 1, 0] rfl) hP hD hS
  intro a9 hI5 ih5 ls H locs hl hP hD hS
  obtain ⟨i, x, cc9, g⟩ := a9
  have hI5 : i ≤ 19 ∧ 0 < x ∧ x * 2 ^ cc9 ≤ md ∧ LOK g (bb + cc9) ∧ (∀ q, q < i → ¬ x % pr q = 0) ∧ dn g * x = dn gl * md := hI5
  obtain ⟨ii, ix, ic, iL, im, iv⟩ := hI5
  have hl : lv_has ls 5 [(0, .ref y), (1, .ref lo), (3, .int (nI x)), (4, .int (nI i))] := hl
  have hP : va_P D vwCl [(y, .inr (11, MO yr yi ysb ybs)), (yr 0, .inl (cT 0, 19, .inl fp)), (lo, .inl (cT 0, 19, .inl g))] _ := hP
  have hD : va_D A [(y, .inr (11, MO yr yi ysb ybs)), (yr 0, .inl (cT 0, 19, .inl fp)), (lo, .inl (cT 0, 19, .inl g))] := hD
  refine lv_iload hx hb dM_under_5 (lv_at hl 3 rfl) ?_
  refine lv_bipush (v := 19) hx hb dM_under_7 (by decide) ?_
  refine lv_icmp_ge (tgt := 51) hx hb dM_under_9 rfl (fun h1 => ?_) (fun h1 => ?_)
  · have gh1 : 19 ≤ i := (nI_leI (a := 19) (b := i) (by omega) (by omega)).mp h1
    have ei : i = 19 := by omega
    subst ei
    have hc20 := up_c ix ic hm1
    have hP9 := hP.sub (ws' := [(y, .inr (11, MO yr yi ysb ybs)), (yr 0, .inl (cT 0, 19, .inl fp)), (lo, .inl (cT 0, 19, .inl g))]) [0, 1, 2] rfl
    have hD9 := hD.sub (ws' := [(y, .inr (11, MO yr yi ysb ybs)), (yr 0, .inl (cT 0, 19, .inl fp)), (lo, .inl (cT 0, 19, .inl g))]) [0, 1, 2] (by decide) rfl
    refine W.widen (k := 0) (n := 0) (Nat.le_of_ble_eq_true rfl) (Nat.le_of_ble_eq_true rfl) ?_
    exact W.vret hx hb hr (fun t9 ht9 hW9 => ⟨⟨(x, g), rfl, (show 0 < x ∧ LOK g (bb + 20) ∧ (∀ q8, q8 < 19 → ¬ x % pr q8 = 0) ∧ dn g * x = dn gl * md from ⟨ix, fun k hk => ⟨(iL k hk).1, by have q9 := (iL k hk).2; omega⟩, im, iv⟩), by rw [ht9]; exact hP9, hD9⟩, hS.F ht9⟩) hS.2.2 dM_under_51
  · have gh1 : i < 19 := Nat.not_le.mp (fun q => h1 ((nI_leI (a := 19) (b := i) (by omega) (by omega)).mpr q))
    refine lp_w (α := Nat × Nat × (Nat → Int32)) (fun a9 => 0 < a9.1 ∧ a9.1 * 2 ^ a9.2.1 ≤ md ∧ LOK a9.2.2 (bb + a9.2.1) ∧ (∀ q, q < i → ¬ a9.1 % pr q = 0) ∧ dn a9.2.2 * a9.1 = dn gl * md) (fun a9 => a9.1) (fun a9 => [(0, .ref y), (1, .ref lo), (3, .int (nI a9.1)), (4, .int (nI i))]) (fun a9 => [(y, .inr (11, MO yr yi ysb ybs)), (yr 0, .inl (cT 0, 19, .inl fp)), (lo, .inl (cT 0, 19, .inl a9.2.2))]) 12 ?_ (x, cc9, g) (show 0 < x ∧ x * 2 ^ cc9 ≤ md ∧ LOK g (bb + cc9) ∧ (∀ q, q < i → ¬ x % pr q = 0) ∧ dn g * x = dn gl * md from ⟨ix, ic, iL, im, iv⟩) (lv_sub hl [0, 1, 2, 3] rfl) hP hD hS
    intro a9 hI12 ih12 ls H locs hl hP hD hS
    obtain ⟨x2, c2, g2⟩ := a9
    have hI12 : 0 < x2 ∧ x2 * 2 ^ c2 ≤ md ∧ LOK g2 (bb + c2) ∧ (∀ q, q < i → ¬ x2 % pr q = 0) ∧ dn g2 * x2 = dn gl * md := hI12
    obtain ⟨jx, jc, jL, jm, jv⟩ := hI12
    have hl : lv_has ls 5 [(0, .ref y), (1, .ref lo), (3, .int (nI x2)), (4, .int (nI i))] := hl
    have hP : va_P D vwCl [(y, .inr (11, MO yr yi ysb ybs)), (yr 0, .inl (cT 0, 19, .inl fp)), (lo, .inl (cT 0, 19, .inl g2))] _ := hP
    have hD : va_D A [(y, .inr (11, MO yr yi ysb ybs)), (yr 0, .inl (cT 0, 19, .inl fp)), (lo, .inl (cT 0, 19, .inl g2))] := hD
    have hgi := jL i (by omega)
    have hpb := pr_b i (by omega)
    have hc20 := up_c jx jc hm1
    have hxm : x2 < 2 ^ 20 := by have q9 := Nat.mul_le_mul_left x2 (Nat.pow_pos (n := c2) (show 0 < 2 by decide)); rw [Nat.mul_one] at q9; omega
    refine lv_iload_n hx hb dM_under_12 rfl (lv_at hl 2 rfl) ?_
    refine lv_aload_n hx hb dM_under_13 rfl (lv_at hl 0 rfl) ?_
    refine va_get (D := D) (ci := 11) (v := .ref (yr 0)) (C := R_M) (T := T_M) (N := 60) hx hb hT in_M hown hK hP 0 rfl rfl 0 (by decide) (hT _ w1104) (fun _ h9 => h9) rfl dM_under_14 ?_
    refine lv_iload hx hb dM_under_17 (lv_at hl 3 rfl) ?_
    refine lq_iald (j := i) hx hb hK hP 1 0 rfl rfl rfl (by omega) (by omega) dM_under_19 ?_
    refine lv_topi (fun y9 e9 => ?_)
    cases (show y9 = nI (pr i) from e9.trans (hPR i (by omega)))
    refine lv_irem hx hb dM_under_20 (nI_ne0 (by omega) (by omega)) ?_
    refine lv_topi (fun y9 e9 => ?_)
    cases (show y9 = nI (x2 % (pr i)) from e9.trans (pk_rem (a := x2) (d := pr i) (by omega) (by omega) (by omega)))
    refine lv_if_ne (tgt := 45) hx hb dM_under_21 rfl (fun h2 => ?_) (fun h2 => ?_)
    · have gh2 : ¬ (x2 % (pr i) = 0) := fun q => h2 (congrArg nI q)
      have hend : ¬ x2 % pr i = 0 := by omega
      refine lv_iinc (k := 3) (v := nI (i + 1)) hx hb dM_under_45 hl rfl (nI_1 i) (by decide) rfl (fun ls hl => ?_)
      have hl : lv_has ls 5 [(4, .int (nI (i + 1))), (0, .ref y), (1, .ref lo), (3, .int (nI x2))] := hl
      refine lv_goto (tgt := 5) hx hb dM_under_48 rfl ?_
      exact ih5 (i + 1, x2, c2, g2) (show (i + 1) ≤ 19 ∧ 0 < x2 ∧ x2 * 2 ^ c2 ≤ md ∧ LOK g2 (bb + c2) ∧ (∀ q, q < (i + 1) → ¬ x2 % pr q = 0) ∧ dn g2 * x2 = dn gl * md from ⟨by omega, jx, jc, jL, fun q h => (by by_cases r : q = i; (subst r; exact hend); (exact jm q (by omega))), jv⟩) (show 19 - (i + 1) < 19 - i from (by omega)) ls H locs (lv_sub hl [1, 2, 3, 0] rfl) hP hD hS
    · have gh2 : x2 % (pr i) = 0 := (nI_eq (a := x2 % (pr i)) (b := 0) (by have q9 := Nat.mod_lt x2 (show 0 < pr i by omega); omega) (by decide)).mp h2
      have hre : x2 % pr i = 0 := by omega
      refine lv_aload_n hx hb dM_under_24 rfl (lv_at hl 1 rfl) ?_
      refine lv_iload hx hb dM_under_25 (lv_at hl 3 rfl) ?_
      refine lv_dup2_11 hx hb dM_under_27 rfl rfl ?_
      refine lq_iald (j := i) hx hb hK hP 2 0 rfl rfl rfl (by omega) (by omega) dM_under_28 ?_
      refine lv_topi (fun y9 e9 => ?_)
      cases (show y9 = nI (dg g2 i) from e9.trans hgi.1)
      refine lv_iconst (v := 1) hx hb dM_under_29 (by decide) ?_
      refine lv_iadd hx hb dM_under_30 ?_
      refine lv_topi (fun y9 e9 => ?_)
      cases (show y9 = nI ((dg g2 i) + 1) from e9.trans (nI_add (dg g2 i) 1))
      refine lq_iast (j := i) hx hb hK hP hD hS 2 0 rfl rfl rfl (by omega) (by omega) dM_under_31 (fun H locs hP hD hS => ?_)
      have hP : va_P D vwCl [(y, .inr (11, MO yr yi ysb ybs)), (yr 0, .inl (cT 0, 19, .inl fp)), (lo, .inl (cT 0, 19, .inl (upd g2 i (nI ((dg g2 i) + 1)))))] _ := hP
      have hD : va_D A [(y, .inr (11, MO yr yi ysb ybs)), (yr 0, .inl (cT 0, 19, .inl fp)), (lo, .inl (cT 0, 19, .inl (upd g2 i (nI ((dg g2 i) + 1)))))] := hD
      refine lv_iload_n hx hb dM_under_32 rfl (lv_at hl 2 rfl) ?_
      refine lv_aload_n hx hb dM_under_33 rfl (lv_at hl 0 rfl) ?_
      refine va_get (D := D) (ci := 11) (v := .ref (yr 0)) (C := R_M) (T := T_M) (N := 60) hx hb hT in_M hown hK hP 0 rfl rfl 0 (by decide) (hT _ w1104) (fun _ h9 => h9) rfl dM_under_34 ?_
      refine lv_iload hx hb dM_under_37 (lv_at hl 3 rfl) ?_
      refine lq_iald (j := i) hx hb hK hP 1 0 rfl rfl rfl (by omega) (by omega) dM_under_39 ?_
      refine lv_topi (fun y9 e9 => ?_)
      cases (show y9 = nI (pr i) from e9.trans (hPR i (by omega)))
      refine lv_idiv hx hb dM_under_40 (nI_ne0 (by omega) (by omega)) ?_
      refine lv_topi (fun y9 e9 => ?_)
      cases (show y9 = nI (x2 / (pr i)) from e9.trans (pk_div (a := x2) (d := pr i) (by omega) (by omega) (by omega)))
      obtain ⟨x3, hx3⟩ : ∃ q9 : Nat, q9 = x2 / (pr i) := ⟨_, rfl⟩
      refine lv_topi (fun y9 e9 => ?_)
      cases (show y9 = nI x3 from e9.trans (congrArg nI hx3.symm))
      have hx3p : 0 < x3 := by rw [hx3]; exact Nat.div_pos (Nat.le_of_dvd jx (Nat.dvd_of_mod_eq_zero hre)) (by omega)
      refine lv_istore_n hx hb dM_under_41 rfl hl (by decide) rfl (fun ls hl => ?_)
      have hl : lv_has ls 5 [(3, .int (nI x3)), (0, .ref y), (1, .ref lo), (4, .int (nI i))] := hl
      refine lv_goto (tgt := 12) hx hb dM_under_42 rfl ?_
      exact ih12 (x3, c2 + 1, upd g2 i (nI (dg g2 i + 1))) (show 0 < x3 ∧ x3 * 2 ^ (c2 + 1) ≤ md ∧ LOK (upd g2 i (nI (dg g2 i + 1))) (bb + (c2 + 1)) ∧ (∀ q, q < i → ¬ x3 % pr q = 0) ∧ dn (upd g2 i (nI (dg g2 i + 1))) * x3 = dn gl * md from ⟨hx3p, by rw [hx3]; exact up_b hpb.1 jc hre, lok_up jL (by omega) (by omega) (by omega), fun q h => by rw [hx3]; exact md_part hre (jm q h), by rw [dn_inc (by omega) (by omega), Nat.mul_assoc, hx3, Nat.mul_div_cancel' (Nat.dvd_of_mod_eq_zero hre)]; exact jv⟩) (show x3 < x2 from (by rw [hx3]; exact Nat.div_lt_self jx (by omega))) ls H locs (lv_sub hl [1, 2, 0, 3] rfl) hP hD hS
set_option maxHeartbeats 4000000 in
set_option maxRecDepth 100000 in
theorem m_addF0 (l : Launch) (D : va_G) (cT : Nat → ClassId) (y : Nat) (yr : Nat → Nat) (yi : Nat → Int32) (ysb : Int64) (ybs : Int64) (fp : Nat → Int32) (a : Nat) (f : Nat → Int32) (z : Int) (lo : Nat) (gl : Nat → Int32) (ob : Nat) (f2 : Nat → Int32) (z2 : Int) (oo : Nat) (go : Nat → Int32) (bb : Nat) (hPR : PRI fp) (hN : MN f z) (hL : LOK gl bb) (hN2 : MN f2 z2) (hO : LOK go bb) (hbb : bb < 2 ^ 30) (hfit : z.natAbs * dn go + z2.natAbs * (dn gl * dn go) < 268435456 ^ 250) (sz : Nat) : Met l yM_addFractions WM_addFractions ({ frames := 3, cells := 0, slots := 0, locals := 74 } : Room) (RW D vwCl [.ref y, .ref a, .ref lo, .ref ob, .ref oo, .int 1] [(y, .inr (11, MO yr yi ysb ybs)), (yr 0, .inl (cT 0, 19, .inl fp)), (a, .inl (cT 0, 302, .inl f)), (lo, .inl (cT 0, 19, .inl gl)), (ob, .inl (cT 0, 302, .inl f2)), (oo, .inl (cT 0, 19, .inl go))] (TY cT) sz) (va_Qv (fun u9 : Int × (Nat → Int32) × (Nat → Int32) × (Nat → Int32) × (Nat → Int32) => MN u9.2.1 u9.1 ∧ LOK u9.2.2.1 bb ∧ RED u9.1 u9.2.2.1 ∧ u9.1 * ((dn gl * dn go : Nat) : Int) = (z * (dn go : Int) + z2 * (dn gl : Int)) * (dn u9.2.2.1 : Int)) (BW D vwCl (va_A [(y, .inr (11, MO yr yi ysb ybs)), (yr 0, .inl (cT 0, 19, .inl fp)), (a, .inl (cT 0, 302, .inl f)), (lo, .inl (cT 0, 19, .inl gl)), (ob, .inl (cT 0, 302, .inl f2)), (oo, .inl (cT 0, 19, .inl go))] sz) (fun u9 : Int × (Nat → Int32) × (Nat → Int32) × (Nat → Int32) × (Nat → Int32) => [(y, .inr (11, MO yr yi ysb ybs)), (yr 0, .inl (cT 0, 19, .inl fp)), (a, .inl (cT 0, 302, .inl u9.2.1)), (lo, .inl (cT 0, 19, .inl u9.2.2.1)), (ob, .inl (cT 0, 302, .inl u9.2.2.2.1)), (oo, .inl (cT 0, 19, .inl u9.2.2.2.2))])) (va_A [(y, .inr (11, MO yr yi ysb ybs)), (yr 0, .inl (cT 0, 19, .inl fp)), (a, .inl (cT 0, 302, .inl f)), (lo, .inl (cT 0, 19, .inl gl)), (ob, .inl (cT 0, 302, .inl f2)), (oo, .inl (cT 0, 19, .inl go))] sz)) 0 0 (va_A [(y, .inr (11, MO yr yi ysb ybs)), (yr 0, .inl (cT 0, 19, .inl fp)), (a, .inl (cT 0, 302, .inl f)), (lo, .inl (cT 0, 19, .inl gl)), (ob, .inl (cT 0, 302, .inl f2)), (oo, .inl (cT 0, 19, .inl go))] sz) := by
  refine Met.ofW (cc := cM_addFractions) (maxL := 6) (ret := none) (by decide) rfl ?_
  intro p e s m args below meth c s₁ B hml hv
  obtain ⟨rfl, hsz, hZ, hP, hK, hD0⟩ := hv
  have hx := B.exec
  have hb := B.bytes
  have hr := B.returns
  have hts := atoms_spec (ws := WM_addFractions) B.pre
  have hT : ∀ w ∈ TB, w.before _ s = true := fun w h => hts w (List.mem_cons_of_mem _ h)
  have hown : s.vm.findClass R_M = some m.cls := findClass_of_methodNamed B.named
  have hlocks := B.notSynchronized
  subst hsz
  have hD := hD0.self (sz := s.heap.size)
  generalize hAe : va_A [(y, .inr (11, MO yr yi ysb ybs)), (yr 0, .inl (cT 0, 19, .inl fp)), (a, .inl (cT 0, 302, .inl f)), (lo, .inl (cT 0, 19, .inl gl)), (ob, .inl (cT 0, 302, .inl f2)), (oo, .inl (cT 0, 19, .inl go))] s.heap.size = A at hD hZ ⊢
  have hA : ∀ q : Nat, s.heap.size ≤ q → A q := fun q h => by rw [← hAe]; exact Or.inr h
  have hS : va_S A s.heap s.heap [] := va_S.rf
  have hl := lv_entry ([.ref y, .ref a, .ref lo, .ref ob, .ref oo, .int 1]) (n := 6) (Nat.le_of_ble_eq_true rfl)
  rw [lg_entry_eq]
  generalize (lg_sl ([.ref y, .ref a, .ref lo, .ref ob, .ref oo, .int 1]) ++ List.replicate (6 - (lg_sl ([.ref y, .ref a, .ref lo, .ref ob, .ref oo, .int 1])).length) Slot.unset).toArray = ls at hl ⊢
  have hl : lv_has ls 6 [(0, .ref y), (1, .ref a), (2, .ref lo), (3, .ref ob), (4, .ref oo), (5, .int 1)] := hl
  refine lv_aload_n hx hb dM_addFractions_0 rfl (lv_at hl 0 rfl) ?_
  refine lv_aload_n hx hb dM_addFractions_1 rfl (lv_at hl 1 rfl) ?_
  refine lv_aload_n hx hb dM_addFractions_2 rfl (lv_at hl 2 rfl) ?_
  refine lv_aload hx hb dM_addFractions_3 (lv_at hl 4 rfl) ?_
  refine rw_v (wc := [(y, .inr (11, MO yr yi ysb ybs)), (yr 0, .inl (cT 0, 19, .inl fp)), (a, .inl (cT 0, 302, .inl f)), (lo, .inl (cT 0, 19, .inl gl)), (oo, .inl (cT 0, 19, .inl go))]) (wr := [(ob, .inl (cT 0, 302, .inl f2))]) hP hD hS hA [0, 1, 2, 3, 5] [4] rfl rfl (by decide) (by decide) (va_runV (As := [.ref a, .ref lo, .ref oo]) (rest := []) ⟨hx, hb, hml, hown, hT⟩ (m_raise l D cT y yr yi ysb ybs fp a f z lo gl oo go bb hPR hN hL hO hbb (by omega) _) ⟨callB_of 3 hT (tb_gd w1414) rfl rfl rfl (hT _ w13) (hT _ w1411) hM_raise ⟨Nat.le_of_ble_eq_true rfl, Nat.le_of_ble_eq_true rfl⟩, (hT _ w1413), (hT _ wp41)⟩ (RW.preV (ci := 11) (q0 := 0) hZ hS (va_free (wc := [(y, .inr (11, MO yr yi ysb ybs)), (yr 0, .inl (cT 0, 19, .inl fp)), (a, .inl (cT 0, 302, .inl f)), (lo, .inl (cT 0, 19, .inl gl)), (oo, .inl (cT 0, 19, .inl go))]) hD hS hA [0, 1, 2, 3, 5] rfl) (hP.sub (ws' := [(y, .inr (11, MO yr yi ysb ybs)), (yr 0, .inl (cT 0, 19, .inl fp)), (a, .inl (cT 0, 302, .inl f)), (lo, .inl (cT 0, 19, .inl gl)), (oo, .inl (cT 0, 19, .inl go))]) [0, 1, 2, 3, 5] rfl) hK (hD.sub (ws' := [(y, .inr (11, MO yr yi ysb ybs)), (yr 0, .inl (cT 0, 19, .inl fp)), (a, .inl (cT 0, 302, .inl f)), (lo, .inl (cT 0, 19, .inl gl)), (oo, .inl (cT 0, 19, .inl go))]) [0, 1, 2, 3, 5] (by decide) rfl) rfl rfl) rfl rfl hl.1 rfl (lv_room (Nat.le_of_ble_eq_true rfl)) dM_addFractions_5 ⟨Nat.le_of_ble_eq_true rfl, Nat.le_of_ble_eq_true rfl⟩) (fun u9 H locs hpu1 hP hD hS => ?_)
  obtain ⟨z9u1, f9u1, g9u1⟩ := u9
  have hpu1 : MN f9u1 z9u1 ∧ LOK g9u1 bb ∧ (∀ q8, q8 < 19 → dg g9u1 q8 = max (dg gl q8) (dg go q8)) ∧ z9u1 * (dn gl : Int) = z * (dn g9u1 : Int) := hpu1
  have hP : va_P D vwCl [(ob, .inl (cT 0, 302, .inl f2)), (y, .inr (11, MO yr yi ysb ybs)), (yr 0, .inl (cT 0, 19, .inl fp)), (a, .inl (cT 0, 302, .inl f9u1)), (lo, .inl (cT 0, 19, .inl g9u1)), (oo, .inl (cT 0, 19, .inl go))] _ := hP
  have hD : va_D A [(ob, .inl (cT 0, 302, .inl f2)), (y, .inr (11, MO yr yi ysb ybs)), (yr 0, .inl (cT 0, 19, .inl fp)), (a, .inl (cT 0, 302, .inl f9u1)), (lo, .inl (cT 0, 19, .inl g9u1)), (oo, .inl (cT 0, 19, .inl go))] := hD
  obtain ⟨aN, aL, am, av⟩ := hpu1
  have hDn : dn g9u1 ≤ dn gl * dn go := dnk_le (Nat.le_refl 19) (fun q hq => by rw [am q hq]; exact max_le2)
  have hza := fr_le av dn_pos hDn
  have hzd : z2.natAbs * dn g9u1 ≤ z2.natAbs * (dn gl * dn go) := Nat.mul_le_mul_left _ hDn
  refine lv_aload_n hx hb dM_addFractions_8 rfl (lv_at hl 0 rfl) ?_
  refine lv_aload_n hx hb dM_addFractions_9 rfl (lv_at hl 3 rfl) ?_
  refine lv_aload hx hb dM_addFractions_10 (lv_at hl 4 rfl) ?_
  refine lv_aload_n hx hb dM_addFractions_12 rfl (lv_at hl 2 rfl) ?_
  refine rw_v (wc := [(y, .inr (11, MO yr yi ysb ybs)), (yr 0, .inl (cT 0, 19, .inl fp)), (ob, .inl (cT 0, 302, .inl f2)), (oo, .inl (cT 0, 19, .inl go)), (lo, .inl (cT 0, 19, .inl g9u1))]) (wr := [(a, .inl (cT 0, 302, .inl f9u1))]) hP hD hS hA [1, 2, 0, 5, 4] [3] rfl rfl (by decide) (by decide) (va_runV (As := [.ref ob, .ref oo, .ref lo]) (rest := []) ⟨hx, hb, hml, hown, hT⟩ (m_raise l D cT y yr yi ysb ybs fp ob f2 z2 oo go lo g9u1 bb hPR hN2 hO aL hbb (by omega) _) ⟨callB_of 3 hT (tb_gd w1414) rfl rfl rfl (hT _ w13) (hT _ w1411) hM_raise ⟨Nat.le_of_ble_eq_true rfl, Nat.le_of_ble_eq_true rfl⟩, (hT _ w1413), (hT _ wp41)⟩ (RW.preV (ci := 11) (q0 := 0) hZ hS (va_free (wc := [(y, .inr (11, MO yr yi ysb ybs)), (yr 0, .inl (cT 0, 19, .inl fp)), (ob, .inl (cT 0, 302, .inl f2)), (oo, .inl (cT 0, 19, .inl go)), (lo, .inl (cT 0, 19, .inl g9u1))]) hD hS hA [1, 2, 0, 5, 4] rfl) (hP.sub (ws' := [(y, .inr (11, MO yr yi ysb ybs)), (yr 0, .inl (cT 0, 19, .inl fp)), (ob, .inl (cT 0, 302, .inl f2)), (oo, .inl (cT 0, 19, .inl go)), (lo, .inl (cT 0, 19, .inl g9u1))]) [1, 2, 0, 5, 4] rfl) hK (hD.sub (ws' := [(y, .inr (11, MO yr yi ysb ybs)), (yr 0, .inl (cT 0, 19, .inl fp)), (ob, .inl (cT 0, 302, .inl f2)), (oo, .inl (cT 0, 19, .inl go)), (lo, .inl (cT 0, 19, .inl g9u1))]) [1, 2, 0, 5, 4] (by decide) rfl) rfl rfl) rfl rfl hl.1 rfl (lv_room (Nat.le_of_ble_eq_true rfl)) dM_addFractions_13 ⟨Nat.le_of_ble_eq_true rfl, Nat.le_of_ble_eq_true rfl⟩) (fun u9 H locs hpu2 hP hD hS => ?_)
  obtain ⟨z9u2, f9u2, g9u2⟩ := u9
  have hpu2 : MN f9u2 z9u2 ∧ LOK g9u2 bb ∧ (∀ q8, q8 < 19 → dg g9u2 q8 = max (dg go q8) (dg g9u1 q8)) ∧ z9u2 * (dn go : Int) = z2 * (dn g9u2 : Int) := hpu2
  have hP : va_P D vwCl [(a, .inl (cT 0, 302, .inl f9u1)), (y, .inr (11, MO yr yi ysb ybs)), (yr 0, .inl (cT 0, 19, .inl fp)), (ob, .inl (cT 0, 302, .inl f9u2)), (oo, .inl (cT 0, 19, .inl g9u2)), (lo, .inl (cT 0, 19, .inl g9u1))] _ := hP
  have hD : va_D A [(a, .inl (cT 0, 302, .inl f9u1)), (y, .inr (11, MO yr yi ysb ybs)), (yr 0, .inl (cT 0, 19, .inl fp)), (ob, .inl (cT 0, 302, .inl f9u2)), (oo, .inl (cT 0, 19, .inl g9u2)), (lo, .inl (cT 0, 19, .inl g9u1))] := hD
  obtain ⟨bN, bL, bm, bv⟩ := hpu2
  have hDe : dn g9u2 = dn g9u1 := dnk_cg (fun q hq => by rw [bm q hq, am q hq]; omega)
  rw [hDe] at bv
  have hzb := fr_le (T := dn gl) bv dn_pos (by rw [Nat.mul_comm]; exact hDn)
  have hz2 : z2.natAbs * dn gl ≤ z2.natAbs * (dn gl * dn go) := Nat.mul_le_mul_left _ (Nat.le_mul_of_pos_right _ dn_pos)
  refine lv_aload_n hx hb dM_addFractions_16 rfl (lv_at hl 1 rfl) ?_
  refine lv_aload_n hx hb dM_addFractions_17 rfl (lv_at hl 3 rfl) ?_
  refine lv_iload hx hb dM_addFractions_18 (lv_at hl 5 rfl) ?_
  refine rw_v (wc := [(a, .inl (cT 0, 302, .inl f9u1)), (ob, .inl (cT 0, 302, .inl f9u2))]) (wr := [(y, .inr (11, MO yr yi ysb ybs)), (yr 0, .inl (cT 0, 19, .inl fp)), (oo, .inl (cT 0, 19, .inl g9u2)), (lo, .inl (cT 0, 19, .inl g9u1))]) hP hD hS hA [0, 3] [1, 2, 4, 5] rfl rfl (by decide) (by decide) (va_runS (As := [.ref a, .ref ob, .int 1]) (rest := []) ⟨hx, hb, hml, hown, hT⟩ (m_add0 l D cT a f9u1 z9u1 ob f9u2 z9u2 aN bN (by omega) _) ⟨callB_of 3 hT (tb_gd w1423) rfl rfl rfl (hT _ w13) (hT _ w1421) hM_add ⟨Nat.le_of_ble_eq_true rfl, Nat.le_of_ble_eq_true rfl⟩, (hT _ w1422)⟩ (RW.preS hZ hS (va_free (wc := [(a, .inl (cT 0, 302, .inl f9u1)), (ob, .inl (cT 0, 302, .inl f9u2))]) hD hS hA [0, 3] rfl) (hP.sub (ws' := [(a, .inl (cT 0, 302, .inl f9u1)), (ob, .inl (cT 0, 302, .inl f9u2))]) [0, 3] rfl) hK (hD.sub (ws' := [(a, .inl (cT 0, 302, .inl f9u1)), (ob, .inl (cT 0, 302, .inl f9u2))]) [0, 3] (by decide) rfl)) rfl rfl hl.1 rfl (lv_room (Nat.le_of_ble_eq_true rfl)) dM_addFractions_20 ⟨Nat.le_of_ble_eq_true rfl, Nat.le_of_ble_eq_true rfl⟩) (fun u9 H locs hpu3 hP hD hS => ?_)
  obtain ⟨f1u3, rfl⟩ : ∃ q9, q9 = u9 := ⟨_, rfl⟩
  have hpu3 : MN f1u3 (z9u1 + z9u2) := hpu3
  have hP : va_P D vwCl [(y, .inr (11, MO yr yi ysb ybs)), (yr 0, .inl (cT 0, 19, .inl fp)), (oo, .inl (cT 0, 19, .inl g9u2)), (lo, .inl (cT 0, 19, .inl g9u1)), (a, .inl (cT 0, 302, .inl f1u3)), (ob, .inl (cT 0, 302, .inl f9u2))] _ := hP
  have hD : va_D A [(y, .inr (11, MO yr yi ysb ybs)), (yr 0, .inl (cT 0, 19, .inl fp)), (oo, .inl (cT 0, 19, .inl g9u2)), (lo, .inl (cT 0, 19, .inl g9u1)), (a, .inl (cT 0, 302, .inl f1u3)), (ob, .inl (cT 0, 302, .inl f9u2))] := hD
  have cN := hpu3
  refine lv_aload_n hx hb dM_addFractions_23 rfl (lv_at hl 0 rfl) ?_
  refine lv_aload_n hx hb dM_addFractions_24 rfl (lv_at hl 1 rfl) ?_
  refine lv_aload_n hx hb dM_addFractions_25 rfl (lv_at hl 2 rfl) ?_
  refine rw_v (wc := [(y, .inr (11, MO yr yi ysb ybs)), (yr 0, .inl (cT 0, 19, .inl fp)), (a, .inl (cT 0, 302, .inl f1u3)), (lo, .inl (cT 0, 19, .inl g9u1))]) (wr := [(oo, .inl (cT 0, 19, .inl g9u2)), (ob, .inl (cT 0, 302, .inl f9u2))]) hP hD hS hA [0, 1, 4, 3] [2, 5] rfl rfl (by decide) (by decide) (va_runV (As := [.ref a, .ref lo]) (rest := []) ⟨hx, hb, hml, hown, hT⟩ (m_reduce l D cT y yr yi ysb ybs fp a f1u3 (z9u1 + z9u2) lo g9u1 bb hPR cN aL hbb _) ⟨callB_of 2 hT (tb_gd w1440) rfl rfl rfl (hT _ w13) (hT _ w1437) hM_reduce ⟨Nat.le_of_ble_eq_true rfl, Nat.le_of_ble_eq_true rfl⟩, (hT _ w1439), (hT _ wp42)⟩ (RW.preV (ci := 11) (q0 := 0) hZ hS (va_free (wc := [(y, .inr (11, MO yr yi ysb ybs)), (yr 0, .inl (cT 0, 19, .inl fp)), (a, .inl (cT 0, 302, .inl f1u3)), (lo, .inl (cT 0, 19, .inl g9u1))]) hD hS hA [0, 1, 4, 3] rfl) (hP.sub (ws' := [(y, .inr (11, MO yr yi ysb ybs)), (yr 0, .inl (cT 0, 19, .inl fp)), (a, .inl (cT 0, 302, .inl f1u3)), (lo, .inl (cT 0, 19, .inl g9u1))]) [0, 1, 4, 3] rfl) hK (hD.sub (ws' := [(y, .inr (11, MO yr yi ysb ybs)), (yr 0, .inl (cT 0, 19, .inl fp)), (a, .inl (cT 0, 302, .inl f1u3)), (lo, .inl (cT 0, 19, .inl g9u1))]) [0, 1, 4, 3] (by decide) rfl) rfl rfl) rfl rfl hl.1 rfl (lv_room (Nat.le_of_ble_eq_true rfl)) dM_addFractions_26 ⟨Nat.le_of_ble_eq_true rfl, Nat.le_of_ble_eq_true rfl⟩) (fun u9 H locs hpu4 hP hD hS => ?_)
  obtain ⟨z9u4, f9u4, g9u4⟩ := u9
  have hpu4 : MN f9u4 z9u4 ∧ LOK g9u4 bb ∧ RED z9u4 g9u4 ∧ z9u4 * (dn g9u1 : Int) = (z9u1 + z9u2) * (dn g9u4 : Int) := hpu4
  have hP : va_P D vwCl [(oo, .inl (cT 0, 19, .inl g9u2)), (ob, .inl (cT 0, 302, .inl f9u2)), (y, .inr (11, MO yr yi ysb ybs)), (yr 0, .inl (cT 0, 19, .inl fp)), (a, .inl (cT 0, 302, .inl f9u4)), (lo, .inl (cT 0, 19, .inl g9u4))] _ := hP
  have hD : va_D A [(oo, .inl (cT 0, 19, .inl g9u2)), (ob, .inl (cT 0, 302, .inl f9u2)), (y, .inr (11, MO yr yi ysb ybs)), (yr 0, .inl (cT 0, 19, .inl fp)), (a, .inl (cT 0, 302, .inl f9u4)), (lo, .inl (cT 0, 19, .inl g9u4))] := hD
  have hP9 := hP.sub (ws' := [(y, .inr (11, MO yr yi ysb ybs)), (yr 0, .inl (cT 0, 19, .inl fp)), (a, .inl (cT 0, 302, .inl f9u4)), (lo, .inl (cT 0, 19, .inl g9u4)), (ob, .inl (cT 0, 302, .inl f9u2)), (oo, .inl (cT 0, 19, .inl g9u2))]) [2, 3, 4, 5, 1, 0] rfl
  have hD9 := hD.sub (ws' := [(y, .inr (11, MO yr yi ysb ybs)), (yr 0, .inl (cT 0, 19, .inl fp)), (a, .inl (cT 0, 302, .inl f9u4)), (lo, .inl (cT 0, 19, .inl g9u4)), (ob, .inl (cT 0, 302, .inl f9u2)), (oo, .inl (cT 0, 19, .inl g9u2))]) [2, 3, 4, 5, 1, 0] (by decide) rfl
  refine W.widen (k := 0) (n := 0) (Nat.le_of_ble_eq_true rfl) (Nat.le_of_ble_eq_true rfl) ?_
  exact W.vret hx hb hr (fun t9 ht9 hW9 => ⟨⟨(z9u4, f9u4, g9u4, f9u2, g9u2), rfl, (show MN f9u4 z9u4 ∧ LOK g9u4 bb ∧ RED z9u4 g9u4 ∧ z9u4 * ((dn gl * dn go : Nat) : Int) = (z * (dn go : Int) + z2 * (dn gl : Int)) * (dn g9u4 : Int) from ⟨hpu4.1, hpu4.2.1, hpu4.2.2.1, fr_add dn_pos av bv hpu4.2.2.2⟩), by rw [ht9]; exact hP9, hD9⟩, hS.F ht9⟩) hS.2.2 dM_addFractions_29
set_option maxHeartbeats 4000000 in
set_option maxRecDepth 100000 in
theorem m_addF1 (l : Launch) (D : va_G) (cT : Nat → ClassId) (y : Nat) (yr : Nat → Nat) (yi : Nat → Int32) (ysb : Int64) (ybs : Int64) (fp : Nat → Int32) (a : Nat) (f : Nat → Int32) (z : Int) (lo : Nat) (gl : Nat → Int32) (ob : Nat) (f2 : Nat → Int32) (z2 : Int) (oo : Nat) (go : Nat → Int32) (bb : Nat) (hPR : PRI fp) (hN : MN f z) (hL : LOK gl bb) (hN2 : MN f2 z2) (hO : LOK go bb) (hbb : bb < 2 ^ 30) (hfit : z.natAbs * dn go + z2.natAbs * (dn gl * dn go) < 268435456 ^ 250) (sz : Nat) : Met l yM_addFractions WM_addFractions ({ frames := 3, cells := 0, slots := 0, locals := 74 } : Room) (RW D vwCl [.ref y, .ref a, .ref lo, .ref ob, .ref oo, .int (-1)] [(y, .inr (11, MO yr yi ysb ybs)), (yr 0, .inl (cT 0, 19, .inl fp)), (a, .inl (cT 0, 302, .inl f)), (lo, .inl (cT 0, 19, .inl gl)), (ob, .inl (cT 0, 302, .inl f2)), (oo, .inl (cT 0, 19, .inl go))] (TY cT) sz) (va_Qv (fun u9 : Int × (Nat → Int32) × (Nat → Int32) × (Nat → Int32) × (Nat → Int32) => MN u9.2.1 u9.1 ∧ LOK u9.2.2.1 bb ∧ RED u9.1 u9.2.2.1 ∧ u9.1 * ((dn gl * dn go : Nat) : Int) = (z * (dn go : Int) - z2 * (dn gl : Int)) * (dn u9.2.2.1 : Int)) (BW D vwCl (va_A [(y, .inr (11, MO yr yi ysb ybs)), (yr 0, .inl (cT 0, 19, .inl fp)), (a, .inl (cT 0, 302, .inl f)), (lo, .inl (cT 0, 19, .inl gl)), (ob, .inl (cT 0, 302, .inl f2)), (oo, .inl (cT 0, 19, .inl go))] sz) (fun u9 : Int × (Nat → Int32) × (Nat → Int32) × (Nat → Int32) × (Nat → Int32) => [(y, .inr (11, MO yr yi ysb ybs)), (yr 0, .inl (cT 0, 19, .inl fp)), (a, .inl (cT 0, 302, .inl u9.2.1)), (lo, .inl (cT 0, 19, .inl u9.2.2.1)), (ob, .inl (cT 0, 302, .inl u9.2.2.2.1)), (oo, .inl (cT 0, 19, .inl u9.2.2.2.2))])) (va_A [(y, .inr (11, MO yr yi ysb ybs)), (yr 0, .inl (cT 0, 19, .inl fp)), (a, .inl (cT 0, 302, .inl f)), (lo, .inl (cT 0, 19, .inl gl)), (ob, .inl (cT 0, 302, .inl f2)), (oo, .inl (cT 0, 19, .inl go))] sz)) 0 0 (va_A [(y, .inr (11, MO yr yi ysb ybs)), (yr 0, .inl (cT 0, 19, .inl fp)), (a, .inl (cT 0, 302, .inl f)), (lo, .inl (cT 0, 19, .inl gl)), (ob, .inl (cT 0, 302, .inl f2)), (oo, .inl (cT 0, 19, .inl go))] sz) := by
  refine Met.ofW (cc := cM_addFractions) (maxL := 6) (ret := none) (by decide) rfl ?_
  intro p e s m args below meth c s₁ B hml hv
  obtain ⟨rfl, hsz, hZ, hP, hK, hD0⟩ := hv
  have hx := B.exec
  have hb := B.bytes
  have hr := B.returns
  have hts := atoms_spec (ws := WM_addFractions) B.pre
  have hT : ∀ w ∈ TB, w.before _ s = true := fun w h => hts w (List.mem_cons_of_mem _ h)
  have hown : s.vm.findClass R_M = some m.cls := findClass_of_methodNamed B.named
  have hlocks := B.notSynchronized
  subst hsz
  have hD := hD0.self (sz := s.heap.size)
  generalize hAe : va_A [(y, .inr (11, MO yr yi ysb ybs)), (yr 0, .inl (cT 0, 19, .inl fp)), (a, .inl (cT 0, 302, .inl f)), (lo, .inl (cT 0, 19, .inl gl)), (ob, .inl (cT 0, 302, .inl f2)), (oo, .inl (cT 0, 19, .inl go))] s.heap.size = A at hD hZ ⊢
  have hA : ∀ q : Nat, s.heap.size ≤ q → A q := fun q h => by rw [← hAe]; exact Or.inr h
  have hS : va_S A s.heap s.heap [] := va_S.rf
  have hl := lv_entry ([.ref y, .ref a, .ref lo, .ref ob, .ref oo, .int (-1)]) (n := 6) (Nat.le_of_ble_eq_true rfl)
  rw [lg_entry_eq]
  generalize (lg_sl ([.ref y, .ref a, .ref lo, .ref ob, .ref oo, .int (-1)]) ++ List.replicate (6 - (lg_sl ([.ref y, .ref a, .ref lo, .ref ob, .ref oo, .int (-1)])).length) Slot.unset).toArray = ls at hl ⊢
  have hl : lv_has ls 6 [(0, .ref y), (1, .ref a), (2, .ref lo), (3, .ref ob), (4, .ref oo), (5, .int (-1))] := hl
  refine lv_aload_n hx hb dM_addFractions_0 rfl (lv_at hl 0 rfl) ?_
  refine lv_aload_n hx hb dM_addFractions_1 rfl (lv_at hl 1 rfl) ?_
  refine lv_aload_n hx hb dM_addFractions_2 rfl (lv_at hl 2 rfl) ?_
  refine lv_aload hx hb dM_addFractions_3 (lv_at hl 4 rfl) ?_
  refine rw_v (wc := [(y, .inr (11, MO yr yi ysb ybs)), (yr 0, .inl (cT 0, 19, .inl fp)), (a, .inl (cT 0, 302, .inl f)), (lo, .inl (cT 0, 19, .inl gl)), (oo, .inl (cT 0, 19, .inl go))]) (wr := [(ob, .inl (cT 0, 302, .inl f2))]) hP hD hS hA [0, 1, 2, 3, 5] [4] rfl rfl (by decide) (by decide) (va_runV (As := [.ref a, .ref lo, .ref oo]) (rest := []) ⟨hx, hb, hml, hown, hT⟩ (m_raise l D cT y yr yi ysb ybs fp a f z lo gl oo go bb hPR hN hL hO hbb (by omega) _) ⟨callB_of 3 hT (tb_gd w1414) rfl rfl rfl (hT _ w13) (hT _ w1411) hM_raise ⟨Nat.le_of_ble_eq_true rfl, Nat.le_of_ble_eq_true rfl⟩, (hT _ w1413), (hT _ wp41)⟩ (RW.preV (ci := 11) (q0 := 0) hZ hS (va_free (wc := [(y, .inr (11, MO yr yi ysb ybs)), (yr 0, .inl (cT 0, 19, .inl fp)), (a, .inl (cT 0, 302, .inl f)), (lo, .inl (cT 0, 19, .inl gl)), (oo, .inl (cT 0, 19, .inl go))]) hD hS hA [0, 1, 2, 3, 5] rfl) (hP.sub (ws' := [(y, .inr (11, MO yr yi ysb ybs)), (yr 0, .inl (cT 0, 19, .inl fp)), (a, .inl (cT 0, 302, .inl f)), (lo, .inl (cT 0, 19, .inl gl)), (oo, .inl (cT 0, 19, .inl go))]) [0, 1, 2, 3, 5] rfl) hK (hD.sub (ws' := [(y, .inr (11, MO yr yi ysb ybs)), (yr 0, .inl (cT 0, 19, .inl fp)), (a, .inl (cT 0, 302, .inl f)), (lo, .inl (cT 0, 19, .inl gl)), (oo, .inl (cT 0, 19, .inl go))]) [0, 1, 2, 3, 5] (by decide) rfl) rfl rfl) rfl rfl hl.1 rfl (lv_room (Nat.le_of_ble_eq_true rfl)) dM_addFractions_5 ⟨Nat.le_of_ble_eq_true rfl, Nat.le_of_ble_eq_true rfl⟩) (fun u9 H locs hpu1 hP hD hS => ?_)
  obtain ⟨z9u1, f9u1, g9u1⟩ := u9
  have hpu1 : MN f9u1 z9u1 ∧ LOK g9u1 bb ∧ (∀ q8, q8 < 19 → dg g9u1 q8 = max (dg gl q8) (dg go q8)) ∧ z9u1 * (dn gl : Int) = z * (dn g9u1 : Int) := hpu1
  have hP : va_P D vwCl [(ob, .inl (cT 0, 302, .inl f2)), (y, .inr (11, MO yr yi ysb ybs)), (yr 0, .inl (cT 0, 19, .inl fp)), (a, .inl (cT 0, 302, .inl f9u1)), (lo, .inl (cT 0, 19, .inl g9u1)), (oo, .inl (cT 0, 19, .inl go))] _ := hP
  have hD : va_D A [(ob, .inl (cT 0, 302, .inl f2)), (y, .inr (11, MO yr yi ysb ybs)), (yr 0, .inl (cT 0, 19, .inl fp)), (a, .inl (cT 0, 302, .inl f9u1)), (lo, .inl (cT 0, 19, .inl g9u1)), (oo, .inl (cT 0, 19, .inl go))] := hD
  obtain ⟨aN, aL, am, av⟩ := hpu1
  have hDn : dn g9u1 ≤ dn gl * dn go := dnk_le (Nat.le_refl 19) (fun q hq => by rw [am q hq]; exact max_le2)
  have hza := fr_le av dn_pos hDn
  have hzd : z2.natAbs * dn g9u1 ≤ z2.natAbs * (dn gl * dn go) := Nat.mul_le_mul_left _ hDn
  refine lv_aload_n hx hb dM_addFractions_8 rfl (lv_at hl 0 rfl) ?_
  refine lv_aload_n hx hb dM_addFractions_9 rfl (lv_at hl 3 rfl) ?_
  refine lv_aload hx hb dM_addFractions_10 (lv_at hl 4 rfl) ?_
  refine lv_aload_n hx hb dM_addFractions_12 rfl (lv_at hl 2 rfl) ?_
  refine rw_v (wc := [(y, .inr (11, MO yr yi ysb ybs)), (yr 0, .inl (cT 0, 19, .inl fp)), (ob, .inl (cT 0, 302, .inl f2)), (oo, .inl (cT 0, 19, .inl go)), (lo, .inl (cT 0, 19, .inl g9u1))]) (wr := [(a, .inl (cT 0, 302, .inl f9u1))]) hP hD hS hA [1, 2, 0, 5, 4] [3] rfl rfl (by decide) (by decide) (va_runV (As := [.ref ob, .ref oo, .ref lo]) (rest := []) ⟨hx, hb, hml, hown, hT⟩ (m_raise l D cT y yr yi ysb ybs fp ob f2 z2 oo go lo g9u1 bb hPR hN2 hO aL hbb (by omega) _) ⟨callB_of 3 hT (tb_gd w1414) rfl rfl rfl (hT _ w13) (hT _ w1411) hM_raise ⟨Nat.le_of_ble_eq_true rfl, Nat.le_of_ble_eq_true rfl⟩, (hT _ w1413), (hT _ wp41)⟩ (RW.preV (ci := 11) (q0 := 0) hZ hS (va_free (wc := [(y, .inr (11, MO yr yi ysb ybs)), (yr 0, .inl (cT 0, 19, .inl fp)), (ob, .inl (cT 0, 302, .inl f2)), (oo, .inl (cT 0, 19, .inl go)), (lo, .inl (cT 0, 19, .inl g9u1))]) hD hS hA [1, 2, 0, 5, 4] rfl) (hP.sub (ws' := [(y, .inr (11, MO yr yi ysb ybs)), (yr 0, .inl (cT 0, 19, .inl fp)), (ob, .inl (cT 0, 302, .inl f2)), (oo, .inl (cT 0, 19, .inl go)), (lo, .inl (cT 0, 19, .inl g9u1))]) [1, 2, 0, 5, 4] rfl) hK (hD.sub (ws' := [(y, .inr (11, MO yr yi ysb ybs)), (yr 0, .inl (cT 0, 19, .inl fp)), (ob, .inl (cT 0, 302, .inl f2)), (oo, .inl (cT 0, 19, .inl go)), (lo, .inl (cT 0, 19, .inl g9u1))]) [1, 2, 0, 5, 4] (by decide) rfl) rfl rfl) rfl rfl hl.1 rfl (lv_room (Nat.le_of_ble_eq_true rfl)) dM_addFractions_13 ⟨Nat.le_of_ble_eq_true rfl, Nat.le_of_ble_eq_true rfl⟩) (fun u9 H locs hpu2 hP hD hS => ?_)
  obtain ⟨z9u2, f9u2, g9u2⟩ := u9
  have hpu2 : MN f9u2 z9u2 ∧ LOK g9u2 bb ∧ (∀ q8, q8 < 19 → dg g9u2 q8 = max (dg go q8) (dg g9u1 q8)) ∧ z9u2 * (dn go : Int) = z2 * (dn g9u2 : Int) := hpu2
  have hP : va_P D vwCl [(a, .inl (cT 0, 302, .inl f9u1)), (y, .inr (11, MO yr yi ysb ybs)), (yr 0, .inl (cT 0, 19, .inl fp)), (ob, .inl (cT 0, 302, .inl f9u2)), (oo, .inl (cT 0, 19, .inl g9u2)), (lo, .inl (cT 0, 19, .inl g9u1))] _ := hP
  have hD : va_D A [(a, .inl (cT 0, 302, .inl f9u1)), (y, .inr (11, MO yr yi ysb ybs)), (yr 0, .inl (cT 0, 19, .inl fp)), (ob, .inl (cT 0, 302, .inl f9u2)), (oo, .inl (cT 0, 19, .inl g9u2)), (lo, .inl (cT 0, 19, .inl g9u1))] := hD
  obtain ⟨bN, bL, bm, bv⟩ := hpu2
  have hDe : dn g9u2 = dn g9u1 := dnk_cg (fun q hq => by rw [bm q hq, am q hq]; omega)
  rw [hDe] at bv
  have hzb := fr_le (T := dn gl) bv dn_pos (by rw [Nat.mul_comm]; exact hDn)
  have hz2 : z2.natAbs * dn gl ≤ z2.natAbs * (dn gl * dn go) := Nat.mul_le_mul_left _ (Nat.le_mul_of_pos_right _ dn_pos)
  refine lv_aload_n hx hb dM_addFractions_16 rfl (lv_at hl 1 rfl) ?_
  refine lv_aload_n hx hb dM_addFractions_17 rfl (lv_at hl 3 rfl) ?_
  refine lv_iload hx hb dM_addFractions_18 (lv_at hl 5 rfl) ?_
  refine rw_v (wc := [(a, .inl (cT 0, 302, .inl f9u1)), (ob, .inl (cT 0, 302, .inl f9u2))]) (wr := [(y, .inr (11, MO yr yi ysb ybs)), (yr 0, .inl (cT 0, 19, .inl fp)), (oo, .inl (cT 0, 19, .inl g9u2)), (lo, .inl (cT 0, 19, .inl g9u1))]) hP hD hS hA [0, 3] [1, 2, 4, 5] rfl rfl (by decide) (by decide) (va_runS (As := [.ref a, .ref ob, .int (-1)]) (rest := []) ⟨hx, hb, hml, hown, hT⟩ (m_add1 l D cT a f9u1 z9u1 ob f9u2 z9u2 aN bN (by omega) _) ⟨callB_of 3 hT (tb_gd w1423) rfl rfl rfl (hT _ w13) (hT _ w1421) hM_add ⟨Nat.le_of_ble_eq_true rfl, Nat.le_of_ble_eq_true rfl⟩, (hT _ w1422)⟩ (RW.preS hZ hS (va_free (wc := [(a, .inl (cT 0, 302, .inl f9u1)), (ob, .inl (cT 0, 302, .inl f9u2))]) hD hS hA [0, 3] rfl) (hP.sub (ws' := [(a, .inl (cT 0, 302, .inl f9u1)), (ob, .inl (cT 0, 302, .inl f9u2))]) [0, 3] rfl) hK (hD.sub (ws' := [(a, .inl (cT 0, 302, .inl f9u1)), (ob, .inl (cT 0, 302, .inl f9u2))]) [0, 3] (by decide) rfl)) rfl rfl hl.1 rfl (lv_room (Nat.le_of_ble_eq_true rfl)) dM_addFractions_20 ⟨Nat.le_of_ble_eq_true rfl, Nat.le_of_ble_eq_true rfl⟩) (fun u9 H locs hpu3 hP hD hS => ?_)
  obtain ⟨f1u3, rfl⟩ : ∃ q9, q9 = u9 := ⟨_, rfl⟩
  have hpu3 : MN f1u3 (z9u1 - z9u2) := hpu3
  have hP : va_P D vwCl [(y, .inr (11, MO yr yi ysb ybs)), (yr 0, .inl (cT 0, 19, .inl fp)), (oo, .inl (cT 0, 19, .inl g9u2)), (lo, .inl (cT 0, 19, .inl g9u1)), (a, .inl (cT 0, 302, .inl f1u3)), (ob, .inl (cT 0, 302, .inl f9u2))] _ := hP
  have hD : va_D A [(y, .inr (11, MO yr yi ysb ybs)), (yr 0, .inl (cT 0, 19, .inl fp)), (oo, .inl (cT 0, 19, .inl g9u2)), (lo, .inl (cT 0, 19, .inl g9u1)), (a, .inl (cT 0, 302, .inl f1u3)), (ob, .inl (cT 0, 302, .inl f9u2))] := hD
  have cN := hpu3
  refine lv_aload_n hx hb dM_addFractions_23 rfl (lv_at hl 0 rfl) ?_
  refine lv_aload_n hx hb dM_addFractions_24 rfl (lv_at hl 1 rfl) ?_
  refine lv_aload_n hx hb dM_addFractions_25 rfl (lv_at hl 2 rfl) ?_
  refine rw_v (wc := [(y, .inr (11, MO yr yi ysb ybs)), (yr 0, .inl (cT 0, 19, .inl fp)), (a, .inl (cT 0, 302, .inl f1u3)), (lo, .inl (cT 0, 19, .inl g9u1))]) (wr := [(oo, .inl (cT 0, 19, .inl g9u2)), (ob, .inl (cT 0, 302, .inl f9u2))]) hP hD hS hA [0, 1, 4, 3] [2, 5] rfl rfl (by decide) (by decide) (va_runV (As := [.ref a, .ref lo]) (rest := []) ⟨hx, hb, hml, hown, hT⟩ (m_reduce l D cT y yr yi ysb ybs fp a f1u3 (z9u1 - z9u2) lo g9u1 bb hPR cN aL hbb _) ⟨callB_of 2 hT (tb_gd w1440) rfl rfl rfl (hT _ w13) (hT _ w1437) hM_reduce ⟨Nat.le_of_ble_eq_true rfl, Nat.le_of_ble_eq_true rfl⟩, (hT _ w1439), (hT _ wp42)⟩ (RW.preV (ci := 11) (q0 := 0) hZ hS (va_free (wc := [(y, .inr (11, MO yr yi ysb ybs)), (yr 0, .inl (cT 0, 19, .inl fp)), (a, .inl (cT 0, 302, .inl f1u3)), (lo, .inl (cT 0, 19, .inl g9u1))]) hD hS hA [0, 1, 4, 3] rfl) (hP.sub (ws' := [(y, .inr (11, MO yr yi ysb ybs)), (yr 0, .inl (cT 0, 19, .inl fp)), (a, .inl (cT 0, 302, .inl f1u3)), (lo, .inl (cT 0, 19, .inl g9u1))]) [0, 1, 4, 3] rfl) hK (hD.sub (ws' := [(y, .inr (11, MO yr yi ysb ybs)), (yr 0, .inl (cT 0, 19, .inl fp)), (a, .inl (cT 0, 302, .inl f1u3)), (lo, .inl (cT 0, 19, .inl g9u1))]) [0, 1, 4, 3] (by decide) rfl) rfl rfl) rfl rfl hl.1 rfl (lv_room (Nat.le_of_ble_eq_true rfl)) dM_addFractions_26 ⟨Nat.le_of_ble_eq_true rfl, Nat.le_of_ble_eq_true rfl⟩) (fun u9 H locs hpu4 hP hD hS => ?_)
  obtain ⟨z9u4, f9u4, g9u4⟩ := u9
  have hpu4 : MN f9u4 z9u4 ∧ LOK g9u4 bb ∧ RED z9u4 g9u4 ∧ z9u4 * (dn g9u1 : Int) = (z9u1 - z9u2) * (dn g9u4 : Int) := hpu4
  have hP : va_P D vwCl [(oo, .inl (cT 0, 19, .inl g9u2)), (ob, .inl (cT 0, 302, .inl f9u2)), (y, .inr (11, MO yr yi ysb ybs)), (yr 0, .inl (cT 0, 19, .inl fp)), (a, .inl (cT 0, 302, .inl f9u4)), (lo, .inl (cT 0, 19, .inl g9u4))] _ := hP
  have hD : va_D A [(oo, .inl (cT 0, 19, .inl g9u2)), (ob, .inl (cT 0, 302, .inl f9u2)), (y, .inr (11, MO yr yi ysb ybs)), (yr 0, .inl (cT 0, 19, .inl fp)), (a, .inl (cT 0, 302, .inl f9u4)), (lo, .inl (cT 0, 19, .inl g9u4))] := hD
  have hP9 := hP.sub (ws' := [(y, .inr (11, MO yr yi ysb ybs)), (yr 0, .inl (cT 0, 19, .inl fp)), (a, .inl (cT 0, 302, .inl f9u4)), (lo, .inl (cT 0, 19, .inl g9u4)), (ob, .inl (cT 0, 302, .inl f9u2)), (oo, .inl (cT 0, 19, .inl g9u2))]) [2, 3, 4, 5, 1, 0] rfl
  have hD9 := hD.sub (ws' := [(y, .inr (11, MO yr yi ysb ybs)), (yr 0, .inl (cT 0, 19, .inl fp)), (a, .inl (cT 0, 302, .inl f9u4)), (lo, .inl (cT 0, 19, .inl g9u4)), (ob, .inl (cT 0, 302, .inl f9u2)), (oo, .inl (cT 0, 19, .inl g9u2))]) [2, 3, 4, 5, 1, 0] (by decide) rfl
  refine W.widen (k := 0) (n := 0) (Nat.le_of_ble_eq_true rfl) (Nat.le_of_ble_eq_true rfl) ?_
  exact W.vret hx hb hr (fun t9 ht9 hW9 => ⟨⟨(z9u4, f9u4, g9u4, f9u2, g9u2), rfl, (show MN f9u4 z9u4 ∧ LOK g9u4 bb ∧ RED z9u4 g9u4 ∧ z9u4 * ((dn gl * dn go : Nat) : Int) = (z * (dn go : Int) - z2 * (dn gl : Int)) * (dn g9u4 : Int) from ⟨hpu4.1, hpu4.2.1, hpu4.2.2.1, fr_sub dn_pos av bv hpu4.2.2.2⟩), by rw [ht9]; exact hP9, hD9⟩, hS.F ht9⟩) hS.2.2 dM_addFractions_29
