set_option maxHeartbeats 4000000 in
set_option maxRecDepth 100000 in
theorem m_square (l : Launch) (D : va_G) (cT : Nat → ClassId) (y : Nat) (yr : Nat → Nat) (yi : Nat → Int32) (ysb : Int64) (ybs : Int64) (f2 : Nat → Int32) (a : Nat) (f : Nat → Int32) (z : Int) (hN : MN f z) (hfit : z.natAbs * z.natAbs < 268435456 ^ 250) (sz : Nat) : Met l yM_multiply WM_multiply ({ frames := 1, cells := 0, slots := 0, locals := 22 } : Room) (RW D vwCl [.ref y, .ref a, .ref a] [(y, .inr (11, MO yr yi ysb ybs)), (yr 32, .inl (cT 0, 302, .inl f2)), (a, .inl (cT 0, 302, .inl f))] (TY cT) sz) (va_Qv (fun u9 : (Nat → Int32) => MN u9 (z * z)) (BW D vwCl (va_A [(y, .inr (11, MO yr yi ysb ybs)), (yr 32, .inl (cT 0, 302, .inl f2)), (a, .inl (cT 0, 302, .inl f))] sz) (fun u9 : (Nat → Int32) => [(y, .inr (11, MO yr yi ysb ybs)), (yr 32, .inl (cT 0, 302, .inl u9)), (a, .inl (cT 0, 302, .inl f))])) (va_A [(y, .inr (11, MO yr yi ysb ybs)), (yr 32, .inl (cT 0, 302, .inl f2)), (a, .inl (cT 0, 302, .inl f))] sz)) 0 0 (va_A [(y, .inr (11, MO yr yi ysb ybs)), (yr 32, .inl (cT 0, 302, .inl f2)), (a, .inl (cT 0, 302, .inl f))] sz) := by
  refine Met.ofW (cc := cM_multiply) (maxL := 10) (ret := none) (by decide) rfl ?_
  intro p e s m args below meth c s₁ B hml hv
  obtain ⟨rfl, hsz, hZ, hP, hK, hD0⟩ := hv
  have hx := B.exec
  have hb := B.bytes
  have hr := B.returns
  have hts := atoms_spec (ws := WM_multiply) B.pre
  have hT : ∀ w ∈ TB, w.before _ s = true := fun w h => hts w (List.mem_cons_of_mem _ h)
  have hown : s.vm.findClass R_M = some m.cls := findClass_of_methodNamed B.named
  have hlocks := B.notSynchronized
  subst hsz
  have hD := hD0.self (sz := s.heap.size)
  generalize hAe : va_A [(y, .inr (11, MO yr yi ysb ybs)), (yr 32, .inl (cT 0, 302, .inl f2)), (a, .inl (cT 0, 302, .inl f))] s.heap.size = A at hD hZ ⊢
  have hA : ∀ q : Nat, s.heap.size ≤ q → A q := fun q h => by rw [← hAe]; exact Or.inr h
  have hS : va_S A s.heap s.heap [] := va_S.rf
  have hl := lv_entry ([.ref y, .ref a, .ref a]) (n := 10) (Nat.le_of_ble_eq_true rfl)
  rw [lg_entry_eq]
  generalize (lg_sl ([.ref y, .ref a, .ref a]) ++ List.replicate (10 - (lg_sl ([.ref y, .ref a, .ref a])).length) Slot.unset).toArray = ls at hl ⊢
  have hl : lv_has ls 10 [(0, .ref y), (1, .ref a), (2, .ref a)] := hl
  obtain ⟨K, h300, hk, hd, htop, hs, hva⟩ := hN
  have hK9 := M_sq htop (by rw [← hva]; exact hfit)
  obtain ⟨nn, hnn⟩ : ∃ q9 : Nat, q9 = K + K := ⟨_, rfl⟩
  refine lv_aload_n hx hb dM_multiply_0 rfl (lv_at hl 1 rfl) ?_
  refine lv_sipush (v := 300) hx hb dM_multiply_1 (by decide) ?_
  refine lq_iald (j := 300) hx hb hK hP 2 0 rfl rfl rfl (by decide) (by decide) dM_multiply_4 ?_
  refine lv_topi (fun y9 e9 => ?_)
  cases (show y9 = nI K from e9.trans h300)
  refine lv_aload_n hx hb dM_multiply_5 rfl (lv_at hl 2 rfl) ?_
  refine lv_sipush (v := 300) hx hb dM_multiply_6 (by decide) ?_
  refine lq_iald (j := 300) hx hb hK hP 2 0 rfl rfl rfl (by decide) (by decide) dM_multiply_9 ?_
  refine lv_topi (fun y9 e9 => ?_)
  cases (show y9 = nI K from e9.trans h300)
  refine lv_iadd hx hb dM_multiply_10 ?_
  refine lv_topi (fun y9 e9 => ?_)
  cases (show y9 = nI (K + K) from e9.trans (nI_add K K))
  refine lv_topi (fun y9 e9 => ?_)
  cases (show y9 = nI nn from e9.trans (congrArg nI hnn.symm))
  refine lv_istore_n hx hb dM_multiply_11 rfl hl (by decide) rfl (fun ls hl => ?_)
  have hl : lv_has ls 10 [(3, .int (nI nn)), (0, .ref y), (1, .ref a), (2, .ref a)] := hl
  refine lv_iconst (v := 0) hx hb dM_multiply_12 (by decide) ?_
  refine lv_istore hx hb dM_multiply_13 hl (by decide) rfl (fun ls hl => ?_)
  have hl : lv_has ls 10 [(4, .int 0), (3, .int (nI nn)), (0, .ref y), (1, .ref a), (2, .ref a)] := hl
  refine lp_w (α := Nat × (Nat → Int32)) (fun a9 => a9.1 ≤ nn ∧ (∀ q, q < a9.1 → a9.2 q = 0)) (fun a9 => nn - a9.1) (fun a9 => [(0, .ref y), (1, .ref a), (2, .ref a), (3, .int (nI nn)), (4, .int (nI a9.1))]) (fun a9 => [(y, .inr (11, MO yr yi ysb ybs)), (yr 32, .inl (cT 0, 302, .inl a9.2)), (a, .inl (cT 0, 302, .inl f))]) 15 ?_ (0, f2) (show 0 ≤ nn ∧ (∀ q, q < 0 → f2 q = 0) from ⟨by omega, fun q h => absurd h (by omega)⟩) (lv_sub hl [2, 3, 4, 1, 0] rfl) hP hD hS
  intro a9 hI15 ih15 ls H locs hl hP hD hS
  obtain ⟨j, g⟩ := a9
  have hI15 : j ≤ nn ∧ (∀ q, q < j → g q = 0) := hI15
  obtain ⟨ij, iz⟩ := hI15
  have hl : lv_has ls 10 [(0, .ref y), (1, .ref a), (2, .ref a), (3, .int (nI nn)), (4, .int (nI j))] := hl
  have hP : va_P D vwCl [(y, .inr (11, MO yr yi ysb ybs)), (yr 32, .inl (cT 0, 302, .inl g)), (a, .inl (cT 0, 302, .inl f))] _ := hP
  have hD : va_D A [(y, .inr (11, MO yr yi ysb ybs)), (yr 32, .inl (cT 0, 302, .inl g)), (a, .inl (cT 0, 302, .inl f))] := hD
  refine lv_iload hx hb dM_multiply_15 (lv_at hl 4 rfl) ?_
  refine lv_iload_n hx hb dM_multiply_17 rfl (lv_at hl 3 rfl) ?_
  refine lv_icmp_ge (tgt := 35) hx hb dM_multiply_18 rfl (fun h1 => ?_) (fun h1 => ?_)
  · have gh1 : nn ≤ j := (nI_leI (a := nn) (b := j) (by omega) (by omega)).mp h1
    refine lv_iconst (v := 0) hx hb dM_multiply_35 (by decide) ?_
    refine lv_istore hx hb dM_multiply_36 hl (by decide) rfl (fun ls hl => ?_)
    have hl : lv_has ls 10 [(4, .int 0), (0, .ref y), (1, .ref a), (2, .ref a), (3, .int (nI nn))] := hl
    refine lp_w (α := Nat × (Nat → Int32)) (fun a9 => a9.1 ≤ K ∧ dok 268435456 a9.2 nn ∧ (∀ q, a9.1 + K ≤ q → q < nn → dg a9.2 q = 0) ∧ hv 268435456 (dg a9.2) 0 nn = hv 268435456 (dg f) 0 a9.1 * vM f K) (fun a9 => K - a9.1) (fun a9 => [(0, .ref y), (1, .ref a), (2, .ref a), (3, .int (nI nn)), (4, .int (nI a9.1))]) (fun a9 => [(y, .inr (11, MO yr yi ysb ybs)), (yr 32, .inl (cT 0, 302, .inl a9.2)), (a, .inl (cT 0, 302, .inl f))]) 38 ?_ (0, g) (show 0 ≤ K ∧ dok 268435456 g nn ∧ (∀ q, 0 + K ≤ q → q < nn → dg g q = 0) ∧ hv 268435456 (dg g) 0 nn = hv 268435456 (dg f) 0 0 * vM f K from ⟨by omega, fun q h => (by rw [dg_eq0 (iz q (by omega)), iz q (by omega)]; exact ⟨rfl, by decide⟩), fun q _ h => dg_eq0 (iz q (by omega)), by rw [hv_0, Nat.zero_mul]; exact hv_zero (fun q _ h => dg_eq0 (iz q (by omega)))⟩) (lv_sub hl [1, 2, 3, 4, 0] rfl) hP hD hS
    intro a9 hI38 ih38 ls H locs hl hP hD hS
    obtain ⟨i, g2⟩ := a9
    have hI38 : i ≤ K ∧ dok 268435456 g2 nn ∧ (∀ q, i + K ≤ q → q < nn → dg g2 q = 0) ∧ hv 268435456 (dg g2) 0 nn = hv 268435456 (dg f) 0 i * vM f K := hI38
    obtain ⟨ii, id2, iz2, iv⟩ := hI38
    have hl : lv_has ls 10 [(0, .ref y), (1, .ref a), (2, .ref a), (3, .int (nI nn)), (4, .int (nI i))] := hl
    have hP : va_P D vwCl [(y, .inr (11, MO yr yi ysb ybs)), (yr 32, .inl (cT 0, 302, .inl g2)), (a, .inl (cT 0, 302, .inl f))] _ := hP
    have hD : va_D A [(y, .inr (11, MO yr yi ysb ybs)), (yr 32, .inl (cT 0, 302, .inl g2)), (a, .inl (cT 0, 302, .inl f))] := hD
    refine lv_iload hx hb dM_multiply_38 (lv_at hl 4 rfl) ?_
    refine lv_aload_n hx hb dM_multiply_40 rfl (lv_at hl 1 rfl) ?_
    refine lv_sipush (v := 300) hx hb dM_multiply_41 (by decide) ?_
    refine lq_iald (j := 300) hx hb hK hP 2 0 rfl rfl rfl (by decide) (by decide) dM_multiply_44 ?_
    refine lv_topi (fun y9 e9 => ?_)
    cases (show y9 = nI K from e9.trans h300)
    refine lv_icmp_ge (tgt := 149) hx hb dM_multiply_45 rfl (fun h2 => ?_) (fun h2 => ?_)
    · have gh2 : K ≤ i := (nI_leI (a := K) (b := i) (by omega) (by omega)).mp h2
      have ei : i = K := by omega
      rw [ei] at iv
      refine lv_aload_n hx hb dM_multiply_149 rfl (lv_at hl 0 rfl) ?_
      refine va_get (D := D) (ci := 11) (v := .ref (yr 32)) (C := R_M) (T := T_M) (N := 60) hx hb hT in_M hown hK hP 0 rfl rfl 32 (by decide) (hT _ w1136) (fun _ h9 => h9) rfl dM_multiply_150 ?_
      refine lv_sipush (v := 301) hx hb dM_multiply_153 (by decide) ?_
      refine lv_aload_n hx hb dM_multiply_156 rfl (lv_at hl 1 rfl) ?_
      refine lv_sipush (v := 301) hx hb dM_multiply_157 (by decide) ?_
      refine lq_iald (j := 301) hx hb hK hP 2 0 rfl rfl rfl (by decide) (by decide) dM_multiply_160 ?_
      refine lv_topi (fun y9 e9 => ?_)
      cases (show y9 = sg z from e9.trans hs)
      refine lv_aload_n hx hb dM_multiply_161 rfl (lv_at hl 2 rfl) ?_
      refine lv_sipush (v := 301) hx hb dM_multiply_162 (by decide) ?_
      refine lq_iald (j := 301) hx hb hK hP 2 0 rfl rfl rfl (by decide) (by decide) dM_multiply_165 ?_
      refine lv_topi (fun y9 e9 => ?_)
      cases (show y9 = sg z from e9.trans hs)
      refine lv_imul hx hb dM_multiply_166 ?_
      refine lv_topi (fun y9 e9 => ?_)
      cases (show y9 = sg (z * z) from e9.trans sg_sq)
      refine lq_iast (j := 301) hx hb hK hP hD hS 1 0 rfl rfl rfl (by decide) (by decide) dM_multiply_167 (fun H locs hP hD hS => ?_)
      have hP : va_P D vwCl [(y, .inr (11, MO yr yi ysb ybs)), (yr 32, .inl (cT 0, 302, .inl (upd g2 301 (sg (z * z))))), (a, .inl (cT 0, 302, .inl f))] _ := hP
      have hD : va_D A [(y, .inr (11, MO yr yi ysb ybs)), (yr 32, .inl (cT 0, 302, .inl (upd g2 301 (sg (z * z))))), (a, .inl (cT 0, 302, .inl f))] := hD
      refine lv_aload_n hx hb dM_multiply_168 rfl (lv_at hl 0 rfl) ?_
      refine va_get (D := D) (ci := 11) (v := .ref (yr 32)) (C := R_M) (T := T_M) (N := 60) hx hb hT in_M hown hK hP 0 rfl rfl 32 (by decide) (hT _ w1136) (fun _ h9 => h9) rfl dM_multiply_169 ?_
      refine lv_iload_n hx hb dM_multiply_172 rfl (lv_at hl 3 rfl) ?_
      refine rw_v (wc := [(yr 32, .inl (cT 0, 302, .inl (upd g2 301 (sg (z * z)))))]) (wr := [(y, .inr (11, MO yr yi ysb ybs)), (a, .inl (cT 0, 302, .inl f))]) hP hD hS hA [1] [0, 2] rfl rfl (by decide) (by decide) (va_runS (As := [.ref (yr 32), .int (nI nn)]) (rest := []) ⟨hx, hb, hml, hown, hT⟩ (m_trim l D cT (yr 32) (upd g2 301 (sg (z * z))) nn (by omega) (dok_cg id2 (fun q hq => pk_un (by omega))) _) ⟨callB_of 2 hT (tb_gd w1420) rfl rfl rfl (hT _ w13) (hT _ w1418) hM_trim ⟨Nat.le_of_ble_eq_true rfl, Nat.le_of_ble_eq_true rfl⟩, (hT _ w1419)⟩ (RW.preS hZ hS (va_free (wc := [(yr 32, .inl (cT 0, 302, .inl (upd g2 301 (sg (z * z)))))]) hD hS hA [1] rfl) (hP.sub (ws' := [(yr 32, .inl (cT 0, 302, .inl (upd g2 301 (sg (z * z)))))]) [1] rfl) hK (hD.sub (ws' := [(yr 32, .inl (cT 0, 302, .inl (upd g2 301 (sg (z * z)))))]) [1] (by decide) rfl)) rfl rfl hl.1 rfl (lv_room (Nat.le_of_ble_eq_true rfl)) dM_multiply_173 ⟨Nat.le_of_ble_eq_true rfl, Nat.le_of_ble_eq_true rfl⟩) (fun u9 H locs hpu3 hP hD hS => ?_)
      obtain ⟨ku3, f1u3⟩ := u9
      have hpu3 : ku3 ≤ nn ∧ top0 (upd g2 301 (sg (z * z))) ku3 ∧ vM (upd g2 301 (sg (z * z))) ku3 = vM (upd g2 301 (sg (z * z))) nn ∧ f1u3 300 = nI ku3 ∧ f1u3 301 = (if ku3 = 0 then 0 else (upd g2 301 (sg (z * z))) 301) ∧ ∀ q8, q8 < 300 → f1u3 q8 = (upd g2 301 (sg (z * z))) q8 := hpu3
      have hP : va_P D vwCl [(y, .inr (11, MO yr yi ysb ybs)), (a, .inl (cT 0, 302, .inl f)), (yr 32, .inl (cT 0, 302, .inl f1u3))] _ := hP
      have hD : va_D A [(y, .inr (11, MO yr yi ysb ybs)), (a, .inl (cT 0, 302, .inl f)), (yr 32, .inl (cT 0, 302, .inl f1u3))] := hD
      have hP9 := hP.sub (ws' := [(y, .inr (11, MO yr yi ysb ybs)), (yr 32, .inl (cT 0, 302, .inl f1u3)), (a, .inl (cT 0, 302, .inl f))]) [0, 2, 1] rfl
      have hD9 := hD.sub (ws' := [(y, .inr (11, MO yr yi ysb ybs)), (yr 32, .inl (cT 0, 302, .inl f1u3)), (a, .inl (cT 0, 302, .inl f))]) [0, 2, 1] (by decide) rfl
      refine W.widen (k := 0) (n := 0) (Nat.le_of_ble_eq_true rfl) (Nat.le_of_ble_eq_true rfl) ?_
      exact W.vret hx hb hr (fun t9 ht9 hW9 => ⟨⟨f1u3, rfl, (show MN f1u3 (z * z) from mn_trim (by omega) (dok_cg id2 (fun q hq => pk_un (by omega))) hpu3 (by rw [Int.natAbs_mul, hva, show vM (upd g2 301 (sg (z * z))) nn = vM g2 nn from hv_cg (fun q hq => pk_un (by omega))]; exact iv.symm) (fun _ => pk_us)), by rw [ht9]; exact hP9, hD9⟩, hS.F ht9⟩) hS.2.2 dM_multiply_176
    · have gh2 : i < K := Nat.not_le.mp (fun q => h2 ((nI_leI (a := K) (b := i) (by omega) (by omega)).mpr q))
      have hw := hd i (by omega)
      obtain ⟨ai, hai⟩ : ∃ q9 : Nat, q9 = dg f i := ⟨_, rfl⟩
      have haib : ai < 268435456 := by rw [hai]; exact hw.2
      rw [← hai] at hw
      refine lv_lconst (v := 0) hx hb dM_multiply_48 (by decide) ?_
      refine lv_lstore hx hb dM_multiply_49 hl (by decide) rfl (fun ls hl => ?_)
      have hl : lv_has ls 10 [(5, .long 0), (0, .ref y), (1, .ref a), (2, .ref a), (3, .int (nI nn)), (4, .int (nI i))] := hl
      refine lv_iconst (v := 0) hx hb dM_multiply_51 (by decide) ?_
      refine lv_istore hx hb dM_multiply_52 hl (by decide) rfl (fun ls hl => ?_)
      have hl : lv_has ls 10 [(7, .int 0), (5, .long 0), (0, .ref y), (1, .ref a), (2, .ref a), (3, .int (nI nn)), (4, .int (nI i))] := hl
      refine lp_w (α := Nat × Nat × (Nat → Int32)) (fun a9 => a9.1 ≤ K + 1 ∧ a9.2.1 < 268435456 ∧ (K < a9.1 → a9.2.1 = 0) ∧ dok 268435456 a9.2.2 nn ∧ (∀ q, i + K + 1 ≤ q → q < nn → dg a9.2.2 q = 0) ∧ (a9.1 ≤ K → dg a9.2.2 (i + K) = 0) ∧ hv 268435456 (dg a9.2.2) 0 nn + 268435456 ^ i * 268435456 ^ a9.1 * a9.2.1 = hv 268435456 (dg f) 0 i * vM f K + 268435456 ^ i * ai * hv 268435456 (ct K (dg f)) 0 a9.1) (fun a9 => K + 2 - a9.1) (fun a9 => [(0, .ref y), (1, .ref a), (2, .ref a), (3, .int (nI nn)), (4, .int (nI i)), (5, .long (lN a9.2.1)), (7, .int (nI a9.1))]) (fun a9 => [(y, .inr (11, MO yr yi ysb ybs)), (yr 32, .inl (cT 0, 302, .inl a9.2.2)), (a, .inl (cT 0, 302, .inl f))]) 54 ?_ (0, 0, g2) (show 0 ≤ K + 1 ∧ 0 < 268435456 ∧ (K < 0 → 0 = 0) ∧ dok 268435456 g2 nn ∧ (∀ q, i + K + 1 ≤ q → q < nn → dg g2 q = 0) ∧ (0 ≤ K → dg g2 (i + K) = 0) ∧ hv 268435456 (dg g2) 0 nn + 268435456 ^ i * 268435456 ^ 0 * 0 = hv 268435456 (dg f) 0 i * vM f K + 268435456 ^ i * ai * hv 268435456 (ct K (dg f)) 0 0 from ⟨by omega, by decide, fun _ => rfl, id2, fun q h1 h2 => iz2 q (by omega) h2, fun _ => iz2 (i + K) (Nat.le_refl _) (by omega), by rw [hv_0, Nat.mul_zero, Nat.mul_zero, Nat.add_zero, Nat.add_zero]; exact iv⟩) (lv_sub hl [2, 3, 4, 5, 6, 1, 0] rfl) hP hD hS
      intro a9 hI54 ih54 ls H locs hl hP hD hS
      obtain ⟨t, c1, g3⟩ := a9
      have hI54 : t ≤ K + 1 ∧ c1 < 268435456 ∧ (K < t → c1 = 0) ∧ dok 268435456 g3 nn ∧ (∀ q, i + K + 1 ≤ q → q < nn → dg g3 q = 0) ∧ (t ≤ K → dg g3 (i + K) = 0) ∧ hv 268435456 (dg g3) 0 nn + 268435456 ^ i * 268435456 ^ t * c1 = hv 268435456 (dg f) 0 i * vM f K + 268435456 ^ i * ai * hv 268435456 (ct K (dg f)) 0 t := hI54
      obtain ⟨jt, jc, jk, jd, jz, j0, jv⟩ := hI54
      have hl : lv_has ls 10 [(0, .ref y), (1, .ref a), (2, .ref a), (3, .int (nI nn)), (4, .int (nI i)), (5, .long (lN c1)), (7, .int (nI t))] := hl
      have hP : va_P D vwCl [(y, .inr (11, MO yr yi ysb ybs)), (yr 32, .inl (cT 0, 302, .inl g3)), (a, .inl (cT 0, 302, .inl f))] _ := hP
      have hD : va_D A [(y, .inr (11, MO yr yi ysb ybs)), (yr 32, .inl (cT 0, 302, .inl g3)), (a, .inl (cT 0, 302, .inl f))] := hD
      refine lv_iload hx hb dM_multiply_54 (lv_at hl 6 rfl) ?_
      refine lv_aload_n hx hb dM_multiply_56 rfl (lv_at hl 2 rfl) ?_
      refine lv_sipush (v := 300) hx hb dM_multiply_57 (by decide) ?_
      refine lq_iald (j := 300) hx hb hK hP 2 0 rfl rfl rfl (by decide) (by decide) dM_multiply_60 ?_
      refine lv_topi (fun y9 e9 => ?_)
      cases (show y9 = nI K from e9.trans h300)
      refine lv_icmp_lt (tgt := 71) hx hb dM_multiply_61 rfl (fun h4 => ?_) (fun h4 => ?_)
      · have gh4 : t < K := (nI_ltI (a := t) (b := K) (by omega) (by omega)).mp h4
        have htK : t ≤ K := by omega
        obtain ⟨bt, hbt⟩ : ∃ q9 : Nat, q9 = ct K (dg f) t := ⟨_, rfl⟩
        have hbtb : bt < 268435456 := by
          rw [hbt]
          by_cases q : t < K
          · rw [ct_lt q]; exact (hd t q).2
          · rw [ct_ge (show K ≤ t by omega)]; decide
        have hy := jd (i + t) (by omega)
        obtain ⟨wk, hwk⟩ : ∃ q9 : Nat, q9 = dg g3 (i + t) := ⟨_, rfl⟩
        have hwkb : wk < 268435456 := by rw [hwk]; exact hy.2
        rw [← hwk] at hy
        have hab := mulb haib hbtb
        refine lv_aload_n hx hb dM_multiply_71 rfl (lv_at hl 0 rfl) ?_
        refine va_get (D := D) (ci := 11) (v := .ref (yr 32)) (C := R_M) (T := T_M) (N := 60) hx hb hT in_M hown hK hP 0 rfl rfl 32 (by decide) (hT _ w1136) (fun _ h9 => h9) rfl dM_multiply_72 ?_
        refine lv_iload hx hb dM_multiply_75 (lv_at hl 4 rfl) ?_
        refine lv_iload hx hb dM_multiply_77 (lv_at hl 6 rfl) ?_
        refine lv_iadd hx hb dM_multiply_79 ?_
        refine lv_topi (fun y9 e9 => ?_)
        cases (show y9 = nI (i + t) from e9.trans (nI_add i t))
        refine lq_iald (j := i + t) hx hb hK hP 1 0 rfl rfl rfl (by omega) (by omega) dM_multiply_80 ?_
        refine lv_topi (fun y9 e9 => ?_)
        cases (show y9 = nI wk from e9.trans hy.1)
        refine lv_i2l hx hb dM_multiply_81 rfl ?_
        refine lv_topl (fun y9 e9 => ?_)
        cases (show y9 = lN wk from e9.trans (nI_l (n := wk) (by omega)))
        refine lv_lload hx hb dM_multiply_82 (lv_at hl 5 rfl) ?_
        refine lv_ladd hx hb dM_multiply_84 ?_
        refine lv_topl (fun y9 e9 => ?_)
        cases (show y9 = lN (wk + c1) from e9.trans (lN_add wk c1))
        refine lp_cut (fun x9 : Int64 => x9 = lN (ai * bt)) (fun x9 => [.long x9, .long (lN (wk + c1))]) 110 ls (fun x9 e9 => ?_) (fun hct5 => ?_)
        · cases (show x9 = lN (ai * bt) from e9)
          refine lv_ladd hx hb dM_multiply_110 ?_
          refine lv_topl (fun y9 e9 => ?_)
          cases (show y9 = lN ((wk + c1) + (ai * bt)) from e9.trans (lN_add (wk + c1) (ai * bt)))
          obtain ⟨sm, hsm⟩ : ∃ q9 : Nat, q9 = (wk + c1) + (ai * bt) := ⟨_, rfl⟩
          refine lv_topl (fun y9 e9 => ?_)
          cases (show y9 = lN sm from e9.trans (congrArg lN hsm.symm))
          have hsm2 : sm = ai * bt + wk + c1 := by omega
          have hsb : sm < 2 ^ 62 := by omega
          refine lv_lstore hx hb dM_multiply_111 hl (by decide) rfl (fun ls hl => ?_)
          have hl : lv_has ls 10 [(8, .long (lN sm)), (0, .ref y), (1, .ref a), (2, .ref a), (3, .int (nI nn)), (4, .int (nI i)), (5, .long (lN c1)), (7, .int (nI t))] := hl
          refine lv_aload_n hx hb dM_multiply_113 rfl (lv_at hl 1 rfl) ?_
          refine va_get (D := D) (ci := 11) (v := .ref (yr 32)) (C := R_M) (T := T_M) (N := 60) hx hb hT in_M hown hK hP 0 rfl rfl 32 (by decide) (hT _ w1136) (fun _ h9 => h9) rfl dM_multiply_114 ?_
          refine lv_iload hx hb dM_multiply_117 (lv_at hl 5 rfl) ?_
          refine lv_iload hx hb dM_multiply_119 (lv_at hl 7 rfl) ?_
          refine lv_iadd hx hb dM_multiply_121 ?_
          refine lv_topi (fun y9 e9 => ?_)
          cases (show y9 = nI (i + t) from e9.trans (nI_add i t))
          refine lv_lload hx hb dM_multiply_122 (lv_at hl 0 rfl) ?_
          refine lv_ldc2 (v := 268435455) hx hb hown (hT _ w1388) dM_multiply_124 ?_
          refine lv_land hx hb dM_multiply_127 ?_
          obtain ⟨v1, hv1⟩ : ∃ q9 : Nat, q9 = sm % 268435456 := ⟨_, rfl⟩
          have hv1b : v1 < 268435456 := by omega
          refine lv_topl (fun y9 e9 => ?_)
          cases (show y9 = lN v1 from e9.trans (by rw [hv1]; exact msk (by omega)))
          refine lv_l2i hx hb dM_multiply_128 rfl ?_
          refine lv_topi (fun y9 e9 => ?_)
          cases (show y9 = nI v1 from e9.trans (lN_i v1))
          refine lq_iast (j := i + t) hx hb hK hP hD hS 1 0 rfl rfl rfl (by omega) (by omega) dM_multiply_129 (fun H locs hP hD hS => ?_)
          have hP : va_P D vwCl [(y, .inr (11, MO yr yi ysb ybs)), (yr 32, .inl (cT 0, 302, .inl (upd g3 (i + t) (nI v1)))), (a, .inl (cT 0, 302, .inl f))] _ := hP
          have hD : va_D A [(y, .inr (11, MO yr yi ysb ybs)), (yr 32, .inl (cT 0, 302, .inl (upd g3 (i + t) (nI v1)))), (a, .inl (cT 0, 302, .inl f))] := hD
          refine lv_lload hx hb dM_multiply_130 (lv_at hl 0 rfl) ?_
          refine lv_bipush (v := 28) hx hb dM_multiply_132 (by decide) ?_
          refine lv_lshr hx hb dM_multiply_134 rfl ?_
          obtain ⟨c2, hc2⟩ : ∃ q9 : Nat, q9 = sm / 268435456 := ⟨_, rfl⟩
          refine lv_topl (fun y9 e9 => ?_)
          cases (show y9 = lN c2 from e9.trans (by rw [hc2]; exact msh (by omega)))
          refine lv_lstore hx hb dM_multiply_135 hl (by decide) rfl (fun ls hl => ?_)
          have hl : lv_has ls 10 [(5, .long (lN c2)), (8, .long (lN sm)), (0, .ref y), (1, .ref a), (2, .ref a), (3, .int (nI nn)), (4, .int (nI i)), (7, .int (nI t))] := hl
          refine lv_iinc (k := 7) (v := nI (t + 1)) hx hb dM_multiply_137 hl rfl (nI_1 t) (by decide) rfl (fun ls hl => ?_)
          have hl : lv_has ls 10 [(7, .int (nI (t + 1))), (5, .long (lN c2)), (8, .long (lN sm)), (0, .ref y), (1, .ref a), (2, .ref a), (3, .int (nI nn)), (4, .int (nI i))] := hl
          refine lv_goto (tgt := 54) hx hb dM_multiply_140 rfl ?_
          exact ih54 (t + 1, c2, upd g3 (i + t) (nI v1)) (show (t + 1) ≤ K + 1 ∧ c2 < 268435456 ∧ (K < (t + 1) → c2 = 0) ∧ dok 268435456 (upd g3 (i + t) (nI v1)) nn ∧ (∀ q, i + K + 1 ≤ q → q < nn → dg (upd g3 (i + t) (nI v1)) q = 0) ∧ ((t + 1) ≤ K → dg (upd g3 (i + t) (nI v1)) (i + K) = 0) ∧ hv 268435456 (dg (upd g3 (i + t) (nI v1))) 0 nn + 268435456 ^ i * 268435456 ^ (t + 1) * c2 = hv 268435456 (dg f) 0 i * vM f K + 268435456 ^ i * ai * hv 268435456 (ct K (dg f)) 0 (t + 1) from ⟨by omega, by rw [hc2]; exact sq_b haib hbtb hwkb jc hsm2, fun h1 => (by have e1 : t = K := (by omega); have e2 : bt = 0 := (by rw [hbt, ct_ge (show K ≤ t by omega)]); have e3 : wk = 0 := (by rw [hwk, e1]; exact j0 (by omega)); rw [hc2, hsm2, e2, e3, Nat.mul_zero]; omega), dok_u jd hv1b (by decide), fun q h1 h2 => (dg_un (by omega)).trans (jz q h1 h2), fun h1 => (dg_un (by omega)).trans (j0 (by omega)), by rw [hv_snoc, Nat.zero_add, ← hbt, hc2, Nat.pow_succ, ← Nat.mul_assoc]; exact sq_s jv hsm2 (by have q0 := hv_upd (B := 268435456) (p := i + t) (n := nn) (v := v1) (g := g3) (by omega) (by omega); rw [Nat.pow_add, ← hwk] at q0; rw [← hv1]; exact q0)⟩) (show K + 2 - (t + 1) < K + 2 - t from (by omega)) ls H locs (lv_sub hl [3, 4, 5, 6, 7, 1, 0] rfl) hP hD hS
        · refine lv_iload hx hb dM_multiply_85 (lv_at hl 6 rfl) ?_
          refine lv_aload_n hx hb dM_multiply_87 rfl (lv_at hl 2 rfl) ?_
          refine lv_sipush (v := 300) hx hb dM_multiply_88 (by decide) ?_
          refine lq_iald (j := 300) hx hb hK hP 2 0 rfl rfl rfl (by decide) (by decide) dM_multiply_91 ?_
          refine lv_topi (fun y9 e9 => ?_)
          cases (show y9 = nI K from e9.trans h300)
          refine lv_icmp_ge (tgt := 109) hx hb dM_multiply_92 rfl (fun h6 => absurd h6 (Int32.not_le.mpr h4)) (fun _ => ?_)
          refine lv_aload_n hx hb dM_multiply_95 rfl (lv_at hl 1 rfl) ?_
          refine lv_iload hx hb dM_multiply_96 (lv_at hl 4 rfl) ?_
          refine lq_iald (j := i) hx hb hK hP 2 0 rfl rfl rfl (by omega) (by omega) dM_multiply_98 ?_
          refine lv_topi (fun y9 e9 => ?_)
          cases (show y9 = nI ai from e9.trans hw.1)
          refine lv_i2l hx hb dM_multiply_99 rfl ?_
          refine lv_topl (fun y9 e9 => ?_)
          cases (show y9 = lN ai from e9.trans (nI_l (n := ai) (by omega)))
          refine lv_aload_n hx hb dM_multiply_100 rfl (lv_at hl 2 rfl) ?_
          refine lv_iload hx hb dM_multiply_101 (lv_at hl 6 rfl) ?_
          refine lq_iald (j := t) hx hb hK hP 2 0 rfl rfl rfl (by omega) (by omega) dM_multiply_103 ?_
          refine lv_topi (fun y9 e9 => ?_)
          cases (show y9 = nI bt from e9.trans (by rw [hbt, ct_lt (show t < K by omega)]; exact (hd t (by omega)).1))
          refine lv_i2l hx hb dM_multiply_104 rfl ?_
          refine lv_topl (fun y9 e9 => ?_)
          cases (show y9 = lN bt from e9.trans (nI_l (n := bt) (by omega)))
          refine lv_lmul hx hb dM_multiply_105 ?_
          refine lv_topl (fun y9 e9 => ?_)
          cases (show y9 = lN (ai * bt) from e9.trans (lN_mul ai bt))
          refine lv_goto (tgt := 110) hx hb dM_multiply_106 rfl ?_
          exact hct5 _ rfl
      · have gh4 : K ≤ t := Nat.not_lt.mp (fun q => h4 ((nI_ltI (a := t) (b := K) (by omega) (by omega)).mpr q))
        refine lv_lload hx hb dM_multiply_64 (lv_at hl 5 rfl) ?_
        refine lv_lconst (v := 0) hx hb dM_multiply_66 (by decide) ?_
        refine W.lcmp hx hb dM_multiply_67 ?_
        refine lv_if_le (tgt := 143) hx hb dM_multiply_68 rfl (fun h7 => ?_) (fun h7 => ?_)
        · have gh7 : c1 ≤ 0 := ((lg_cmp_le (lN c1) 0).trans (pk_lLE (a := c1) (b := 0) (by omega) (by decide))).mp h7
          have hc0 : c1 = 0 := by omega
          have jv : hv 268435456 (dg g3) 0 nn = hv 268435456 (dg f) 0 (i + 1) * vM f K := by rw [hv_snoc, Nat.zero_add, ← hai]; rw [hc0, Nat.mul_zero, Nat.add_zero, hv_ct (show K ≤ t by omega)] at jv; exact sq_e (B := 0) jv
          refine lv_iinc (k := 4) (v := nI (i + 1)) hx hb dM_multiply_143 hl rfl (nI_1 i) (by decide) rfl (fun ls hl => ?_)
          have hl : lv_has ls 10 [(4, .int (nI (i + 1))), (0, .ref y), (1, .ref a), (2, .ref a), (3, .int (nI nn)), (5, .long (lN c1)), (7, .int (nI t))] := hl
          refine lv_goto (tgt := 38) hx hb dM_multiply_146 rfl ?_
          exact ih38 (i + 1, g3) (show (i + 1) ≤ K ∧ dok 268435456 g3 nn ∧ (∀ q, (i + 1) + K ≤ q → q < nn → dg g3 q = 0) ∧ hv 268435456 (dg g3) 0 nn = hv 268435456 (dg f) 0 (i + 1) * vM f K from ⟨by omega, jd, fun q h1 h2 => jz q (by omega) h2, jv⟩) (show K - (i + 1) < K - i from (by omega)) ls H locs (lv_sub hl [1, 2, 3, 4, 0] rfl) hP hD hS
        · have gh7 : ¬ (c1 ≤ 0) := fun q => h7 (((lg_cmp_le (lN c1) 0).trans (pk_lLE (a := c1) (b := 0) (by omega) (by decide))).mpr q)
          have htK : t ≤ K := by omega
          obtain ⟨bt, hbt⟩ : ∃ q9 : Nat, q9 = ct K (dg f) t := ⟨_, rfl⟩
          have hbtb : bt < 268435456 := by
            rw [hbt]
            by_cases q : t < K
            · rw [ct_lt q]; exact (hd t q).2
            · rw [ct_ge (show K ≤ t by omega)]; decide
          have hy := jd (i + t) (by omega)
          obtain ⟨wk, hwk⟩ : ∃ q9 : Nat, q9 = dg g3 (i + t) := ⟨_, rfl⟩
          have hwkb : wk < 268435456 := by rw [hwk]; exact hy.2
          rw [← hwk] at hy
          have hab := mulb haib hbtb
          refine lv_aload_n hx hb dM_multiply_71 rfl (lv_at hl 0 rfl) ?_
          refine va_get (D := D) (ci := 11) (v := .ref (yr 32)) (C := R_M) (T := T_M) (N := 60) hx hb hT in_M hown hK hP 0 rfl rfl 32 (by decide) (hT _ w1136) (fun _ h9 => h9) rfl dM_multiply_72 ?_
          refine lv_iload hx hb dM_multiply_75 (lv_at hl 4 rfl) ?_
          refine lv_iload hx hb dM_multiply_77 (lv_at hl 6 rfl) ?_
          refine lv_iadd hx hb dM_multiply_79 ?_
          refine lv_topi (fun y9 e9 => ?_)
          cases (show y9 = nI (i + t) from e9.trans (nI_add i t))
          refine lq_iald (j := i + t) hx hb hK hP 1 0 rfl rfl rfl (by omega) (by omega) dM_multiply_80 ?_
          refine lv_topi (fun y9 e9 => ?_)
          cases (show y9 = nI wk from e9.trans hy.1)
          refine lv_i2l hx hb dM_multiply_81 rfl ?_
          refine lv_topl (fun y9 e9 => ?_)
          cases (show y9 = lN wk from e9.trans (nI_l (n := wk) (by omega)))
          refine lv_lload hx hb dM_multiply_82 (lv_at hl 5 rfl) ?_
          refine lv_ladd hx hb dM_multiply_84 ?_
          refine lv_topl (fun y9 e9 => ?_)
          cases (show y9 = lN (wk + c1) from e9.trans (lN_add wk c1))
          refine lp_cut (fun x9 : Int64 => x9 = lN (ai * bt)) (fun x9 => [.long x9, .long (lN (wk + c1))]) 110 ls (fun x9 e9 => ?_) (fun hct8 => ?_)
          · cases (show x9 = lN (ai * bt) from e9)
            refine lv_ladd hx hb dM_multiply_110 ?_
            refine lv_topl (fun y9 e9 => ?_)
            cases (show y9 = lN ((wk + c1) + (ai * bt)) from e9.trans (lN_add (wk + c1) (ai * bt)))
            obtain ⟨sm, hsm⟩ : ∃ q9 : Nat, q9 = (wk + c1) + (ai * bt) := ⟨_, rfl⟩
            refine lv_topl (fun y9 e9 => ?_)
            cases (show y9 = lN sm from e9.trans (congrArg lN hsm.symm))
            have hsm2 : sm = ai * bt + wk + c1 := by omega
            have hsb : sm < 2 ^ 62 := by omega
            refine lv_lstore hx hb dM_multiply_111 hl (by decide) rfl (fun ls hl => ?_)
            have hl : lv_has ls 10 [(8, .long (lN sm)), (0, .ref y), (1, .ref a), (2, .ref a), (3, .int (nI nn)), (4, .int (nI i)), (5, .long (lN c1)), (7, .int (nI t))] := hl
            refine lv_aload_n hx hb dM_multiply_113 rfl (lv_at hl 1 rfl) ?_
            refine va_get (D := D) (ci := 11) (v := .ref (yr 32)) (C := R_M) (T := T_M) (N := 60) hx hb hT in_M hown hK hP 0 rfl rfl 32 (by decide) (hT _ w1136) (fun _ h9 => h9) rfl dM_multiply_114 ?_
            refine lv_iload hx hb dM_multiply_117 (lv_at hl 5 rfl) ?_
            refine lv_iload hx hb dM_multiply_119 (lv_at hl 7 rfl) ?_
            refine lv_iadd hx hb dM_multiply_121 ?_
            refine lv_topi (fun y9 e9 => ?_)
            cases (show y9 = nI (i + t) from e9.trans (nI_add i t))
            refine lv_lload hx hb dM_multiply_122 (lv_at hl 0 rfl) ?_
            refine lv_ldc2 (v := 268435455) hx hb hown (hT _ w1388) dM_multiply_124 ?_
            refine lv_land hx hb dM_multiply_127 ?_
            obtain ⟨v1, hv1⟩ : ∃ q9 : Nat, q9 = sm % 268435456 := ⟨_, rfl⟩
            have hv1b : v1 < 268435456 := by omega
            refine lv_topl (fun y9 e9 => ?_)
            cases (show y9 = lN v1 from e9.trans (by rw [hv1]; exact msk (by omega)))
            refine lv_l2i hx hb dM_multiply_128 rfl ?_
            refine lv_topi (fun y9 e9 => ?_)
            cases (show y9 = nI v1 from e9.trans (lN_i v1))
            refine lq_iast (j := i + t) hx hb hK hP hD hS 1 0 rfl rfl rfl (by omega) (by omega) dM_multiply_129 (fun H locs hP hD hS => ?_)
            have hP : va_P D vwCl [(y, .inr (11, MO yr yi ysb ybs)), (yr 32, .inl (cT 0, 302, .inl (upd g3 (i + t) (nI v1)))), (a, .inl (cT 0, 302, .inl f))] _ := hP
            have hD : va_D A [(y, .inr (11, MO yr yi ysb ybs)), (yr 32, .inl (cT 0, 302, .inl (upd g3 (i + t) (nI v1)))), (a, .inl (cT 0, 302, .inl f))] := hD
            refine lv_lload hx hb dM_multiply_130 (lv_at hl 0 rfl) ?_
            refine lv_bipush (v := 28) hx hb dM_multiply_132 (by decide) ?_
            refine lv_lshr hx hb dM_multiply_134 rfl ?_
            obtain ⟨c2, hc2⟩ : ∃ q9 : Nat, q9 = sm / 268435456 := ⟨_, rfl⟩
            refine lv_topl (fun y9 e9 => ?_)
            cases (show y9 = lN c2 from e9.trans (by rw [hc2]; exact msh (by omega)))
            refine lv_lstore hx hb dM_multiply_135 hl (by decide) rfl (fun ls hl => ?_)
            have hl : lv_has ls 10 [(5, .long (lN c2)), (8, .long (lN sm)), (0, .ref y), (1, .ref a), (2, .ref a), (3, .int (nI nn)), (4, .int (nI i)), (7, .int (nI t))] := hl
            refine lv_iinc (k := 7) (v := nI (t + 1)) hx hb dM_multiply_137 hl rfl (nI_1 t) (by decide) rfl (fun ls hl => ?_)
            have hl : lv_has ls 10 [(7, .int (nI (t + 1))), (5, .long (lN c2)), (8, .long (lN sm)), (0, .ref y), (1, .ref a), (2, .ref a), (3, .int (nI nn)), (4, .int (nI i))] := hl
            refine lv_goto (tgt := 54) hx hb dM_multiply_140 rfl ?_
            exact ih54 (t + 1, c2, upd g3 (i + t) (nI v1)) (show (t + 1) ≤ K + 1 ∧ c2 < 268435456 ∧ (K < (t + 1) → c2 = 0) ∧ dok 268435456 (upd g3 (i + t) (nI v1)) nn ∧ (∀ q, i + K + 1 ≤ q → q < nn → dg (upd g3 (i + t) (nI v1)) q = 0) ∧ ((t + 1) ≤ K → dg (upd g3 (i + t) (nI v1)) (i + K) = 0) ∧ hv 268435456 (dg (upd g3 (i + t) (nI v1))) 0 nn + 268435456 ^ i * 268435456 ^ (t + 1) * c2 = hv 268435456 (dg f) 0 i * vM f K + 268435456 ^ i * ai * hv 268435456 (ct K (dg f)) 0 (t + 1) from ⟨by omega, by rw [hc2]; exact sq_b haib hbtb hwkb jc hsm2, fun h1 => (by have e1 : t = K := (by omega); have e2 : bt = 0 := (by rw [hbt, ct_ge (show K ≤ t by omega)]); have e3 : wk = 0 := (by rw [hwk, e1]; exact j0 (by omega)); rw [hc2, hsm2, e2, e3, Nat.mul_zero]; omega), dok_u jd hv1b (by decide), fun q h1 h2 => (dg_un (by omega)).trans (jz q h1 h2), fun h1 => (dg_un (by omega)).trans (j0 (by omega)), by rw [hv_snoc, Nat.zero_add, ← hbt, hc2, Nat.pow_succ, ← Nat.mul_assoc]; exact sq_s jv hsm2 (by have q0 := hv_upd (B := 268435456) (p := i + t) (n := nn) (v := v1) (g := g3) (by omega) (by omega); rw [Nat.pow_add, ← hwk] at q0; rw [← hv1]; exact q0)⟩) (show K + 2 - (t + 1) < K + 2 - t from (by omega)) ls H locs (lv_sub hl [3, 4, 5, 6, 7, 1, 0] rfl) hP hD hS
          · refine lv_iload hx hb dM_multiply_85 (lv_at hl 6 rfl) ?_
            refine lv_aload_n hx hb dM_multiply_87 rfl (lv_at hl 2 rfl) ?_
            refine lv_sipush (v := 300) hx hb dM_multiply_88 (by decide) ?_
            refine lq_iald (j := 300) hx hb hK hP 2 0 rfl rfl rfl (by decide) (by decide) dM_multiply_91 ?_
            refine lv_topi (fun y9 e9 => ?_)
            cases (show y9 = nI K from e9.trans h300)
            refine lv_icmp_ge (tgt := 109) hx hb dM_multiply_92 rfl (fun _ => ?_) (fun h9 => absurd (Int32.not_lt.mp h4) h9)
            refine lv_lconst (v := 0) hx hb dM_multiply_109 (by decide) ?_
            exact hct8 _ (by rw [hbt, ct_ge (show K ≤ t by omega)]; rfl)
  · have gh1 : j < nn := Nat.not_le.mp (fun q => h1 ((nI_leI (a := nn) (b := j) (by omega) (by omega)).mpr q))
    refine lv_aload_n hx hb dM_multiply_21 rfl (lv_at hl 0 rfl) ?_
    refine va_get (D := D) (ci := 11) (v := .ref (yr 32)) (C := R_M) (T := T_M) (N := 60) hx hb hT in_M hown hK hP 0 rfl rfl 32 (by decide) (hT _ w1136) (fun _ h9 => h9) rfl dM_multiply_22 ?_
    refine lv_iload hx hb dM_multiply_25 (lv_at hl 4 rfl) ?_
    refine lv_iconst (v := 0) hx hb dM_multiply_27 (by decide) ?_
    refine lq_iast (j := j) hx hb hK hP hD hS 1 0 rfl rfl rfl (by omega) (by omega) dM_multiply_28 (fun H locs hP hD hS => ?_)
    have hP : va_P D vwCl [(y, .inr (11, MO yr yi ysb ybs)), (yr 32, .inl (cT 0, 302, .inl (upd g j 0))), (a, .inl (cT 0, 302, .inl f))] _ := hP
    have hD : va_D A [(y, .inr (11, MO yr yi ysb ybs)), (yr 32, .inl (cT 0, 302, .inl (upd g j 0))), (a, .inl (cT 0, 302, .inl f))] := hD
    refine lv_iinc (k := 4) (v := nI (j + 1)) hx hb dM_multiply_29 hl rfl (nI_1 j) (by decide) rfl (fun ls hl => ?_)
    have hl : lv_has ls 10 [(4, .int (nI (j + 1))), (0, .ref y), (1, .ref a), (2, .ref a), (3, .int (nI nn))] := hl
    refine lv_goto (tgt := 15) hx hb dM_multiply_32 rfl ?_
    exact ih15 (j + 1, upd g j 0) (show (j + 1) ≤ nn ∧ (∀ q, q < (j + 1) → (upd g j 0) q = 0) from ⟨by omega, fun q h => (by by_cases r : q = j; (subst r; exact pk_us); (exact (pk_un r).trans (iz q (by omega))))⟩) (show nn - (j + 1) < nn - j from (by omega)) ls H locs (lv_sub hl [1, 2, 3, 4, 0] rfl) hP hD hS
