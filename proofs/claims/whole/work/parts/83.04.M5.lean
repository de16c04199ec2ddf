set_option maxHeartbeats 4000000 in
set_option maxRecDepth 100000 in
theorem m_copy (l : Launch) (D : va_G) (cT : Nat → ClassId) (a : Nat) (f : Nat → Int32) (z : Int) (c2 : Nat) (f2 : Nat → Int32) (hN : MN f z) (sz : Nat) : Met l yM_copy WM_copy ({ frames := 0, cells := 0, slots := 0, locals := 0 } : Room) (RW D vwCl [.ref a, .ref c2] [(a, .inl (cT 0, 302, .inl f)), (c2, .inl (cT 0, 302, .inl f2))] (TY cT) sz) (va_Qv (fun u9 : (Nat → Int32) => MN u9 z) (BW D vwCl (va_A [(a, .inl (cT 0, 302, .inl f)), (c2, .inl (cT 0, 302, .inl f2))] sz) (fun u9 : (Nat → Int32) => [(a, .inl (cT 0, 302, .inl f)), (c2, .inl (cT 0, 302, .inl u9))])) (va_A [(a, .inl (cT 0, 302, .inl f)), (c2, .inl (cT 0, 302, .inl f2))] sz)) 0 0 (va_A [(a, .inl (cT 0, 302, .inl f)), (c2, .inl (cT 0, 302, .inl f2))] sz) := by
  refine Met.ofW (cc := cM_copy) (maxL := 3) (ret := none) (by decide) rfl ?_
  intro p e s m args below meth c s₁ B hml hv
  obtain ⟨rfl, hsz, hZ, hP, hK, hD0⟩ := hv
  have hx := B.exec
  have hb := B.bytes
  have hr := B.returns
  have hts := atoms_spec (ws := WM_copy) B.pre
  have hT : ∀ w ∈ TB, w.before _ s = true := fun w h => hts w (List.mem_cons_of_mem _ h)
  have hown : s.vm.findClass R_M = some m.cls := findClass_of_methodNamed B.named
  have hlocks := B.notSynchronized
  subst hsz
  have hD := hD0.self (sz := s.heap.size)
  generalize hAe : va_A [(a, .inl (cT 0, 302, .inl f)), (c2, .inl (cT 0, 302, .inl f2))] s.heap.size = A at hD hZ ⊢
  have hA : ∀ q : Nat, s.heap.size ≤ q → A q := fun q h => by rw [← hAe]; exact Or.inr h
  have hS : va_S A s.heap s.heap [] := va_S.rf
  have hl := lv_entry ([.ref a, .ref c2]) (n := 3) (Nat.le_of_ble_eq_true rfl)
  rw [lg_entry_eq]
  generalize (lg_sl ([.ref a, .ref c2]) ++ List.replicate (3 - (lg_sl ([.ref a, .ref c2])).length) Slot.unset).toArray = ls at hl ⊢
  have hl : lv_has ls 3 [(0, .ref a), (1, .ref c2)] := hl
  obtain ⟨K, h300, hk, hd, htop, hs, hva⟩ := hN
  refine lv_iconst (v := 0) hx hb dM_copy_0 (by decide) ?_
  refine lv_istore_n hx hb dM_copy_1 rfl hl (by decide) rfl (fun ls hl => ?_)
  have hl : lv_has ls 3 [(2, .int 0), (0, .ref a), (1, .ref c2)] := hl
  refine lp_w (α := Nat × (Nat → Int32)) (fun a9 => a9.1 ≤ K ∧ (∀ q, q < a9.1 → a9.2 q = f q)) (fun a9 => K - a9.1) (fun a9 => [(0, .ref a), (1, .ref c2), (2, .int (nI a9.1))]) (fun a9 => [(a, .inl (cT 0, 302, .inl f)), (c2, .inl (cT 0, 302, .inl a9.2))]) 2 ?_ (0, f2) (show 0 ≤ K ∧ (∀ q, q < 0 → f2 q = f q) from ⟨by omega, fun q h => absurd h (by omega)⟩) (lv_sub hl [1, 2, 0] rfl) hP hD hS
  intro a9 hI2 ih2 ls H locs hl hP hD hS
  obtain ⟨j, g⟩ := a9
  have hI2 : j ≤ K ∧ (∀ q, q < j → g q = f q) := hI2
  obtain ⟨ij, ig⟩ := hI2
  have hl : lv_has ls 3 [(0, .ref a), (1, .ref c2), (2, .int (nI j))] := hl
  have hP : va_P D vwCl [(a, .inl (cT 0, 302, .inl f)), (c2, .inl (cT 0, 302, .inl g))] _ := hP
  have hD : va_D A [(a, .inl (cT 0, 302, .inl f)), (c2, .inl (cT 0, 302, .inl g))] := hD
  refine lv_iload_n hx hb dM_copy_2 rfl (lv_at hl 2 rfl) ?_
  refine lv_aload_n hx hb dM_copy_3 rfl (lv_at hl 0 rfl) ?_
  refine lv_sipush (v := 300) hx hb dM_copy_4 (by decide) ?_
  refine lq_iald (j := 300) hx hb hK hP 0 0 rfl rfl rfl (by decide) (by decide) dM_copy_7 ?_
  refine lv_topi (fun y9 e9 => ?_)
  cases (show y9 = nI K from e9.trans h300)
  refine lv_icmp_ge (tgt := 23) hx hb dM_copy_8 rfl (fun h1 => ?_) (fun h1 => ?_)
  · have gh1 : K ≤ j := (nI_leI (a := K) (b := j) (by omega) (by omega)).mp h1
    refine lv_aload_n hx hb dM_copy_23 rfl (lv_at hl 1 rfl) ?_
    refine lv_sipush (v := 300) hx hb dM_copy_24 (by decide) ?_
    refine lv_aload_n hx hb dM_copy_27 rfl (lv_at hl 0 rfl) ?_
    refine lv_sipush (v := 300) hx hb dM_copy_28 (by decide) ?_
    refine lq_iald (j := 300) hx hb hK hP 0 0 rfl rfl rfl (by decide) (by decide) dM_copy_31 ?_
    refine lv_topi (fun y9 e9 => ?_)
    cases (show y9 = nI K from e9.trans h300)
    refine lq_iast (j := 300) hx hb hK hP hD hS 1 0 rfl rfl rfl (by decide) (by decide) dM_copy_32 (fun H locs hP hD hS => ?_)
    have hP : va_P D vwCl [(a, .inl (cT 0, 302, .inl f)), (c2, .inl (cT 0, 302, .inl (upd g 300 (nI K))))] _ := hP
    have hD : va_D A [(a, .inl (cT 0, 302, .inl f)), (c2, .inl (cT 0, 302, .inl (upd g 300 (nI K))))] := hD
    refine lv_aload_n hx hb dM_copy_33 rfl (lv_at hl 1 rfl) ?_
    refine lv_sipush (v := 301) hx hb dM_copy_34 (by decide) ?_
    refine lv_aload_n hx hb dM_copy_37 rfl (lv_at hl 0 rfl) ?_
    refine lv_sipush (v := 301) hx hb dM_copy_38 (by decide) ?_
    refine lq_iald (j := 301) hx hb hK hP 0 0 rfl rfl rfl (by decide) (by decide) dM_copy_41 ?_
    refine lq_iast (j := 301) hx hb hK hP hD hS 1 0 rfl rfl rfl (by decide) (by decide) dM_copy_42 (fun H locs hP hD hS => ?_)
    have hP : va_P D vwCl [(a, .inl (cT 0, 302, .inl f)), (c2, .inl (cT 0, 302, .inl (upd (upd g 300 (nI K)) 301 (f 301))))] _ := hP
    have hD : va_D A [(a, .inl (cT 0, 302, .inl f)), (c2, .inl (cT 0, 302, .inl (upd (upd g 300 (nI K)) 301 (f 301))))] := hD
    have hP9 := hP.sub (ws' := [(a, .inl (cT 0, 302, .inl f)), (c2, .inl (cT 0, 302, .inl (upd (upd g 300 (nI K)) 301 (f 301))))]) [0, 1] rfl
    have hD9 := hD.sub (ws' := [(a, .inl (cT 0, 302, .inl f)), (c2, .inl (cT 0, 302, .inl (upd (upd g 300 (nI K)) 301 (f 301))))]) [0, 1] (by decide) rfl
    refine W.widen (k := 0) (n := 0) (Nat.le_of_ble_eq_true rfl) (Nat.le_of_ble_eq_true rfl) ?_
    exact W.vret hx hb hr (fun t9 ht9 hW9 => ⟨⟨(upd (upd g 300 (nI K)) 301 (f 301)), rfl, (show MN (upd (upd g 300 (nI K)) 301 (f 301)) z from mn_cpy h300 hk hd htop hs hva (fun q h => ig q (by omega)) hs rfl), by rw [ht9]; exact hP9, hD9⟩, hS.F ht9⟩) hS.2.2 dM_copy_43
  · have gh1 : j < K := Nat.not_le.mp (fun q => h1 ((nI_leI (a := K) (b := j) (by omega) (by omega)).mpr q))
    refine lv_aload_n hx hb dM_copy_11 rfl (lv_at hl 1 rfl) ?_
    refine lv_iload_n hx hb dM_copy_12 rfl (lv_at hl 2 rfl) ?_
    refine lv_aload_n hx hb dM_copy_13 rfl (lv_at hl 0 rfl) ?_
    refine lv_iload_n hx hb dM_copy_14 rfl (lv_at hl 2 rfl) ?_
    refine lq_iald (j := j) hx hb hK hP 0 0 rfl rfl rfl (by omega) (by omega) dM_copy_15 ?_
    refine lq_iast (j := j) hx hb hK hP hD hS 1 0 rfl rfl rfl (by omega) (by omega) dM_copy_16 (fun H locs hP hD hS => ?_)
    have hP : va_P D vwCl [(a, .inl (cT 0, 302, .inl f)), (c2, .inl (cT 0, 302, .inl (upd g j (f j))))] _ := hP
    have hD : va_D A [(a, .inl (cT 0, 302, .inl f)), (c2, .inl (cT 0, 302, .inl (upd g j (f j))))] := hD
    refine lv_iinc (k := 2) (v := nI (j + 1)) hx hb dM_copy_17 hl rfl (nI_1 j) (by decide) rfl (fun ls hl => ?_)
    have hl : lv_has ls 3 [(2, .int (nI (j + 1))), (0, .ref a), (1, .ref c2)] := hl
    refine lv_goto (tgt := 2) hx hb dM_copy_20 rfl ?_
    exact ih2 (j + 1, upd g j (f j)) (show (j + 1) ≤ K ∧ (∀ q, q < (j + 1) → (upd g j (f j)) q = f q) from ⟨by omega, fun q h => (by by_cases r : q = j; (subst r; exact pk_us); (exact (pk_un r).trans (ig q (by omega))))⟩) (show K - (j + 1) < K - j from (by omega)) ls H locs (lv_sub hl [1, 2, 0] rfl) hP hD hS
set_option maxHeartbeats 4000000 in
set_option maxRecDepth 100000 in
theorem m_cmps (l : Launch) (D : va_G) (cT : Nat → ClassId) (a : Nat) (f : Nat → Int32) (z : Int) (c2 : Nat) (f2 : Nat → Int32) (z2 : Int) (hN : MN f z) (hN2 : MN f2 z2) : Met l yM_compareSizes WM_compareSizes ({ frames := 0, cells := 0, slots := 0, locals := 0 } : Room) (RO D vwCl [.ref a, .ref c2] [(a, .inl (cT 0, 302, .inl f)), (c2, .inl (cT 0, 302, .inl f2))] (TY cT)) (QcRead (cn z.natAbs z2.natAbs)) 0 0 (fun _ => False) := by
  refine Met.ofW (cc := cM_compareSizes) (maxL := 3) (ret := (some .int)) (by decide) rfl ?_
  intro p e s m args below meth c s₁ B hml hv
  obtain ⟨rfl, hZ, hP, hK⟩ := hv
  have hx := B.exec
  have hb := B.bytes
  have hr := B.returns
  have hts := atoms_spec (ws := WM_compareSizes) B.pre
  have hT : ∀ w ∈ TB, w.before _ s = true := fun w h => hts w (List.mem_cons_of_mem _ h)
  have hown : s.vm.findClass R_M = some m.cls := findClass_of_methodNamed B.named
  have hlocks := B.notSynchronized
  have hS : va_S (fun _ => False) s.heap s.heap [] := va_S.rf
  have hl := lv_entry ([.ref a, .ref c2]) (n := 3) (Nat.le_of_ble_eq_true rfl)
  rw [lg_entry_eq]
  generalize (lg_sl ([.ref a, .ref c2]) ++ List.replicate (3 - (lg_sl ([.ref a, .ref c2])).length) Slot.unset).toArray = ls at hl ⊢
  have hl : lv_has ls 3 [(0, .ref a), (1, .ref c2)] := hl
  obtain ⟨K, h300, hk, hd, htop, hs, hva⟩ := hN
  obtain ⟨K2, qh300, qhk, qhd, qhtop, qhs, qhva⟩ := hN2
  refine lv_aload_n hx hb dM_compareSizes_0 rfl (lv_at hl 0 rfl) ?_
  refine lv_sipush (v := 300) hx hb dM_compareSizes_1 (by decide) ?_
  refine lq_iald (j := 300) hx hb hK hP 0 0 rfl rfl rfl (by decide) (by decide) dM_compareSizes_4 ?_
  refine lv_topi (fun y9 e9 => ?_)
  cases (show y9 = nI K from e9.trans h300)
  refine lv_aload_n hx hb dM_compareSizes_5 rfl (lv_at hl 1 rfl) ?_
  refine lv_sipush (v := 300) hx hb dM_compareSizes_6 (by decide) ?_
  refine lq_iald (j := 300) hx hb hK hP 1 0 rfl rfl rfl (by decide) (by decide) dM_compareSizes_9 ?_
  refine lv_topi (fun y9 e9 => ?_)
  cases (show y9 = nI K2 from e9.trans qh300)
  refine lv_icmp_eq (tgt := 32) hx hb dM_compareSizes_10 rfl (fun h1 => ?_) (fun h1 => ?_)
  · have gh1 : K = K2 := (nI_eq (a := K) (b := K2) (by omega) (by omega)).mp h1
    refine lv_aload_n hx hb dM_compareSizes_32 rfl (lv_at hl 0 rfl) ?_
    refine lv_sipush (v := 300) hx hb dM_compareSizes_33 (by decide) ?_
    refine lq_iald (j := 300) hx hb hK hP 0 0 rfl rfl rfl (by decide) (by decide) dM_compareSizes_36 ?_
    refine lv_topi (fun y9 e9 => ?_)
    cases (show y9 = nI K from e9.trans h300)
    refine lv_iconst (v := 1) hx hb dM_compareSizes_37 (by decide) ?_
    refine lv_isub hx hb dM_compareSizes_38 ?_
    refine lv_istore_n hx hb dM_compareSizes_39 rfl hl (by decide) rfl (fun ls hl => ?_)
    have hl : lv_has ls 3 [(2, .int ((nI K) - 1)), (0, .ref a), (1, .ref c2)] := hl
    refine lp_r (α := Nat) (fun a9 => a9 ≤ K ∧ hv 268435456 (dg f) a9 (K - a9) = hv 268435456 (dg f2) a9 (K - a9)) (fun a9 => a9) (fun a9 => [(0, .ref a), (1, .ref c2), (2, .int (nI a9 - 1))]) 40 ?_ K (show K ≤ K ∧ hv 268435456 (dg f) K (K - K) = hv 268435456 (dg f2) K (K - K) from ⟨Nat.le_refl _, by rw [Nat.sub_self, hv_0, hv_0]⟩) (lv_sub hl [1, 2, 0] rfl)
    intro a9 hI40 ih40 ls hl
    obtain ⟨k, rfl⟩ : ∃ q9, q9 = a9 := ⟨_, rfl⟩
    have hI40 : k ≤ K ∧ hv 268435456 (dg f) k (K - k) = hv 268435456 (dg f2) k (K - k) := hI40
    obtain ⟨ik, iv⟩ := hI40
    have hl : lv_has ls 3 [(0, .ref a), (1, .ref c2), (2, .int (nI k - 1))] := hl
    refine lv_iload_n hx hb dM_compareSizes_40 rfl (lv_at hl 2 rfl) ?_
    refine lv_if_lt (tgt := 59) hx hb dM_compareSizes_41 rfl (fun h2 => ?_) (fun h2 => ?_)
    · have gh2 : k = 0 := (dn_lt (by omega)).mp h2
      refine lv_iload_n hx hb dM_compareSizes_59 rfl (lv_at hl 2 rfl) ?_
      refine lv_if_ge (tgt := 67) hx hb dM_compareSizes_60 rfl (fun h3 => absurd h3 (Int32.not_le.mpr h2)) (fun _ => ?_)
      refine lv_iconst (v := 0) hx hb dM_compareSizes_63 (by decide) ?_
      refine lv_goto (tgt := 81) hx hb dM_compareSizes_64 rfl ?_
      exact W.iret (v := 0) hx hb hr (fun t9 ht9 hW9 => ⟨by rw [hva, qhva, cn_rf (by rw [show k = 0 by omega] at iv; rw [← (show K = K2 by omega)]; exact iv)], ht9⟩) (fun q h => nomatch h) dM_compareSizes_81
    · have gh2 : 0 < k := Nat.pos_of_ne_zero (fun q => h2 ((dn_lt (by omega)).mpr q))
      refine lv_aload_n hx hb dM_compareSizes_44 rfl (lv_at hl 0 rfl) ?_
      refine lv_iload_n hx hb dM_compareSizes_45 rfl (lv_at hl 2 rfl) ?_
      refine lq_iald (j := k - 1) hx hb hK hP 0 0 rfl rfl (nI_sub1 (by omega)) (by omega) (by decide) dM_compareSizes_46 ?_
      refine lv_aload_n hx hb dM_compareSizes_47 rfl (lv_at hl 1 rfl) ?_
      refine lv_iload_n hx hb dM_compareSizes_48 rfl (lv_at hl 2 rfl) ?_
      refine lq_iald (j := k - 1) hx hb hK hP 1 0 rfl rfl (nI_sub1 (by omega)) (by omega) (by decide) dM_compareSizes_49 ?_
      refine lv_icmp_ne (tgt := 59) hx hb dM_compareSizes_50 rfl (fun h4 => ?_) (fun h4 => ?_)
      · refine lv_iload_n hx hb dM_compareSizes_59 rfl (lv_at hl 2 rfl) ?_
        refine lv_if_ge (tgt := 67) hx hb dM_compareSizes_60 rfl (fun _ => ?_) (fun h5 => absurd (Int32.not_lt.mp h2) h5)
        refine lv_aload_n hx hb dM_compareSizes_67 rfl (lv_at hl 0 rfl) ?_
        refine lv_iload_n hx hb dM_compareSizes_68 rfl (lv_at hl 2 rfl) ?_
        refine lq_iald (j := k - 1) hx hb hK hP 0 0 rfl rfl (nI_sub1 (by omega)) (by omega) (by decide) dM_compareSizes_69 ?_
        refine lv_aload_n hx hb dM_compareSizes_70 rfl (lv_at hl 1 rfl) ?_
        refine lv_iload_n hx hb dM_compareSizes_71 rfl (lv_at hl 2 rfl) ?_
        refine lq_iald (j := k - 1) hx hb hK hP 1 0 rfl rfl (nI_sub1 (by omega)) (by omega) (by decide) dM_compareSizes_72 ?_
        refine lv_icmp_ge (tgt := 80) hx hb dM_compareSizes_73 rfl (fun h6 => ?_) (fun h6 => ?_)
        · refine lv_iconst (v := 1) hx hb dM_compareSizes_80 (by decide) ?_
          exact W.iret (v := 1) hx hb hr (fun t9 ht9 hW9 => ⟨by rw [hva, qhva, cn_gt (mc_lt (show K = K2 by omega).symm (by omega) (by omega) qhd hd (by rw [← (show K = K2 by omega)]; exact iv.symm) (lt_of_ne h6 h4))], ht9⟩) (fun q h => nomatch h) dM_compareSizes_81
        · refine lv_iconst (v := (-1)) hx hb dM_compareSizes_76 (by decide) ?_
          refine lv_goto (tgt := 81) hx hb dM_compareSizes_77 rfl ?_
          exact W.iret (v := (-1)) hx hb hr (fun t9 ht9 hW9 => ⟨by rw [hva, qhva, cn_lt (mc_lt (show K = K2 by omega) (by omega) ik hd qhd iv (Int32.not_le.mp h6))], ht9⟩) (fun q h => nomatch h) dM_compareSizes_81
      · refine lv_iinc (k := 2) (v := nI (k - 1) - 1) hx hb dM_compareSizes_53 hl rfl (dn_m1 (by omega)) (by decide) rfl (fun ls hl => ?_)
        have hl : lv_has ls 3 [(2, .int (nI (k - 1) - 1)), (0, .ref a), (1, .ref c2)] := hl
        refine lv_goto (tgt := 40) hx hb dM_compareSizes_56 rfl ?_
        exact ih40 (k - 1) (show (k - 1) ≤ K ∧ hv 268435456 (dg f) (k - 1) (K - (k - 1)) = hv 268435456 (dg f2) (k - 1) (K - (k - 1)) from ⟨by omega, mc_s (by omega) ik iv h4⟩) (show (k - 1) < k from (by omega)) ls (lv_sub hl [1, 2, 0] rfl)
  · have gh1 : ¬ (K = K2) := fun q => h1 (congrArg nI q)
    refine lv_aload_n hx hb dM_compareSizes_13 rfl (lv_at hl 0 rfl) ?_
    refine lv_sipush (v := 300) hx hb dM_compareSizes_14 (by decide) ?_
    refine lq_iald (j := 300) hx hb hK hP 0 0 rfl rfl rfl (by decide) (by decide) dM_compareSizes_17 ?_
    refine lv_topi (fun y9 e9 => ?_)
    cases (show y9 = nI K from e9.trans h300)
    refine lv_aload_n hx hb dM_compareSizes_18 rfl (lv_at hl 1 rfl) ?_
    refine lv_sipush (v := 300) hx hb dM_compareSizes_19 (by decide) ?_
    refine lq_iald (j := 300) hx hb hK hP 1 0 rfl rfl rfl (by decide) (by decide) dM_compareSizes_22 ?_
    refine lv_topi (fun y9 e9 => ?_)
    cases (show y9 = nI K2 from e9.trans qh300)
    refine lv_icmp_ge (tgt := 30) hx hb dM_compareSizes_23 rfl (fun h7 => ?_) (fun h7 => ?_)
    · have gh7 : K2 ≤ K := (nI_leI (a := K2) (b := K) (by omega) (by omega)).mp h7
      refine lv_iconst (v := 1) hx hb dM_compareSizes_30 (by decide) ?_
      exact W.iret (v := 1) hx hb hr (fun t9 ht9 hW9 => ⟨by rw [hva, qhva, cn_gt (vM_lt qhd htop (by omega))], ht9⟩) (fun q h => nomatch h) dM_compareSizes_31
    · have gh7 : K < K2 := Nat.not_le.mp (fun q => h7 ((nI_leI (a := K2) (b := K) (by omega) (by omega)).mpr q))
      refine lv_iconst (v := (-1)) hx hb dM_compareSizes_26 (by decide) ?_
      refine lv_goto (tgt := 31) hx hb dM_compareSizes_27 rfl ?_
      exact W.iret (v := (-1)) hx hb hr (fun t9 ht9 hW9 => ⟨by rw [hva, qhva, cn_lt (vM_lt hd qhtop (by omega))], ht9⟩) (fun q h => nomatch h) dM_compareSizes_31
set_option maxHeartbeats 4000000 in
set_option maxRecDepth 100000 in
theorem m_cmp (l : Launch) (D : va_G) (cT : Nat → ClassId) (a : Nat) (f : Nat → Int32) (z : Int) (c2 : Nat) (f2 : Nat → Int32) (z2 : Int) (hN : MN f z) (hN2 : MN f2 z2) : Met l yM_compare WM_compare ({ frames := 1, cells := 0, slots := 0, locals := 22 } : Room) (RO D vwCl [.ref a, .ref c2] [(a, .inl (cT 0, 302, .inl f)), (c2, .inl (cT 0, 302, .inl f2))] (TY cT)) (QcRead (cz z z2)) 0 0 (fun _ => False) := by
  refine Met.ofW (cc := cM_compare) (maxL := 2) (ret := (some .int)) (by decide) rfl ?_
  intro p e s m args below meth c s₁ B hml hv
  obtain ⟨rfl, hZ, hP, hK⟩ := hv
  have hx := B.exec
  have hb := B.bytes
  have hr := B.returns
  have hts := atoms_spec (ws := WM_compare) B.pre
  have hT : ∀ w ∈ TB, w.before _ s = true := fun w h => hts w (List.mem_cons_of_mem _ h)
  have hown : s.vm.findClass R_M = some m.cls := findClass_of_methodNamed B.named
  have hlocks := B.notSynchronized
  have hS : va_S (fun _ => False) s.heap s.heap [] := va_S.rf
  have hl := lv_entry ([.ref a, .ref c2]) (n := 2) (Nat.le_of_ble_eq_true rfl)
  rw [lg_entry_eq]
  generalize (lg_sl ([.ref a, .ref c2]) ++ List.replicate (2 - (lg_sl ([.ref a, .ref c2])).length) Slot.unset).toArray = ls at hl ⊢
  have hl : lv_has ls 2 [(0, .ref a), (1, .ref c2)] := hl
  have hs : f 301 = sg z := by obtain ⟨_, _, _, _, _, q, _⟩ := hN; exact q
  have qhs : f2 301 = sg z2 := by obtain ⟨_, _, _, _, _, q, _⟩ := hN2; exact q
  refine lv_aload_n hx hb dM_compare_0 rfl (lv_at hl 0 rfl) ?_
  refine lv_sipush (v := 301) hx hb dM_compare_1 (by decide) ?_
  refine lq_iald (j := 301) hx hb hK hP 0 0 rfl rfl rfl (by decide) (by decide) dM_compare_4 ?_
  refine lv_topi (fun y9 e9 => ?_)
  cases (show y9 = sg z from e9.trans hs)
  refine lv_aload_n hx hb dM_compare_5 rfl (lv_at hl 1 rfl) ?_
  refine lv_sipush (v := 301) hx hb dM_compare_6 (by decide) ?_
  refine lq_iald (j := 301) hx hb hK hP 1 0 rfl rfl rfl (by decide) (by decide) dM_compare_9 ?_
  refine lv_topi (fun y9 e9 => ?_)
  cases (show y9 = sg z2 from e9.trans qhs)
  refine lv_icmp_eq (tgt := 32) hx hb dM_compare_10 rfl (fun h1 => ?_) (fun h1 => ?_)
  · refine lv_aload_n hx hb dM_compare_32 rfl (lv_at hl 0 rfl) ?_
    refine lv_sipush (v := 301) hx hb dM_compare_33 (by decide) ?_
    refine lq_iald (j := 301) hx hb hK hP 0 0 rfl rfl rfl (by decide) (by decide) dM_compare_36 ?_
    refine lv_topi (fun y9 e9 => ?_)
    cases (show y9 = sg z from e9.trans hs)
    refine lv_aload_n hx hb dM_compare_37 rfl (lv_at hl 0 rfl) ?_
    refine lv_aload_n hx hb dM_compare_38 rfl (lv_at hl 1 rfl) ?_
    refine ro_i (va_Run.run (va_runS (As := [.ref a, .ref c2]) (rest := [.int (sg z)]) ⟨hx, hb, hml, hown, hT⟩ (m_cmps l D cT a f z c2 f2 z2 hN hN2) ⟨callB_of 2 hT (tb_gd w1436) rfl rfl rfl (hT _ w13) (hT _ w1434) hM_compareSizes ⟨Nat.le_of_ble_eq_true rfl, Nat.le_of_ble_eq_true rfl⟩, (hT _ w1435)⟩ (RO.preS hZ hS (hP.sub (ws' := [(a, .inl (cT 0, 302, .inl f)), (c2, .inl (cT 0, 302, .inl f2))]) [0, 1] rfl) hK) rfl rfl hl.1 rfl (lv_room (Nat.le_of_ble_eq_true rfl)) dM_compare_39 ⟨Nat.le_of_ble_eq_true rfl, Nat.le_of_ble_eq_true rfl⟩)) ?_
    refine lv_imul hx hb dM_compare_42 ?_
    exact W.iret (v := (sg z) * (cn z.natAbs z2.natAbs)) hx hb hr (fun t9 ht9 hW9 => ⟨by rw [cz_mul h1], ht9⟩) (fun q h => nomatch h) dM_compare_43
  · refine lv_aload_n hx hb dM_compare_13 rfl (lv_at hl 0 rfl) ?_
    refine lv_sipush (v := 301) hx hb dM_compare_14 (by decide) ?_
    refine lq_iald (j := 301) hx hb hK hP 0 0 rfl rfl rfl (by decide) (by decide) dM_compare_17 ?_
    refine lv_topi (fun y9 e9 => ?_)
    cases (show y9 = sg z from e9.trans hs)
    refine lv_aload_n hx hb dM_compare_18 rfl (lv_at hl 1 rfl) ?_
    refine lv_sipush (v := 301) hx hb dM_compare_19 (by decide) ?_
    refine lq_iald (j := 301) hx hb hK hP 1 0 rfl rfl rfl (by decide) (by decide) dM_compare_22 ?_
    refine lv_topi (fun y9 e9 => ?_)
    cases (show y9 = sg z2 from e9.trans qhs)
    refine lv_icmp_ge (tgt := 30) hx hb dM_compare_23 rfl (fun h2 => ?_) (fun h2 => ?_)
    · refine lv_iconst (v := 1) hx hb dM_compare_30 (by decide) ?_
      exact W.iret (v := 1) hx hb hr (fun t9 ht9 hW9 => ⟨by rw [cz_gt (sg_ne_lt h2 h1)], ht9⟩) (fun q h => nomatch h) dM_compare_31
    · refine lv_iconst (v := (-1)) hx hb dM_compare_26 (by decide) ?_
      refine lv_goto (tgt := 31) hx hb dM_compare_27 rfl ?_
      exact W.iret (v := (-1)) hx hb hr (fun t9 ht9 hW9 => ⟨by rw [cz_lt (sg_lt (Int32.not_le.mp h2))], ht9⟩) (fun q h => nomatch h) dM_compare_31
set_option maxHeartbeats 4000000 in
set_option maxRecDepth 100000 in
theorem m_addS (l : Launch) (D : va_G) (cT : Nat → ClassId) (a : Nat) (f : Nat → Int32) (z : Int) (c2 : Nat) (f2 : Nat → Int32) (z2 : Int) (wv : Int) (hN : MN f z) (hN2 : MN f2 z2) (hw : wv.natAbs = z.natAbs + z2.natAbs) (hws : sg wv = sg z) (hfit : z.natAbs + z2.natAbs < 268435456 ^ 250) (sz : Nat) : Met l yM_addSizes WM_addSizes ({ frames := 1, cells := 0, slots := 0, locals := 22 } : Room) (RW D vwCl [.ref a, .ref c2] [(a, .inl (cT 0, 302, .inl f)), (c2, .inl (cT 0, 302, .inl f2))] (TY cT) sz) (va_Qv (fun u9 : (Nat → Int32) => MN u9 wv) (BW D vwCl (va_A [(a, .inl (cT 0, 302, .inl f)), (c2, .inl (cT 0, 302, .inl f2))] sz) (fun u9 : (Nat → Int32) => [(a, .inl (cT 0, 302, .inl u9)), (c2, .inl (cT 0, 302, .inl f2))])) (va_A [(a, .inl (cT 0, 302, .inl f)), (c2, .inl (cT 0, 302, .inl f2))] sz)) 0 0 (va_A [(a, .inl (cT 0, 302, .inl f)), (c2, .inl (cT 0, 302, .inl f2))] sz) := by
  refine Met.ofW (cc := cM_addSizes) (maxL := 6) (ret := none) (by decide) rfl ?_
  intro p e s m args below meth c s₁ B hml hv
  obtain ⟨rfl, hsz, hZ, hP, hK, hD0⟩ := hv
  have hx := B.exec
  have hb := B.bytes
  have hr := B.returns
  have hts := atoms_spec (ws := WM_addSizes) B.pre
  have hT : ∀ w ∈ TB, w.before _ s = true := fun w h => hts w (List.mem_cons_of_mem _ h)
  have hown : s.vm.findClass R_M = some m.cls := findClass_of_methodNamed B.named
  have hlocks := B.notSynchronized
  subst hsz
  have hD := hD0.self (sz := s.heap.size)
  generalize hAe : va_A [(a, .inl (cT 0, 302, .inl f)), (c2, .inl (cT 0, 302, .inl f2))] s.heap.size = A at hD hZ ⊢
  have hA : ∀ q : Nat, s.heap.size ≤ q → A q := fun q h => by rw [← hAe]; exact Or.inr h
  have hS : va_S A s.heap s.heap [] := va_S.rf
  have hl := lv_entry ([.ref a, .ref c2]) (n := 6) (Nat.le_of_ble_eq_true rfl)
  rw [lg_entry_eq]
  generalize (lg_sl ([.ref a, .ref c2]) ++ List.replicate (6 - (lg_sl ([.ref a, .ref c2])).length) Slot.unset).toArray = ls at hl ⊢
  have hl : lv_has ls 6 [(0, .ref a), (1, .ref c2)] := hl
  obtain ⟨K, h300, hk, hd, htop, hs, hva⟩ := hN
  obtain ⟨K2, qh300, qhk, qhd, qhtop, qhs, qhva⟩ := hN2
  obtain ⟨nn, hnn⟩ : ∃ q9 : Nat, q9 = max K K2 := ⟨_, rfl⟩
  have hKb : K ≤ 250 := M_le htop (by omega)
  have hK2b : K2 ≤ 250 := M_le qhtop (by omega)
  have hnn1 : K ≤ nn ∧ K2 ≤ nn ∧ nn ≤ 250 := by omega
  refine lp_cut (fun x9 : Int32 => x9 = nI nn) (fun x9 => [.int x9]) 26 ls (fun x9 e9 => ?_) (fun hct1 => ?_)
  · cases (show x9 = nI nn from e9)
    refine lv_istore_n hx hb dM_addSizes_26 rfl hl (by decide) rfl (fun ls hl => ?_)
    have hl : lv_has ls 6 [(2, .int (nI nn)), (0, .ref a), (1, .ref c2)] := hl
    refine lv_iconst (v := 0) hx hb dM_addSizes_27 (by decide) ?_
    refine lv_istore_n hx hb dM_addSizes_28 rfl hl (by decide) rfl (fun ls hl => ?_)
    have hl : lv_has ls 6 [(3, .int 0), (2, .int (nI nn)), (0, .ref a), (1, .ref c2)] := hl
    refine lv_iconst (v := 0) hx hb dM_addSizes_29 (by decide) ?_
    refine lv_istore hx hb dM_addSizes_30 hl (by decide) rfl (fun ls hl => ?_)
    have hl : lv_has ls 6 [(4, .int 0), (3, .int 0), (2, .int (nI nn)), (0, .ref a), (1, .ref c2)] := hl
    refine lp_w (α := Nat × Nat × (Nat → Int32)) (fun a9 => a9.1 ≤ nn ∧ a9.2.1 ≤ 1 ∧ dok 268435456 a9.2.2 a9.1 ∧ (∀ q, a9.1 ≤ q → a9.2.2 q = f q) ∧ hv 268435456 (dg a9.2.2) 0 a9.1 + 268435456 ^ a9.1 * a9.2.1 = hv 268435456 (ct K (dg f)) 0 a9.1 + hv 268435456 (ct K2 (dg f2)) 0 a9.1) (fun a9 => nn - a9.1) (fun a9 => [(0, .ref a), (1, .ref c2), (2, .int (nI nn)), (3, .int (nI a9.2.1)), (4, .int (nI a9.1))]) (fun a9 => [(a, .inl (cT 0, 302, .inl a9.2.2)), (c2, .inl (cT 0, 302, .inl f2))]) 32 ?_ (0, 0, f) (show 0 ≤ nn ∧ 0 ≤ 1 ∧ dok 268435456 f 0 ∧ (∀ q, 0 ≤ q → f q = f q) ∧ hv 268435456 (dg f) 0 0 + 268435456 ^ 0 * 0 = hv 268435456 (ct K (dg f)) 0 0 + hv 268435456 (ct K2 (dg f2)) 0 0 from ⟨by omega, by omega, fun q h => absurd h (by omega), fun _ _ => rfl, by simp [hv]⟩) (lv_sub hl [3, 4, 2, 1, 0] rfl) hP hD hS
    intro a9 hI32 ih32 ls H locs hl hP hD hS
    obtain ⟨j, o, g⟩ := a9
    have hI32 : j ≤ nn ∧ o ≤ 1 ∧ dok 268435456 g j ∧ (∀ q, j ≤ q → g q = f q) ∧ hv 268435456 (dg g) 0 j + 268435456 ^ j * o = hv 268435456 (ct K (dg f)) 0 j + hv 268435456 (ct K2 (dg f2)) 0 j := hI32
    obtain ⟨ij, io, idk, ig, iv⟩ := hI32
    have hl : lv_has ls 6 [(0, .ref a), (1, .ref c2), (2, .int (nI nn)), (3, .int (nI o)), (4, .int (nI j))] := hl
    have hP : va_P D vwCl [(a, .inl (cT 0, 302, .inl g)), (c2, .inl (cT 0, 302, .inl f2))] _ := hP
    have hD : va_D A [(a, .inl (cT 0, 302, .inl g)), (c2, .inl (cT 0, 302, .inl f2))] := hD
    refine lv_iload hx hb dM_addSizes_32 (lv_at hl 4 rfl) ?_
    refine lv_iload_n hx hb dM_addSizes_34 rfl (lv_at hl 2 rfl) ?_
    refine lv_icmp_ge (tgt := 100) hx hb dM_addSizes_35 rfl (fun h2 => ?_) (fun h2 => ?_)
    · have gh2 : nn ≤ j := (nI_leI (a := nn) (b := j) (by omega) (by omega)).mp h2
      have ej : j = nn := by omega
      subst ej
      have hl : lv_has ls 6 [(0, .ref a), (1, .ref c2), (2, .int (nI j)), (3, .int (nI o)), (4, .int (nI j))] := hl
      have hP : va_P D vwCl [(a, .inl (cT 0, 302, .inl g)), (c2, .inl (cT 0, 302, .inl f2))] _ := hP
      have hD : va_D A [(a, .inl (cT 0, 302, .inl g)), (c2, .inl (cT 0, 302, .inl f2))] := hD
      refine lv_aload_n hx hb dM_addSizes_100 rfl (lv_at hl 0 rfl) ?_
      refine lv_iload_n hx hb dM_addSizes_101 rfl (lv_at hl 2 rfl) ?_
      refine lv_iload_n hx hb dM_addSizes_102 rfl (lv_at hl 3 rfl) ?_
      refine lq_iast (j := j) hx hb hK hP hD hS 0 0 rfl rfl rfl (by omega) (by omega) dM_addSizes_103 (fun H locs hP hD hS => ?_)
      have hP : va_P D vwCl [(a, .inl (cT 0, 302, .inl (upd g j (nI o)))), (c2, .inl (cT 0, 302, .inl f2))] _ := hP
      have hD : va_D A [(a, .inl (cT 0, 302, .inl (upd g j (nI o)))), (c2, .inl (cT 0, 302, .inl f2))] := hD
      refine lv_aload_n hx hb dM_addSizes_104 rfl (lv_at hl 0 rfl) ?_
      refine lv_iload_n hx hb dM_addSizes_105 rfl (lv_at hl 2 rfl) ?_
      refine lv_iconst (v := 1) hx hb dM_addSizes_106 (by decide) ?_
      refine lv_iadd hx hb dM_addSizes_107 ?_
      refine lv_topi (fun y9 e9 => ?_)
      cases (show y9 = nI (j + 1) from e9.trans (nI_add j 1))
      refine rw_v (wc := [(a, .inl (cT 0, 302, .inl (upd g j (nI o))))]) (wr := [(c2, .inl (cT 0, 302, .inl f2))]) hP hD hS hA [0] [1] rfl rfl (by decide) (by decide) (va_runS (As := [.ref a, .int (nI (j + 1))]) (rest := []) ⟨hx, hb, hml, hown, hT⟩ (m_trim l D cT a (upd g j (nI o)) (j + 1) (by omega) (dok_s idk (by omega) (by decide)) _) ⟨callB_of 2 hT (tb_gd w1420) rfl rfl rfl (hT _ w13) (hT _ w1418) hM_trim ⟨Nat.le_of_ble_eq_true rfl, Nat.le_of_ble_eq_true rfl⟩, (hT _ w1419)⟩ (RW.preS hZ hS (va_free (wc := [(a, .inl (cT 0, 302, .inl (upd g j (nI o))))]) hD hS hA [0] rfl) (hP.sub (ws' := [(a, .inl (cT 0, 302, .inl (upd g j (nI o))))]) [0] rfl) hK (hD.sub (ws' := [(a, .inl (cT 0, 302, .inl (upd g j (nI o))))]) [0] (by decide) rfl)) rfl rfl hl.1 rfl (lv_room (Nat.le_of_ble_eq_true rfl)) dM_addSizes_108 ⟨Nat.le_of_ble_eq_true rfl, Nat.le_of_ble_eq_true rfl⟩) (fun u9 H locs hpu3 hP hD hS => ?_)
      obtain ⟨ku3, f1u3⟩ := u9
      have hpu3 : ku3 ≤ (j + 1) ∧ top0 (upd g j (nI o)) ku3 ∧ vM (upd g j (nI o)) ku3 = vM (upd g j (nI o)) (j + 1) ∧ f1u3 300 = nI ku3 ∧ f1u3 301 = (if ku3 = 0 then 0 else (upd g j (nI o)) 301) ∧ ∀ q8, q8 < 300 → f1u3 q8 = (upd g j (nI o)) q8 := hpu3
      have hP : va_P D vwCl [(c2, .inl (cT 0, 302, .inl f2)), (a, .inl (cT 0, 302, .inl f1u3))] _ := hP
      have hD : va_D A [(c2, .inl (cT 0, 302, .inl f2)), (a, .inl (cT 0, 302, .inl f1u3))] := hD
      have hP9 := hP.sub (ws' := [(a, .inl (cT 0, 302, .inl f1u3)), (c2, .inl (cT 0, 302, .inl f2))]) [1, 0] rfl
      have hD9 := hD.sub (ws' := [(a, .inl (cT 0, 302, .inl f1u3)), (c2, .inl (cT 0, 302, .inl f2))]) [1, 0] (by decide) rfl
      refine W.widen (k := 0) (n := 0) (Nat.le_of_ble_eq_true rfl) (Nat.le_of_ble_eq_true rfl) ?_
      exact W.vret hx hb hr (fun t9 ht9 hW9 => ⟨⟨f1u3, rfl, (show MN f1u3 wv from mn_trim (by omega) (dok_s idk (by omega) (by decide)) hpu3 (by rw [hw, hva, qhva]; show _ = hv _ _ _ _; rw [hv_us (v := o) (by omega), iv, hv_ct (by omega), hv_ct (by omega)]) (fun _ => (pk_un (by omega)).trans ((ig 301 (by omega)).trans (hs.trans hws.symm)))), by rw [ht9]; exact hP9, hD9⟩, hS.F ht9⟩) hS.2.2 dM_addSizes_111
    · have gh2 : j < nn := Nat.not_le.mp (fun q => h2 ((nI_leI (a := nn) (b := j) (by omega) (by omega)).mpr q))
      obtain ⟨x1, hx1⟩ : ∃ q9 : Nat, q9 = ct K (dg f) j := ⟨_, rfl⟩
      have hx1b : x1 < 268435456 := by
        rw [hx1]
        by_cases q : j < K
        · rw [ct_lt q]; exact (hd j q).2
        · rw [ct_ge (show K ≤ j by omega)]; decide
      obtain ⟨y1, hy1⟩ : ∃ q9 : Nat, q9 = ct K2 (dg f2) j := ⟨_, rfl⟩
      have hy1b : y1 < 268435456 := by
        rw [hy1]
        by_cases q : j < K2
        · rw [ct_lt q]; exact (qhd j q).2
        · rw [ct_ge (show K2 ≤ j by omega)]; decide
      refine lp_cut (fun x9 : Int32 => x9 = nI x1) (fun x9 => [.int x9]) 56 ls (fun x9 e9 => ?_) (fun hct4 => ?_)
      · cases (show x9 = nI x1 from e9)
        refine lp_cut (fun x9 : Int32 => x9 = nI y1) (fun x9 => [.int x9, .int (nI x1)]) 74 ls (fun x9 e9 => ?_) (fun hct5 => ?_)
        · cases (show x9 = nI y1 from e9)
          refine lv_iadd hx hb dM_addSizes_74 ?_
          refine lv_topi (fun y9 e9 => ?_)
          cases (show y9 = nI (x1 + y1) from e9.trans (nI_add x1 y1))
          refine lv_iload_n hx hb dM_addSizes_75 rfl (lv_at hl 3 rfl) ?_
          refine lv_iadd hx hb dM_addSizes_76 ?_
          refine lv_topi (fun y9 e9 => ?_)
          cases (show y9 = nI ((x1 + y1) + o) from e9.trans (nI_add (x1 + y1) o))
          obtain ⟨sm, hsm⟩ : ∃ q9 : Nat, q9 = (x1 + y1) + o := ⟨_, rfl⟩
          refine lv_topi (fun y9 e9 => ?_)
          cases (show y9 = nI sm from e9.trans (congrArg nI hsm.symm))
          refine lv_istore hx hb dM_addSizes_77 hl (by decide) rfl (fun ls hl => ?_)
          have hl : lv_has ls 6 [(5, .int (nI sm)), (0, .ref a), (1, .ref c2), (2, .int (nI nn)), (3, .int (nI o)), (4, .int (nI j))] := hl
          refine lv_aload_n hx hb dM_addSizes_79 rfl (lv_at hl 1 rfl) ?_
          refine lv_iload hx hb dM_addSizes_80 (lv_at hl 5 rfl) ?_
          refine lv_iload hx hb dM_addSizes_82 (lv_at hl 0 rfl) ?_
          refine lv_ldc (v := 268435455) hx hb hown (hT _ w1430) dM_addSizes_84 ?_
          refine lv_iand hx hb dM_addSizes_86 ?_
          obtain ⟨e1, he1⟩ : ∃ q9 : Nat, q9 = sm % 268435456 := ⟨_, rfl⟩
          have he1b : e1 < 268435456 := by omega
          refine lv_topi (fun y9 e9 => ?_)
          cases (show y9 = nI e1 from e9.trans (by rw [he1]; exact pk_andN (by omega) 28 (by decide)))
          refine lq_iast (j := j) hx hb hK hP hD hS 0 0 rfl rfl rfl (by omega) (by omega) dM_addSizes_87 (fun H locs hP hD hS => ?_)
          have hP : va_P D vwCl [(a, .inl (cT 0, 302, .inl (upd g j (nI e1)))), (c2, .inl (cT 0, 302, .inl f2))] _ := hP
          have hD : va_D A [(a, .inl (cT 0, 302, .inl (upd g j (nI e1)))), (c2, .inl (cT 0, 302, .inl f2))] := hD
          refine lv_iload hx hb dM_addSizes_88 (lv_at hl 0 rfl) ?_
          refine lv_bipush (v := 28) hx hb dM_addSizes_90 (by decide) ?_
          refine lv_ishr hx hb dM_addSizes_92 ?_
          obtain ⟨c1, hc1⟩ : ∃ q9 : Nat, q9 = sm / 268435456 := ⟨_, rfl⟩
          refine lv_topi (fun y9 e9 => ?_)
          cases (show y9 = nI c1 from e9.trans (by rw [hc1]; exact pk_shrN (by omega) _ 28 (by decide)))
          refine lv_istore_n hx hb dM_addSizes_93 rfl hl (by decide) rfl (fun ls hl => ?_)
          have hl : lv_has ls 6 [(3, .int (nI c1)), (5, .int (nI sm)), (0, .ref a), (1, .ref c2), (2, .int (nI nn)), (4, .int (nI j))] := hl
          refine lv_iinc (k := 5) (v := nI (j + 1)) hx hb dM_addSizes_94 hl rfl (nI_1 j) (by decide) rfl (fun ls hl => ?_)
          have hl : lv_has ls 6 [(4, .int (nI (j + 1))), (3, .int (nI c1)), (5, .int (nI sm)), (0, .ref a), (1, .ref c2), (2, .int (nI nn))] := hl
          refine lv_goto (tgt := 32) hx hb dM_addSizes_97 rfl ?_
          exact ih32 (j + 1, c1, upd g j (nI e1)) (show (j + 1) ≤ nn ∧ c1 ≤ 1 ∧ dok 268435456 (upd g j (nI e1)) (j + 1) ∧ (∀ q, (j + 1) ≤ q → (upd g j (nI e1)) q = f q) ∧ hv 268435456 (dg (upd g j (nI e1))) 0 (j + 1) + 268435456 ^ (j + 1) * c1 = hv 268435456 (ct K (dg f)) 0 (j + 1) + hv 268435456 (ct K2 (dg f2)) 0 (j + 1) from ⟨by omega, by omega, dok_s idk he1b (by decide), fun q h => (pk_un (by omega)).trans (ig q (by omega)), by rw [hv_us (v := e1) (by omega), hv_snoc, hv_snoc, Nat.zero_add, Nat.pow_succ, ← hx1, ← hy1]; exact add_s iv (by omega)⟩) (show nn - (j + 1) < nn - j from (by omega)) ls H locs (lv_sub hl [3, 4, 5, 1, 0] rfl) hP hD hS
        · refine lv_iload hx hb dM_addSizes_56 (lv_at hl 4 rfl) ?_
          refine lv_aload_n hx hb dM_addSizes_58 rfl (lv_at hl 1 rfl) ?_
          refine lv_sipush (v := 300) hx hb dM_addSizes_59 (by decide) ?_
          refine lq_iald (j := 300) hx hb hK hP 1 0 rfl rfl rfl (by decide) (by decide) dM_addSizes_62 ?_
          refine lv_topi (fun y9 e9 => ?_)
          cases (show y9 = nI K2 from e9.trans qh300)
          refine lv_icmp_ge (tgt := 73) hx hb dM_addSizes_63 rfl (fun h6 => ?_) (fun h6 => ?_)
          · have gh6 : K2 ≤ j := (nI_leI (a := K2) (b := j) (by omega) (by omega)).mp h6
            refine lv_iconst (v := 0) hx hb dM_addSizes_73 (by decide) ?_
            exact hct5 _ (by rw [hy1, ct_ge (show K2 ≤ j by omega)]; rfl)
          · have gh6 : j < K2 := Nat.not_le.mp (fun q => h6 ((nI_leI (a := K2) (b := j) (by omega) (by omega)).mpr q))
            refine lv_aload_n hx hb dM_addSizes_66 rfl (lv_at hl 1 rfl) ?_
            refine lv_iload hx hb dM_addSizes_67 (lv_at hl 4 rfl) ?_
            refine lq_iald (j := j) hx hb hK hP 1 0 rfl rfl rfl (by omega) (by omega) dM_addSizes_69 ?_
            refine lv_goto (tgt := 74) hx hb dM_addSizes_70 rfl ?_
            exact hct5 _ (by rw [hy1, ct_lt (show j < K2 by omega)]; exact (qhd j (by omega)).1)
      · refine lv_iload hx hb dM_addSizes_38 (lv_at hl 4 rfl) ?_
        refine lv_aload_n hx hb dM_addSizes_40 rfl (lv_at hl 0 rfl) ?_
        refine lv_sipush (v := 300) hx hb dM_addSizes_41 (by decide) ?_
        refine lq_iald (j := 300) hx hb hK hP 0 0 rfl rfl rfl (by decide) (by decide) dM_addSizes_44 ?_
        refine lv_topi (fun y9 e9 => ?_)
        cases (show y9 = nI K from e9.trans ((ig 300 (by omega)).trans h300))
        refine lv_icmp_ge (tgt := 55) hx hb dM_addSizes_45 rfl (fun h7 => ?_) (fun h7 => ?_)
        · have gh7 : K ≤ j := (nI_leI (a := K) (b := j) (by omega) (by omega)).mp h7
          refine lv_iconst (v := 0) hx hb dM_addSizes_55 (by decide) ?_
          exact hct4 _ (by rw [hx1, ct_ge (show K ≤ j by omega)]; rfl)
        · have gh7 : j < K := Nat.not_le.mp (fun q => h7 ((nI_leI (a := K) (b := j) (by omega) (by omega)).mpr q))
          refine lv_aload_n hx hb dM_addSizes_48 rfl (lv_at hl 0 rfl) ?_
          refine lv_iload hx hb dM_addSizes_49 (lv_at hl 4 rfl) ?_
          refine lq_iald (j := j) hx hb hK hP 0 0 rfl rfl rfl (by omega) (by omega) dM_addSizes_51 ?_
          refine lv_goto (tgt := 56) hx hb dM_addSizes_52 rfl ?_
          exact hct4 _ (by rw [ig j (Nat.le_refl _), hx1, ct_lt (show j < K by omega)]; exact (hd j (by omega)).1)
  · refine lv_aload_n hx hb dM_addSizes_0 rfl (lv_at hl 0 rfl) ?_
    refine lv_sipush (v := 300) hx hb dM_addSizes_1 (by decide) ?_
    refine lq_iald (j := 300) hx hb hK hP 0 0 rfl rfl rfl (by decide) (by decide) dM_addSizes_4 ?_
    refine lv_topi (fun y9 e9 => ?_)
    cases (show y9 = nI K from e9.trans h300)
    refine lv_aload_n hx hb dM_addSizes_5 rfl (lv_at hl 1 rfl) ?_
    refine lv_sipush (v := 300) hx hb dM_addSizes_6 (by decide) ?_
    refine lq_iald (j := 300) hx hb hK hP 1 0 rfl rfl rfl (by decide) (by decide) dM_addSizes_9 ?_
    refine lv_topi (fun y9 e9 => ?_)
    cases (show y9 = nI K2 from e9.trans qh300)
    refine lv_icmp_le (tgt := 21) hx hb dM_addSizes_10 rfl (fun h8 => ?_) (fun h8 => ?_)
    · have gh8 : K ≤ K2 := (nI_leI (a := K) (b := K2) (by omega) (by omega)).mp h8
      refine lv_aload_n hx hb dM_addSizes_21 rfl (lv_at hl 1 rfl) ?_
      refine lv_sipush (v := 300) hx hb dM_addSizes_22 (by decide) ?_
      refine lq_iald (j := 300) hx hb hK hP 1 0 rfl rfl rfl (by decide) (by decide) dM_addSizes_25 ?_
      exact hct1 _ (by rw [qh300, hnn, Nat.max_eq_right (by omega)])
    · have gh8 : K2 < K := Nat.not_le.mp (fun q => h8 ((nI_leI (a := K) (b := K2) (by omega) (by omega)).mpr q))
      refine lv_aload_n hx hb dM_addSizes_13 rfl (lv_at hl 0 rfl) ?_
      refine lv_sipush (v := 300) hx hb dM_addSizes_14 (by decide) ?_
      refine lq_iald (j := 300) hx hb hK hP 0 0 rfl rfl rfl (by decide) (by decide) dM_addSizes_17 ?_
      refine lv_topi (fun y9 e9 => ?_)
      cases (show y9 = nI K from e9.trans h300)
      refine lv_goto (tgt := 26) hx hb dM_addSizes_18 rfl ?_
      exact hct1 _ (by rw [hnn, Nat.max_eq_left (by omega)])
