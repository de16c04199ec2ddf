set_option maxHeartbeats 4000000 in
set_option maxRecDepth 100000 in
theorem m_trim (l : Launch) (D : va_G) (cT : Nat → ClassId) (a : Nat) (f : Nat → Int32) (k0 : Nat) (hk0 : k0 ≤ 300) (hd : dok 268435456 f k0) (sz : Nat) : Met l yM_trim WM_trim ({ frames := 0, cells := 0, slots := 0, locals := 0 } : Room) (RW D vwCl [.ref a, .int (nI k0)] [(a, .inl (cT 0, 302, .inl f))] (TY cT) sz) (va_Qv (fun u9 : Nat × (Nat → Int32) => u9.1 ≤ k0 ∧ top0 f u9.1 ∧ vM f u9.1 = vM f k0 ∧ u9.2 300 = nI u9.1 ∧ u9.2 301 = (if u9.1 = 0 then 0 else f 301) ∧ ∀ q8, q8 < 300 → u9.2 q8 = f q8) (BW D vwCl (va_A [(a, .inl (cT 0, 302, .inl f))] sz) (fun u9 : Nat × (Nat → Int32) => [(a, .inl (cT 0, 302, .inl u9.2))])) (va_A [(a, .inl (cT 0, 302, .inl f))] sz)) 0 0 (va_A [(a, .inl (cT 0, 302, .inl f))] sz) := by
  refine Met.ofW (cc := cM_trim) (maxL := 3) (ret := none) (by decide) rfl ?_
  intro p e s m args below meth c s₁ B hml hv
  obtain ⟨rfl, hsz, hZ, hP, hK, hD0⟩ := hv
  have hx := B.exec
  have hb := B.bytes
  have hr := B.returns
  have hts := atoms_spec (ws := WM_trim) B.pre
  have hT : ∀ w ∈ TB, w.before _ s = true := fun w h => hts w (List.mem_cons_of_mem _ h)
  have hown : s.vm.findClass R_M = some m.cls := findClass_of_methodNamed B.named
  have hlocks := B.notSynchronized
  subst hsz
  have hD := hD0.self (sz := s.heap.size)
  generalize hAe : va_A [(a, .inl (cT 0, 302, .inl f))] s.heap.size = A at hD hZ ⊢
  have hA : ∀ q : Nat, s.heap.size ≤ q → A q := fun q h => by rw [← hAe]; exact Or.inr h
  have hS : va_S A s.heap s.heap [] := va_S.rf
  have hl := lv_entry ([.ref a, .int (nI k0)]) (n := 3) (Nat.le_of_ble_eq_true rfl)
  rw [lg_entry_eq]
  generalize (lg_sl ([.ref a, .int (nI k0)]) ++ List.replicate (3 - (lg_sl ([.ref a, .int (nI k0)])).length) Slot.unset).toArray = ls at hl ⊢
  have hl : lv_has ls 3 [(0, .ref a), (1, .int (nI k0))] := hl
  refine lv_iload_n hx hb dM_trim_0 rfl (lv_at hl 1 rfl) ?_
  refine lv_istore_n hx hb dM_trim_1 rfl hl (by decide) rfl (fun ls hl => ?_)
  have hl : lv_has ls 3 [(2, .int (nI k0)), (0, .ref a), (1, .int (nI k0))] := hl
  refine lp_r (α := Nat) (fun a9 => a9 ≤ k0 ∧ vM f a9 = vM f k0) (fun a9 => a9) (fun a9 => [(0, .ref a), (2, .int (nI a9))]) 2 ?_ k0 (show k0 ≤ k0 ∧ vM f k0 = vM f k0 from ⟨Nat.le_refl _, rfl⟩) (lv_sub hl [1, 0] rfl)
  intro a9 hI2 ih2 ls hl
  obtain ⟨k, rfl⟩ : ∃ q9, q9 = a9 := ⟨_, rfl⟩
  have hI2 : k ≤ k0 ∧ vM f k = vM f k0 := hI2
  obtain ⟨ik, iv⟩ := hI2
  have hl : lv_has ls 3 [(0, .ref a), (2, .int (nI k))] := hl
  refine lv_iload_n hx hb dM_trim_2 rfl (lv_at hl 1 rfl) ?_
  refine lv_if_le (tgt := 20) hx hb dM_trim_3 rfl (fun h1 => ?_) (fun h1 => ?_)
  · have gh1 : k ≤ 0 := (nI_leI (a := k) (b := 0) (by omega) (by omega)).mp h1
    have ht0 : top0 f k := fun q => absurd q (by omega)
    refine lv_aload_n hx hb dM_trim_20 rfl (lv_at hl 0 rfl) ?_
    refine lv_sipush (v := 300) hx hb dM_trim_21 (by decide) ?_
    refine lv_iload_n hx hb dM_trim_24 rfl (lv_at hl 1 rfl) ?_
    refine lq_iast (j := 300) hx hb hK hP hD hS 0 0 rfl rfl rfl (by decide) (by decide) dM_trim_25 (fun H locs hP hD hS => ?_)
    have hP : va_P D vwCl [(a, .inl (cT 0, 302, .inl (upd f 300 (nI k))))] _ := hP
    have hD : va_D A [(a, .inl (cT 0, 302, .inl (upd f 300 (nI k))))] := hD
    refine lv_aload_n hx hb dM_trim_26 rfl (lv_at hl 0 rfl) ?_
    refine lv_sipush (v := 301) hx hb dM_trim_27 (by decide) ?_
    refine lv_iload_n hx hb dM_trim_30 rfl (lv_at hl 1 rfl) ?_
    refine lv_if_ne (tgt := 38) hx hb dM_trim_31 rfl (fun h2 => ?_) (fun h2 => ?_)
    · have gh2 : ¬ (k = 0) := fun q => h2 (congrArg nI q)
      refine lv_aload_n hx hb dM_trim_38 rfl (lv_at hl 0 rfl) ?_
      refine lv_sipush (v := 301) hx hb dM_trim_39 (by decide) ?_
      refine lq_iald (j := 301) hx hb hK hP 0 0 rfl rfl rfl (by decide) (by decide) dM_trim_42 ?_
      refine lv_topi (fun y9 e9 => ?_)
      cases (show y9 = f 301 from e9.trans (pk_un (by decide)))
      refine lq_iast (j := 301) hx hb hK hP hD hS 0 0 rfl rfl rfl (by decide) (by decide) dM_trim_43 (fun H locs hP hD hS => ?_)
      have hP : va_P D vwCl [(a, .inl (cT 0, 302, .inl (upd (upd f 300 (nI k)) 301 (f 301))))] _ := hP
      have hD : va_D A [(a, .inl (cT 0, 302, .inl (upd (upd f 300 (nI k)) 301 (f 301))))] := hD
      have hP9 := hP.sub (ws' := [(a, .inl (cT 0, 302, .inl (upd (upd f 300 (nI k)) 301 (f 301))))]) [0] rfl
      have hD9 := hD.sub (ws' := [(a, .inl (cT 0, 302, .inl (upd (upd f 300 (nI k)) 301 (f 301))))]) [0] (by decide) rfl
      refine W.widen (k := 0) (n := 0) (Nat.le_of_ble_eq_true rfl) (Nat.le_of_ble_eq_true rfl) ?_
      exact W.vret hx hb hr (fun t9 ht9 hW9 => ⟨⟨(k, upd (upd f 300 (nI k)) 301 (f 301)), rfl, (show k ≤ k0 ∧ top0 f k ∧ vM f k = vM f k0 ∧ (upd (upd f 300 (nI k)) 301 (f 301)) 300 = nI k ∧ (upd (upd f 300 (nI k)) 301 (f 301)) 301 = (if k = 0 then 0 else f 301) ∧ ∀ q8, q8 < 300 → (upd (upd f 300 (nI k)) 301 (f 301)) q8 = f q8 from ⟨ik, ht0, iv, (pk_un (by decide)).trans pk_us, by rw [pk_us, if_neg (by omega)], fun j hj => (pk_un (by omega)).trans (pk_un (by omega))⟩), by rw [ht9]; exact hP9, hD9⟩, hS.F ht9⟩) hS.2.2 dM_trim_44
    · have gh2 : k = 0 := (nI_eq (a := k) (b := 0) (by omega) (by omega)).mp h2
      refine lv_iconst (v := 0) hx hb dM_trim_34 (by decide) ?_
      refine lv_goto (tgt := 43) hx hb dM_trim_35 rfl ?_
      refine lq_iast (j := 301) hx hb hK hP hD hS 0 0 rfl rfl rfl (by decide) (by decide) dM_trim_43 (fun H locs hP hD hS => ?_)
      have hP : va_P D vwCl [(a, .inl (cT 0, 302, .inl (upd (upd f 300 (nI k)) 301 0)))] _ := hP
      have hD : va_D A [(a, .inl (cT 0, 302, .inl (upd (upd f 300 (nI k)) 301 0)))] := hD
      have hP9 := hP.sub (ws' := [(a, .inl (cT 0, 302, .inl (upd (upd f 300 (nI k)) 301 0)))]) [0] rfl
      have hD9 := hD.sub (ws' := [(a, .inl (cT 0, 302, .inl (upd (upd f 300 (nI k)) 301 0)))]) [0] (by decide) rfl
      refine W.widen (k := 0) (n := 0) (Nat.le_of_ble_eq_true rfl) (Nat.le_of_ble_eq_true rfl) ?_
      exact W.vret hx hb hr (fun t9 ht9 hW9 => ⟨⟨(k, upd (upd f 300 (nI k)) 301 0), rfl, (show k ≤ k0 ∧ top0 f k ∧ vM f k = vM f k0 ∧ (upd (upd f 300 (nI k)) 301 0) 300 = nI k ∧ (upd (upd f 300 (nI k)) 301 0) 301 = (if k = 0 then 0 else f 301) ∧ ∀ q8, q8 < 300 → (upd (upd f 300 (nI k)) 301 0) q8 = f q8 from ⟨ik, ht0, iv, (pk_un (by decide)).trans pk_us, by rw [pk_us, if_pos (by omega)], fun j hj => (pk_un (by omega)).trans (pk_un (by omega))⟩), by rw [ht9]; exact hP9, hD9⟩, hS.F ht9⟩) hS.2.2 dM_trim_44
  · have gh1 : 0 < k := Nat.not_le.mp (fun q => h1 ((nI_leI (a := k) (b := 0) (by omega) (by omega)).mpr q))
    refine lv_aload_n hx hb dM_trim_6 rfl (lv_at hl 0 rfl) ?_
    refine lv_iload_n hx hb dM_trim_7 rfl (lv_at hl 1 rfl) ?_
    refine lv_iconst (v := 1) hx hb dM_trim_8 (by decide) ?_
    refine lv_isub hx hb dM_trim_9 ?_
    refine lv_topi (fun y9 e9 => ?_)
    cases (show y9 = nI (k - 1) from e9.trans (pk_sub (a := k) (b := 1) (by omega)))
    refine lq_iald (j := k - 1) hx hb hK hP 0 0 rfl rfl rfl (by omega) (by omega) dM_trim_10 ?_
    refine lv_if_ne (tgt := 20) hx hb dM_trim_11 rfl (fun h3 => ?_) (fun h3 => ?_)
    · have ht0 : top0 f k := fun _ => dg_ne hd (by omega) h3
      refine lv_aload_n hx hb dM_trim_20 rfl (lv_at hl 0 rfl) ?_
      refine lv_sipush (v := 300) hx hb dM_trim_21 (by decide) ?_
      refine lv_iload_n hx hb dM_trim_24 rfl (lv_at hl 1 rfl) ?_
      refine lq_iast (j := 300) hx hb hK hP hD hS 0 0 rfl rfl rfl (by decide) (by decide) dM_trim_25 (fun H locs hP hD hS => ?_)
      have hP : va_P D vwCl [(a, .inl (cT 0, 302, .inl (upd f 300 (nI k))))] _ := hP
      have hD : va_D A [(a, .inl (cT 0, 302, .inl (upd f 300 (nI k))))] := hD
      refine lv_aload_n hx hb dM_trim_26 rfl (lv_at hl 0 rfl) ?_
      refine lv_sipush (v := 301) hx hb dM_trim_27 (by decide) ?_
      refine lv_iload_n hx hb dM_trim_30 rfl (lv_at hl 1 rfl) ?_
      refine lv_if_ne (tgt := 38) hx hb dM_trim_31 rfl (fun h4 => ?_) (fun h4 => ?_)
      · have gh4 : ¬ (k = 0) := fun q => h4 (congrArg nI q)
        refine lv_aload_n hx hb dM_trim_38 rfl (lv_at hl 0 rfl) ?_
        refine lv_sipush (v := 301) hx hb dM_trim_39 (by decide) ?_
        refine lq_iald (j := 301) hx hb hK hP 0 0 rfl rfl rfl (by decide) (by decide) dM_trim_42 ?_
        refine lv_topi (fun y9 e9 => ?_)
        cases (show y9 = f 301 from e9.trans (pk_un (by decide)))
        refine lq_iast (j := 301) hx hb hK hP hD hS 0 0 rfl rfl rfl (by decide) (by decide) dM_trim_43 (fun H locs hP hD hS => ?_)
        have hP : va_P D vwCl [(a, .inl (cT 0, 302, .inl (upd (upd f 300 (nI k)) 301 (f 301))))] _ := hP
        have hD : va_D A [(a, .inl (cT 0, 302, .inl (upd (upd f 300 (nI k)) 301 (f 301))))] := hD
        have hP9 := hP.sub (ws' := [(a, .inl (cT 0, 302, .inl (upd (upd f 300 (nI k)) 301 (f 301))))]) [0] rfl
        have hD9 := hD.sub (ws' := [(a, .inl (cT 0, 302, .inl (upd (upd f 300 (nI k)) 301 (f 301))))]) [0] (by decide) rfl
        refine W.widen (k := 0) (n := 0) (Nat.le_of_ble_eq_true rfl) (Nat.le_of_ble_eq_true rfl) ?_
        exact W.vret hx hb hr (fun t9 ht9 hW9 => ⟨⟨(k, upd (upd f 300 (nI k)) 301 (f 301)), rfl, (show k ≤ k0 ∧ top0 f k ∧ vM f k = vM f k0 ∧ (upd (upd f 300 (nI k)) 301 (f 301)) 300 = nI k ∧ (upd (upd f 300 (nI k)) 301 (f 301)) 301 = (if k = 0 then 0 else f 301) ∧ ∀ q8, q8 < 300 → (upd (upd f 300 (nI k)) 301 (f 301)) q8 = f q8 from ⟨ik, ht0, iv, (pk_un (by decide)).trans pk_us, by rw [pk_us, if_neg (by omega)], fun j hj => (pk_un (by omega)).trans (pk_un (by omega))⟩), by rw [ht9]; exact hP9, hD9⟩, hS.F ht9⟩) hS.2.2 dM_trim_44
      · have gh4 : k = 0 := (nI_eq (a := k) (b := 0) (by omega) (by omega)).mp h4
        refine lv_iconst (v := 0) hx hb dM_trim_34 (by decide) ?_
        refine lv_goto (tgt := 43) hx hb dM_trim_35 rfl ?_
        refine lq_iast (j := 301) hx hb hK hP hD hS 0 0 rfl rfl rfl (by decide) (by decide) dM_trim_43 (fun H locs hP hD hS => ?_)
        have hP : va_P D vwCl [(a, .inl (cT 0, 302, .inl (upd (upd f 300 (nI k)) 301 0)))] _ := hP
        have hD : va_D A [(a, .inl (cT 0, 302, .inl (upd (upd f 300 (nI k)) 301 0)))] := hD
        have hP9 := hP.sub (ws' := [(a, .inl (cT 0, 302, .inl (upd (upd f 300 (nI k)) 301 0)))]) [0] rfl
        have hD9 := hD.sub (ws' := [(a, .inl (cT 0, 302, .inl (upd (upd f 300 (nI k)) 301 0)))]) [0] (by decide) rfl
        refine W.widen (k := 0) (n := 0) (Nat.le_of_ble_eq_true rfl) (Nat.le_of_ble_eq_true rfl) ?_
        exact W.vret hx hb hr (fun t9 ht9 hW9 => ⟨⟨(k, upd (upd f 300 (nI k)) 301 0), rfl, (show k ≤ k0 ∧ top0 f k ∧ vM f k = vM f k0 ∧ (upd (upd f 300 (nI k)) 301 0) 300 = nI k ∧ (upd (upd f 300 (nI k)) 301 0) 301 = (if k = 0 then 0 else f 301) ∧ ∀ q8, q8 < 300 → (upd (upd f 300 (nI k)) 301 0) q8 = f q8 from ⟨ik, ht0, iv, (pk_un (by decide)).trans pk_us, by rw [pk_us, if_pos (by omega)], fun j hj => (pk_un (by omega)).trans (pk_un (by omega))⟩), by rw [ht9]; exact hP9, hD9⟩, hS.F ht9⟩) hS.2.2 dM_trim_44
    · refine lv_iinc (k := 1) (v := nI (k - 1)) hx hb dM_trim_14 hl rfl (sb_m1 (by omega)) (by decide) rfl (fun ls hl => ?_)
      have hl : lv_has ls 3 [(2, .int (nI (k - 1))), (0, .ref a)] := hl
      refine lv_goto (tgt := 2) hx hb dM_trim_17 rfl ?_
      exact ih2 (k - 1) (show (k - 1) ≤ k0 ∧ vM f (k - 1) = vM f k0 from ⟨by omega, (hv_dec (by omega) (dg_eq0 h3)).trans iv⟩) (show (k - 1) < k from (by omega)) ls (lv_sub hl [1, 0] rfl)
set_option maxHeartbeats 4000000 in
set_option maxRecDepth 100000 in
theorem m_rest (l : Launch) (D : va_G) (cT : Nat → ClassId) (a : Nat) (f : Nat → Int32) (z : Int) (d : Nat) (hN : MN f z) (hd0 : 0 < d) (hd1 : d < 2 ^ 31) : Met l yM_rest WM_rest ({ frames := 0, cells := 0, slots := 0, locals := 0 } : Room) (RO D vwCl [.ref a, .int (nI d)] [(a, .inl (cT 0, 302, .inl f))] (TY cT)) (QcRead (nI (z.natAbs % d))) 0 0 (fun _ => False) := by
  refine Met.ofW (cc := cM_rest) (maxL := 5) (ret := (some .int)) (by decide) rfl ?_
  intro p e s m args below meth c s₁ B hml hv
  obtain ⟨rfl, hZ, hP, hK⟩ := hv
  have hx := B.exec
  have hb := B.bytes
  have hr := B.returns
  have hts := atoms_spec (ws := WM_rest) B.pre
  have hT : ∀ w ∈ TB, w.before _ s = true := fun w h => hts w (List.mem_cons_of_mem _ h)
  have hown : s.vm.findClass R_M = some m.cls := findClass_of_methodNamed B.named
  have hlocks := B.notSynchronized
  have hS : va_S (fun _ => False) s.heap s.heap [] := va_S.rf
  have hl := lv_entry ([.ref a, .int (nI d)]) (n := 5) (Nat.le_of_ble_eq_true rfl)
  rw [lg_entry_eq]
  generalize (lg_sl ([.ref a, .int (nI d)]) ++ List.replicate (5 - (lg_sl ([.ref a, .int (nI d)])).length) Slot.unset).toArray = ls at hl ⊢
  have hl : lv_has ls 5 [(0, .ref a), (1, .int (nI d))] := hl
  obtain ⟨K, h300, hk, hd, htop, hs, hva⟩ := hN
  refine lv_lconst (v := 0) hx hb dM_rest_0 (by decide) ?_
  refine lv_lstore_n hx hb dM_rest_1 rfl hl (by decide) rfl (fun ls hl => ?_)
  have hl : lv_has ls 5 [(2, .long 0), (0, .ref a), (1, .int (nI d))] := hl
  refine lv_aload_n hx hb dM_rest_2 rfl (lv_at hl 1 rfl) ?_
  refine lv_sipush (v := 300) hx hb dM_rest_3 (by decide) ?_
  refine lq_iald (j := 300) hx hb hK hP 0 0 rfl rfl rfl (by decide) (by decide) dM_rest_6 ?_
  refine lv_topi (fun y9 e9 => ?_)
  cases (show y9 = nI K from e9.trans h300)
  refine lv_iconst (v := 1) hx hb dM_rest_7 (by decide) ?_
  refine lv_isub hx hb dM_rest_8 ?_
  refine lv_istore hx hb dM_rest_9 hl (by decide) rfl (fun ls hl => ?_)
  have hl : lv_has ls 5 [(4, .int ((nI K) - 1)), (2, .long 0), (0, .ref a), (1, .int (nI d))] := hl
  refine lp_r (α := Nat × Nat) (fun a9 => a9.1 ≤ K ∧ a9.2 < d ∧ a9.2 = hv 268435456 (dg f) a9.1 (K - a9.1) % d) (fun a9 => a9.1) (fun a9 => [(0, .ref a), (1, .int (nI d)), (2, .long (lN a9.2)), (4, .int (nI a9.1 - 1))]) 11 ?_ (K, 0) (show K ≤ K ∧ 0 < d ∧ 0 = hv 268435456 (dg f) K (K - K) % d from ⟨Nat.le_refl _, hd0, by rw [Nat.sub_self]; exact (Nat.zero_mod d).symm⟩) (lv_sub hl [2, 3, 1, 0] rfl)
  intro a9 hI11 ih11 ls hl
  obtain ⟨k, r⟩ := a9
  have hI11 : k ≤ K ∧ r < d ∧ r = hv 268435456 (dg f) k (K - k) % d := hI11
  obtain ⟨ik, ir, iv⟩ := hI11
  have hl : lv_has ls 5 [(0, .ref a), (1, .int (nI d)), (2, .long (lN r)), (4, .int (nI k - 1))] := hl
  refine lv_iload hx hb dM_rest_11 (lv_at hl 3 rfl) ?_
  refine lv_if_lt (tgt := 36) hx hb dM_rest_13 rfl (fun h1 => ?_) (fun h1 => ?_)
  · have gh1 : k = 0 := (dn_lt (by omega)).mp h1
    refine lv_lload_n hx hb dM_rest_36 rfl (lv_at hl 2 rfl) ?_
    refine lv_l2i hx hb dM_rest_37 rfl ?_
    refine lv_topi (fun y9 e9 => ?_)
    cases (show y9 = nI r from e9.trans (lN_i r))
    exact W.iret (v := nI r) hx hb hr (fun t9 ht9 hW9 => ⟨by rw [hva, iv, show k = 0 by omega, Nat.sub_zero], ht9⟩) (fun q h => nomatch h) dM_rest_38
  · have gh1 : 0 < k := Nat.pos_of_ne_zero (fun q => h1 ((dn_lt (by omega)).mpr q))
    have hw := hd (k - 1) (by omega)
    refine lv_lload_n hx hb dM_rest_16 rfl (lv_at hl 2 rfl) ?_
    refine lv_bipush (v := 28) hx hb dM_rest_17 (by decide) ?_
    refine lv_lshl hx hb dM_rest_19 rfl ?_
    refine lv_aload_n hx hb dM_rest_20 rfl (lv_at hl 0 rfl) ?_
    refine lv_iload hx hb dM_rest_21 (lv_at hl 3 rfl) ?_
    refine lq_iald (j := k - 1) hx hb hK hP 0 0 rfl rfl (nI_sub1 (by omega)) (by omega) (by decide) dM_rest_23 ?_
    refine lv_topi (fun y9 e9 => ?_)
    cases (show y9 = nI (dg f (k - 1)) from e9.trans hw.1)
    refine lv_i2l hx hb dM_rest_24 rfl ?_
    refine lv_topl (fun y9 e9 => ?_)
    cases (show y9 = lN (dg f (k - 1)) from e9.trans (nI_l (n := dg f (k - 1)) (by have := hw.2; omega)))
    refine lv_lor hx hb dM_rest_25 ?_
    obtain ⟨pt, hpt⟩ : ∃ q9 : Nat, q9 = r * 268435456 + dg f (k - 1) := ⟨_, rfl⟩
    refine lv_topl (fun y9 e9 => ?_)
    cases (show y9 = lN pt from e9.trans (by rw [hpt]; exact mor (by omega) hw.2))
    have hb31 : pt < 2 ^ 62 := by have := hw.2; omega
    refine lv_iload_n hx hb dM_rest_26 rfl (lv_at hl 1 rfl) ?_
    refine lv_i2l hx hb dM_rest_27 rfl ?_
    refine lv_topl (fun y9 e9 => ?_)
    cases (show y9 = lN d from e9.trans (nI_l (n := d) (by omega)))
    refine lv_lrem hx hb dM_rest_28 (fun q => absurd ((pk_lEQ (b := 0) (by omega) (by decide)).mp q) (by omega)) ?_
    refine lv_topl (fun y9 e9 => ?_)
    cases (show y9 = lN (pt % d) from e9.trans (pk_lRem (a := pt) (b := d) (by omega) hd0 (by omega)))
    obtain ⟨r1, hr1⟩ : ∃ q9 : Nat, q9 = pt % d := ⟨_, rfl⟩
    refine lv_topl (fun y9 e9 => ?_)
    cases (show y9 = lN r1 from e9.trans (congrArg lN hr1.symm))
    refine lv_lstore_n hx hb dM_rest_29 rfl hl (by decide) rfl (fun ls hl => ?_)
    have hl : lv_has ls 5 [(2, .long (lN r1)), (0, .ref a), (1, .int (nI d)), (4, .int (nI k - 1))] := hl
    refine lv_iinc (k := 3) (v := nI (k - 1) - 1) hx hb dM_rest_30 hl rfl (dn_m1 (by omega)) (by decide) rfl (fun ls hl => ?_)
    have hl : lv_has ls 5 [(4, .int (nI (k - 1) - 1)), (2, .long (lN r1)), (0, .ref a), (1, .int (nI d))] := hl
    refine lv_goto (tgt := 11) hx hb dM_rest_33 rfl ?_
    exact ih11 (k - 1, r1) (show (k - 1) ≤ K ∧ r1 < d ∧ r1 = hv 268435456 (dg f) (k - 1) (K - (k - 1)) % d from ⟨by omega, by rw [hr1, hpt]; exact Nat.mod_lt _ hd0, by rw [hr1, hpt, rest_s iv, hv_dn (by omega) ik]⟩) (show (k - 1) < k from (by omega)) ls (lv_sub hl [2, 3, 1, 0] rfl)
set_option maxHeartbeats 4000000 in
set_option maxRecDepth 100000 in
theorem m_divide (l : Launch) (D : va_G) (cT : Nat → ClassId) (a : Nat) (f : Nat → Int32) (z : Int) (d : Nat) (hN : MN f z) (hd0 : 0 < d) (hd1 : d < 2 ^ 31) (sz : Nat) : Met l yM_divide WM_divide ({ frames := 1, cells := 0, slots := 0, locals := 22 } : Room) (RW D vwCl [.ref a, .int (nI d)] [(a, .inl (cT 0, 302, .inl f))] (TY cT) sz) (va_Qi (fun (r9 : Int32) (u9 : (Nat → Int32)) => r9 = nI (z.natAbs % d) ∧ MN u9 (z.tdiv d)) (BW D vwCl (va_A [(a, .inl (cT 0, 302, .inl f))] sz) (fun u9 : (Nat → Int32) => [(a, .inl (cT 0, 302, .inl u9))])) (va_A [(a, .inl (cT 0, 302, .inl f))] sz)) 0 0 (va_A [(a, .inl (cT 0, 302, .inl f))] sz) := by
  refine Met.ofW (cc := cM_divide) (maxL := 7) (ret := (some .int)) (by decide) rfl ?_
  intro p e s m args below meth c s₁ B hml hv
  obtain ⟨rfl, hsz, hZ, hP, hK, hD0⟩ := hv
  have hx := B.exec
  have hb := B.bytes
  have hr := B.returns
  have hts := atoms_spec (ws := WM_divide) B.pre
  have hT : ∀ w ∈ TB, w.before _ s = true := fun w h => hts w (List.mem_cons_of_mem _ h)
  have hown : s.vm.findClass R_M = some m.cls := findClass_of_methodNamed B.named
  have hlocks := B.notSynchronized
  subst hsz
  have hD := hD0.self (sz := s.heap.size)
  generalize hAe : va_A [(a, .inl (cT 0, 302, .inl f))] s.heap.size = A at hD hZ ⊢
  have hA : ∀ q : Nat, s.heap.size ≤ q → A q := fun q h => by rw [← hAe]; exact Or.inr h
  have hS : va_S A s.heap s.heap [] := va_S.rf
  have hl := lv_entry ([.ref a, .int (nI d)]) (n := 7) (Nat.le_of_ble_eq_true rfl)
  rw [lg_entry_eq]
  generalize (lg_sl ([.ref a, .int (nI d)]) ++ List.replicate (7 - (lg_sl ([.ref a, .int (nI d)])).length) Slot.unset).toArray = ls at hl ⊢
  have hl : lv_has ls 7 [(0, .ref a), (1, .int (nI d))] := hl
  obtain ⟨K, h300, hk, hd, htop, hs, hva⟩ := hN
  refine lv_lconst (v := 0) hx hb dM_divide_0 (by decide) ?_
  refine lv_lstore_n hx hb dM_divide_1 rfl hl (by decide) rfl (fun ls hl => ?_)
  have hl : lv_has ls 7 [(2, .long 0), (0, .ref a), (1, .int (nI d))] := hl
  refine lv_aload_n hx hb dM_divide_2 rfl (lv_at hl 1 rfl) ?_
  refine lv_sipush (v := 300) hx hb dM_divide_3 (by decide) ?_
  refine lq_iald (j := 300) hx hb hK hP 0 0 rfl rfl rfl (by decide) (by decide) dM_divide_6 ?_
  refine lv_topi (fun y9 e9 => ?_)
  cases (show y9 = nI K from e9.trans h300)
  refine lv_iconst (v := 1) hx hb dM_divide_7 (by decide) ?_
  refine lv_isub hx hb dM_divide_8 ?_
  refine lv_istore hx hb dM_divide_9 hl (by decide) rfl (fun ls hl => ?_)
  have hl : lv_has ls 7 [(4, .int ((nI K) - 1)), (2, .long 0), (0, .ref a), (1, .int (nI d))] := hl
  refine lp_w (α := Nat × Nat × (Nat → Int32)) (fun a9 => a9.1 ≤ K ∧ a9.2.1 < d ∧ (∀ j, j < a9.1 → a9.2.2 j = f j) ∧ (∀ j, K ≤ j → a9.2.2 j = f j) ∧ dab 268435456 a9.2.2 a9.1 K ∧ hv 268435456 (dg f) a9.1 (K - a9.1) = d * hv 268435456 (dg a9.2.2) a9.1 (K - a9.1) + a9.2.1) (fun a9 => a9.1) (fun a9 => [(0, .ref a), (1, .int (nI d)), (2, .long (lN a9.2.1)), (4, .int (nI a9.1 - 1))]) (fun a9 => [(a, .inl (cT 0, 302, .inl a9.2.2))]) 11 ?_ (K, 0, f) (show K ≤ K ∧ 0 < d ∧ (∀ j, j < K → f j = f j) ∧ (∀ j, K ≤ j → f j = f j) ∧ dab 268435456 f K K ∧ hv 268435456 (dg f) K (K - K) = d * hv 268435456 (dg f) K (K - K) + 0 from ⟨Nat.le_refl _, hd0, fun _ _ => rfl, fun _ _ => rfl, fun m h1 h2 => absurd h1 (by omega), by rw [Nat.sub_self]; rfl⟩) (lv_sub hl [2, 3, 1, 0] rfl) hP hD hS
  intro a9 hI11 ih11 ls H locs hl hP hD hS
  obtain ⟨k, r, g⟩ := a9
  have hI11 : k ≤ K ∧ r < d ∧ (∀ j, j < k → g j = f j) ∧ (∀ j, K ≤ j → g j = f j) ∧ dab 268435456 g k K ∧ hv 268435456 (dg f) k (K - k) = d * hv 268435456 (dg g) k (K - k) + r := hI11
  obtain ⟨ik, ir, ig, ih, ia, iv⟩ := hI11
  have hl : lv_has ls 7 [(0, .ref a), (1, .int (nI d)), (2, .long (lN r)), (4, .int (nI k - 1))] := hl
  have hP : va_P D vwCl [(a, .inl (cT 0, 302, .inl g))] _ := hP
  have hD : va_D A [(a, .inl (cT 0, 302, .inl g))] := hD
  refine lv_iload hx hb dM_divide_11 (lv_at hl 3 rfl) ?_
  refine lv_if_lt (tgt := 50) hx hb dM_divide_13 rfl (fun h1 => ?_) (fun h1 => ?_)
  · have gh1 : k = 0 := (dn_lt (by omega)).mp h1
    have k0 : k = 0 := by omega
    subst k0
    have hdk := dab_dok ia
    have hl : lv_has ls 7 [(0, .ref a), (1, .int (nI d)), (2, .long (lN r)), (4, .int (nI 0 - 1))] := hl
    have hP : va_P D vwCl [(a, .inl (cT 0, 302, .inl g))] _ := hP
    have hD : va_D A [(a, .inl (cT 0, 302, .inl g))] := hD
    have hq0 : vM g K = vM f K / d := vW_uq iv ir
    have hr0 : r = vM f K % d := by have q0 : vM f K = d * vM g K + r := iv; rw [q0, Nat.mul_add_mod, Nat.mod_eq_of_lt ir]
    refine lv_aload_n hx hb dM_divide_50 rfl (lv_at hl 0 rfl) ?_
    refine lv_aload_n hx hb dM_divide_51 rfl (lv_at hl 0 rfl) ?_
    refine lv_sipush (v := 300) hx hb dM_divide_52 (by decide) ?_
    refine lq_iald (j := 300) hx hb hK hP 0 0 rfl rfl rfl (by decide) (by decide) dM_divide_55 ?_
    refine lv_topi (fun y9 e9 => ?_)
    cases (show y9 = nI K from e9.trans ((ih 300 hk).trans h300))
    refine rw_v (wc := [(a, .inl (cT 0, 302, .inl g))]) (wr := []) hP hD hS hA [0] [] rfl rfl (by decide) (by decide) (va_runS (As := [.ref a, .int (nI K)]) (rest := []) ⟨hx, hb, hml, hown, hT⟩ (m_trim l D cT a g K hk hdk _) ⟨callB_of 2 hT (tb_gd w1420) rfl rfl rfl (hT _ w13) (hT _ w1418) hM_trim ⟨Nat.le_of_ble_eq_true rfl, Nat.le_of_ble_eq_true rfl⟩, (hT _ w1419)⟩ (RW.preS hZ hS (va_free (wc := [(a, .inl (cT 0, 302, .inl g))]) hD hS hA [0] rfl) (hP.sub (ws' := [(a, .inl (cT 0, 302, .inl g))]) [0] rfl) hK (hD.sub (ws' := [(a, .inl (cT 0, 302, .inl g))]) [0] (by decide) rfl)) rfl rfl hl.1 rfl (lv_room (Nat.le_of_ble_eq_true rfl)) dM_divide_56 ⟨Nat.le_of_ble_eq_true rfl, Nat.le_of_ble_eq_true rfl⟩) (fun u9 H locs hpu2 hP hD hS => ?_)
    obtain ⟨ku2, f1u2⟩ := u9
    have hpu2 : ku2 ≤ K ∧ top0 g ku2 ∧ vM g ku2 = vM g K ∧ f1u2 300 = nI ku2 ∧ f1u2 301 = (if ku2 = 0 then 0 else g 301) ∧ ∀ q8, q8 < 300 → f1u2 q8 = g q8 := hpu2
    have hP : va_P D vwCl [(a, .inl (cT 0, 302, .inl f1u2))] _ := hP
    have hD : va_D A [(a, .inl (cT 0, 302, .inl f1u2))] := hD
    refine lv_lload_n hx hb dM_divide_59 rfl (lv_at hl 2 rfl) ?_
    refine lv_l2i hx hb dM_divide_60 rfl ?_
    refine lv_topi (fun y9 e9 => ?_)
    cases (show y9 = nI r from e9.trans (lN_i r))
    have hP9 := hP.sub (ws' := [(a, .inl (cT 0, 302, .inl f1u2))]) [0] rfl
    have hD9 := hD.sub (ws' := [(a, .inl (cT 0, 302, .inl f1u2))]) [0] (by decide) rfl
    refine W.widen (k := 0) (n := 0) (Nat.le_of_ble_eq_true rfl) (Nat.le_of_ble_eq_true rfl) ?_
    exact W.iret (v := nI r) hx hb hr (fun t9 ht9 hW9 => ⟨⟨nI r, f1u2, rfl, (show (nI r) = nI (z.natAbs % d) ∧ MN f1u2 (z.tdiv d) from ⟨by rw [hr0, hva], mn_trim hk hdk hpu2 (by rw [Int.natAbs_tdiv, hva, hq0]; rfl) (fun q => by rw [ih 301 (by omega), hs]; exact (sg_tdiv q).symm)⟩), by rw [ht9]; exact hP9, hD9⟩, hS.F ht9⟩) hS.2.2 dM_divide_61
  · have gh1 : 0 < k := Nat.pos_of_ne_zero (fun q => h1 ((dn_lt (by omega)).mpr q))
    have hw := hd (k - 1) (by omega)
    refine lv_lload_n hx hb dM_divide_16 rfl (lv_at hl 2 rfl) ?_
    refine lv_bipush (v := 28) hx hb dM_divide_17 (by decide) ?_
    refine lv_lshl hx hb dM_divide_19 rfl ?_
    refine lv_aload_n hx hb dM_divide_20 rfl (lv_at hl 0 rfl) ?_
    refine lv_iload hx hb dM_divide_21 (lv_at hl 3 rfl) ?_
    refine lq_iald (j := k - 1) hx hb hK hP 0 0 rfl rfl (nI_sub1 (by omega)) (by omega) (by decide) dM_divide_23 ?_
    refine lv_topi (fun y9 e9 => ?_)
    cases (show y9 = nI (dg f (k - 1)) from e9.trans ((ig (k - 1) (by omega)).trans hw.1))
    refine lv_i2l hx hb dM_divide_24 rfl ?_
    refine lv_topl (fun y9 e9 => ?_)
    cases (show y9 = lN (dg f (k - 1)) from e9.trans (nI_l (n := dg f (k - 1)) (by have := hw.2; omega)))
    refine lv_lor hx hb dM_divide_25 ?_
    obtain ⟨pt, hpt⟩ : ∃ q9 : Nat, q9 = r * 268435456 + dg f (k - 1) := ⟨_, rfl⟩
    refine lv_topl (fun y9 e9 => ?_)
    cases (show y9 = lN pt from e9.trans (by rw [hpt]; exact mor (by omega) hw.2))
    have hb31 : pt < 2 ^ 62 := by have := hw.2; omega
    refine lv_lstore hx hb dM_divide_26 hl (by decide) rfl (fun ls hl => ?_)
    have hl : lv_has ls 7 [(5, .long (lN pt)), (0, .ref a), (1, .int (nI d)), (2, .long (lN r)), (4, .int (nI k - 1))] := hl
    refine lv_aload_n hx hb dM_divide_28 rfl (lv_at hl 1 rfl) ?_
    refine lv_iload hx hb dM_divide_29 (lv_at hl 4 rfl) ?_
    refine lv_lload hx hb dM_divide_31 (lv_at hl 0 rfl) ?_
    refine lv_iload_n hx hb dM_divide_33 rfl (lv_at hl 2 rfl) ?_
    refine lv_i2l hx hb dM_divide_34 rfl ?_
    refine lv_topl (fun y9 e9 => ?_)
    cases (show y9 = lN d from e9.trans (nI_l (n := d) (by omega)))
    refine lv_ldiv hx hb dM_divide_35 (fun q => absurd ((pk_lEQ (b := 0) (by omega) (by decide)).mp q) (by omega)) ?_
    refine lv_topl (fun y9 e9 => ?_)
    cases (show y9 = lN (pt / d) from e9.trans (pk_lDiv (a := pt) (b := d) (by omega) hd0 (by omega)))
    obtain ⟨q1, hq1⟩ : ∃ q9 : Nat, q9 = pt / d := ⟨_, rfl⟩
    refine lv_topl (fun y9 e9 => ?_)
    cases (show y9 = lN q1 from e9.trans (congrArg lN hq1.symm))
    have hq1b : q1 < 268435456 := by rw [hq1, hpt]; exact div_lt ir hw.2
    refine lv_l2i hx hb dM_divide_36 rfl ?_
    refine lv_topi (fun y9 e9 => ?_)
    cases (show y9 = nI q1 from e9.trans (lN_i q1))
    refine lq_iast (j := k - 1) hx hb hK hP hD hS 0 0 rfl rfl (nI_sub1 (by omega)) (by omega) (by decide) dM_divide_37 (fun H locs hP hD hS => ?_)
    have hP : va_P D vwCl [(a, .inl (cT 0, 302, .inl (upd g (k - 1) (nI q1))))] _ := hP
    have hD : va_D A [(a, .inl (cT 0, 302, .inl (upd g (k - 1) (nI q1))))] := hD
    refine lv_lload hx hb dM_divide_38 (lv_at hl 0 rfl) ?_
    refine lv_iload_n hx hb dM_divide_40 rfl (lv_at hl 2 rfl) ?_
    refine lv_i2l hx hb dM_divide_41 rfl ?_
    refine lv_topl (fun y9 e9 => ?_)
    cases (show y9 = lN d from e9.trans (nI_l (n := d) (by omega)))
    refine lv_lrem hx hb dM_divide_42 (fun q => absurd ((pk_lEQ (b := 0) (by omega) (by decide)).mp q) (by omega)) ?_
    refine lv_topl (fun y9 e9 => ?_)
    cases (show y9 = lN (pt % d) from e9.trans (pk_lRem (a := pt) (b := d) (by omega) hd0 (by omega)))
    obtain ⟨r1, hr1⟩ : ∃ q9 : Nat, q9 = pt % d := ⟨_, rfl⟩
    refine lv_topl (fun y9 e9 => ?_)
    cases (show y9 = lN r1 from e9.trans (congrArg lN hr1.symm))
    refine lv_lstore_n hx hb dM_divide_43 rfl hl (by decide) rfl (fun ls hl => ?_)
    have hl : lv_has ls 7 [(2, .long (lN r1)), (5, .long (lN pt)), (0, .ref a), (1, .int (nI d)), (4, .int (nI k - 1))] := hl
    refine lv_iinc (k := 4) (v := nI (k - 1) - 1) hx hb dM_divide_44 hl rfl (dn_m1 (by omega)) (by decide) rfl (fun ls hl => ?_)
    have hl : lv_has ls 7 [(4, .int (nI (k - 1) - 1)), (2, .long (lN r1)), (5, .long (lN pt)), (0, .ref a), (1, .int (nI d))] := hl
    refine lv_goto (tgt := 11) hx hb dM_divide_47 rfl ?_
    exact ih11 (k - 1, r1, upd g (k - 1) (nI q1)) (show (k - 1) ≤ K ∧ r1 < d ∧ (∀ j, j < (k - 1) → (upd g (k - 1) (nI q1)) j = f j) ∧ (∀ j, K ≤ j → (upd g (k - 1) (nI q1)) j = f j) ∧ dab 268435456 (upd g (k - 1) (nI q1)) (k - 1) K ∧ hv 268435456 (dg f) (k - 1) (K - (k - 1)) = d * hv 268435456 (dg (upd g (k - 1) (nI q1))) (k - 1) (K - (k - 1)) + r1 from ⟨by omega, by rw [hr1, hpt]; exact Nat.mod_lt _ hd0, fun j h => (pk_un (by omega)).trans (ig j (by omega)), fun j h => (pk_un (by omega)).trans (ih j h), dab_s (by omega) ia hq1b (by decide), by rw [hv_dn (by omega) ik, hv_ud (v := q1) (by omega) ik (by omega)]; exact div_s iv (by rw [hq1, hpt]) (by rw [hr1, hpt])⟩) (show (k - 1) < k from (by omega)) ls H locs (lv_sub hl [3, 4, 1, 0] rfl) hP hD hS
set_option maxHeartbeats 4000000 in
set_option maxRecDepth 100000 in
theorem m_times (l : Launch) (D : va_G) (cT : Nat → ClassId) (a : Nat) (f : Nat → Int32) (z : Int) (d : Nat) (hN : MN f z) (hd0 : 0 < d) (hd1 : d < 2 ^ 31) (hfit : z.natAbs * d < 268435456 ^ 250) (sz : Nat) : Met l yM_times WM_times ({ frames := 1, cells := 0, slots := 0, locals := 22 } : Room) (RW D vwCl [.ref a, .int (nI d)] [(a, .inl (cT 0, 302, .inl f))] (TY cT) sz) (va_Qv (fun u9 : (Nat → Int32) => MN u9 (z * d)) (BW D vwCl (va_A [(a, .inl (cT 0, 302, .inl f))] sz) (fun u9 : (Nat → Int32) => [(a, .inl (cT 0, 302, .inl u9))])) (va_A [(a, .inl (cT 0, 302, .inl f))] sz)) 0 0 (va_A [(a, .inl (cT 0, 302, .inl f))] sz) := by
  refine Met.ofW (cc := cM_times) (maxL := 8) (ret := none) (by decide) rfl ?_
  intro p e s m args below meth c s₁ B hml hv
  obtain ⟨rfl, hsz, hZ, hP, hK, hD0⟩ := hv
  have hx := B.exec
  have hb := B.bytes
  have hr := B.returns
  have hts := atoms_spec (ws := WM_times) B.pre
  have hT : ∀ w ∈ TB, w.before _ s = true := fun w h => hts w (List.mem_cons_of_mem _ h)
  have hown : s.vm.findClass R_M = some m.cls := findClass_of_methodNamed B.named
  have hlocks := B.notSynchronized
  subst hsz
  have hD := hD0.self (sz := s.heap.size)
  generalize hAe : va_A [(a, .inl (cT 0, 302, .inl f))] s.heap.size = A at hD hZ ⊢
  have hA : ∀ q : Nat, s.heap.size ≤ q → A q := fun q h => by rw [← hAe]; exact Or.inr h
  have hS : va_S A s.heap s.heap [] := va_S.rf
  have hl := lv_entry ([.ref a, .int (nI d)]) (n := 8) (Nat.le_of_ble_eq_true rfl)
  rw [lg_entry_eq]
  generalize (lg_sl ([.ref a, .int (nI d)]) ++ List.replicate (8 - (lg_sl ([.ref a, .int (nI d)])).length) Slot.unset).toArray = ls at hl ⊢
  have hl : lv_has ls 8 [(0, .ref a), (1, .int (nI d))] := hl
  obtain ⟨K, h300, hk, hd, htop, hs, hva⟩ := hN
  refine lv_lconst (v := 0) hx hb dM_times_0 (by decide) ?_
  refine lv_lstore_n hx hb dM_times_1 rfl hl (by decide) rfl (fun ls hl => ?_)
  have hl : lv_has ls 8 [(2, .long 0), (0, .ref a), (1, .int (nI d))] := hl
  refine lv_aload_n hx hb dM_times_2 rfl (lv_at hl 1 rfl) ?_
  refine lv_sipush (v := 300) hx hb dM_times_3 (by decide) ?_
  refine lq_iald (j := 300) hx hb hK hP 0 0 rfl rfl rfl (by decide) (by decide) dM_times_6 ?_
  refine lv_topi (fun y9 e9 => ?_)
  cases (show y9 = nI K from e9.trans h300)
  refine lv_istore hx hb dM_times_7 hl (by decide) rfl (fun ls hl => ?_)
  have hl : lv_has ls 8 [(4, .int (nI K)), (2, .long 0), (0, .ref a), (1, .int (nI d))] := hl
  refine lv_iconst (v := 0) hx hb dM_times_9 (by decide) ?_
  refine lv_istore hx hb dM_times_10 hl (by decide) rfl (fun ls hl => ?_)
  have hl : lv_has ls 8 [(5, .int 0), (4, .int (nI K)), (2, .long 0), (0, .ref a), (1, .int (nI d))] := hl
  refine lp_w (α := Nat × Nat × (Nat → Int32)) (fun a9 => a9.1 ≤ K ∧ a9.2.1 < 2147483648 ∧ dok 268435456 a9.2.2 a9.1 ∧ (∀ q, a9.1 ≤ q → a9.2.2 q = f q) ∧ hv 268435456 (dg a9.2.2) 0 a9.1 + 268435456 ^ a9.1 * a9.2.1 = hv 268435456 (dg f) 0 a9.1 * d) (fun a9 => K - a9.1) (fun a9 => [(0, .ref a), (1, .int (nI d)), (2, .long (lN a9.2.1)), (4, .int (nI K)), (5, .int (nI a9.1))]) (fun a9 => [(a, .inl (cT 0, 302, .inl a9.2.2))]) 12 ?_ (0, 0, f) (show 0 ≤ K ∧ 0 < 2147483648 ∧ dok 268435456 f 0 ∧ (∀ q, 0 ≤ q → f q = f q) ∧ hv 268435456 (dg f) 0 0 + 268435456 ^ 0 * 0 = hv 268435456 (dg f) 0 0 * d from ⟨by omega, by decide, fun q h => absurd h (by omega), fun _ _ => rfl, by simp [hv]⟩) (lv_sub hl [3, 4, 2, 1, 0] rfl) hP hD hS
  intro a9 hI12 ih12 ls H locs hl hP hD hS
  obtain ⟨j, ca, g⟩ := a9
  have hI12 : j ≤ K ∧ ca < 2147483648 ∧ dok 268435456 g j ∧ (∀ q, j ≤ q → g q = f q) ∧ hv 268435456 (dg g) 0 j + 268435456 ^ j * ca = hv 268435456 (dg f) 0 j * d := hI12
  obtain ⟨ij, ic, ig, if0, iv⟩ := hI12
  have hl : lv_has ls 8 [(0, .ref a), (1, .int (nI d)), (2, .long (lN ca)), (4, .int (nI K)), (5, .int (nI j))] := hl
  have hP : va_P D vwCl [(a, .inl (cT 0, 302, .inl g))] _ := hP
  have hD : va_D A [(a, .inl (cT 0, 302, .inl g))] := hD
  refine lv_iload hx hb dM_times_12 (lv_at hl 4 rfl) ?_
  refine lv_iload hx hb dM_times_14 (lv_at hl 3 rfl) ?_
  refine lv_icmp_ge (tgt := 54) hx hb dM_times_16 rfl (fun h1 => ?_) (fun h1 => ?_)
  · have gh1 : K ≤ j := (nI_leI (a := K) (b := j) (by omega) (by omega)).mp h1
    have ej : j = K := by omega
    subst ej
    have hl : lv_has ls 8 [(0, .ref a), (1, .int (nI d)), (2, .long (lN ca)), (4, .int (nI j)), (5, .int (nI j))] := hl
    have hP : va_P D vwCl [(a, .inl (cT 0, 302, .inl g))] _ := hP
    have hD : va_D A [(a, .inl (cT 0, 302, .inl g))] := hD
    have hbig : hv 268435456 (dg f) 0 j * d < 268435456 ^ 250 := by have q0 := hfit; rw [hva] at q0; exact q0
    refine lp_w (α := Nat × Nat × (Nat → Int32)) (fun a9 => a9.1 ≤ 300 ∧ a9.2.1 < 2147483648 ∧ dok 268435456 a9.2.2 a9.1 ∧ (∀ q, a9.1 ≤ q → a9.2.2 q = f q) ∧ hv 268435456 (dg a9.2.2) 0 a9.1 + 268435456 ^ a9.1 * a9.2.1 = hv 268435456 (dg f) 0 j * d) (fun a9 => a9.2.1) (fun a9 => [(0, .ref a), (2, .long (lN a9.2.1)), (4, .int (nI a9.1))]) (fun a9 => [(a, .inl (cT 0, 302, .inl a9.2.2))]) 54 ?_ (j, ca, g) (show j ≤ 300 ∧ ca < 2147483648 ∧ dok 268435456 g j ∧ (∀ q, j ≤ q → g q = f q) ∧ hv 268435456 (dg g) 0 j + 268435456 ^ j * ca = hv 268435456 (dg f) 0 j * d from ⟨hk, ic, ig, if0, iv⟩) (lv_sub hl [0, 2, 3] rfl) hP hD hS
    intro a9 hI54 ih54 ls H locs hl hP hD hS
    obtain ⟨i, cb, g2⟩ := a9
    have hI54 : i ≤ 300 ∧ cb < 2147483648 ∧ dok 268435456 g2 i ∧ (∀ q, i ≤ q → g2 q = f q) ∧ hv 268435456 (dg g2) 0 i + 268435456 ^ i * cb = hv 268435456 (dg f) 0 j * d := hI54
    obtain ⟨ji, jc, jg, jf, jv⟩ := hI54
    have hl : lv_has ls 8 [(0, .ref a), (2, .long (lN cb)), (4, .int (nI i))] := hl
    have hP : va_P D vwCl [(a, .inl (cT 0, 302, .inl g2))] _ := hP
    have hD : va_D A [(a, .inl (cT 0, 302, .inl g2))] := hD
    refine lv_lload_n hx hb dM_times_54 rfl (lv_at hl 1 rfl) ?_
    refine lv_lconst (v := 0) hx hb dM_times_55 (by decide) ?_
    refine W.lcmp hx hb dM_times_56 ?_
    refine lv_if_le (tgt := 81) hx hb dM_times_57 rfl (fun h2 => ?_) (fun h2 => ?_)
    · have gh2 : cb ≤ 0 := ((lg_cmp_le (lN cb) 0).trans (pk_lLE (a := cb) (b := 0) (by omega) (by decide))).mp h2
      have hcb : cb = 0 := by omega
      rw [hcb, Nat.mul_zero, Nat.add_zero] at jv
      refine lv_aload_n hx hb dM_times_81 rfl (lv_at hl 0 rfl) ?_
      refine lv_iload hx hb dM_times_82 (lv_at hl 2 rfl) ?_
      refine rw_v (wc := [(a, .inl (cT 0, 302, .inl g2))]) (wr := []) hP hD hS hA [0] [] rfl rfl (by decide) (by decide) (va_runS (As := [.ref a, .int (nI i)]) (rest := []) ⟨hx, hb, hml, hown, hT⟩ (m_trim l D cT a g2 i ji jg _) ⟨callB_of 2 hT (tb_gd w1420) rfl rfl rfl (hT _ w13) (hT _ w1418) hM_trim ⟨Nat.le_of_ble_eq_true rfl, Nat.le_of_ble_eq_true rfl⟩, (hT _ w1419)⟩ (RW.preS hZ hS (va_free (wc := [(a, .inl (cT 0, 302, .inl g2))]) hD hS hA [0] rfl) (hP.sub (ws' := [(a, .inl (cT 0, 302, .inl g2))]) [0] rfl) hK (hD.sub (ws' := [(a, .inl (cT 0, 302, .inl g2))]) [0] (by decide) rfl)) rfl rfl hl.1 rfl (lv_room (Nat.le_of_ble_eq_true rfl)) dM_times_84 ⟨Nat.le_of_ble_eq_true rfl, Nat.le_of_ble_eq_true rfl⟩) (fun u9 H locs hpu3 hP hD hS => ?_)
      obtain ⟨ku3, f1u3⟩ := u9
      have hpu3 : ku3 ≤ i ∧ top0 g2 ku3 ∧ vM g2 ku3 = vM g2 i ∧ f1u3 300 = nI ku3 ∧ f1u3 301 = (if ku3 = 0 then 0 else g2 301) ∧ ∀ q8, q8 < 300 → f1u3 q8 = g2 q8 := hpu3
      have hP : va_P D vwCl [(a, .inl (cT 0, 302, .inl f1u3))] _ := hP
      have hD : va_D A [(a, .inl (cT 0, 302, .inl f1u3))] := hD
      have hP9 := hP.sub (ws' := [(a, .inl (cT 0, 302, .inl f1u3))]) [0] rfl
      have hD9 := hD.sub (ws' := [(a, .inl (cT 0, 302, .inl f1u3))]) [0] (by decide) rfl
      refine W.widen (k := 0) (n := 0) (Nat.le_of_ble_eq_true rfl) (Nat.le_of_ble_eq_true rfl) ?_
      exact W.vret hx hb hr (fun t9 ht9 hW9 => ⟨⟨f1u3, rfl, (show MN f1u3 (z * d) from mn_trim ji jg hpu3 (by rw [Int.natAbs_mul, Int.natAbs_natCast, hva]; exact jv.symm) (fun _ => by rw [jf 301 (by omega), hs, sg_mul hd0])), by rw [ht9]; exact hP9, hD9⟩, hS.F ht9⟩) hS.2.2 dM_times_87
    · have gh2 : ¬ (cb ≤ 0) := fun q => h2 (((lg_cmp_le (lN cb) 0).trans (pk_lLE (a := cb) (b := 0) (by omega) (by decide))).mpr q)
      have hcb : 0 < cb := by omega
      have hi300 : i < 300 := by
        rcases Nat.lt_or_ge i 250 with q | q
        · omega
        · have h1 := Nat.pow_le_pow_right (show 0 < 268435456 by decide) q
          have h2 := Nat.mul_le_mul_left (268435456 ^ i) (show 1 ≤ cb from hcb)
          rw [Nat.mul_one] at h2
          exact absurd (Nat.lt_of_le_of_lt (Nat.le_trans h1 (Nat.le_trans h2 (by rw [← jv]; exact Nat.le_add_left _ _))) hbig) (Nat.lt_irrefl _)
      refine lv_aload_n hx hb dM_times_60 rfl (lv_at hl 0 rfl) ?_
      refine lv_iload hx hb dM_times_61 (lv_at hl 2 rfl) ?_
      refine lv_lload_n hx hb dM_times_63 rfl (lv_at hl 1 rfl) ?_
      refine lv_ldc2 (v := 268435455) hx hb hown (hT _ w1388) dM_times_64 ?_
      refine lv_land hx hb dM_times_67 ?_
      obtain ⟨v2, hv2⟩ : ∃ q9 : Nat, q9 = cb % 268435456 := ⟨_, rfl⟩
      have hv2b : v2 < 268435456 := by omega
      refine lv_topl (fun y9 e9 => ?_)
      cases (show y9 = lN v2 from e9.trans (by rw [hv2]; exact msk (by omega)))
      refine lv_l2i hx hb dM_times_68 rfl ?_
      refine lv_topi (fun y9 e9 => ?_)
      cases (show y9 = nI v2 from e9.trans (lN_i v2))
      refine lq_iast (j := i) hx hb hK hP hD hS 0 0 rfl rfl rfl (by omega) (by omega) dM_times_69 (fun H locs hP hD hS => ?_)
      have hP : va_P D vwCl [(a, .inl (cT 0, 302, .inl (upd g2 i (nI v2))))] _ := hP
      have hD : va_D A [(a, .inl (cT 0, 302, .inl (upd g2 i (nI v2))))] := hD
      refine lv_lload_n hx hb dM_times_70 rfl (lv_at hl 1 rfl) ?_
      refine lv_bipush (v := 28) hx hb dM_times_71 (by decide) ?_
      refine lv_lshr hx hb dM_times_73 rfl ?_
      obtain ⟨c2, hc2⟩ : ∃ q9 : Nat, q9 = cb / 268435456 := ⟨_, rfl⟩
      refine lv_topl (fun y9 e9 => ?_)
      cases (show y9 = lN c2 from e9.trans (by rw [hc2]; exact msh (by omega)))
      refine lv_lstore_n hx hb dM_times_74 rfl hl (by decide) rfl (fun ls hl => ?_)
      have hl : lv_has ls 8 [(2, .long (lN c2)), (0, .ref a), (4, .int (nI i))] := hl
      refine lv_iinc (k := 2) (v := nI (i + 1)) hx hb dM_times_75 hl rfl (nI_1 i) (by decide) rfl (fun ls hl => ?_)
      have hl : lv_has ls 8 [(4, .int (nI (i + 1))), (2, .long (lN c2)), (0, .ref a)] := hl
      refine lv_goto (tgt := 54) hx hb dM_times_78 rfl ?_
      exact ih54 (i + 1, c2, upd g2 i (nI v2)) (show (i + 1) ≤ 300 ∧ c2 < 2147483648 ∧ dok 268435456 (upd g2 i (nI v2)) (i + 1) ∧ (∀ q, (i + 1) ≤ q → (upd g2 i (nI v2)) q = f q) ∧ hv 268435456 (dg (upd g2 i (nI v2))) 0 (i + 1) + 268435456 ^ (i + 1) * c2 = hv 268435456 (dg f) 0 j * d from ⟨by omega, by omega, dok_s jg hv2b (by decide), fun q h => (pk_un (by omega)).trans (jf q (by omega)), by rw [hv_us (v := v2) (by omega), Nat.pow_succ, hv2, hc2, car_s]; exact jv⟩) (show c2 < cb from (by omega)) ls H locs (lv_sub hl [2, 1, 0] rfl) hP hD hS
  · have gh1 : j < K := Nat.not_le.mp (fun q => h1 ((nI_leI (a := K) (b := j) (by omega) (by omega)).mpr q))
    have hw := hd j (by omega)
    obtain ⟨wd, hwd⟩ : ∃ q9 : Nat, q9 = dg f j := ⟨_, rfl⟩
    have hwdb : wd < 268435456 := by rw [hwd]; exact hw.2
    rw [← hwd] at hw
    have hwm : wd * d ≤ (268435456 - 1) * (2147483648 - 1) := Nat.mul_le_mul (by omega) (by omega)
    refine lv_aload_n hx hb dM_times_19 rfl (lv_at hl 0 rfl) ?_
    refine lv_iload hx hb dM_times_20 (lv_at hl 4 rfl) ?_
    refine lq_iald (j := j) hx hb hK hP 0 0 rfl rfl rfl (by omega) (by omega) dM_times_22 ?_
    refine lv_topi (fun y9 e9 => ?_)
    cases (show y9 = nI wd from e9.trans ((if0 j (Nat.le_refl _)).trans hw.1))
    refine lv_i2l hx hb dM_times_23 rfl ?_
    refine lv_topl (fun y9 e9 => ?_)
    cases (show y9 = lN wd from e9.trans (nI_l (n := wd) (by omega)))
    refine lv_iload_n hx hb dM_times_24 rfl (lv_at hl 1 rfl) ?_
    refine lv_i2l hx hb dM_times_25 rfl ?_
    refine lv_topl (fun y9 e9 => ?_)
    cases (show y9 = lN d from e9.trans (nI_l (n := d) (by omega)))
    refine lv_lmul hx hb dM_times_26 ?_
    refine lv_topl (fun y9 e9 => ?_)
    cases (show y9 = lN (wd * d) from e9.trans (lN_mul wd d))
    refine lv_lload_n hx hb dM_times_27 rfl (lv_at hl 2 rfl) ?_
    refine lv_ladd hx hb dM_times_28 ?_
    refine lv_topl (fun y9 e9 => ?_)
    cases (show y9 = lN ((wd * d) + ca) from e9.trans (lN_add (wd * d) ca))
    obtain ⟨sm, hsm⟩ : ∃ q9 : Nat, q9 = (wd * d) + ca := ⟨_, rfl⟩
    refine lv_topl (fun y9 e9 => ?_)
    cases (show y9 = lN sm from e9.trans (congrArg lN hsm.symm))
    have hsb : sm < 2 ^ 62 := by omega
    refine lv_lstore hx hb dM_times_29 hl (by decide) rfl (fun ls hl => ?_)
    have hl : lv_has ls 8 [(6, .long (lN sm)), (0, .ref a), (1, .int (nI d)), (2, .long (lN ca)), (4, .int (nI K)), (5, .int (nI j))] := hl
    refine lv_aload_n hx hb dM_times_31 rfl (lv_at hl 1 rfl) ?_
    refine lv_iload hx hb dM_times_32 (lv_at hl 5 rfl) ?_
    refine lv_lload hx hb dM_times_34 (lv_at hl 0 rfl) ?_
    refine lv_ldc2 (v := 268435455) hx hb hown (hT _ w1388) dM_times_36 ?_
    refine lv_land hx hb dM_times_39 ?_
    obtain ⟨v1, hv1⟩ : ∃ q9 : Nat, q9 = sm % 268435456 := ⟨_, rfl⟩
    have hv1b : v1 < 268435456 := by omega
    refine lv_topl (fun y9 e9 => ?_)
    cases (show y9 = lN v1 from e9.trans (by rw [hv1]; exact msk (by omega)))
    refine lv_l2i hx hb dM_times_40 rfl ?_
    refine lv_topi (fun y9 e9 => ?_)
    cases (show y9 = nI v1 from e9.trans (lN_i v1))
    refine lq_iast (j := j) hx hb hK hP hD hS 0 0 rfl rfl rfl (by omega) (by omega) dM_times_41 (fun H locs hP hD hS => ?_)
    have hP : va_P D vwCl [(a, .inl (cT 0, 302, .inl (upd g j (nI v1))))] _ := hP
    have hD : va_D A [(a, .inl (cT 0, 302, .inl (upd g j (nI v1))))] := hD
    refine lv_lload hx hb dM_times_42 (lv_at hl 0 rfl) ?_
    refine lv_bipush (v := 28) hx hb dM_times_44 (by decide) ?_
    refine lv_lshr hx hb dM_times_46 rfl ?_
    obtain ⟨c1, hc1⟩ : ∃ q9 : Nat, q9 = sm / 268435456 := ⟨_, rfl⟩
    refine lv_topl (fun y9 e9 => ?_)
    cases (show y9 = lN c1 from e9.trans (by rw [hc1]; exact msh (by omega)))
    refine lv_lstore_n hx hb dM_times_47 rfl hl (by decide) rfl (fun ls hl => ?_)
    have hl : lv_has ls 8 [(2, .long (lN c1)), (6, .long (lN sm)), (0, .ref a), (1, .int (nI d)), (4, .int (nI K)), (5, .int (nI j))] := hl
    refine lv_iinc (k := 5) (v := nI (j + 1)) hx hb dM_times_48 hl rfl (nI_1 j) (by decide) rfl (fun ls hl => ?_)
    have hl : lv_has ls 8 [(5, .int (nI (j + 1))), (2, .long (lN c1)), (6, .long (lN sm)), (0, .ref a), (1, .int (nI d)), (4, .int (nI K))] := hl
    refine lv_goto (tgt := 12) hx hb dM_times_51 rfl ?_
    exact ih12 (j + 1, c1, upd g j (nI v1)) (show (j + 1) ≤ K ∧ c1 < 2147483648 ∧ dok 268435456 (upd g j (nI v1)) (j + 1) ∧ (∀ q, (j + 1) ≤ q → (upd g j (nI v1)) q = f q) ∧ hv 268435456 (dg (upd g j (nI v1))) 0 (j + 1) + 268435456 ^ (j + 1) * c1 = hv 268435456 (dg f) 0 (j + 1) * d from ⟨by omega, by omega, dok_s ig hv1b (by decide), fun q h => (pk_un (by omega)).trans (if0 q (by omega)), by rw [hv_us (v := v1) (by omega), hv_snoc, Nat.zero_add, Nat.pow_succ, hv1, hc1, ← hwd]; exact mul_s iv hsm⟩) (show K - (j + 1) < K - j from (by omega)) ls H locs (lv_sub hl [3, 4, 1, 5, 0] rfl) hP hD hS
