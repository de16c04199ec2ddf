set_option maxHeartbeats 4000000 in
set_option maxRecDepth 100000 in
theorem k_sortInto (l : Launch) (D : va_G) (cT : Nat → ClassId) (h : Nat) (cv : Nat) (ce : Nat) (ec : Int32) (ok : Int32) (fv : Nat → Int32) (sd : Nat) (sa : Nat → Int32) (vv : Nat → Int32) (c0 : Nat) (n : Nat) (hn48 : n ≤ 48) (hcv : ∀ r, r < n → fv r = vv (6 * r + c0)) (sz : Nat) : Met l yC_sortInto WC_sortInto ({ frames := 0, cells := 0, slots := 0, locals := 0 } : Room) (RW D vwCl [.ref h, .ref sd, .int (nI n)] [(h, .inr (1, [.ref cv, .ref ce, .int ec, .int ok])), (cv, .inl (cT 0, 49, .inl fv)), (sd, .inl (cT 0, 48, .inl sa))] (TY cT) sz) (va_Qi (fun (r9 : Int32) (u9 : (Nat → Int32) × Nat) => r9 = nI u9.2 ∧ SIV vv c0 n u9.1 u9.2) (BW D vwCl (va_A [(h, .inr (1, [.ref cv, .ref ce, .int ec, .int ok])), (cv, .inl (cT 0, 49, .inl fv)), (sd, .inl (cT 0, 48, .inl sa))] sz) (fun u9 : (Nat → Int32) × Nat => [(h, .inr (1, [.ref cv, .ref ce, .int ec, .int ok])), (cv, .inl (cT 0, 49, .inl fv)), (sd, .inl (cT 0, 48, .inl u9.1))])) (va_A [(h, .inr (1, [.ref cv, .ref ce, .int ec, .int ok])), (cv, .inl (cT 0, 49, .inl fv)), (sd, .inl (cT 0, 48, .inl sa))] sz)) 0 0 (va_A [(h, .inr (1, [.ref cv, .ref ce, .int ec, .int ok])), (cv, .inl (cT 0, 49, .inl fv)), (sd, .inl (cT 0, 48, .inl sa))] sz) := by
  refine Met.ofW (cc := cC_sortInto) (maxL := 6) (ret := (some .int)) (by decide) rfl ?_
  intro p e s m args below meth c s₁ B hml hv
  obtain ⟨rfl, hsz, hZ, hP, hK, hD0⟩ := hv
  have hx := B.exec
  have hb := B.bytes
  have hr := B.returns
  have hts := atoms_spec (ws := WC_sortInto) B.pre
  have hT : ∀ w ∈ TB, w.before _ s = true := fun w h => hts w (List.mem_cons_of_mem _ h)
  have hown : s.vm.findClass R_C = some m.cls := findClass_of_methodNamed B.named
  have hlocks := B.notSynchronized
  subst hsz
  have hD := hD0.self (sz := s.heap.size)
  generalize hAe : va_A [(h, .inr (1, [.ref cv, .ref ce, .int ec, .int ok])), (cv, .inl (cT 0, 49, .inl fv)), (sd, .inl (cT 0, 48, .inl sa))] s.heap.size = A at hD hZ ⊢
  have hA : ∀ q : Nat, s.heap.size ≤ q → A q := fun q h => by rw [← hAe]; exact Or.inr h
  have hS : va_S A s.heap s.heap [] := va_S.rf
  have hl := lv_entry ([.ref h, .ref sd, .int (nI n)]) (n := 6) (Nat.le_of_ble_eq_true rfl)
  rw [lg_entry_eq]
  generalize (lg_sl ([.ref h, .ref sd, .int (nI n)]) ++ List.replicate (6 - (lg_sl ([.ref h, .ref sd, .int (nI n)])).length) Slot.unset).toArray = ls at hl ⊢
  have hl : lv_has ls 6 [(0, .ref h), (1, .ref sd), (2, .int (nI n))] := hl
  refine lv_iconst (v := 0) hx hb dC_sortInto_0 (by decide) ?_
  refine lv_istore_n hx hb dC_sortInto_1 rfl hl (by decide) rfl (fun ls hl => ?_)
  have hl : lv_has ls 6 [(3, .int 0), (0, .ref h), (1, .ref sd), (2, .int (nI n))] := hl
  refine lv_iconst (v := 0) hx hb dC_sortInto_2 (by decide) ?_
  refine lv_istore hx hb dC_sortInto_3 hl (by decide) rfl (fun ls hl => ?_)
  have hl : lv_has ls 6 [(4, .int 0), (3, .int 0), (0, .ref h), (1, .ref sd), (2, .int (nI n))] := hl
  have hl : lv_has ls 6 [(4, .int 0), (3, .int (nI 0)), (0, .ref h), (1, .ref sd), (2, .int (nI n))] := by
    rw [(show nI 0 = 0 from rfl)]; exact hl
  have hl : lv_has ls 6 [(4, .int (nI 0)), (3, .int (nI 0)), (0, .ref h), (1, .ref sd), (2, .int (nI n))] := by
    rw [(show nI 0 = 0 from rfl)]; exact hl
  refine lp_w (α := Nat × Nat × (Nat → Int32)) (fun a9 => a9.1 ≤ n ∧ a9.2.1 ≤ a9.1 ∧ SIV vv c0 a9.1 a9.2.2 a9.2.1) (fun a9 => n - a9.1) (fun a9 => [(0, .ref h), (1, .ref sd), (2, .int (nI n)), (3, .int (nI a9.2.1)), (4, .int (nI a9.1))]) (fun a9 => [(h, .inr (1, [.ref cv, .ref ce, .int ec, .int ok])), (cv, .inl (cT 0, 49, .inl fv)), (sd, .inl (cT 0, 48, .inl a9.2.2))]) 5 ?_ (0, 0, sa) (show 0 ≤ n ∧ 0 ≤ 0 ∧ SIV vv c0 0 sa 0 from ⟨by omega, by omega, siv_0⟩) (lv_sub hl [2, 3, 4, 1, 0] rfl) hP hD hS
  intro a9 hI5 ih5 ls H locs hl hP hD hS
  obtain ⟨r, mk, a⟩ := a9
  have hI5 : r ≤ n ∧ mk ≤ r ∧ SIV vv c0 r a mk := hI5
  obtain ⟨ir, im, iv⟩ := hI5
  have hl : lv_has ls 6 [(0, .ref h), (1, .ref sd), (2, .int (nI n)), (3, .int (nI mk)), (4, .int (nI r))] := hl
  have hP : va_P D vwCl [(h, .inr (1, [.ref cv, .ref ce, .int ec, .int ok])), (cv, .inl (cT 0, 49, .inl fv)), (sd, .inl (cT 0, 48, .inl a))] _ := hP
  have hD : va_D A [(h, .inr (1, [.ref cv, .ref ce, .int ec, .int ok])), (cv, .inl (cT 0, 49, .inl fv)), (sd, .inl (cT 0, 48, .inl a))] := hD
  refine lv_iload hx hb dC_sortInto_5 (lv_at hl 4 rfl) ?_
  refine lv_iload_n hx hb dC_sortInto_7 rfl (lv_at hl 2 rfl) ?_
  refine lv_icmp_ge (tgt := 83) hx hb dC_sortInto_8 rfl (fun h1 => ?_) (fun h1 => ?_)
  · have gh1 : n ≤ r := (nI_leI (a := n) (b := r) (by omega) (by omega)).mp h1
    refine lv_iload_n hx hb dC_sortInto_83 rfl (lv_at hl 3 rfl) ?_
    have hP9 := hP.sub (ws' := [(h, .inr (1, [.ref cv, .ref ce, .int ec, .int ok])), (cv, .inl (cT 0, 49, .inl fv)), (sd, .inl (cT 0, 48, .inl a))]) [0, 1, 2] rfl
    have hD9 := hD.sub (ws' := [(h, .inr (1, [.ref cv, .ref ce, .int ec, .int ok])), (cv, .inl (cT 0, 49, .inl fv)), (sd, .inl (cT 0, 48, .inl a))]) [0, 1, 2] (by decide) rfl
    refine W.widen (k := 0) (n := 0) (Nat.le_of_ble_eq_true rfl) (Nat.le_of_ble_eq_true rfl) ?_
    exact W.iret (v := nI mk) hx hb hr (fun t9 ht9 hW9 => ⟨⟨nI mk, (a, mk), rfl, (show (nI mk) = nI mk ∧ SIV vv c0 n a mk from (by obtain rfl : r = n := (by omega); exact ⟨rfl, iv⟩)), by rw [ht9]; exact hP9, hD9⟩, hS.F ht9⟩) hS.2.2 dC_sortInto_84
  · have gh1 : r < n := Nat.not_le.mp (fun q => h1 ((nI_leI (a := n) (b := r) (by omega) (by omega)).mpr q))
    have hrn : r < n := by omega
    refine lv_aload_n hx hb dC_sortInto_11 rfl (lv_at hl 0 rfl) ?_
    refine va_get (D := D) (ci := 1) (v := .ref cv) (C := R_C) (T := T_C) (N := 4) hx hb hT in_C hown hK hP 0 rfl rfl 0 (by decide) (hT _ w50) (fun _ h9 => h9) rfl dC_sortInto_12 ?_
    refine lv_iload hx hb dC_sortInto_15 (lv_at hl 4 rfl) ?_
    refine lq_iald (j := r) hx hb hK hP 1 0 rfl rfl rfl (by omega) (by omega) dC_sortInto_17 ?_
    refine lv_topi (fun y9 e9 => ?_)
    cases (show y9 = vv (6 * r + c0) from e9.trans (hcv r hrn))
    refine lv_ldc (v := (-2147483648)) hx hb hown (hT _ w626) dC_sortInto_18 ?_
    refine lv_icmp_eq (tgt := 77) hx hb dC_sortInto_20 rfl (fun h2 => ?_) (fun h2 => ?_)
    · have hmi : vv (6 * r + c0) = (-2147483648) := h2
      refine lv_iinc (k := 4) (v := nI (r + 1)) hx hb dC_sortInto_77 hl rfl (nI_1 r) (by decide) rfl (fun ls hl => ?_)
      have hl : lv_has ls 6 [(4, .int (nI (r + 1))), (0, .ref h), (1, .ref sd), (2, .int (nI n)), (3, .int (nI mk))] := hl
      refine lv_goto (tgt := 5) hx hb dC_sortInto_80 rfl ?_
      exact ih5 (r + 1, mk, a) (show (r + 1) ≤ n ∧ mk ≤ (r + 1) ∧ SIV vv c0 (r + 1) a mk from ⟨by omega, by omega, siv_m iv hmi⟩) (show n - (r + 1) < n - r from (by omega)) ls H locs (lv_sub hl [1, 2, 3, 4, 0] rfl) hP hD hS
    · have hmi : ¬ vv (6 * r + c0) = (-2147483648) := h2
      refine lv_iload_n hx hb dC_sortInto_23 rfl (lv_at hl 3 rfl) ?_
      refine lv_iinc (k := 3) (v := nI (mk + 1)) hx hb dC_sortInto_24 hl rfl (nI_1 mk) (by decide) rfl (fun ls hl => ?_)
      have hl : lv_has ls 6 [(3, .int (nI (mk + 1))), (0, .ref h), (1, .ref sd), (2, .int (nI n)), (4, .int (nI r))] := hl
      refine lv_istore hx hb dC_sortInto_27 hl (by decide) rfl (fun ls hl => ?_)
      have hl : lv_has ls 6 [(5, .int (nI mk)), (3, .int (nI (mk + 1))), (0, .ref h), (1, .ref sd), (2, .int (nI n)), (4, .int (nI r))] := hl
      refine lp_w (α := Nat × (Nat → Int32)) (fun a9 => a9.1 ≤ mk ∧ (∀ i, i < a9.1 → a9.2 i = a i) ∧ (∀ i, a9.1 ≤ i → i < mk → a9.2 (i + 1) = a i ∧ vv (6 * r + c0) < a i)) (fun a9 => a9.1) (fun a9 => [(0, .ref h), (1, .ref sd), (2, .int (nI n)), (3, .int (nI (mk + 1))), (4, .int (nI r)), (5, .int (nI a9.1))]) (fun a9 => [(h, .inr (1, [.ref cv, .ref ce, .int ec, .int ok])), (cv, .inl (cT 0, 49, .inl fv)), (sd, .inl (cT 0, 48, .inl a9.2))]) 29 ?_ (mk, a) (show mk ≤ mk ∧ (∀ i, i < mk → a i = a i) ∧ (∀ i, mk ≤ i → i < mk → a (i + 1) = a i ∧ vv (6 * r + c0) < a i) from ⟨Nat.le_refl _, fun _ _ => rfl, fun i h1 h2 => absurd h1 (by omega)⟩) (lv_sub hl [2, 3, 4, 1, 5, 0] rfl) hP hD hS
      intro a9 hI29 ih29 ls H locs hl hP hD hS
      obtain ⟨qp, b⟩ := a9
      have hI29 : qp ≤ mk ∧ (∀ i, i < qp → b i = a i) ∧ (∀ i, qp ≤ i → i < mk → b (i + 1) = a i ∧ vv (6 * r + c0) < a i) := hI29
      obtain ⟨jq, jl, jg⟩ := hI29
      have hl : lv_has ls 6 [(0, .ref h), (1, .ref sd), (2, .int (nI n)), (3, .int (nI (mk + 1))), (4, .int (nI r)), (5, .int (nI qp))] := hl
      have hP : va_P D vwCl [(h, .inr (1, [.ref cv, .ref ce, .int ec, .int ok])), (cv, .inl (cT 0, 49, .inl fv)), (sd, .inl (cT 0, 48, .inl b))] _ := hP
      have hD : va_D A [(h, .inr (1, [.ref cv, .ref ce, .int ec, .int ok])), (cv, .inl (cT 0, 49, .inl fv)), (sd, .inl (cT 0, 48, .inl b))] := hD
      refine lv_iload hx hb dC_sortInto_29 (lv_at hl 5 rfl) ?_
      refine lv_if_le (tgt := 66) hx hb dC_sortInto_31 rfl (fun h3 => ?_) (fun h3 => ?_)
      · have gh3 : qp ≤ 0 := (nI_leI (a := qp) (b := 0) (by omega) (by omega)).mp h3
        refine lv_aload_n hx hb dC_sortInto_66 rfl (lv_at hl 1 rfl) ?_
        refine lv_iload hx hb dC_sortInto_67 (lv_at hl 5 rfl) ?_
        refine lv_aload_n hx hb dC_sortInto_69 rfl (lv_at hl 0 rfl) ?_
        refine va_get (D := D) (ci := 1) (v := .ref cv) (C := R_C) (T := T_C) (N := 4) hx hb hT in_C hown hK hP 0 rfl rfl 0 (by decide) (hT _ w50) (fun _ h9 => h9) rfl dC_sortInto_70 ?_
        refine lv_iload hx hb dC_sortInto_73 (lv_at hl 4 rfl) ?_
        refine lq_iald (j := r) hx hb hK hP 1 0 rfl rfl rfl (by omega) (by omega) dC_sortInto_75 ?_
        refine lv_topi (fun y9 e9 => ?_)
        cases (show y9 = vv (6 * r + c0) from e9.trans (hcv r hrn))
        refine lq_iast (j := qp) hx hb hK hP hD hS 2 0 rfl rfl rfl (by omega) (by omega) dC_sortInto_76 (fun H locs hP hD hS => ?_)
        have hP : va_P D vwCl [(h, .inr (1, [.ref cv, .ref ce, .int ec, .int ok])), (cv, .inl (cT 0, 49, .inl fv)), (sd, .inl (cT 0, 48, .inl (upd b qp (vv (6 * r + c0)))))] _ := hP
        have hD : va_D A [(h, .inr (1, [.ref cv, .ref ce, .int ec, .int ok])), (cv, .inl (cT 0, 49, .inl fv)), (sd, .inl (cT 0, 48, .inl (upd b qp (vv (6 * r + c0)))))] := hD
        refine lv_iinc (k := 4) (v := nI (r + 1)) hx hb dC_sortInto_77 hl rfl (nI_1 r) (by decide) rfl (fun ls hl => ?_)
        have hl : lv_has ls 6 [(4, .int (nI (r + 1))), (0, .ref h), (1, .ref sd), (2, .int (nI n)), (3, .int (nI (mk + 1))), (5, .int (nI qp))] := hl
        refine lv_goto (tgt := 5) hx hb dC_sortInto_80 rfl ?_
        exact ih5 (r + 1, mk + 1, upd b qp (vv (6 * r + c0))) (show (r + 1) ≤ n ∧ (mk + 1) ≤ (r + 1) ∧ SIV vv c0 (r + 1) (upd b qp (vv (6 * r + c0))) (mk + 1) from ⟨by omega, by omega, siv_s iv hmi ⟨fun i hi => (pk_un (by omega)).trans (jl i hi), pk_us, fun i h1 h2 => (pk_un (by omega)).trans (jg i h1 h2).1⟩ jq (Or.inl (by omega)) (fun i h1 h2 => (jg i h1 h2).2)⟩) (show n - (r + 1) < n - r from (by omega)) ls H locs (lv_sub hl [1, 2, 3, 4, 0] rfl) hP hD hS
      · have gh3 : 0 < qp := Nat.not_le.mp (fun q => h3 ((nI_leI (a := qp) (b := 0) (by omega) (by omega)).mpr q))
        have hq0 : 0 < qp := by omega
        refine lv_aload_n hx hb dC_sortInto_34 rfl (lv_at hl 1 rfl) ?_
        refine lv_iload hx hb dC_sortInto_35 (lv_at hl 5 rfl) ?_
        refine lv_iconst (v := 1) hx hb dC_sortInto_37 (by decide) ?_
        refine lv_isub hx hb dC_sortInto_38 ?_
        refine lv_topi (fun y9 e9 => ?_)
        cases (show y9 = nI (qp - 1) from e9.trans (pk_sub (a := qp) (b := 1) (by omega)))
        refine lq_iald (j := qp - 1) hx hb hK hP 2 0 rfl rfl rfl (by omega) (by omega) dC_sortInto_39 ?_
        refine lv_aload_n hx hb dC_sortInto_40 rfl (lv_at hl 0 rfl) ?_
        refine va_get (D := D) (ci := 1) (v := .ref cv) (C := R_C) (T := T_C) (N := 4) hx hb hT in_C hown hK hP 0 rfl rfl 0 (by decide) (hT _ w50) (fun _ h9 => h9) rfl dC_sortInto_41 ?_
        refine lv_iload hx hb dC_sortInto_44 (lv_at hl 4 rfl) ?_
        refine lq_iald (j := r) hx hb hK hP 1 0 rfl rfl rfl (by omega) (by omega) dC_sortInto_46 ?_
        refine lv_topi (fun y9 e9 => ?_)
        cases (show y9 = vv (6 * r + c0) from e9.trans (hcv r hrn))
        refine lv_icmp_le (tgt := 66) hx hb dC_sortInto_47 rfl (fun h4 => ?_) (fun h4 => ?_)
        · have hle : a (qp - 1) ≤ vv (6 * r + c0) := by rw [← jl (qp - 1) (by omega)]; exact h4
          refine lv_aload_n hx hb dC_sortInto_66 rfl (lv_at hl 1 rfl) ?_
          refine lv_iload hx hb dC_sortInto_67 (lv_at hl 5 rfl) ?_
          refine lv_aload_n hx hb dC_sortInto_69 rfl (lv_at hl 0 rfl) ?_
          refine va_get (D := D) (ci := 1) (v := .ref cv) (C := R_C) (T := T_C) (N := 4) hx hb hT in_C hown hK hP 0 rfl rfl 0 (by decide) (hT _ w50) (fun _ h9 => h9) rfl dC_sortInto_70 ?_
          refine lv_iload hx hb dC_sortInto_73 (lv_at hl 4 rfl) ?_
          refine lq_iald (j := r) hx hb hK hP 1 0 rfl rfl rfl (by omega) (by omega) dC_sortInto_75 ?_
          refine lv_topi (fun y9 e9 => ?_)
          cases (show y9 = vv (6 * r + c0) from e9.trans (hcv r hrn))
          refine lq_iast (j := qp) hx hb hK hP hD hS 2 0 rfl rfl rfl (by omega) (by omega) dC_sortInto_76 (fun H locs hP hD hS => ?_)
          have hP : va_P D vwCl [(h, .inr (1, [.ref cv, .ref ce, .int ec, .int ok])), (cv, .inl (cT 0, 49, .inl fv)), (sd, .inl (cT 0, 48, .inl (upd b qp (vv (6 * r + c0)))))] _ := hP
          have hD : va_D A [(h, .inr (1, [.ref cv, .ref ce, .int ec, .int ok])), (cv, .inl (cT 0, 49, .inl fv)), (sd, .inl (cT 0, 48, .inl (upd b qp (vv (6 * r + c0)))))] := hD
          refine lv_iinc (k := 4) (v := nI (r + 1)) hx hb dC_sortInto_77 hl rfl (nI_1 r) (by decide) rfl (fun ls hl => ?_)
          have hl : lv_has ls 6 [(4, .int (nI (r + 1))), (0, .ref h), (1, .ref sd), (2, .int (nI n)), (3, .int (nI (mk + 1))), (5, .int (nI qp))] := hl
          refine lv_goto (tgt := 5) hx hb dC_sortInto_80 rfl ?_
          exact ih5 (r + 1, mk + 1, upd b qp (vv (6 * r + c0))) (show (r + 1) ≤ n ∧ (mk + 1) ≤ (r + 1) ∧ SIV vv c0 (r + 1) (upd b qp (vv (6 * r + c0))) (mk + 1) from ⟨by omega, by omega, siv_s iv hmi ⟨fun i hi => (pk_un (by omega)).trans (jl i hi), pk_us, fun i h1 h2 => (pk_un (by omega)).trans (jg i h1 h2).1⟩ jq (Or.inr hle) (fun i h1 h2 => (jg i h1 h2).2)⟩) (show n - (r + 1) < n - r from (by omega)) ls H locs (lv_sub hl [1, 2, 3, 4, 0] rfl) hP hD hS
        · have hgt : vv (6 * r + c0) < a (qp - 1) := by rw [← jl (qp - 1) (by omega)]; exact Int32.not_le.mp h4
          refine lv_aload_n hx hb dC_sortInto_50 rfl (lv_at hl 1 rfl) ?_
          refine lv_iload hx hb dC_sortInto_51 (lv_at hl 5 rfl) ?_
          refine lv_aload_n hx hb dC_sortInto_53 rfl (lv_at hl 1 rfl) ?_
          refine lv_iload hx hb dC_sortInto_54 (lv_at hl 5 rfl) ?_
          refine lv_iconst (v := 1) hx hb dC_sortInto_56 (by decide) ?_
          refine lv_isub hx hb dC_sortInto_57 ?_
          refine lv_topi (fun y9 e9 => ?_)
          cases (show y9 = nI (qp - 1) from e9.trans (pk_sub (a := qp) (b := 1) (by omega)))
          refine lq_iald (j := qp - 1) hx hb hK hP 2 0 rfl rfl rfl (by omega) (by omega) dC_sortInto_58 ?_
          refine lq_iast (j := qp) hx hb hK hP hD hS 2 0 rfl rfl rfl (by omega) (by omega) dC_sortInto_59 (fun H locs hP hD hS => ?_)
          have hP : va_P D vwCl [(h, .inr (1, [.ref cv, .ref ce, .int ec, .int ok])), (cv, .inl (cT 0, 49, .inl fv)), (sd, .inl (cT 0, 48, .inl (upd b qp (b (qp - 1)))))] _ := hP
          have hD : va_D A [(h, .inr (1, [.ref cv, .ref ce, .int ec, .int ok])), (cv, .inl (cT 0, 49, .inl fv)), (sd, .inl (cT 0, 48, .inl (upd b qp (b (qp - 1)))))] := hD
          refine lv_iinc (k := 5) (v := nI (qp - 1)) hx hb dC_sortInto_60 hl rfl (dn_1 (by omega)) (by decide) rfl (fun ls hl => ?_)
          have hl : lv_has ls 6 [(5, .int (nI (qp - 1))), (0, .ref h), (1, .ref sd), (2, .int (nI n)), (3, .int (nI (mk + 1))), (4, .int (nI r))] := hl
          refine lv_goto (tgt := 29) hx hb dC_sortInto_63 rfl ?_
          exact ih29 (qp - 1, upd b qp (b (qp - 1))) (show (qp - 1) ≤ mk ∧ (∀ i, i < (qp - 1) → (upd b qp (b (qp - 1))) i = a i) ∧ (∀ i, (qp - 1) ≤ i → i < mk → (upd b qp (b (qp - 1))) (i + 1) = a i ∧ vv (6 * r + c0) < a i) from ⟨by omega, fun i hi => (pk_un (by omega)).trans (jl i (by omega)), fun i h1 h2 => (by by_cases q9 : i = qp - 1; (rw [q9, show qp - 1 + 1 = qp by omega, pk_us, jl (qp - 1) (by omega)]; exact ⟨rfl, hgt⟩); (rw [pk_un (by omega)]; exact jg i (by omega) h2))⟩) (show (qp - 1) < qp from (by omega)) ls H locs (lv_sub hl [1, 2, 3, 4, 5, 0] rfl) hP hD hS
