set_option maxHeartbeats 4000000 in
set_option maxRecDepth 100000 in
theorem k_takes (l : Launch) (D : va_G) (cT : Nat → ClassId) (h : Nat) (cv : Nat) (ce : Nat) (ec : Int32) (ok : Int32) (v : Int32) : Met l yC_takes WC_takes ({ frames := 2, cells := 0, slots := 0, locals := 42 } : Room) (RO D vwCl [.ref h, .int v] [(h, .inr (1, [.ref cv, .ref ce, .int ec, .int ok]))] (TY cT)) (QcRead (bn (takB ok v))) 0 0 (fun _ => False) := by
  refine Met.ofW (cc := cC_takes) (maxL := 2) (ret := (some .boolean)) (by decide) rfl ?_
  intro p e s m args below meth c s₁ B hml hv
  obtain ⟨rfl, hZ, hP, hK⟩ := hv
  have hx := B.exec
  have hb := B.bytes
  have hr := B.returns
  have hts := atoms_spec (ws := WC_takes) B.pre
  have hT : ∀ w ∈ TB, w.before _ s = true := fun w h => hts w (List.mem_cons_of_mem _ h)
  have hown : s.vm.findClass R_C = some m.cls := findClass_of_methodNamed B.named
  have hlocks := B.notSynchronized
  have hS : va_S (fun _ => False) s.heap s.heap [] := va_S.rf
  have hl := lv_entry ([.ref h, .int v]) (n := 2) (Nat.le_of_ble_eq_true rfl)
  rw [lg_entry_eq]
  generalize (lg_sl ([.ref h, .int v]) ++ List.replicate (2 - (lg_sl ([.ref h, .int v])).length) Slot.unset).toArray = ls at hl ⊢
  have hl : lv_has ls 2 [(0, .ref h), (1, .int v)] := hl
  refine lv_iload_n hx hb dC_takes_0 rfl (lv_at hl 1 rfl) ?_
  refine lv_ldc (v := (-2147483648)) hx hb hown (hT _ w626) dC_takes_1 ?_
  refine lv_icmp_eq (tgt := 30) hx hb dC_takes_3 rfl (fun h1 => ?_) (fun h1 => ?_)
  · refine lv_iconst (v := 1) hx hb dC_takes_30 (by decide) ?_
    refine lv_goto (tgt := 35) hx hb dC_takes_31 rfl ?_
    exact W.zret (v := 1) hx hb hr rfl (fun t9 ht9 hW9 => ⟨by rw [← tak_m h1], ht9⟩) (fun q h => nomatch h) dC_takes_35
  · refine lv_aload_n hx hb dC_takes_6 rfl (lv_at hl 0 rfl) ?_
    refine va_get (D := D) (ci := 1) (v := .int ok) (C := R_C) (T := T_C) (N := 4) hx hb hT in_C hown hK hP 0 rfl rfl 3 (by decide) (hT _ w60) (fun _ h9 => h9) rfl dC_takes_7 ?_
    refine lv_if_eq (tgt := 23) hx hb dC_takes_10 rfl (fun h2 => ?_) (fun h2 => ?_)
    · refine lv_iload_n hx hb dC_takes_23 rfl (lv_at hl 1 rfl) ?_
      refine ro_i (va_Run.run (va_runSN (As := [.int v]) (rest := []) ⟨hx, hb, hml, hown, hT⟩ (k_isNumber l D cT v) ⟨va_cnB 1 hT (tb_gd w630) rfl rfl rfl (hZ.1.2.1 ("ResidualTrees$Column", 27, ⟨"ResidualTrees", "isNumber", "(I)Z"⟩, "ResidualTrees") (List.mem_of_getElem? (i := 9) rfl)) (hT _ w1) hR_isNumber ⟨Nat.le_of_ble_eq_true rfl, Nat.le_of_ble_eq_true rfl⟩, (hT _ w629), trivial⟩ (RO.preS hZ hS ((show va_P D vwCl [] _ from fun _ _ h => nomatch h)) hK) rfl rfl hl.1 rfl (lv_room (Nat.le_of_ble_eq_true rfl)) dC_takes_24 ⟨Nat.le_of_ble_eq_true rfl, Nat.le_of_ble_eq_true rfl⟩)) ?_
      refine lv_if_eq (tgt := 34) hx hb dC_takes_27 rfl (fun h3 => ?_) (fun h3 => ?_)
      · refine lv_iconst (v := 0) hx hb dC_takes_34 (by decide) ?_
        exact W.zret (v := 0) hx hb hr rfl (fun t9 ht9 hW9 => ⟨by rw [← tak_nn h1 h2 (bi_0 h3)], ht9⟩) (fun q h => nomatch h) dC_takes_35
      · refine lv_iconst (v := 1) hx hb dC_takes_30 (by decide) ?_
        refine lv_goto (tgt := 35) hx hb dC_takes_31 rfl ?_
        exact W.zret (v := 1) hx hb hr rfl (fun t9 ht9 hW9 => ⟨by rw [← tak_n h1 h2 (bi_1 h3)], ht9⟩) (fun q h => nomatch h) dC_takes_35
    · refine lv_iload_n hx hb dC_takes_13 rfl (lv_at hl 1 rfl) ?_
      refine ro_i (va_Run.run (va_runSN (As := [.int v]) (rest := []) ⟨hx, hb, hml, hown, hT⟩ (k_isKind l D cT v) ⟨va_cnB 1 hT (tb_gd w435) rfl rfl rfl (hZ.1.2.1 ("ResidualTrees$Column", 23, ⟨"ResidualTrees", "isKind", "(I)Z"⟩, "ResidualTrees") (List.mem_of_getElem? (i := 8) rfl)) (hT _ w1) hR_isKind ⟨Nat.le_of_ble_eq_true rfl, Nat.le_of_ble_eq_true rfl⟩, (hT _ w434), trivial⟩ (RO.preS hZ hS ((show va_P D vwCl [] _ from fun _ _ h => nomatch h)) hK) rfl rfl hl.1 rfl (lv_room (Nat.le_of_ble_eq_true rfl)) dC_takes_14 ⟨Nat.le_of_ble_eq_true rfl, Nat.le_of_ble_eq_true rfl⟩)) ?_
      refine lv_if_eq (tgt := 34) hx hb dC_takes_17 rfl (fun h4 => ?_) (fun h4 => ?_)
      · refine lv_iconst (v := 0) hx hb dC_takes_34 (by decide) ?_
        exact W.zret (v := 0) hx hb hr rfl (fun t9 ht9 hW9 => ⟨by rw [← tak_kn h1 h2 (bi_0 h4)], ht9⟩) (fun q h => nomatch h) dC_takes_35
      · refine lv_goto (tgt := 30) hx hb dC_takes_20 rfl ?_
        refine lv_iconst (v := 1) hx hb dC_takes_30 (by decide) ?_
        refine lv_goto (tgt := 35) hx hb dC_takes_31 rfl ?_
        exact W.zret (v := 1) hx hb hr rfl (fun t9 ht9 hW9 => ⟨by rw [← tak_k h1 h2 (bi_1 h4)], ht9⟩) (fun q h => nomatch h) dC_takes_35
set_option maxHeartbeats 4000000 in
set_option maxRecDepth 100000 in
theorem k_exchange (l : Launch) (D : va_G) (cT : Nat → ClassId) (h : Nat) (cv : Nat) (ce : Nat) (ec : Int32) (ok : Int32) (fv : Nat → Int32) (r : Nat) (v : Int32) (hr49 : r < 49) (sz : Nat) : Met l yC_exchange WC_exchange ({ frames := 0, cells := 0, slots := 0, locals := 0 } : Room) (RW D vwCl [.ref h, .int (nI r), .int v] [(h, .inr (1, [.ref cv, .ref ce, .int ec, .int ok])), (cv, .inl (cT 0, 49, .inl fv))] (TY cT) sz) (va_Qi (fun (r9 : Int32) (u9 : Unit) => r9 = fv r) (BW D vwCl (va_A [(h, .inr (1, [.ref cv, .ref ce, .int ec, .int ok])), (cv, .inl (cT 0, 49, .inl fv))] sz) (fun u9 : Unit => [(h, .inr (1, [.ref cv, .ref ce, .int ec, .int ok])), (cv, .inl (cT 0, 49, .inl (upd fv r v)))])) (va_A [(h, .inr (1, [.ref cv, .ref ce, .int ec, .int ok])), (cv, .inl (cT 0, 49, .inl fv))] sz)) 0 0 (va_A [(h, .inr (1, [.ref cv, .ref ce, .int ec, .int ok])), (cv, .inl (cT 0, 49, .inl fv))] sz) := by
  refine Met.ofW (cc := cC_exchange) (maxL := 4) (ret := (some .int)) (by decide) rfl ?_
  intro p e s m args below meth c s₁ B hml hv
  obtain ⟨rfl, hsz, hZ, hP, hK, hD0⟩ := hv
  have hx := B.exec
  have hb := B.bytes
  have hr := B.returns
  have hts := atoms_spec (ws := WC_exchange) B.pre
  have hT : ∀ w ∈ TB, w.before _ s = true := fun w h => hts w (List.mem_cons_of_mem _ h)
  have hown : s.vm.findClass R_C = some m.cls := findClass_of_methodNamed B.named
  have hlocks := B.notSynchronized
  subst hsz
  have hD := hD0.self (sz := s.heap.size)
  generalize hAe : va_A [(h, .inr (1, [.ref cv, .ref ce, .int ec, .int ok])), (cv, .inl (cT 0, 49, .inl fv))] s.heap.size = A at hD hZ ⊢
  have hA : ∀ q : Nat, s.heap.size ≤ q → A q := fun q h => by rw [← hAe]; exact Or.inr h
  have hS : va_S A s.heap s.heap [] := va_S.rf
  have hl := lv_entry ([.ref h, .int (nI r), .int v]) (n := 4) (Nat.le_of_ble_eq_true rfl)
  rw [lg_entry_eq]
  generalize (lg_sl ([.ref h, .int (nI r), .int v]) ++ List.replicate (4 - (lg_sl ([.ref h, .int (nI r), .int v])).length) Slot.unset).toArray = ls at hl ⊢
  have hl : lv_has ls 4 [(0, .ref h), (1, .int (nI r)), (2, .int v)] := hl
  refine lv_aload_n hx hb dC_exchange_0 rfl (lv_at hl 0 rfl) ?_
  refine va_get (D := D) (ci := 1) (v := .ref cv) (C := R_C) (T := T_C) (N := 4) hx hb hT in_C hown hK hP 0 rfl rfl 0 (by decide) (hT _ w50) (fun _ h9 => h9) rfl dC_exchange_1 ?_
  refine lv_iload_n hx hb dC_exchange_4 rfl (lv_at hl 1 rfl) ?_
  refine lq_iald (j := r) hx hb hK hP 1 0 rfl rfl rfl (by omega) (by omega) dC_exchange_5 ?_
  refine lv_istore_n hx hb dC_exchange_6 rfl hl (by decide) rfl (fun ls hl => ?_)
  have hl : lv_has ls 4 [(3, .int (fv r)), (0, .ref h), (1, .int (nI r)), (2, .int v)] := hl
  refine lv_aload_n hx hb dC_exchange_7 rfl (lv_at hl 1 rfl) ?_
  refine va_get (D := D) (ci := 1) (v := .ref cv) (C := R_C) (T := T_C) (N := 4) hx hb hT in_C hown hK hP 0 rfl rfl 0 (by decide) (hT _ w50) (fun _ h9 => h9) rfl dC_exchange_8 ?_
  refine lv_iload_n hx hb dC_exchange_11 rfl (lv_at hl 2 rfl) ?_
  refine lv_iload_n hx hb dC_exchange_12 rfl (lv_at hl 3 rfl) ?_
  refine lq_iast (j := r) hx hb hK hP hD hS 1 0 rfl rfl rfl (by omega) (by omega) dC_exchange_13 (fun H locs hP hD hS => ?_)
  have hP : va_P D vwCl [(h, .inr (1, [.ref cv, .ref ce, .int ec, .int ok])), (cv, .inl (cT 0, 49, .inl (upd fv r v)))] _ := hP
  have hD : va_D A [(h, .inr (1, [.ref cv, .ref ce, .int ec, .int ok])), (cv, .inl (cT 0, 49, .inl (upd fv r v)))] := hD
  refine lv_iload_n hx hb dC_exchange_14 rfl (lv_at hl 0 rfl) ?_
  have hP9 := hP.sub (ws' := [(h, .inr (1, [.ref cv, .ref ce, .int ec, .int ok])), (cv, .inl (cT 0, 49, .inl (upd fv r v)))]) [0, 1] rfl
  have hD9 := hD.sub (ws' := [(h, .inr (1, [.ref cv, .ref ce, .int ec, .int ok])), (cv, .inl (cT 0, 49, .inl (upd fv r v)))]) [0, 1] (by decide) rfl
  refine W.widen (k := 0) (n := 0) (Nat.le_of_ble_eq_true rfl) (Nat.le_of_ble_eq_true rfl) ?_
  exact W.iret (v := fv r) hx hb hr (fun t9 ht9 hW9 => ⟨⟨fv r, (), rfl, (show (fv r) = fv r from rfl), by rw [ht9]; exact hP9, hD9⟩, hS.F ht9⟩) hS.2.2 dC_exchange_15
set_option maxHeartbeats 4000000 in
set_option maxRecDepth 100000 in
theorem k_alone (l : Launch) (D : va_G) (cT : Nat → ClassId) (h : Nat) (cv : Nat) (ce : Nat) (ec : Int32) (ok : Int32) (fv : Nat → Int32) (n : Nat) (hn48 : n ≤ 48) : Met l yC_hasKindsAlone WC_hasKindsAlone ({ frames := 1, cells := 0, slots := 0, locals := 20 } : Room) (RO D vwCl [.ref h, .int (nI n)] [(h, .inr (1, [.ref cv, .ref ce, .int ec, .int ok])), (cv, .inl (cT 0, 49, .inl fv))] (TY cT)) (QcRead (bn (kaB fv n))) 0 0 (fun _ => False) := by
  refine Met.ofW (cc := cC_hasKindsAlone) (maxL := 4) (ret := (some .boolean)) (by decide) rfl ?_
  intro p e s m args below meth c s₁ B hml hv
  obtain ⟨rfl, hZ, hP, hK⟩ := hv
  have hx := B.exec
  have hb := B.bytes
  have hr := B.returns
  have hts := atoms_spec (ws := WC_hasKindsAlone) B.pre
  have hT : ∀ w ∈ TB, w.before _ s = true := fun w h => hts w (List.mem_cons_of_mem _ h)
  have hown : s.vm.findClass R_C = some m.cls := findClass_of_methodNamed B.named
  have hlocks := B.notSynchronized
  have hS : va_S (fun _ => False) s.heap s.heap [] := va_S.rf
  have hl := lv_entry ([.ref h, .int (nI n)]) (n := 4) (Nat.le_of_ble_eq_true rfl)
  rw [lg_entry_eq]
  generalize (lg_sl ([.ref h, .int (nI n)]) ++ List.replicate (4 - (lg_sl ([.ref h, .int (nI n)])).length) Slot.unset).toArray = ls at hl ⊢
  have hl : lv_has ls 4 [(0, .ref h), (1, .int (nI n))] := hl
  refine lv_iconst (v := 1) hx hb dC_hasKindsAlone_0 (by decide) ?_
  refine lv_istore_n hx hb dC_hasKindsAlone_1 rfl hl (by decide) rfl (fun ls hl => ?_)
  have hl : lv_has ls 4 [(2, .int 1), (0, .ref h), (1, .int (nI n))] := hl
  refine lv_iconst (v := 0) hx hb dC_hasKindsAlone_2 (by decide) ?_
  refine lv_istore_n hx hb dC_hasKindsAlone_3 rfl hl (by decide) rfl (fun ls hl => ?_)
  have hl : lv_has ls 4 [(3, .int 0), (2, .int 1), (0, .ref h), (1, .int (nI n))] := hl
  have hl : lv_has ls 4 [(3, .int 0), (2, .int (bn (kaB fv 0))), (0, .ref h), (1, .int (nI n))] := by
    rw [show bn (kaB fv 0) = 1 from rfl]; exact hl
  refine lp_r (α := Nat) (fun a9 => a9 ≤ n) (fun a9 => n - a9) (fun a9 => [(0, .ref h), (1, .int (nI n)), (2, .int (bn (kaB fv a9))), (3, .int (nI a9))]) 4 ?_ 0 (show 0 ≤ n from by omega) (lv_sub hl [2, 3, 1, 0] rfl)
  intro a9 hI4 ih4 ls hl
  obtain ⟨r, rfl⟩ : ∃ q9, q9 = a9 := ⟨_, rfl⟩
  have hI4 : r ≤ n := hI4
  have hl : lv_has ls 4 [(0, .ref h), (1, .int (nI n)), (2, .int (bn (kaB fv r))), (3, .int (nI r))] := hl
  refine lv_iload_n hx hb dC_hasKindsAlone_4 rfl (lv_at hl 3 rfl) ?_
  refine lv_iload_n hx hb dC_hasKindsAlone_5 rfl (lv_at hl 1 rfl) ?_
  refine lv_icmp_ge (tgt := 48) hx hb dC_hasKindsAlone_6 rfl (fun h1 => ?_) (fun h1 => ?_)
  · have gh1 : n ≤ r := (nI_leI (a := n) (b := r) (by omega) (by omega)).mp h1
    refine lv_iload_n hx hb dC_hasKindsAlone_48 rfl (lv_at hl 2 rfl) ?_
    exact W.zret (v := bn (kaB fv r)) hx hb hr bn_n (fun t9 ht9 hW9 => ⟨by rw [show r = n by omega], ht9⟩) (fun q h => nomatch h) dC_hasKindsAlone_49
  · have gh1 : r < n := Nat.not_le.mp (fun q => h1 ((nI_leI (a := n) (b := r) (by omega) (by omega)).mpr q))
    refine lp_cut (fun x9 : Int32 => x9 = bn (kaB fv (r + 1))) (fun x9 => [.int x9]) 41 ls (fun x9 e9 => ?_) (fun hct2 => ?_)
    · cases (show x9 = bn (kaB fv (r + 1)) from e9)
      refine lv_istore_n hx hb dC_hasKindsAlone_41 rfl hl (by decide) rfl (fun ls hl => ?_)
      have hl : lv_has ls 4 [(2, .int (bn (kaB fv (r + 1)))), (0, .ref h), (1, .int (nI n)), (3, .int (nI r))] := hl
      refine lv_iinc (k := 3) (v := nI (r + 1)) hx hb dC_hasKindsAlone_42 hl rfl (nI_1 r) (by decide) rfl (fun ls hl => ?_)
      have hl : lv_has ls 4 [(3, .int (nI (r + 1))), (2, .int (bn (kaB fv (r + 1)))), (0, .ref h), (1, .int (nI n))] := hl
      refine lv_goto (tgt := 4) hx hb dC_hasKindsAlone_45 rfl ?_
      exact ih4 (r + 1) (show (r + 1) ≤ n from by omega) (show n - (r + 1) < n - r from (by omega)) ls (lv_sub hl [2, 3, 1, 0] rfl)
    · refine lv_iload_n hx hb dC_hasKindsAlone_9 rfl (lv_at hl 2 rfl) ?_
      refine lv_if_eq (tgt := 40) hx hb dC_hasKindsAlone_10 rfl (fun h3 => ?_) (fun h3 => ?_)
      · refine lv_iconst (v := 0) hx hb dC_hasKindsAlone_40 (by decide) ?_
        exact hct2 _ (ka_0 h3)
      · refine lv_aload_n hx hb dC_hasKindsAlone_13 rfl (lv_at hl 0 rfl) ?_
        refine va_get (D := D) (ci := 1) (v := .ref cv) (C := R_C) (T := T_C) (N := 4) hx hb hT in_C hown hK hP 0 rfl rfl 0 (by decide) (hT _ w50) (fun _ h9 => h9) rfl dC_hasKindsAlone_14 ?_
        refine lv_iload_n hx hb dC_hasKindsAlone_17 rfl (lv_at hl 3 rfl) ?_
        refine lq_iald (j := r) hx hb hK hP 1 0 rfl rfl rfl (by omega) (by omega) dC_hasKindsAlone_18 ?_
        refine lv_ldc (v := (-2147483648)) hx hb hown (hT _ w626) dC_hasKindsAlone_19 ?_
        refine lv_icmp_eq (tgt := 36) hx hb dC_hasKindsAlone_21 rfl (fun h4 => ?_) (fun h4 => ?_)
        · refine lv_iconst (v := 1) hx hb dC_hasKindsAlone_36 (by decide) ?_
          refine lv_goto (tgt := 41) hx hb dC_hasKindsAlone_37 rfl ?_
          exact hct2 _ (ka_1 h3 h4)
        · refine lv_aload_n hx hb dC_hasKindsAlone_24 rfl (lv_at hl 0 rfl) ?_
          refine va_get (D := D) (ci := 1) (v := .ref cv) (C := R_C) (T := T_C) (N := 4) hx hb hT in_C hown hK hP 0 rfl rfl 0 (by decide) (hT _ w50) (fun _ h9 => h9) rfl dC_hasKindsAlone_25 ?_
          refine lv_iload_n hx hb dC_hasKindsAlone_28 rfl (lv_at hl 3 rfl) ?_
          refine lq_iald (j := r) hx hb hK hP 1 0 rfl rfl rfl (by omega) (by omega) dC_hasKindsAlone_29 ?_
          refine ro_i (va_Run.run (va_runSN (As := [.int (fv r)]) (rest := []) ⟨hx, hb, hml, hown, hT⟩ (k_isKind l D cT (fv r)) ⟨va_cnB 1 hT (tb_gd w435) rfl rfl rfl (hZ.1.2.1 ("ResidualTrees$Column", 23, ⟨"ResidualTrees", "isKind", "(I)Z"⟩, "ResidualTrees") (List.mem_of_getElem? (i := 8) rfl)) (hT _ w1) hR_isKind ⟨Nat.le_of_ble_eq_true rfl, Nat.le_of_ble_eq_true rfl⟩, (hT _ w434), trivial⟩ (RO.preS hZ hS ((show va_P D vwCl [] _ from fun _ _ h => nomatch h)) hK) rfl rfl hl.1 rfl (lv_room (Nat.le_of_ble_eq_true rfl)) dC_hasKindsAlone_30 ⟨Nat.le_of_ble_eq_true rfl, Nat.le_of_ble_eq_true rfl⟩)) ?_
          refine lv_if_eq (tgt := 40) hx hb dC_hasKindsAlone_33 rfl (fun h5 => ?_) (fun h5 => ?_)
          · refine lv_iconst (v := 0) hx hb dC_hasKindsAlone_40 (by decide) ?_
            exact hct2 _ (ka_3 h4 (bi_0 h5))
          · refine lv_iconst (v := 1) hx hb dC_hasKindsAlone_36 (by decide) ?_
            refine lv_goto (tgt := 41) hx hb dC_hasKindsAlone_37 rfl ?_
            exact hct2 _ (ka_2 h3 (bi_1 h5))
set_option maxHeartbeats 4000000 in
set_option maxRecDepth 100000 in
theorem k_become (l : Launch) (D : va_G) (cT : Nat → ClassId) (h : Nat) (cv : Nat) (ce : Nat) (ec : Int32) (ok : Int32) (kz : Int32) (hk : kz = 0 ∨ kz = 1) (hok : ok = 0 ∨ ok = 1) (sz : Nat) : Met l yC_become WC_become ({ frames := 0, cells := 0, slots := 0, locals := 0 } : Room) (RW D vwCl [.ref h, .int kz] [(h, .inr (1, [.ref cv, .ref ce, .int ec, .int ok]))] (TY cT) sz) (va_Qi (fun (r9 : Int32) (u9 : Unit) => r9 = ok) (BW D vwCl (va_A [(h, .inr (1, [.ref cv, .ref ce, .int ec, .int ok]))] sz) (fun u9 : Unit => [(h, .inr (1, [.ref cv, .ref ce, .int 0, .int kz]))])) (va_A [(h, .inr (1, [.ref cv, .ref ce, .int ec, .int ok]))] sz)) 0 0 (va_A [(h, .inr (1, [.ref cv, .ref ce, .int ec, .int ok]))] sz) := by
  refine Met.ofW (cc := cC_become) (maxL := 3) (ret := (some .boolean)) (by decide) rfl ?_
  intro p e s m args below meth c s₁ B hml hv
  obtain ⟨rfl, hsz, hZ, hP, hK, hD0⟩ := hv
  have hx := B.exec
  have hb := B.bytes
  have hr := B.returns
  have hts := atoms_spec (ws := WC_become) B.pre
  have hT : ∀ w ∈ TB, w.before _ s = true := fun w h => hts w (List.mem_cons_of_mem _ h)
  have hown : s.vm.findClass R_C = some m.cls := findClass_of_methodNamed B.named
  have hlocks := B.notSynchronized
  subst hsz
  have hD := hD0.self (sz := s.heap.size)
  generalize hAe : va_A [(h, .inr (1, [.ref cv, .ref ce, .int ec, .int ok]))] s.heap.size = A at hD hZ ⊢
  have hA : ∀ q : Nat, s.heap.size ≤ q → A q := fun q h => by rw [← hAe]; exact Or.inr h
  have hS : va_S A s.heap s.heap [] := va_S.rf
  have hl := lv_entry ([.ref h, .int kz]) (n := 3) (Nat.le_of_ble_eq_true rfl)
  rw [lg_entry_eq]
  generalize (lg_sl ([.ref h, .int kz]) ++ List.replicate (3 - (lg_sl ([.ref h, .int kz])).length) Slot.unset).toArray = ls at hl ⊢
  have hl : lv_has ls 3 [(0, .ref h), (1, .int kz)] := hl
  refine lv_aload_n hx hb dC_become_0 rfl (lv_at hl 0 rfl) ?_
  refine va_get (D := D) (ci := 1) (v := .int ok) (C := R_C) (T := T_C) (N := 4) hx hb hT in_C hown hK hP 0 rfl rfl 3 (by decide) (hT _ w60) (fun _ h9 => h9) rfl dC_become_1 ?_
  refine lv_istore_n hx hb dC_become_4 rfl hl (by decide) rfl (fun ls hl => ?_)
  have hl : lv_has ls 3 [(2, .int ok), (0, .ref h), (1, .int kz)] := hl
  refine lv_aload_n hx hb dC_become_5 rfl (lv_at hl 1 rfl) ?_
  refine lv_iload_n hx hb dC_become_6 rfl (lv_at hl 2 rfl) ?_
  refine va_put (D := D) (ci := 1) (v := .int kz) (ty := .boolean) (C := R_C) (T := T_C) (N := 4) hx hb hT in_C ty_C ty_C_ok m_C hown hK hP hD hS 0 rfl rfl 3 (by decide) (hT _ w60) (fun _ h9 => h9) rfl (by decide +kernel) (nar_z hk) (fit_z hk) (Nat.le_of_ble_eq_true rfl) dC_become_7 (fun H locs hP hD hS => ?_)
  have hP : va_P D vwCl [(h, .inr (1, [.ref cv, .ref ce, .int ec, .int kz]))] _ := hP
  have hD : va_D A [(h, .inr (1, [.ref cv, .ref ce, .int ec, .int kz]))] := hD
  refine lv_aload_n hx hb dC_become_10 rfl (lv_at hl 1 rfl) ?_
  refine lv_iconst (v := 0) hx hb dC_become_11 (by decide) ?_
  refine va_put (D := D) (ci := 1) (v := .int 0) (ty := .int) (C := R_C) (T := T_C) (N := 4) hx hb hT in_C ty_C ty_C_ok m_C hown hK hP hD hS 0 rfl rfl 2 (by decide) (hT _ w57) (fun _ h9 => h9) rfl (by decide +kernel) rfl rfl (Nat.le_of_ble_eq_true rfl) dC_become_12 (fun H locs hP hD hS => ?_)
  have hP : va_P D vwCl [(h, .inr (1, [.ref cv, .ref ce, .int 0, .int kz]))] _ := hP
  have hD : va_D A [(h, .inr (1, [.ref cv, .ref ce, .int 0, .int kz]))] := hD
  refine lv_iload_n hx hb dC_become_15 rfl (lv_at hl 0 rfl) ?_
  have hP9 := hP.sub (ws' := [(h, .inr (1, [.ref cv, .ref ce, .int 0, .int kz]))]) [0] rfl
  have hD9 := hD.sub (ws' := [(h, .inr (1, [.ref cv, .ref ce, .int 0, .int kz]))]) [0] (by decide) rfl
  refine W.widen (k := 0) (n := 0) (Nat.le_of_ble_eq_true rfl) (Nat.le_of_ble_eq_true rfl) ?_
  exact W.zret (v := ok) hx hb hr (nar_z hok) (fun t9 ht9 hW9 => ⟨⟨ok, (), rfl, (show ok = ok from rfl), by rw [ht9]; exact hP9, hD9⟩, hS.F ht9⟩) hS.2.2 dC_become_16
set_option maxHeartbeats 4000000 in
set_option maxRecDepth 100000 in
theorem k_binOfK (l : Launch) (D : va_G) (cT : Nat → ClassId) (h : Nat) (cv : Nat) (ce : Nat) (ec : Int32) (ok : Int32) (v : Int32) (hk : ¬ ok = 0) : Met l yC_binOf WC_binOf ({ frames := 0, cells := 0, slots := 0, locals := 0 } : Room) (RO D vwCl [.ref h, .int v] [(h, .inr (1, [.ref cv, .ref ce, .int ec, .int ok]))] (TY cT)) (QcRead v) 0 0 (fun _ => False) := by
  refine Met.ofW (cc := cC_binOf) (maxL := 3) (ret := (some .int)) (by decide) rfl ?_
  intro p e s m args below meth c s₁ B hml hv
  obtain ⟨rfl, hZ, hP, hK⟩ := hv
  have hx := B.exec
  have hb := B.bytes
  have hr := B.returns
  have hts := atoms_spec (ws := WC_binOf) B.pre
  have hT : ∀ w ∈ TB, w.before _ s = true := fun w h => hts w (List.mem_cons_of_mem _ h)
  have hown : s.vm.findClass R_C = some m.cls := findClass_of_methodNamed B.named
  have hlocks := B.notSynchronized
  have hS : va_S (fun _ => False) s.heap s.heap [] := va_S.rf
  have hl := lv_entry ([.ref h, .int v]) (n := 3) (Nat.le_of_ble_eq_true rfl)
  rw [lg_entry_eq]
  generalize (lg_sl ([.ref h, .int v]) ++ List.replicate (3 - (lg_sl ([.ref h, .int v])).length) Slot.unset).toArray = ls at hl ⊢
  have hl : lv_has ls 3 [(0, .ref h), (1, .int v)] := hl
  refine lv_aload_n hx hb dC_binOf_0 rfl (lv_at hl 0 rfl) ?_
  refine va_get (D := D) (ci := 1) (v := .int ok) (C := R_C) (T := T_C) (N := 4) hx hb hT in_C hown hK hP 0 rfl rfl 3 (by decide) (hT _ w60) (fun _ h9 => h9) rfl dC_binOf_1 ?_
  refine lv_if_eq (tgt := 9) hx hb dC_binOf_4 rfl (fun h1 => absurd h1 hk) (fun _ => ?_)
  refine lv_iload_n hx hb dC_binOf_7 rfl (lv_at hl 1 rfl) ?_
  exact W.iret (v := v) hx hb hr (fun t9 ht9 hW9 => ⟨rfl, ht9⟩) (fun q h => nomatch h) dC_binOf_8
set_option maxHeartbeats 4000000 in
set_option maxRecDepth 100000 in
theorem k_binOfN (l : Launch) (D : va_G) (cT : Nat → ClassId) (h : Nat) (cv : Nat) (ce : Nat) (ec : Int32) (ok : Int32) (fe : Nat → Int32) (eg : Nat → Int32) (b0 : Nat) (ne : Nat) (v : Int32) (hk : ok = 0) (hec : ec = nI ne) (hne : ne ≤ 11) (hE : ∀ i, i < ne → fe i = eg (b0 + i)) (hS9 : RIS eg b0 ne) : Met l yC_binOf WC_binOf ({ frames := 0, cells := 0, slots := 0, locals := 0 } : Room) (RO D vwCl [.ref h, .int v] [(h, .inr (1, [.ref cv, .ref ce, .int ec, .int ok])), (ce, .inl (cT 0, 11, .inl fe))] (TY cT)) (QcRead (nI (cnE eg b0 v ne))) 0 0 (fun _ => False) := by
  refine Met.ofW (cc := cC_binOf) (maxL := 3) (ret := (some .int)) (by decide) rfl ?_
  intro p e s m args below meth c s₁ B hml hv
  obtain ⟨rfl, hZ, hP, hK⟩ := hv
  have hx := B.exec
  have hb := B.bytes
  have hr := B.returns
  have hts := atoms_spec (ws := WC_binOf) B.pre
  have hT : ∀ w ∈ TB, w.before _ s = true := fun w h => hts w (List.mem_cons_of_mem _ h)
  have hown : s.vm.findClass R_C = some m.cls := findClass_of_methodNamed B.named
  have hlocks := B.notSynchronized
  have hS : va_S (fun _ => False) s.heap s.heap [] := va_S.rf
  have hl := lv_entry ([.ref h, .int v]) (n := 3) (Nat.le_of_ble_eq_true rfl)
  rw [lg_entry_eq]
  generalize (lg_sl ([.ref h, .int v]) ++ List.replicate (3 - (lg_sl ([.ref h, .int v])).length) Slot.unset).toArray = ls at hl ⊢
  have hl : lv_has ls 3 [(0, .ref h), (1, .int v)] := hl
  refine lv_aload_n hx hb dC_binOf_0 rfl (lv_at hl 0 rfl) ?_
  refine va_get (D := D) (ci := 1) (v := .int ok) (C := R_C) (T := T_C) (N := 4) hx hb hT in_C hown hK hP 0 rfl rfl 3 (by decide) (hT _ w60) (fun _ h9 => h9) rfl dC_binOf_1 ?_
  refine lv_if_eq (tgt := 9) hx hb dC_binOf_4 rfl (fun _ => ?_) (fun h1 => absurd hk h1)
  refine lv_iconst (v := 0) hx hb dC_binOf_9 (by decide) ?_
  refine lv_istore_n hx hb dC_binOf_10 rfl hl (by decide) rfl (fun ls hl => ?_)
  have hl : lv_has ls 3 [(2, .int 0), (0, .ref h), (1, .int v)] := hl
  refine lp_r (α := Nat) (fun a9 => a9 ≤ ne ∧ ∀ i, i < a9 → eg (b0 + i) ≤ v) (fun a9 => ne - a9) (fun a9 => [(0, .ref h), (1, .int v), (2, .int (nI a9))]) 11 ?_ 0 (show 0 ≤ ne ∧ ∀ i, i < 0 → eg (b0 + i) ≤ v from ⟨by omega, fun i h => absurd h (by omega)⟩) (lv_sub hl [1, 2, 0] rfl)
  intro a9 hI11 ih11 ls hl
  obtain ⟨k, rfl⟩ : ∃ q9, q9 = a9 := ⟨_, rfl⟩
  have hI11 : k ≤ ne ∧ ∀ i, i < k → eg (b0 + i) ≤ v := hI11
  obtain ⟨ik9, il⟩ := hI11
  have hl : lv_has ls 3 [(0, .ref h), (1, .int v), (2, .int (nI k))] := hl
  refine lv_iload_n hx hb dC_binOf_11 rfl (lv_at hl 2 rfl) ?_
  refine lv_aload_n hx hb dC_binOf_12 rfl (lv_at hl 0 rfl) ?_
  refine va_get (D := D) (ci := 1) (v := .int ec) (C := R_C) (T := T_C) (N := 4) hx hb hT in_C hown hK hP 0 rfl rfl 2 (by decide) (hT _ w57) (fun _ h9 => h9) rfl dC_binOf_13 ?_
  refine lv_topi (fun y9 e9 => ?_)
  cases (show y9 = nI ne from e9.trans hec)
  refine lv_icmp_ge (tgt := 35) hx hb dC_binOf_16 rfl (fun h2 => ?_) (fun h2 => ?_)
  · have gh2 : ne ≤ k := (nI_leI (a := ne) (b := k) (by omega) (by omega)).mp h2
    refine lv_iload_n hx hb dC_binOf_35 rfl (lv_at hl 2 rfl) ?_
    exact W.iret (v := nI k) hx hb hr (fun t9 ht9 hW9 => ⟨by rw [cnE_srt hS9 ik9 il (Or.inl (by omega))], ht9⟩) (fun q h => nomatch h) dC_binOf_36
  · have gh2 : k < ne := Nat.not_le.mp (fun q => h2 ((nI_leI (a := ne) (b := k) (by omega) (by omega)).mpr q))
    refine lv_aload_n hx hb dC_binOf_19 rfl (lv_at hl 0 rfl) ?_
    refine va_get (D := D) (ci := 1) (v := .ref ce) (C := R_C) (T := T_C) (N := 4) hx hb hT in_C hown hK hP 0 rfl rfl 1 (by decide) (hT _ w54) (fun _ h9 => h9) rfl dC_binOf_20 ?_
    refine lv_iload_n hx hb dC_binOf_23 rfl (lv_at hl 2 rfl) ?_
    refine lq_iald (j := k) hx hb hK hP 1 0 rfl rfl rfl (by omega) (by omega) dC_binOf_24 ?_
    refine lv_iload_n hx hb dC_binOf_25 rfl (lv_at hl 1 rfl) ?_
    refine lv_icmp_gt (tgt := 35) hx hb dC_binOf_26 rfl (fun h3 => ?_) (fun h3 => ?_)
    · refine lv_iload_n hx hb dC_binOf_35 rfl (lv_at hl 2 rfl) ?_
      exact W.iret (v := nI k) hx hb hr (fun t9 ht9 hW9 => ⟨by rw [cnE_srt hS9 ik9 il (Or.inr (by rw [← hE k (by omega)]; exact h3))], ht9⟩) (fun q h => nomatch h) dC_binOf_36
    · refine lv_iinc (k := 2) (v := nI (k + 1)) hx hb dC_binOf_29 hl rfl (nI_1 k) (by decide) rfl (fun ls hl => ?_)
      have hl : lv_has ls 3 [(2, .int (nI (k + 1))), (0, .ref h), (1, .int v)] := hl
      refine lv_goto (tgt := 11) hx hb dC_binOf_32 rfl ?_
      exact ih11 (k + 1) (show (k + 1) ≤ ne ∧ ∀ i, i < (k + 1) → eg (b0 + i) ≤ v from ⟨by omega, fun i h => (by by_cases r9 : i = k; (rw [r9, ← hE k (by omega)]; exact Int32.not_lt.mp h3); (exact il i (by omega)))⟩) (show ne - (k + 1) < ne - k from (by omega)) ls (lv_sub hl [1, 2, 0] rfl)
set_option maxHeartbeats 4000000 in
set_option maxRecDepth 100000 in
theorem k_becomeLeaf (l : Launch) (D : va_G) (cT : Nat → ClassId) (h : Nat) (ns : Nat) (nq0 : Int32) (nq1 : Int32) (nq2 : Int32) (nq3 : Int32) (nq4 : Int32) (nq5 : Int32) (nq6 : Int32) (nq7 : Int32) (sz : Nat) : Met l yN_becomeLeaf WN_becomeLeaf ({ frames := 0, cells := 0, slots := 0, locals := 0 } : Room) (RW D vwCl [.ref h] [(h, .inr (10, [.int nq0, .int nq1, .int nq2, .int nq3, .int nq4, .int nq5, .int nq6, .int nq7, .ref ns]))] (TY cT) sz) (va_Qv (fun u9 : Unit => True) (BW D vwCl (va_A [(h, .inr (10, [.int nq0, .int nq1, .int nq2, .int nq3, .int nq4, .int nq5, .int nq6, .int nq7, .ref ns]))] sz) (fun u9 : Unit => [(h, .inr (10, [.int (-1), .int 0, .int 0, .int 0, .int (-1), .int (-1), .int nq6, .int nq7, .ref ns]))])) (va_A [(h, .inr (10, [.int nq0, .int nq1, .int nq2, .int nq3, .int nq4, .int nq5, .int nq6, .int nq7, .ref ns]))] sz)) 0 0 (va_A [(h, .inr (10, [.int nq0, .int nq1, .int nq2, .int nq3, .int nq4, .int nq5, .int nq6, .int nq7, .ref ns]))] sz) := by
  refine Met.ofW (cc := cN_becomeLeaf) (maxL := 1) (ret := none) (by decide) rfl ?_
  intro p e s m args below meth c s₁ B hml hv
  obtain ⟨rfl, hsz, hZ, hP, hK, hD0⟩ := hv
  have hx := B.exec
  have hb := B.bytes
  have hr := B.returns
  have hts := atoms_spec (ws := WN_becomeLeaf) B.pre
  have hT : ∀ w ∈ TB, w.before _ s = true := fun w h => hts w (List.mem_cons_of_mem _ h)
  have hown : s.vm.findClass R_N = some m.cls := findClass_of_methodNamed B.named
  have hlocks := B.notSynchronized
  subst hsz
  have hD := hD0.self (sz := s.heap.size)
  generalize hAe : va_A [(h, .inr (10, [.int nq0, .int nq1, .int nq2, .int nq3, .int nq4, .int nq5, .int nq6, .int nq7, .ref ns]))] s.heap.size = A at hD hZ ⊢
  have hA : ∀ q : Nat, s.heap.size ≤ q → A q := fun q h => by rw [← hAe]; exact Or.inr h
  have hS : va_S A s.heap s.heap [] := va_S.rf
  have hl := lv_entry ([.ref h]) (n := 1) (Nat.le_of_ble_eq_true rfl)
  rw [lg_entry_eq]
  generalize (lg_sl ([.ref h]) ++ List.replicate (1 - (lg_sl ([.ref h])).length) Slot.unset).toArray = ls at hl ⊢
  have hl : lv_has ls 1 [(0, .ref h)] := hl
  refine lv_aload_n hx hb dN_becomeLeaf_0 rfl (lv_at hl 0 rfl) ?_
  refine lv_iconst (v := (-1)) hx hb dN_becomeLeaf_1 (by decide) ?_
  refine va_put (D := D) (ci := 10) (v := .int (-1)) (ty := .int) (C := R_N) (T := T_N) (N := 9) hx hb hT in_N ty_N ty_N_ok m_N hown hK hP hD hS 0 rfl rfl 0 (by decide) (hT _ w829) (fun _ h9 => h9) rfl (by decide +kernel) rfl rfl (Nat.le_of_ble_eq_true rfl) dN_becomeLeaf_2 (fun H locs hP hD hS => ?_)
  have hP : va_P D vwCl [(h, .inr (10, [.int (-1), .int nq1, .int nq2, .int nq3, .int nq4, .int nq5, .int nq6, .int nq7, .ref ns]))] _ := hP
  have hD : va_D A [(h, .inr (10, [.int (-1), .int nq1, .int nq2, .int nq3, .int nq4, .int nq5, .int nq6, .int nq7, .ref ns]))] := hD
  refine lv_aload_n hx hb dN_becomeLeaf_5 rfl (lv_at hl 0 rfl) ?_
  refine lv_iconst (v := 0) hx hb dN_becomeLeaf_6 (by decide) ?_
  refine va_put (D := D) (ci := 10) (v := .int 0) (ty := .int) (C := R_N) (T := T_N) (N := 9) hx hb hT in_N ty_N ty_N_ok m_N hown hK hP hD hS 0 rfl rfl 1 (by decide) (hT _ w833) (fun _ h9 => h9) rfl (by decide +kernel) rfl rfl (Nat.le_of_ble_eq_true rfl) dN_becomeLeaf_7 (fun H locs hP hD hS => ?_)
  have hP : va_P D vwCl [(h, .inr (10, [.int (-1), .int 0, .int nq2, .int nq3, .int nq4, .int nq5, .int nq6, .int nq7, .ref ns]))] _ := hP
  have hD : va_D A [(h, .inr (10, [.int (-1), .int 0, .int nq2, .int nq3, .int nq4, .int nq5, .int nq6, .int nq7, .ref ns]))] := hD
  refine lv_aload_n hx hb dN_becomeLeaf_10 rfl (lv_at hl 0 rfl) ?_
  refine lv_iconst (v := 0) hx hb dN_becomeLeaf_11 (by decide) ?_
  refine va_put (D := D) (ci := 10) (v := .int 0) (ty := .boolean) (C := R_N) (T := T_N) (N := 9) hx hb hT in_N ty_N ty_N_ok m_N hown hK hP hD hS 0 rfl rfl 2 (by decide) (hT _ w836) (fun _ h9 => h9) rfl (by decide +kernel) rfl rfl (Nat.le_of_ble_eq_true rfl) dN_becomeLeaf_12 (fun H locs hP hD hS => ?_)
  have hP : va_P D vwCl [(h, .inr (10, [.int (-1), .int 0, .int 0, .int nq3, .int nq4, .int nq5, .int nq6, .int nq7, .ref ns]))] _ := hP
  have hD : va_D A [(h, .inr (10, [.int (-1), .int 0, .int 0, .int nq3, .int nq4, .int nq5, .int nq6, .int nq7, .ref ns]))] := hD
  refine lv_aload_n hx hb dN_becomeLeaf_15 rfl (lv_at hl 0 rfl) ?_
  refine lv_iconst (v := 0) hx hb dN_becomeLeaf_16 (by decide) ?_
  refine va_put (D := D) (ci := 10) (v := .int 0) (ty := .boolean) (C := R_N) (T := T_N) (N := 9) hx hb hT in_N ty_N ty_N_ok m_N hown hK hP hD hS 0 rfl rfl 3 (by decide) (hT _ w839) (fun _ h9 => h9) rfl (by decide +kernel) rfl rfl (Nat.le_of_ble_eq_true rfl) dN_becomeLeaf_17 (fun H locs hP hD hS => ?_)
  have hP : va_P D vwCl [(h, .inr (10, [.int (-1), .int 0, .int 0, .int 0, .int nq4, .int nq5, .int nq6, .int nq7, .ref ns]))] _ := hP
  have hD : va_D A [(h, .inr (10, [.int (-1), .int 0, .int 0, .int 0, .int nq4, .int nq5, .int nq6, .int nq7, .ref ns]))] := hD
  refine lv_aload_n hx hb dN_becomeLeaf_20 rfl (lv_at hl 0 rfl) ?_
  refine lv_iconst (v := (-1)) hx hb dN_becomeLeaf_21 (by decide) ?_
  refine va_put (D := D) (ci := 10) (v := .int (-1)) (ty := .int) (C := R_N) (T := T_N) (N := 9) hx hb hT in_N ty_N ty_N_ok m_N hown hK hP hD hS 0 rfl rfl 4 (by decide) (hT _ w842) (fun _ h9 => h9) rfl (by decide +kernel) rfl rfl (Nat.le_of_ble_eq_true rfl) dN_becomeLeaf_22 (fun H locs hP hD hS => ?_)
  have hP : va_P D vwCl [(h, .inr (10, [.int (-1), .int 0, .int 0, .int 0, .int (-1), .int nq5, .int nq6, .int nq7, .ref ns]))] _ := hP
  have hD : va_D A [(h, .inr (10, [.int (-1), .int 0, .int 0, .int 0, .int (-1), .int nq5, .int nq6, .int nq7, .ref ns]))] := hD
  refine lv_aload_n hx hb dN_becomeLeaf_25 rfl (lv_at hl 0 rfl) ?_
  refine lv_iconst (v := (-1)) hx hb dN_becomeLeaf_26 (by decide) ?_
  refine va_put (D := D) (ci := 10) (v := .int (-1)) (ty := .int) (C := R_N) (T := T_N) (N := 9) hx hb hT in_N ty_N ty_N_ok m_N hown hK hP hD hS 0 rfl rfl 5 (by decide) (hT _ w846) (fun _ h9 => h9) rfl (by decide +kernel) rfl rfl (Nat.le_of_ble_eq_true rfl) dN_becomeLeaf_27 (fun H locs hP hD hS => ?_)
  have hP : va_P D vwCl [(h, .inr (10, [.int (-1), .int 0, .int 0, .int 0, .int (-1), .int (-1), .int nq6, .int nq7, .ref ns]))] _ := hP
  have hD : va_D A [(h, .inr (10, [.int (-1), .int 0, .int 0, .int 0, .int (-1), .int (-1), .int nq6, .int nq7, .ref ns]))] := hD
  have hP9 := hP.sub (ws' := [(h, .inr (10, [.int (-1), .int 0, .int 0, .int 0, .int (-1), .int (-1), .int nq6, .int nq7, .ref ns]))]) [0] rfl
  have hD9 := hD.sub (ws' := [(h, .inr (10, [.int (-1), .int 0, .int 0, .int 0, .int (-1), .int (-1), .int nq6, .int nq7, .ref ns]))]) [0] (by decide) rfl
  refine W.widen (k := 0) (n := 0) (Nat.le_of_ble_eq_true rfl) (Nat.le_of_ble_eq_true rfl) ?_
  exact W.vret hx hb hr (fun t9 ht9 hW9 => ⟨⟨(), rfl, (show True from trivial), by rw [ht9]; exact hP9, hD9⟩, hS.F ht9⟩) hS.2.2 dN_becomeLeaf_30
set_option maxHeartbeats 4000000 in
set_option maxRecDepth 100000 in
theorem k_sendsLeft (l : Launch) (D : va_G) (cT : Nat → ClassId) (h : Nat) (ns : Nat) (nq0 : Int32) (nq1 : Int32) (nq2 : Int32) (nq3 : Int32) (nq4 : Int32) (nq5 : Int32) (nq6 : Int32) (nq7 : Int32) (v : Int32) (htl : nq3 = 0 ∨ nq3 = 1) : Met l yN_sendsLeft WN_sendsLeft ({ frames := 1, cells := 0, slots := 0, locals := 20 } : Room) (RO D vwCl [.ref h, .int v] [(h, .inr (10, [.int nq0, .int nq1, .int nq2, .int nq3, .int nq4, .int nq5, .int nq6, .int nq7, .ref ns]))] (TY cT)) (QcRead (bn (goB nq3 nq2 nq1 v))) 0 0 (fun _ => False) := by
  refine Met.ofW (cc := cN_sendsLeft) (maxL := 2) (ret := (some .boolean)) (by decide) rfl ?_
  intro p e s m args below meth c s₁ B hml hv
  obtain ⟨rfl, hZ, hP, hK⟩ := hv
  have hx := B.exec
  have hb := B.bytes
  have hr := B.returns
  have hts := atoms_spec (ws := WN_sendsLeft) B.pre
  have hT : ∀ w ∈ TB, w.before _ s = true := fun w h => hts w (List.mem_cons_of_mem _ h)
  have hown : s.vm.findClass R_N = some m.cls := findClass_of_methodNamed B.named
  have hlocks := B.notSynchronized
  have hS : va_S (fun _ => False) s.heap s.heap [] := va_S.rf
  have hl := lv_entry ([.ref h, .int v]) (n := 2) (Nat.le_of_ble_eq_true rfl)
  rw [lg_entry_eq]
  generalize (lg_sl ([.ref h, .int v]) ++ List.replicate (2 - (lg_sl ([.ref h, .int v])).length) Slot.unset).toArray = ls at hl ⊢
  have hl : lv_has ls 2 [(0, .ref h), (1, .int v)] := hl
  refine lv_iload_n hx hb dN_sendsLeft_0 rfl (lv_at hl 1 rfl) ?_
  refine lv_ldc (v := (-2147483648)) hx hb hown (hT _ w432) dN_sendsLeft_1 ?_
  refine lv_icmp_ne (tgt := 11) hx hb dN_sendsLeft_3 rfl (fun h1 => ?_) (fun h1 => ?_)
  · refine lv_aload_n hx hb dN_sendsLeft_11 rfl (lv_at hl 0 rfl) ?_
    refine va_get (D := D) (ci := 10) (v := .int nq2) (C := R_N) (T := T_N) (N := 9) hx hb hT in_N hown hK hP 0 rfl rfl 2 (by decide) (hT _ w836) (fun _ h9 => h9) rfl dN_sendsLeft_12 ?_
    refine lv_if_eq (tgt := 45) hx hb dN_sendsLeft_15 rfl (fun h2 => ?_) (fun h2 => ?_)
    · refine lv_iload_n hx hb dN_sendsLeft_45 rfl (lv_at hl 1 rfl) ?_
      refine lv_aload_n hx hb dN_sendsLeft_46 rfl (lv_at hl 0 rfl) ?_
      refine va_get (D := D) (ci := 10) (v := .int nq1) (C := R_N) (T := T_N) (N := 9) hx hb hT in_N hown hK hP 0 rfl rfl 1 (by decide) (hT _ w833) (fun _ h9 => h9) rfl dN_sendsLeft_47 ?_
      refine lv_icmp_ge (tgt := 57) hx hb dN_sendsLeft_50 rfl (fun h3 => ?_) (fun h3 => ?_)
      · refine lv_iconst (v := 0) hx hb dN_sendsLeft_57 (by decide) ?_
        exact W.zret (v := 0) hx hb hr rfl (fun t9 ht9 hW9 => ⟨by rw [← gob_n0 h1 h2 (Int32.not_lt.mpr h3)], ht9⟩) (fun q h => nomatch h) dN_sendsLeft_58
      · refine lv_iconst (v := 1) hx hb dN_sendsLeft_53 (by decide) ?_
        refine lv_goto (tgt := 58) hx hb dN_sendsLeft_54 rfl ?_
        exact W.zret (v := 1) hx hb hr rfl (fun t9 ht9 hW9 => ⟨by rw [← gob_n1 h1 h2 (Int32.not_le.mp h3)], ht9⟩) (fun q h => nomatch h) dN_sendsLeft_58
    · refine lv_iload_n hx hb dN_sendsLeft_18 rfl (lv_at hl 1 rfl) ?_
      refine ro_i (va_Run.run (va_runSN (As := [.int v]) (rest := []) ⟨hx, hb, hml, hown, hT⟩ (k_isKind l D cT v) ⟨va_cnB 1 hT (tb_gd w435) rfl rfl rfl (hZ.1.2.1 ("ResidualTrees$Node", 41, ⟨"ResidualTrees", "isKind", "(I)Z"⟩, "ResidualTrees") (List.mem_of_getElem? (i := 5) rfl)) (hT _ w1) hR_isKind ⟨Nat.le_of_ble_eq_true rfl, Nat.le_of_ble_eq_true rfl⟩, (hT _ w434), trivial⟩ (RO.preS hZ hS ((show va_P D vwCl [] _ from fun _ _ h => nomatch h)) hK) rfl rfl hl.1 rfl (lv_room (Nat.le_of_ble_eq_true rfl)) dN_sendsLeft_19 ⟨Nat.le_of_ble_eq_true rfl, Nat.le_of_ble_eq_true rfl⟩)) ?_
      refine lv_if_eq (tgt := 41) hx hb dN_sendsLeft_22 rfl (fun h4 => ?_) (fun h4 => ?_)
      · refine lv_iconst (v := 0) hx hb dN_sendsLeft_41 (by decide) ?_
        refine lv_goto (tgt := 58) hx hb dN_sendsLeft_42 rfl ?_
        exact W.zret (v := 0) hx hb hr rfl (fun t9 ht9 hW9 => ⟨by rw [← gob_k0 h1 h2 (Or.inl (bi_0 h4))], ht9⟩) (fun q h => nomatch h) dN_sendsLeft_58
      · refine lv_aload_n hx hb dN_sendsLeft_25 rfl (lv_at hl 0 rfl) ?_
        refine va_get (D := D) (ci := 10) (v := .int nq1) (C := R_N) (T := T_N) (N := 9) hx hb hT in_N hown hK hP 0 rfl rfl 1 (by decide) (hT _ w833) (fun _ h9 => h9) rfl dN_sendsLeft_26 ?_
        refine lv_iload_n hx hb dN_sendsLeft_29 rfl (lv_at hl 1 rfl) ?_
        refine lv_ishr hx hb dN_sendsLeft_30 ?_
        refine lv_iconst (v := 1) hx hb dN_sendsLeft_31 (by decide) ?_
        refine lv_iand hx hb dN_sendsLeft_32 ?_
        refine lv_iconst (v := 1) hx hb dN_sendsLeft_33 (by decide) ?_
        refine lv_icmp_ne (tgt := 41) hx hb dN_sendsLeft_34 rfl (fun h5 => ?_) (fun h5 => ?_)
        · refine lv_iconst (v := 0) hx hb dN_sendsLeft_41 (by decide) ?_
          refine lv_goto (tgt := 58) hx hb dN_sendsLeft_42 rfl ?_
          exact W.zret (v := 0) hx hb hr rfl (fun t9 ht9 hW9 => ⟨by rw [← gob_k0 h1 h2 (Or.inr h5)], ht9⟩) (fun q h => nomatch h) dN_sendsLeft_58
        · refine lv_iconst (v := 1) hx hb dN_sendsLeft_37 (by decide) ?_
          refine lv_goto (tgt := 58) hx hb dN_sendsLeft_38 rfl ?_
          exact W.zret (v := 1) hx hb hr rfl (fun t9 ht9 hW9 => ⟨by rw [← gob_k1 h1 h2 (bi_1 h4) h5], ht9⟩) (fun q h => nomatch h) dN_sendsLeft_58
  · refine lv_aload_n hx hb dN_sendsLeft_6 rfl (lv_at hl 0 rfl) ?_
    refine va_get (D := D) (ci := 10) (v := .int nq3) (C := R_N) (T := T_N) (N := 9) hx hb hT in_N hown hK hP 0 rfl rfl 3 (by decide) (hT _ w839) (fun _ h9 => h9) rfl dN_sendsLeft_7 ?_
    exact W.zret (v := nq3) hx hb hr (nar_z htl) (fun t9 ht9 hW9 => ⟨by rw [← gob_m h1 htl], ht9⟩) (fun q h => nomatch h) dN_sendsLeft_10
set_option maxHeartbeats 4000000 in
set_option maxRecDepth 100000 in
theorem k_planClear (l : Launch) (D : va_G) (cT : Nat → ClassId) (h : Nat) (p0 : Int32) (p1 : Int32) (p2 : Int32) (p3 : Int32) (p4 : Int32) (p5 : Int64) (p6 : Int32) (sz : Nat) : Met l yP_clear WP_clear ({ frames := 0, cells := 0, slots := 0, locals := 0 } : Room) (RW D vwCl [.ref h] [(h, .inr (3, [.int p0, .int p1, .int p2, .int p3, .int p4, .long p5, .int p6]))] (TY cT) sz) (va_Qv (fun u9 : Unit => True) (BW D vwCl (va_A [(h, .inr (3, [.int p0, .int p1, .int p2, .int p3, .int p4, .long p5, .int p6]))] sz) (fun u9 : Unit => [(h, .inr (3, [.int 2, .int 1, .int 0, .int 1, .int 2, .long (-1), .int (-1)]))])) (va_A [(h, .inr (3, [.int p0, .int p1, .int p2, .int p3, .int p4, .long p5, .int p6]))] sz)) 0 0 (va_A [(h, .inr (3, [.int p0, .int p1, .int p2, .int p3, .int p4, .long p5, .int p6]))] sz) := by
  refine Met.ofW (cc := cP_clear) (maxL := 1) (ret := none) (by decide) rfl ?_
  intro p e s m args below meth c s₁ B hml hv
  obtain ⟨rfl, hsz, hZ, hP, hK, hD0⟩ := hv
  have hx := B.exec
  have hb := B.bytes
  have hr := B.returns
  have hts := atoms_spec (ws := WP_clear) B.pre
  have hT : ∀ w ∈ TB, w.before _ s = true := fun w h => hts w (List.mem_cons_of_mem _ h)
  have hown : s.vm.findClass R_P = some m.cls := findClass_of_methodNamed B.named
  have hlocks := B.notSynchronized
  subst hsz
  have hD := hD0.self (sz := s.heap.size)
  generalize hAe : va_A [(h, .inr (3, [.int p0, .int p1, .int p2, .int p3, .int p4, .long p5, .int p6]))] s.heap.size = A at hD hZ ⊢
  have hA : ∀ q : Nat, s.heap.size ≤ q → A q := fun q h => by rw [← hAe]; exact Or.inr h
  have hS : va_S A s.heap s.heap [] := va_S.rf
  have hl := lv_entry ([.ref h]) (n := 1) (Nat.le_of_ble_eq_true rfl)
  rw [lg_entry_eq]
  generalize (lg_sl ([.ref h]) ++ List.replicate (1 - (lg_sl ([.ref h])).length) Slot.unset).toArray = ls at hl ⊢
  have hl : lv_has ls 1 [(0, .ref h)] := hl
  refine lv_aload_n hx hb dP_clear_0 rfl (lv_at hl 0 rfl) ?_
  refine lv_iconst (v := 2) hx hb dP_clear_1 (by decide) ?_
  refine va_put (D := D) (ci := 3) (v := .int 2) (ty := .int) (C := R_P) (T := T_P) (N := 7) hx hb hT in_P ty_P ty_P_ok m_P hown hK hP hD hS 0 rfl rfl 0 (by decide) (hT _ w99) (fun _ h9 => h9) rfl (by decide +kernel) rfl rfl (Nat.le_of_ble_eq_true rfl) dP_clear_2 (fun H locs hP hD hS => ?_)
  have hP : va_P D vwCl [(h, .inr (3, [.int 2, .int p1, .int p2, .int p3, .int p4, .long p5, .int p6]))] _ := hP
  have hD : va_D A [(h, .inr (3, [.int 2, .int p1, .int p2, .int p3, .int p4, .long p5, .int p6]))] := hD
  refine lv_aload_n hx hb dP_clear_5 rfl (lv_at hl 0 rfl) ?_
  refine lv_iconst (v := 1) hx hb dP_clear_6 (by decide) ?_
  refine va_put (D := D) (ci := 3) (v := .int 1) (ty := .int) (C := R_P) (T := T_P) (N := 7) hx hb hT in_P ty_P ty_P_ok m_P hown hK hP hD hS 0 rfl rfl 1 (by decide) (hT _ w102) (fun _ h9 => h9) rfl (by decide +kernel) rfl rfl (Nat.le_of_ble_eq_true rfl) dP_clear_7 (fun H locs hP hD hS => ?_)
  have hP : va_P D vwCl [(h, .inr (3, [.int 2, .int 1, .int p2, .int p3, .int p4, .long p5, .int p6]))] _ := hP
  have hD : va_D A [(h, .inr (3, [.int 2, .int 1, .int p2, .int p3, .int p4, .long p5, .int p6]))] := hD
  refine lv_aload_n hx hb dP_clear_10 rfl (lv_at hl 0 rfl) ?_
  refine lv_iconst (v := 0) hx hb dP_clear_11 (by decide) ?_
  refine va_put (D := D) (ci := 3) (v := .int 0) (ty := .int) (C := R_P) (T := T_P) (N := 7) hx hb hT in_P ty_P ty_P_ok m_P hown hK hP hD hS 0 rfl rfl 2 (by decide) (hT _ w105) (fun _ h9 => h9) rfl (by decide +kernel) rfl rfl (Nat.le_of_ble_eq_true rfl) dP_clear_12 (fun H locs hP hD hS => ?_)
  have hP : va_P D vwCl [(h, .inr (3, [.int 2, .int 1, .int 0, .int p3, .int p4, .long p5, .int p6]))] _ := hP
  have hD : va_D A [(h, .inr (3, [.int 2, .int 1, .int 0, .int p3, .int p4, .long p5, .int p6]))] := hD
  refine lv_aload_n hx hb dP_clear_15 rfl (lv_at hl 0 rfl) ?_
  refine lv_iconst (v := 1) hx hb dP_clear_16 (by decide) ?_
  refine va_put (D := D) (ci := 3) (v := .int 1) (ty := .int) (C := R_P) (T := T_P) (N := 7) hx hb hT in_P ty_P ty_P_ok m_P hown hK hP hD hS 0 rfl rfl 3 (by decide) (hT _ w109) (fun _ h9 => h9) rfl (by decide +kernel) rfl rfl (Nat.le_of_ble_eq_true rfl) dP_clear_17 (fun H locs hP hD hS => ?_)
  have hP : va_P D vwCl [(h, .inr (3, [.int 2, .int 1, .int 0, .int 1, .int p4, .long p5, .int p6]))] _ := hP
  have hD : va_D A [(h, .inr (3, [.int 2, .int 1, .int 0, .int 1, .int p4, .long p5, .int p6]))] := hD
  refine lv_aload_n hx hb dP_clear_20 rfl (lv_at hl 0 rfl) ?_
  refine lv_iconst (v := 2) hx hb dP_clear_21 (by decide) ?_
  refine va_put (D := D) (ci := 3) (v := .int 2) (ty := .int) (C := R_P) (T := T_P) (N := 7) hx hb hT in_P ty_P ty_P_ok m_P hown hK hP hD hS 0 rfl rfl 4 (by decide) (hT _ w112) (fun _ h9 => h9) rfl (by decide +kernel) rfl rfl (Nat.le_of_ble_eq_true rfl) dP_clear_22 (fun H locs hP hD hS => ?_)
  have hP : va_P D vwCl [(h, .inr (3, [.int 2, .int 1, .int 0, .int 1, .int 2, .long p5, .int p6]))] _ := hP
  have hD : va_D A [(h, .inr (3, [.int 2, .int 1, .int 0, .int 1, .int 2, .long p5, .int p6]))] := hD
  refine lv_aload_n hx hb dP_clear_25 rfl (lv_at hl 0 rfl) ?_
  refine lv_ldc2 (v := (-1)) hx hb hown (hT _ w323) dP_clear_26 ?_
  refine va_put (D := D) (ci := 3) (v := .long (-1)) (ty := .long) (C := R_P) (T := T_P) (N := 7) hx hb hT in_P ty_P ty_P_ok m_P hown hK hP hD hS 0 rfl rfl 5 (by decide) (hT _ w115) (fun _ h9 => h9) rfl (by decide +kernel) rfl rfl (Nat.le_of_ble_eq_true rfl) dP_clear_29 (fun H locs hP hD hS => ?_)
  have hP : va_P D vwCl [(h, .inr (3, [.int 2, .int 1, .int 0, .int 1, .int 2, .long (-1), .int p6]))] _ := hP
  have hD : va_D A [(h, .inr (3, [.int 2, .int 1, .int 0, .int 1, .int 2, .long (-1), .int p6]))] := hD
  refine lv_aload_n hx hb dP_clear_32 rfl (lv_at hl 0 rfl) ?_
  refine lv_iconst (v := (-1)) hx hb dP_clear_33 (by decide) ?_
  refine va_put (D := D) (ci := 3) (v := .int (-1)) (ty := .int) (C := R_P) (T := T_P) (N := 7) hx hb hT in_P ty_P ty_P_ok m_P hown hK hP hD hS 0 rfl rfl 6 (by decide) (hT _ w117) (fun _ h9 => h9) rfl (by decide +kernel) rfl rfl (Nat.le_of_ble_eq_true rfl) dP_clear_34 (fun H locs hP hD hS => ?_)
  have hP : va_P D vwCl [(h, .inr (3, [.int 2, .int 1, .int 0, .int 1, .int 2, .long (-1), .int (-1)]))] _ := hP
  have hD : va_D A [(h, .inr (3, [.int 2, .int 1, .int 0, .int 1, .int 2, .long (-1), .int (-1)]))] := hD
  have hP9 := hP.sub (ws' := [(h, .inr (3, [.int 2, .int 1, .int 0, .int 1, .int 2, .long (-1), .int (-1)]))]) [0] rfl
  have hD9 := hD.sub (ws' := [(h, .inr (3, [.int 2, .int 1, .int 0, .int 1, .int 2, .long (-1), .int (-1)]))]) [0] (by decide) rfl
  refine W.widen (k := 0) (n := 0) (Nat.le_of_ble_eq_true rfl) (Nat.le_of_ble_eq_true rfl) ?_
  exact W.vret hx hb hr (fun t9 ht9 hW9 => ⟨⟨(), rfl, (show True from trivial), by rw [ht9]; exact hP9, hD9⟩, hS.F ht9⟩) hS.2.2 dP_clear_37
set_option maxHeartbeats 4000000 in
set_option maxRecDepth 100000 in
theorem k_gdiv (l : Launch) (D : va_G) (cT : Nat → ClassId) (a1 : Nat) (b1 : Nat) (ha9 : a1 ≤ 4611686018427387904) (hb9 : b1 ≤ 4611686018427387904) : Met l yR_greatestDivisor WR_greatestDivisor ({ frames := 0, cells := 0, slots := 0, locals := 0 } : Room) (RO D vwCl [.long (lN a1), .long (lN b1)] [] (TY cT)) (QcReadL (lN (Nat.gcd a1 b1))) 0 0 (fun _ => False) := by
  refine Met.ofW (cc := cR_greatestDivisor) (maxL := 11) (ret := (some .long)) (by decide) rfl ?_
  intro p e s m args below meth c s₁ B hml hv
  obtain ⟨rfl, hZ, hP, hK⟩ := hv
  have hx := B.exec
  have hb := B.bytes
  have hr := B.returns
  have hts := atoms_spec (ws := WR_greatestDivisor) B.pre
  have hT : ∀ w ∈ TB, w.before _ s = true := fun w h => hts w (List.mem_cons_of_mem _ h)
  have hown : s.vm.findClass R_R = some m.cls := findClass_of_methodNamed B.named
  have hlocks := B.notSynchronized
  have hS : va_S (fun _ => False) s.heap s.heap [] := va_S.rf
  have hl := lv_entry ([.long (lN a1), .long (lN b1)]) (n := 11) (Nat.le_of_ble_eq_true rfl)
  rw [lg_entry_eq]
  generalize (lg_sl ([.long (lN a1), .long (lN b1)]) ++ List.replicate (11 - (lg_sl ([.long (lN a1), .long (lN b1)])).length) Slot.unset).toArray = ls at hl ⊢
  have hl : lv_has ls 11 [(0, .long (lN a1)), (2, .long (lN b1))] := hl
  refine lv_lload_n hx hb dR_greatestDivisor_0 rfl (lv_at hl 0 rfl) ?_
  refine lv_lstore hx hb dR_greatestDivisor_1 hl (by decide) rfl (fun ls hl => ?_)
  have hl : lv_has ls 11 [(4, .long (lN a1)), (0, .long (lN a1)), (2, .long (lN b1))] := hl
  refine lv_lload_n hx hb dR_greatestDivisor_3 rfl (lv_at hl 2 rfl) ?_
  refine lv_lstore hx hb dR_greatestDivisor_4 hl (by decide) rfl (fun ls hl => ?_)
  have hl : lv_has ls 11 [(6, .long (lN b1)), (4, .long (lN a1)), (0, .long (lN a1)), (2, .long (lN b1))] := hl
  refine lv_iconst (v := 0) hx hb dR_greatestDivisor_6 (by decide) ?_
  refine lv_istore hx hb dR_greatestDivisor_7 hl (by decide) rfl (fun ls hl => ?_)
  have hl : lv_has ls 11 [(8, .int 0), (6, .long (lN b1)), (4, .long (lN a1)), (0, .long (lN a1)), (2, .long (lN b1))] := hl
  refine lp_r (α := Nat × Nat × Nat) (fun a9 => Nat.gcd a9.1 a9.2.1 = Nat.gcd a1 b1 ∧ a9.1 ≤ 4611686018427387904 ∧ a9.2.1 ≤ 4611686018427387904 ∧ a9.2.2 ≤ 128 ∧ a9.1 * 2 ^ ((a9.2.2 - 1) / 2) ≤ 4611686018427387904 ∧ a9.2.1 * 2 ^ (a9.2.2 / 2) ≤ 4611686018427387904 ∧ (0 < a9.2.2 → a9.2.1 < a9.1)) (fun a9 => 128 - a9.2.2) (fun a9 => [(0, .long (lN a1)), (2, .long (lN b1)), (4, .long (lN a9.1)), (6, .long (lN a9.2.1)), (8, .int (nI a9.2.2))]) 9 ?_ (a1, b1, 0) (show Nat.gcd a1 b1 = Nat.gcd a1 b1 ∧ a1 ≤ 4611686018427387904 ∧ b1 ≤ 4611686018427387904 ∧ 0 ≤ 128 ∧ a1 * 2 ^ ((0 - 1) / 2) ≤ 4611686018427387904 ∧ b1 * 2 ^ (0 / 2) ≤ 4611686018427387904 ∧ (0 < 0 → b1 < a1) from ⟨rfl, by omega, by omega, by omega, by rw [show (0 - 1) / 2 = 0 by decide, Nat.pow_zero]; omega, by rw [show 0 / 2 = 0 by decide, Nat.pow_zero]; omega, fun h => absurd h (by omega)⟩) (lv_sub hl [3, 4, 2, 1, 0] rfl)
  intro a9 hI9 ih9 ls hl
  obtain ⟨x, y1, i⟩ := a9
  have hI9 : Nat.gcd x y1 = Nat.gcd a1 b1 ∧ x ≤ 4611686018427387904 ∧ y1 ≤ 4611686018427387904 ∧ i ≤ 128 ∧ x * 2 ^ ((i - 1) / 2) ≤ 4611686018427387904 ∧ y1 * 2 ^ (i / 2) ≤ 4611686018427387904 ∧ (0 < i → y1 < x) := hI9
  obtain ⟨ig, ix, iy, ii, i1, i2, i3⟩ := hI9
  have hl : lv_has ls 11 [(0, .long (lN a1)), (2, .long (lN b1)), (4, .long (lN x)), (6, .long (lN y1)), (8, .int (nI i))] := hl
  refine lv_iload hx hb dR_greatestDivisor_9 (lv_at hl 4 rfl) ?_
  refine lv_sipush (v := 128) hx hb dR_greatestDivisor_11 (by decide) ?_
  refine lv_icmp_ge (tgt := 45) hx hb dR_greatestDivisor_14 rfl (fun h1 => ?_) (fun h1 => ?_)
  · have gh1 : 128 ≤ i := (nI_leI (a := 128) (b := i) (by omega) (by omega)).mp h1
    refine lv_lload hx hb dR_greatestDivisor_45 (lv_at hl 2 rfl) ?_
    exact W.lret (v := lN x) hx hb hr (fun t9 ht9 hW9 => ⟨(by rw [← ig, show y1 = 0 from (gd_e (by omega) (by omega) i2), Nat.gcd_zero_right]), ht9⟩) (fun q h => nomatch h) dR_greatestDivisor_47
  · have gh1 : i < 128 := Nat.not_le.mp (fun q => h1 ((nI_leI (a := 128) (b := i) (by omega) (by omega)).mpr q))
    refine lv_lload hx hb dR_greatestDivisor_17 (lv_at hl 3 rfl) ?_
    refine lv_lconst (v := 0) hx hb dR_greatestDivisor_19 (by decide) ?_
    refine W.lcmp hx hb dR_greatestDivisor_20 ?_
    refine lv_if_eq (tgt := 45) hx hb dR_greatestDivisor_21 rfl (fun h2 => ?_) (fun h2 => ?_)
    · have gh2 : y1 = 0 := ((lg_cmp_eq (lN y1) 0).trans (pk_lEQ (a := y1) (b := 0) (by omega) (by omega))).mp h2
      refine lv_lload hx hb dR_greatestDivisor_45 (lv_at hl 2 rfl) ?_
      exact W.lret (v := lN x) hx hb hr (fun t9 ht9 hW9 => ⟨(by rw [← ig, show y1 = 0 from (by omega), Nat.gcd_zero_right]), ht9⟩) (fun q h => nomatch h) dR_greatestDivisor_47
    · have gh2 : ¬ (y1 = 0) := fun q => h2 (((lg_cmp_eq (lN y1) 0).trans (pk_lEQ (a := y1) (b := 0) (by omega) (by omega))).mpr q)
      refine lv_lload hx hb dR_greatestDivisor_24 (lv_at hl 2 rfl) ?_
      refine lv_lload hx hb dR_greatestDivisor_26 (lv_at hl 3 rfl) ?_
      refine lv_lrem hx hb dR_greatestDivisor_28 (fun q => absurd ((pk_lEQ (a := y1) (b := 0) (by omega) (by omega)).mp q) (by omega)) ?_
      refine lv_topl (fun y9 e9 => ?_)
      cases (show y9 = lN (x % y1) from e9.trans (pk_lRem (a := x) (b := y1) (by omega) (by omega) (by omega)))
      refine lv_lstore hx hb dR_greatestDivisor_29 hl (by decide) rfl (fun ls hl => ?_)
      have hl : lv_has ls 11 [(9, .long (lN (x % y1))), (0, .long (lN a1)), (2, .long (lN b1)), (4, .long (lN x)), (6, .long (lN y1)), (8, .int (nI i))] := hl
      refine lv_lload hx hb dR_greatestDivisor_31 (lv_at hl 4 rfl) ?_
      refine lv_lstore hx hb dR_greatestDivisor_33 hl (by decide) rfl (fun ls hl => ?_)
      have hl : lv_has ls 11 [(4, .long (lN y1)), (9, .long (lN (x % y1))), (0, .long (lN a1)), (2, .long (lN b1)), (6, .long (lN y1)), (8, .int (nI i))] := hl
      refine lv_lload hx hb dR_greatestDivisor_35 (lv_at hl 1 rfl) ?_
      refine lv_lstore hx hb dR_greatestDivisor_37 hl (by decide) rfl (fun ls hl => ?_)
      have hl : lv_has ls 11 [(6, .long (lN (x % y1))), (4, .long (lN y1)), (9, .long (lN (x % y1))), (0, .long (lN a1)), (2, .long (lN b1)), (8, .int (nI i))] := hl
      refine lv_iinc (k := 5) (v := nI (i + 1)) hx hb dR_greatestDivisor_39 hl rfl (nI_1 i) (by decide) rfl (fun ls hl => ?_)
      have hl : lv_has ls 11 [(8, .int (nI (i + 1))), (6, .long (lN (x % y1))), (4, .long (lN y1)), (9, .long (lN (x % y1))), (0, .long (lN a1)), (2, .long (lN b1))] := hl
      refine lv_goto (tgt := 9) hx hb dR_greatestDivisor_42 rfl ?_
      exact ih9 (y1, x % y1, i + 1) (show Nat.gcd y1 (x % y1) = Nat.gcd a1 b1 ∧ y1 ≤ 4611686018427387904 ∧ (x % y1) ≤ 4611686018427387904 ∧ (i + 1) ≤ 128 ∧ y1 * 2 ^ (((i + 1) - 1) / 2) ≤ 4611686018427387904 ∧ (x % y1) * 2 ^ ((i + 1) / 2) ≤ 4611686018427387904 ∧ (0 < (i + 1) → (x % y1) < y1) from ⟨by rw [Nat.gcd_comm, ← Nat.gcd_rec, Nat.gcd_comm]; exact ig, iy, by have q9 := Nat.mod_lt x (show 0 < y1 by omega); omega, by omega, i2, gd_s (by omega) i1 i2 i3, fun _ => Nat.mod_lt x (by omega)⟩) (show 128 - (i + 1) < 128 - i from (by omega)) ls (lv_sub hl [4, 5, 2, 1, 0] rfl)
