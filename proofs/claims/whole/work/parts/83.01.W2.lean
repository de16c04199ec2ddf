set_option maxHeartbeats 4000000 in
set_option maxRecDepth 100000 in
theorem k_icmp (l : Launch) (D : va_G) (cT : Nat → ClassId) (x : Int32) (y : Int32) : Met l yIn_compare WIn_compare ({ frames := 0, cells := 0, slots := 0, locals := 0 } : Room) (RO D vwCl [.int x, .int y] [] (TY cT)) (QcRead (ic x y)) 0 0 (fun _ => False) := by
  refine Met.ofW (cc := cIn_compare) (maxL := 2) (ret := (some .int)) (by decide) rfl ?_
  intro p e s m args below meth c s₁ B hml hv
  obtain ⟨rfl, hZ, hP, hK⟩ := hv
  have hx := B.exec
  have hb := B.bytes
  have hr := B.returns
  have hts := atoms_spec (ws := WIn_compare) B.pre
  have hT : ∀ w ∈ TB, w.before _ s = true := fun w h => hts w (List.mem_cons_of_mem _ h)
  have hown : s.vm.findClass R_In = some m.cls := findClass_of_methodNamed B.named
  have hlocks := B.notSynchronized
  have hS : va_S (fun _ => False) s.heap s.heap [] := va_S.rf
  have hl := lv_entry ([.int x, .int y]) (n := 2) (Nat.le_of_ble_eq_true rfl)
  rw [lg_entry_eq]
  generalize (lg_sl ([.int x, .int y]) ++ List.replicate (2 - (lg_sl ([.int x, .int y])).length) Slot.unset).toArray = ls at hl ⊢
  have hl : lv_has ls 2 [(0, .int x), (1, .int y)] := hl
  refine lv_iload_n hx hb dIn_compare_0 rfl (lv_at hl 0 rfl) ?_
  refine lv_iload_n hx hb dIn_compare_1 rfl (lv_at hl 1 rfl) ?_
  refine lv_icmp_ge (tgt := 9) hx hb dIn_compare_2 rfl (fun h1 => ?_) (fun h1 => ?_)
  · refine lv_iload_n hx hb dIn_compare_9 rfl (lv_at hl 0 rfl) ?_
    refine lv_iload_n hx hb dIn_compare_10 rfl (lv_at hl 1 rfl) ?_
    refine lv_icmp_ne (tgt := 18) hx hb dIn_compare_11 rfl (fun h2 => ?_) (fun h2 => ?_)
    · refine lv_iconst (v := 1) hx hb dIn_compare_18 (by decide) ?_
      exact W.iret (v := 1) hx hb hr (fun t9 ht9 hW9 => ⟨by unfold ic; rw [if_neg (Int32.not_lt.mpr h1), if_neg h2], ht9⟩) (fun q h => nomatch h) dIn_compare_19
    · refine lv_iconst (v := 0) hx hb dIn_compare_14 (by decide) ?_
      refine lv_goto (tgt := 19) hx hb dIn_compare_15 rfl ?_
      exact W.iret (v := 0) hx hb hr (fun t9 ht9 hW9 => ⟨by unfold ic; rw [if_neg (Int32.not_lt.mpr h1), if_pos h2], ht9⟩) (fun q h => nomatch h) dIn_compare_19
  · refine lv_iconst (v := (-1)) hx hb dIn_compare_5 (by decide) ?_
    refine lv_goto (tgt := 19) hx hb dIn_compare_6 rfl ?_
    exact W.iret (v := (-1)) hx hb hr (fun t9 ht9 hW9 => ⟨by unfold ic; rw [if_pos (Int32.not_le.mp h1)], ht9⟩) (fun q h => nomatch h) dIn_compare_19
set_option maxHeartbeats 4000000 in
set_option maxRecDepth 100000 in
theorem k_compare (l : Launch) (D : va_G) (cT : Nat → ClassId) (h : Nat) (w : Nat) (R : Nat) (n : Int32) (b : Int32) (f : Nat → Int32) (z : Int) (x2 : Nat) (w2 : Nat) (R2 : Nat) (n2 : Int32) (b2 : Int32) (f2 : Nat → Int32) (z2 : Int) (hR : R ≤ 48) (hN : WN R n b f z) (hR2 : R2 ≤ 48) (hN2 : WN R2 n2 b2 f2 z2) : Met l yW_compare WW_compare ({ frames := 1, cells := 0, slots := 0, locals := 21 } : Room) (RO D vwCl [.ref h, .ref x2] [(h, .inr (4, [.ref w, .int n, .int b])), (w, .inl (cT 0, R, .inl f)), (x2, .inr (4, [.ref w2, .int n2, .int b2])), (w2, .inl (cT 0, R2, .inl f2))] (TY cT)) (QcRead (cz z z2)) 0 0 (fun _ => False) := by
  refine Met.ofW (cc := cW_compare) (maxL := 4) (ret := (some .int)) (by decide) rfl ?_
  intro p e s m args below meth c s₁ B hml hv
  obtain ⟨rfl, hZ, hP, hK⟩ := hv
  have hx := B.exec
  have hb := B.bytes
  have hr := B.returns
  have hts := atoms_spec (ws := WW_compare) B.pre
  have hT : ∀ w ∈ TB, w.before _ s = true := fun w h => hts w (List.mem_cons_of_mem _ h)
  have hown : s.vm.findClass R_W = some m.cls := findClass_of_methodNamed B.named
  have hlocks := B.notSynchronized
  have hS : va_S (fun _ => False) s.heap s.heap [] := va_S.rf
  have hl := lv_entry ([.ref h, .ref x2]) (n := 4) (Nat.le_of_ble_eq_true rfl)
  rw [lg_entry_eq]
  generalize (lg_sl ([.ref h, .ref x2]) ++ List.replicate (4 - (lg_sl ([.ref h, .ref x2])).length) Slot.unset).toArray = ls at hl ⊢
  have hl : lv_has ls 4 [(0, .ref h), (1, .ref x2)] := hl
  refine lv_aload_n hx hb dW_compare_0 rfl (lv_at hl 0 rfl) ?_
  refine ro_i (va_Run.run (va_runV (As := []) (rest := []) ⟨hx, hb, hml, hown, hT⟩ (k_sign l D cT h w R n b f z hR hN) ⟨callB_of 0 hT (tb_gd w489) rfl rfl rfl (hT _ w5) (hT _ w486) hW_sign ⟨Nat.le_of_ble_eq_true rfl, Nat.le_of_ble_eq_true rfl⟩, (hT _ w487), (hT _ w488)⟩ (RO.preV (ci := 4) (q0 := 0) hZ hS (hP.sub (ws' := [(h, .inr (4, [.ref w, .int n, .int b])), (w, .inl (cT 0, R, .inl f))]) [0, 1] rfl) hK rfl rfl) rfl rfl hl.1 rfl (lv_room (Nat.le_of_ble_eq_true rfl)) dW_compare_1 ⟨Nat.le_of_ble_eq_true rfl, Nat.le_of_ble_eq_true rfl⟩)) ?_
  refine lv_aload_n hx hb dW_compare_4 rfl (lv_at hl 1 rfl) ?_
  refine ro_i (va_Run.run (va_runV (As := []) (rest := [.int (sg z)]) ⟨hx, hb, hml, hown, hT⟩ (k_sign l D cT x2 w2 R2 n2 b2 f2 z2 hR2 hN2) ⟨callB_of 0 hT (tb_gd w489) rfl rfl rfl (hT _ w5) (hT _ w486) hW_sign ⟨Nat.le_of_ble_eq_true rfl, Nat.le_of_ble_eq_true rfl⟩, (hT _ w487), (hT _ w488)⟩ (RO.preV (ci := 4) (q0 := 0) hZ hS (hP.sub (ws' := [(x2, .inr (4, [.ref w2, .int n2, .int b2])), (w2, .inl (cT 0, R2, .inl f2))]) [2, 3] rfl) hK rfl rfl) rfl rfl hl.1 rfl (lv_room (Nat.le_of_ble_eq_true rfl)) dW_compare_5 ⟨Nat.le_of_ble_eq_true rfl, Nat.le_of_ble_eq_true rfl⟩)) ?_
  refine ro_i (va_Run.run (va_runS (As := [.int (sg z), .int (sg z2)]) (rest := []) ⟨hx, hb, hml, hown, hT⟩ (k_icmp l D cT (sg z) (sg z2)) ⟨callB_of 2 hT (tb_gd w492) rfl rfl rfl (hT _ w28) (hT _ w490) hIn_compare ⟨Nat.le_of_ble_eq_true rfl, Nat.le_of_ble_eq_true rfl⟩, (hT _ w491)⟩ (RO.preS hZ hS ((show va_P D vwCl [] _ from fun _ _ h => nomatch h)) hK) rfl rfl hl.1 rfl (lv_room (Nat.le_of_ble_eq_true rfl)) dW_compare_8 ⟨Nat.le_of_ble_eq_true rfl, Nat.le_of_ble_eq_true rfl⟩)) ?_
  refine lv_istore_n hx hb dW_compare_11 rfl hl (by decide) rfl (fun ls hl => ?_)
  have hl : lv_has ls 4 [(2, .int (ic (sg z) (sg z2))), (0, .ref h), (1, .ref x2)] := hl
  refine lv_iload_n hx hb dW_compare_12 rfl (lv_at hl 0 rfl) ?_
  refine lv_if_ne (tgt := 79) hx hb dW_compare_13 rfl (fun h1 => ?_) (fun h1 => ?_)
  · refine lv_iload_n hx hb dW_compare_79 rfl (lv_at hl 0 rfl) ?_
    exact W.iret (v := ic (sg z) (sg z2)) hx hb hr (fun t9 ht9 hW9 => ⟨by rw [cz_sg h1], ht9⟩) (fun q h => nomatch h) dW_compare_80
  · have hsg := ic_eq h1
    obtain ⟨K, rfl, hk, hd, htop, hb01, hz⟩ := hN
    have hP : va_P D vwCl [(h, .inr (4, [.ref w, .int (nI K), .int b])), (w, .inl (cT 0, R, .inl f)), (x2, .inr (4, [.ref w2, .int n2, .int b2])), (w2, .inl (cT 0, R2, .inl f2))] _ := hP
    obtain ⟨K2, rfl, qhk, qhd, qhtop, qhb01, qhz⟩ := hN2
    have hP : va_P D vwCl [(h, .inr (4, [.ref w, .int (nI K), .int b])), (w, .inl (cT 0, R, .inl f)), (x2, .inr (4, [.ref w2, .int (nI K2), .int b2])), (w2, .inl (cT 0, R2, .inl f2))] _ := hP
    rw [hz, qhz] at hsg
    refine lv_aload_n hx hb dW_compare_16 rfl (lv_at hl 1 rfl) ?_
    refine va_get (D := D) (ci := 4) (v := .int (nI K)) (C := R_W) (T := T_W) (N := 3) hx hb hT in_W hown hK hP 0 rfl rfl 1 (by decide) (hT _ w148) (fun _ h9 => h9) rfl dW_compare_17 ?_
    refine lv_aload_n hx hb dW_compare_20 rfl (lv_at hl 2 rfl) ?_
    refine va_get (D := D) (ci := 4) (v := .int (nI K2)) (C := R_W) (T := T_W) (N := 3) hx hb hT in_W hown hK hP 2 rfl rfl 1 (by decide) (hT _ w148) (fun _ h9 => h9) rfl dW_compare_21 ?_
    refine ro_i (va_Run.run (va_runS (As := [.int (nI K), .int (nI K2)]) (rest := []) ⟨hx, hb, hml, hown, hT⟩ (k_icmp l D cT (nI K) (nI K2)) ⟨callB_of 2 hT (tb_gd w492) rfl rfl rfl (hT _ w28) (hT _ w490) hIn_compare ⟨Nat.le_of_ble_eq_true rfl, Nat.le_of_ble_eq_true rfl⟩, (hT _ w491)⟩ (RO.preS hZ hS ((show va_P D vwCl [] _ from fun _ _ h => nomatch h)) hK) rfl rfl hl.1 rfl (lv_room (Nat.le_of_ble_eq_true rfl)) dW_compare_24 ⟨Nat.le_of_ble_eq_true rfl, Nat.le_of_ble_eq_true rfl⟩)) ?_
    refine lv_istore_n hx hb dW_compare_27 rfl hl (by decide) rfl (fun ls hl => ?_)
    have hl : lv_has ls 4 [(2, .int (ic (nI K) (nI K2))), (0, .ref h), (1, .ref x2)] := hl
    refine lv_aload_n hx hb dW_compare_28 rfl (lv_at hl 1 rfl) ?_
    refine va_get (D := D) (ci := 4) (v := .int (nI K)) (C := R_W) (T := T_W) (N := 3) hx hb hT in_W hown hK hP 0 rfl rfl 1 (by decide) (hT _ w148) (fun _ h9 => h9) rfl dW_compare_29 ?_
    refine lv_iconst (v := 1) hx hb dW_compare_32 (by decide) ?_
    refine lv_isub hx hb dW_compare_33 ?_
    refine lv_istore_n hx hb dW_compare_34 rfl hl (by decide) rfl (fun ls hl => ?_)
    have hl : lv_has ls 4 [(3, .int ((nI K) - 1)), (2, .int (ic (nI K) (nI K2))), (0, .ref h), (1, .ref x2)] := hl
    refine lp_r (α := Nat × Int32) (fun a9 => a9.1 ≤ K ∧ (a9.2 = 0 → K = K2 ∧ hv 1000000000 (dg f) a9.1 (K - a9.1) = hv 1000000000 (dg f2) a9.1 (K - a9.1)) ∧ (¬ a9.2 = 0 → a9.2 = cn (vW f K) (vW f2 K2))) (fun a9 => a9.1) (fun a9 => [(0, .ref h), (1, .ref x2), (2, .int a9.2), (3, .int (nI a9.1 - 1))]) 35 ?_ (K, ic (nI K) (nI K2)) (show K ≤ K ∧ ((ic (nI K) (nI K2)) = 0 → K = K2 ∧ hv 1000000000 (dg f) K (K - K) = hv 1000000000 (dg f2) K (K - K)) ∧ (¬ (ic (nI K) (nI K2)) = 0 → (ic (nI K) (nI K2)) = cn (vW f K) (vW f2 K2)) from ⟨Nat.le_refl _, fun q => ⟨cn_eq (by rw [ic_nI (by omega) (by omega)] at q; exact q), by rw [Nat.sub_self, hv_0, hv_0]⟩, cmp_len (by omega) (by omega) hd qhd htop qhtop⟩) (lv_sub hl [2, 3, 1, 0] rfl)
    intro a9 hI35 ih35 ls hl
    obtain ⟨k, od⟩ := a9
    have hI35 : k ≤ K ∧ (od = 0 → K = K2 ∧ hv 1000000000 (dg f) k (K - k) = hv 1000000000 (dg f2) k (K - k)) ∧ (¬ od = 0 → od = cn (vW f K) (vW f2 K2)) := hI35
    obtain ⟨ik, ie, ine⟩ := hI35
    have hl : lv_has ls 4 [(0, .ref h), (1, .ref x2), (2, .int od), (3, .int (nI k - 1))] := hl
    refine lv_iload_n hx hb dW_compare_35 rfl (lv_at hl 3 rfl) ?_
    refine lv_if_lt (tgt := 65) hx hb dW_compare_36 rfl (fun h2 => ?_) (fun h2 => ?_)
    · have gh2 : k = 0 := (dn_lt (by omega)).mp h2
      have hfin := cmp_end ie ine (Or.inl (by omega))
      refine lv_aload_n hx hb dW_compare_65 rfl (lv_at hl 0 rfl) ?_
      refine va_get (D := D) (ci := 4) (v := .int b) (C := R_W) (T := T_W) (N := 3) hx hb hT in_W hown hK hP 0 rfl rfl 2 (by decide) (hT _ w149) (fun _ h9 => h9) rfl dW_compare_66 ?_
      refine lv_if_eq (tgt := 77) hx hb dW_compare_69 rfl (fun h3 => ?_) (fun h3 => ?_)
      · refine lv_iload_n hx hb dW_compare_77 rfl (lv_at hl 2 rfl) ?_
        refine lv_istore_n hx hb dW_compare_78 rfl hl (by decide) rfl (fun ls hl => ?_)
        have hl : lv_has ls 4 [(2, .int od), (0, .ref h), (1, .ref x2), (3, .int (nI k - 1))] := hl
        refine lv_iload_n hx hb dW_compare_79 rfl (lv_at hl 0 rfl) ?_
        exact W.iret (v := od) hx hb hr (fun t9 ht9 hW9 => ⟨by rw [hz, qhz, cz_fin hsg, if_pos h3, ← hfin], ht9⟩) (fun q h => nomatch h) dW_compare_80
      · refine lv_iload_n hx hb dW_compare_72 rfl (lv_at hl 2 rfl) ?_
        refine lv_ineg hx hb dW_compare_73 ?_
        refine lv_goto (tgt := 78) hx hb dW_compare_74 rfl ?_
        refine lv_istore_n hx hb dW_compare_78 rfl hl (by decide) rfl (fun ls hl => ?_)
        have hl : lv_has ls 4 [(2, .int (-od)), (0, .ref h), (1, .ref x2), (3, .int (nI k - 1))] := hl
        refine lv_iload_n hx hb dW_compare_79 rfl (lv_at hl 0 rfl) ?_
        exact W.iret (v := -od) hx hb hr (fun t9 ht9 hW9 => ⟨by rw [hz, qhz, cz_fin hsg, if_neg h3, ← hfin], ht9⟩) (fun q h => nomatch h) dW_compare_80
    · have gh2 : 0 < k := Nat.pos_of_ne_zero (fun q => h2 ((dn_lt (by omega)).mpr q))
      refine lv_iload_n hx hb dW_compare_39 rfl (lv_at hl 2 rfl) ?_
      refine lv_if_ne (tgt := 65) hx hb dW_compare_40 rfl (fun h4 => ?_) (fun h4 => ?_)
      · have hfin := cmp_end ie ine (Or.inr h4)
        refine lv_aload_n hx hb dW_compare_65 rfl (lv_at hl 0 rfl) ?_
        refine va_get (D := D) (ci := 4) (v := .int b) (C := R_W) (T := T_W) (N := 3) hx hb hT in_W hown hK hP 0 rfl rfl 2 (by decide) (hT _ w149) (fun _ h9 => h9) rfl dW_compare_66 ?_
        refine lv_if_eq (tgt := 77) hx hb dW_compare_69 rfl (fun h5 => ?_) (fun h5 => ?_)
        · refine lv_iload_n hx hb dW_compare_77 rfl (lv_at hl 2 rfl) ?_
          refine lv_istore_n hx hb dW_compare_78 rfl hl (by decide) rfl (fun ls hl => ?_)
          have hl : lv_has ls 4 [(2, .int od), (0, .ref h), (1, .ref x2), (3, .int (nI k - 1))] := hl
          refine lv_iload_n hx hb dW_compare_79 rfl (lv_at hl 0 rfl) ?_
          exact W.iret (v := od) hx hb hr (fun t9 ht9 hW9 => ⟨by rw [hz, qhz, cz_fin hsg, if_pos h5, ← hfin], ht9⟩) (fun q h => nomatch h) dW_compare_80
        · refine lv_iload_n hx hb dW_compare_72 rfl (lv_at hl 2 rfl) ?_
          refine lv_ineg hx hb dW_compare_73 ?_
          refine lv_goto (tgt := 78) hx hb dW_compare_74 rfl ?_
          refine lv_istore_n hx hb dW_compare_78 rfl hl (by decide) rfl (fun ls hl => ?_)
          have hl : lv_has ls 4 [(2, .int (-od)), (0, .ref h), (1, .ref x2), (3, .int (nI k - 1))] := hl
          refine lv_iload_n hx hb dW_compare_79 rfl (lv_at hl 0 rfl) ?_
          exact W.iret (v := -od) hx hb hr (fun t9 ht9 hW9 => ⟨by rw [hz, qhz, cz_fin hsg, if_neg h5, ← hfin], ht9⟩) (fun q h => nomatch h) dW_compare_80
      · have hEQ := ie h4
        refine lv_aload_n hx hb dW_compare_43 rfl (lv_at hl 0 rfl) ?_
        refine va_get (D := D) (ci := 4) (v := .ref w) (C := R_W) (T := T_W) (N := 3) hx hb hT in_W hown hK hP 0 rfl rfl 0 (by decide) (hT _ w145) (fun _ h9 => h9) rfl dW_compare_44 ?_
        refine lv_iload_n hx hb dW_compare_47 rfl (lv_at hl 3 rfl) ?_
        refine lq_iald (j := k - 1) hx hb hK hP 1 0 rfl rfl (nI_sub1 (by omega)) (by have := hEQ.1; omega) (by omega) dW_compare_48 ?_
        refine lv_aload_n hx hb dW_compare_49 rfl (lv_at hl 1 rfl) ?_
        refine va_get (D := D) (ci := 4) (v := .ref w2) (C := R_W) (T := T_W) (N := 3) hx hb hT in_W hown hK hP 2 rfl rfl 0 (by decide) (hT _ w145) (fun _ h9 => h9) rfl dW_compare_50 ?_
        refine lv_iload_n hx hb dW_compare_53 rfl (lv_at hl 3 rfl) ?_
        refine lq_iald (j := k - 1) hx hb hK hP 3 0 rfl rfl (nI_sub1 (by omega)) (by have := hEQ.1; omega) (by omega) dW_compare_54 ?_
        refine ro_i (va_Run.run (va_runS (As := [.int (f (k - 1)), .int (f2 (k - 1))]) (rest := []) ⟨hx, hb, hml, hown, hT⟩ (k_icmp l D cT (f (k - 1)) (f2 (k - 1))) ⟨callB_of 2 hT (tb_gd w492) rfl rfl rfl (hT _ w28) (hT _ w490) hIn_compare ⟨Nat.le_of_ble_eq_true rfl, Nat.le_of_ble_eq_true rfl⟩, (hT _ w491)⟩ (RO.preS hZ hS ((show va_P D vwCl [] _ from fun _ _ h => nomatch h)) hK) rfl rfl hl.1 rfl (lv_room (Nat.le_of_ble_eq_true rfl)) dW_compare_55 ⟨Nat.le_of_ble_eq_true rfl, Nat.le_of_ble_eq_true rfl⟩)) ?_
        refine lv_istore_n hx hb dW_compare_58 rfl hl (by decide) rfl (fun ls hl => ?_)
        have hl : lv_has ls 4 [(2, .int (ic (f (k - 1)) (f2 (k - 1)))), (0, .ref h), (1, .ref x2), (3, .int (nI k - 1))] := hl
        refine lv_iinc (k := 3) (v := nI (k - 1) - 1) hx hb dW_compare_59 hl rfl (dn_m1 (by omega)) (by decide) rfl (fun ls hl => ?_)
        have hl : lv_has ls 4 [(3, .int (nI (k - 1) - 1)), (2, .int (ic (f (k - 1)) (f2 (k - 1)))), (0, .ref h), (1, .ref x2)] := hl
        refine lv_goto (tgt := 35) hx hb dW_compare_62 rfl ?_
        exact ih35 (k - 1, ic (f (k - 1)) (f2 (k - 1))) (show (k - 1) ≤ K ∧ ((ic (f (k - 1)) (f2 (k - 1))) = 0 → K = K2 ∧ hv 1000000000 (dg f) (k - 1) (K - (k - 1)) = hv 1000000000 (dg f2) (k - 1) (K - (k - 1))) ∧ (¬ (ic (f (k - 1)) (f2 (k - 1))) = 0 → (ic (f (k - 1)) (f2 (k - 1))) = cn (vW f K) (vW f2 K2)) from ⟨by omega, fun q => ⟨hEQ.1, cmp_dig0 (by omega) ik hEQ.2 q⟩, cmp_dig hEQ.1 (by omega) ik hd qhd hEQ.2⟩) (show (k - 1) < k from (by omega)) ls (lv_sub hl [2, 3, 1, 0] rfl)
set_option maxHeartbeats 4000000 in
set_option maxRecDepth 100000 in
theorem k_complement (l : Launch) (D : va_G) (cT : Nat → ClassId) (h : Nat) (w : Nat) (R : Nat) (n : Int32) (b : Int32) (f : Nat → Int32) (k0 : Nat) (hR : R ≤ 48) (hk0 : k0 ≤ R) (hd : dok 1000000000 f k0) (hb01 : b = 0 ∨ b = 1) (sz : Nat) : Met l yW_complement WW_complement ({ frames := 0, cells := 0, slots := 0, locals := 0 } : Room) (RW D vwCl [.ref h, .int (nI k0)] [(h, .inr (4, [.ref w, .int n, .int b])), (w, .inl (cT 0, R, .inl f))] (TY cT) sz) (va_Qv (fun u9 : Int32 × (Nat → Int32) => dok 1000000000 u9.2 k0 ∧ (0 < vW f k0 → vW u9.2 k0 = 1000000000 ^ k0 - vW f k0) ∧ u9.1 = fl b) (BW D vwCl (va_A [(h, .inr (4, [.ref w, .int n, .int b])), (w, .inl (cT 0, R, .inl f))] sz) (fun u9 : Int32 × (Nat → Int32) => [(h, .inr (4, [.ref w, .int n, .int u9.1])), (w, .inl (cT 0, R, .inl u9.2))])) (va_A [(h, .inr (4, [.ref w, .int n, .int b])), (w, .inl (cT 0, R, .inl f))] sz)) 0 0 (va_A [(h, .inr (4, [.ref w, .int n, .int b])), (w, .inl (cT 0, R, .inl f))] sz) := by
  refine Met.ofW (cc := cW_complement) (maxL := 5) (ret := none) (by decide) rfl ?_
  intro p e s m args below meth c s₁ B hml hv
  obtain ⟨rfl, hsz, hZ, hP, hK, hD0⟩ := hv
  have hx := B.exec
  have hb := B.bytes
  have hr := B.returns
  have hts := atoms_spec (ws := WW_complement) B.pre
  have hT : ∀ w ∈ TB, w.before _ s = true := fun w h => hts w (List.mem_cons_of_mem _ h)
  have hown : s.vm.findClass R_W = some m.cls := findClass_of_methodNamed B.named
  have hlocks := B.notSynchronized
  subst hsz
  have hD := hD0.self (sz := s.heap.size)
  generalize hAe : va_A [(h, .inr (4, [.ref w, .int n, .int b])), (w, .inl (cT 0, R, .inl f))] s.heap.size = A at hD hZ ⊢
  have hA : ∀ q : Nat, s.heap.size ≤ q → A q := fun q h => by rw [← hAe]; exact Or.inr h
  have hS : va_S A s.heap s.heap [] := va_S.rf
  have hl := lv_entry ([.ref h, .int (nI k0)]) (n := 5) (Nat.le_of_ble_eq_true rfl)
  rw [lg_entry_eq]
  generalize (lg_sl ([.ref h, .int (nI k0)]) ++ List.replicate (5 - (lg_sl ([.ref h, .int (nI k0)])).length) Slot.unset).toArray = ls at hl ⊢
  have hl : lv_has ls 5 [(0, .ref h), (1, .int (nI k0))] := hl
  refine lv_iconst (v := 0) hx hb dW_complement_0 (by decide) ?_
  refine lv_istore_n hx hb dW_complement_1 rfl hl (by decide) rfl (fun ls hl => ?_)
  have hl : lv_has ls 5 [(2, .int 0), (0, .ref h), (1, .int (nI k0))] := hl
  refine lv_iconst (v := 0) hx hb dW_complement_2 (by decide) ?_
  refine lv_istore_n hx hb dW_complement_3 rfl hl (by decide) rfl (fun ls hl => ?_)
  have hl : lv_has ls 5 [(3, .int 0), (2, .int 0), (0, .ref h), (1, .int (nI k0))] := hl
  refine lp_w (α := Nat × Nat × (Nat → Int32)) (fun a9 => a9.1 ≤ k0 ∧ a9.2.1 ≤ 1 ∧ dok 1000000000 a9.2.2 a9.1 ∧ (∀ m, a9.1 ≤ m → a9.2.2 m = f m) ∧ hv 1000000000 (dg a9.2.2) 0 a9.1 + hv 1000000000 (dg f) 0 a9.1 = a9.2.1 * 1000000000 ^ a9.1) (fun a9 => k0 - a9.1) (fun a9 => [(0, .ref h), (1, .int (nI k0)), (2, .int (nI a9.2.1)), (3, .int (nI a9.1))]) (fun a9 => [(h, .inr (4, [.ref w, .int n, .int b])), (w, .inl (cT 0, R, .inl a9.2.2))]) 4 ?_ (0, 0, f) (show 0 ≤ k0 ∧ 0 ≤ 1 ∧ dok 1000000000 f 0 ∧ (∀ m, 0 ≤ m → f m = f m) ∧ hv 1000000000 (dg f) 0 0 + hv 1000000000 (dg f) 0 0 = 0 * 1000000000 ^ 0 from ⟨by omega, by omega, fun q h => absurd h (by omega), fun _ _ => rfl, by simp [hv]⟩) (lv_sub hl [2, 3, 1, 0] rfl) hP hD hS
  intro a9 hI4 ih4 ls H locs hl hP hD hS
  obtain ⟨j, o, g⟩ := a9
  have hI4 : j ≤ k0 ∧ o ≤ 1 ∧ dok 1000000000 g j ∧ (∀ m, j ≤ m → g m = f m) ∧ hv 1000000000 (dg g) 0 j + hv 1000000000 (dg f) 0 j = o * 1000000000 ^ j := hI4
  obtain ⟨ij, io, ig, if0, iv⟩ := hI4
  have hl : lv_has ls 5 [(0, .ref h), (1, .int (nI k0)), (2, .int (nI o)), (3, .int (nI j))] := hl
  have hP : va_P D vwCl [(h, .inr (4, [.ref w, .int n, .int b])), (w, .inl (cT 0, R, .inl g))] _ := hP
  have hD : va_D A [(h, .inr (4, [.ref w, .int n, .int b])), (w, .inl (cT 0, R, .inl g))] := hD
  refine lv_iload_n hx hb dW_complement_4 rfl (lv_at hl 3 rfl) ?_
  refine lv_iload_n hx hb dW_complement_5 rfl (lv_at hl 1 rfl) ?_
  refine lv_icmp_ge (tgt := 59) hx hb dW_complement_6 rfl (fun h1 => ?_) (fun h1 => ?_)
  · have gh1 : k0 ≤ j := (nI_leI (a := k0) (b := j) (by omega) (by omega)).mp h1
    have ej : j = k0 := by omega
    subst ej
    have iv : vW g j + vW f j = o * 1000000000 ^ j := iv
    have hl : lv_has ls 5 [(0, .ref h), (1, .int (nI j)), (2, .int (nI o)), (3, .int (nI j))] := hl
    refine lv_aload_n hx hb dW_complement_59 rfl (lv_at hl 0 rfl) ?_
    refine lv_aload_n hx hb dW_complement_60 rfl (lv_at hl 0 rfl) ?_
    refine va_get (D := D) (ci := 4) (v := .int b) (C := R_W) (T := T_W) (N := 3) hx hb hT in_W hown hK hP 0 rfl rfl 2 (by decide) (hT _ w149) (fun _ h9 => h9) rfl dW_complement_61 ?_
    refine lv_if_ne (tgt := 71) hx hb dW_complement_64 rfl (fun h2 => ?_) (fun h2 => ?_)
    · refine lv_iconst (v := 0) hx hb dW_complement_71 (by decide) ?_
      refine va_put (D := D) (ci := 4) (v := .int 0) (ty := .boolean) (C := R_W) (T := T_W) (N := 3) hx hb hT in_W ty_W ty_W_ok m_W hown hK hP hD hS 0 rfl rfl 2 (by decide) (hT _ w149) (fun _ h9 => h9) rfl (by decide +kernel) rfl rfl (Nat.le_of_ble_eq_true rfl) dW_complement_72 (fun H locs hP hD hS => ?_)
      have hP : va_P D vwCl [(h, .inr (4, [.ref w, .int n, .int 0])), (w, .inl (cT 0, R, .inl g))] _ := hP
      have hD : va_D A [(h, .inr (4, [.ref w, .int n, .int 0])), (w, .inl (cT 0, R, .inl g))] := hD
      have hP9 := hP.sub (ws' := [(h, .inr (4, [.ref w, .int n, .int 0])), (w, .inl (cT 0, R, .inl g))]) [0, 1] rfl
      have hD9 := hD.sub (ws' := [(h, .inr (4, [.ref w, .int n, .int 0])), (w, .inl (cT 0, R, .inl g))]) [0, 1] (by decide) rfl
      refine W.widen (k := 0) (n := 0) (Nat.le_of_ble_eq_true rfl) (Nat.le_of_ble_eq_true rfl) ?_
      exact W.vret hx hb hr (fun t9 ht9 hW9 => ⟨⟨(0, g), rfl, (show dok 1000000000 g j ∧ (0 < vW f j → vW g j = 1000000000 ^ j - vW f j) ∧ 0 = fl b from ⟨ig, fun q => (by rcases (show o = 0 ∨ o = 1 by omega) with r | r; (rw [r, Nat.zero_mul] at iv; omega); (rw [r, Nat.one_mul] at iv; omega)), by unfold fl; rw [if_neg h2]⟩), by rw [ht9]; exact hP9, hD9⟩, hS.F ht9⟩) hS.2.2 dW_complement_75
    · refine lv_iconst (v := 1) hx hb dW_complement_67 (by decide) ?_
      refine lv_goto (tgt := 72) hx hb dW_complement_68 rfl ?_
      refine va_put (D := D) (ci := 4) (v := .int 1) (ty := .boolean) (C := R_W) (T := T_W) (N := 3) hx hb hT in_W ty_W ty_W_ok m_W hown hK hP hD hS 0 rfl rfl 2 (by decide) (hT _ w149) (fun _ h9 => h9) rfl (by decide +kernel) rfl rfl (Nat.le_of_ble_eq_true rfl) dW_complement_72 (fun H locs hP hD hS => ?_)
      have hP : va_P D vwCl [(h, .inr (4, [.ref w, .int n, .int 1])), (w, .inl (cT 0, R, .inl g))] _ := hP
      have hD : va_D A [(h, .inr (4, [.ref w, .int n, .int 1])), (w, .inl (cT 0, R, .inl g))] := hD
      have hP9 := hP.sub (ws' := [(h, .inr (4, [.ref w, .int n, .int 1])), (w, .inl (cT 0, R, .inl g))]) [0, 1] rfl
      have hD9 := hD.sub (ws' := [(h, .inr (4, [.ref w, .int n, .int 1])), (w, .inl (cT 0, R, .inl g))]) [0, 1] (by decide) rfl
      refine W.widen (k := 0) (n := 0) (Nat.le_of_ble_eq_true rfl) (Nat.le_of_ble_eq_true rfl) ?_
      exact W.vret hx hb hr (fun t9 ht9 hW9 => ⟨⟨(1, g), rfl, (show dok 1000000000 g j ∧ (0 < vW f j → vW g j = 1000000000 ^ j - vW f j) ∧ 1 = fl b from ⟨ig, fun q => (by rcases (show o = 0 ∨ o = 1 by omega) with r | r; (rw [r, Nat.zero_mul] at iv; omega); (rw [r, Nat.one_mul] at iv; omega)), by unfold fl; rw [if_pos h2]⟩), by rw [ht9]; exact hP9, hD9⟩, hS.F ht9⟩) hS.2.2 dW_complement_75
  · have gh1 : j < k0 := Nat.not_le.mp (fun q => h1 ((nI_leI (a := k0) (b := j) (by omega) (by omega)).mpr q))
    refine lv_iload_n hx hb dW_complement_9 rfl (lv_at hl 3 rfl) ?_
    refine lv_aload_n hx hb dW_complement_10 rfl (lv_at hl 0 rfl) ?_
    refine va_get (D := D) (ci := 4) (v := .ref w) (C := R_W) (T := T_W) (N := 3) hx hb hT in_W hown hK hP 0 rfl rfl 0 (by decide) (hT _ w145) (fun _ h9 => h9) rfl dW_complement_11 ?_
    refine va_alen (v := nI R) hx hb hK hP 1 0 rfl rfl rfl dW_complement_14 ?_
    refine lv_icmp_ge (tgt := 59) hx hb dW_complement_15 rfl (fun h3 => ?_) (fun h3 => ?_)
    · have gh3 : R ≤ j := (nI_leI (a := R) (b := j) (by omega) (by omega)).mp h3
      have ej : j = k0 := by omega
      subst ej
      have iv : vW g j + vW f j = o * 1000000000 ^ j := iv
      have hl : lv_has ls 5 [(0, .ref h), (1, .int (nI j)), (2, .int (nI o)), (3, .int (nI j))] := hl
      refine lv_aload_n hx hb dW_complement_59 rfl (lv_at hl 0 rfl) ?_
      refine lv_aload_n hx hb dW_complement_60 rfl (lv_at hl 0 rfl) ?_
      refine va_get (D := D) (ci := 4) (v := .int b) (C := R_W) (T := T_W) (N := 3) hx hb hT in_W hown hK hP 0 rfl rfl 2 (by decide) (hT _ w149) (fun _ h9 => h9) rfl dW_complement_61 ?_
      refine lv_if_ne (tgt := 71) hx hb dW_complement_64 rfl (fun h4 => ?_) (fun h4 => ?_)
      · refine lv_iconst (v := 0) hx hb dW_complement_71 (by decide) ?_
        refine va_put (D := D) (ci := 4) (v := .int 0) (ty := .boolean) (C := R_W) (T := T_W) (N := 3) hx hb hT in_W ty_W ty_W_ok m_W hown hK hP hD hS 0 rfl rfl 2 (by decide) (hT _ w149) (fun _ h9 => h9) rfl (by decide +kernel) rfl rfl (Nat.le_of_ble_eq_true rfl) dW_complement_72 (fun H locs hP hD hS => ?_)
        have hP : va_P D vwCl [(h, .inr (4, [.ref w, .int n, .int 0])), (w, .inl (cT 0, R, .inl g))] _ := hP
        have hD : va_D A [(h, .inr (4, [.ref w, .int n, .int 0])), (w, .inl (cT 0, R, .inl g))] := hD
        have hP9 := hP.sub (ws' := [(h, .inr (4, [.ref w, .int n, .int 0])), (w, .inl (cT 0, R, .inl g))]) [0, 1] rfl
        have hD9 := hD.sub (ws' := [(h, .inr (4, [.ref w, .int n, .int 0])), (w, .inl (cT 0, R, .inl g))]) [0, 1] (by decide) rfl
        refine W.widen (k := 0) (n := 0) (Nat.le_of_ble_eq_true rfl) (Nat.le_of_ble_eq_true rfl) ?_
        exact W.vret hx hb hr (fun t9 ht9 hW9 => ⟨⟨(0, g), rfl, (show dok 1000000000 g j ∧ (0 < vW f j → vW g j = 1000000000 ^ j - vW f j) ∧ 0 = fl b from ⟨ig, fun q => (by rcases (show o = 0 ∨ o = 1 by omega) with r | r; (rw [r, Nat.zero_mul] at iv; omega); (rw [r, Nat.one_mul] at iv; omega)), by unfold fl; rw [if_neg h4]⟩), by rw [ht9]; exact hP9, hD9⟩, hS.F ht9⟩) hS.2.2 dW_complement_75
      · refine lv_iconst (v := 1) hx hb dW_complement_67 (by decide) ?_
        refine lv_goto (tgt := 72) hx hb dW_complement_68 rfl ?_
        refine va_put (D := D) (ci := 4) (v := .int 1) (ty := .boolean) (C := R_W) (T := T_W) (N := 3) hx hb hT in_W ty_W ty_W_ok m_W hown hK hP hD hS 0 rfl rfl 2 (by decide) (hT _ w149) (fun _ h9 => h9) rfl (by decide +kernel) rfl rfl (Nat.le_of_ble_eq_true rfl) dW_complement_72 (fun H locs hP hD hS => ?_)
        have hP : va_P D vwCl [(h, .inr (4, [.ref w, .int n, .int 1])), (w, .inl (cT 0, R, .inl g))] _ := hP
        have hD : va_D A [(h, .inr (4, [.ref w, .int n, .int 1])), (w, .inl (cT 0, R, .inl g))] := hD
        have hP9 := hP.sub (ws' := [(h, .inr (4, [.ref w, .int n, .int 1])), (w, .inl (cT 0, R, .inl g))]) [0, 1] rfl
        have hD9 := hD.sub (ws' := [(h, .inr (4, [.ref w, .int n, .int 1])), (w, .inl (cT 0, R, .inl g))]) [0, 1] (by decide) rfl
        refine W.widen (k := 0) (n := 0) (Nat.le_of_ble_eq_true rfl) (Nat.le_of_ble_eq_true rfl) ?_
        exact W.vret hx hb hr (fun t9 ht9 hW9 => ⟨⟨(1, g), rfl, (show dok 1000000000 g j ∧ (0 < vW f j → vW g j = 1000000000 ^ j - vW f j) ∧ 1 = fl b from ⟨ig, fun q => (by rcases (show o = 0 ∨ o = 1 by omega) with r | r; (rw [r, Nat.zero_mul] at iv; omega); (rw [r, Nat.one_mul] at iv; omega)), by unfold fl; rw [if_pos h4]⟩), by rw [ht9]; exact hP9, hD9⟩, hS.F ht9⟩) hS.2.2 dW_complement_75
    · have gh3 : j < R := Nat.not_le.mp (fun q => h3 ((nI_leI (a := R) (b := j) (by omega) (by omega)).mpr q))
      have hw := hd j (by omega)
      obtain ⟨d1, hd1⟩ : ∃ q9 : Nat, q9 = dg f j := ⟨_, rfl⟩
      have hd1b : d1 < 1000000000 := by rw [hd1]; exact hw.2
      rw [← hd1] at hw
      refine lv_aload_n hx hb dW_complement_18 rfl (lv_at hl 0 rfl) ?_
      refine va_get (D := D) (ci := 4) (v := .ref w) (C := R_W) (T := T_W) (N := 3) hx hb hT in_W hown hK hP 0 rfl rfl 0 (by decide) (hT _ w145) (fun _ h9 => h9) rfl dW_complement_19 ?_
      refine lv_iload_n hx hb dW_complement_22 rfl (lv_at hl 3 rfl) ?_
      refine lq_iald (j := j) hx hb hK hP 1 0 rfl rfl rfl (by omega) (by omega) dW_complement_23 ?_
      refine lv_topi (fun y9 e9 => ?_)
      cases (show y9 = nI d1 from e9.trans ((if0 j (Nat.le_refl _)).trans hw.1))
      refine lv_ineg hx hb dW_complement_24 ?_
      refine lv_iload_n hx hb dW_complement_25 rfl (lv_at hl 2 rfl) ?_
      refine lv_isub hx hb dW_complement_26 ?_
      refine lv_topi (fun y9 e9 => ?_)
      cases (show y9 = -(nI (d1 + o)) from e9.trans (ng_add d1 o))
      refine lv_istore hx hb dW_complement_27 hl (by decide) rfl (fun ls hl => ?_)
      have hl : lv_has ls 5 [(4, .int (-(nI (d1 + o)))), (0, .ref h), (1, .int (nI k0)), (2, .int (nI o)), (3, .int (nI j))] := hl
      refine lv_iload hx hb dW_complement_29 (lv_at hl 0 rfl) ?_
      refine lv_if_ge (tgt := 38) hx hb dW_complement_31 rfl (fun h5 => ?_) (fun h5 => ?_)
      · have gd : d1 + o = 0 := (ng_ge (by omega)).mp h5
        obtain ⟨e1, he1⟩ : ∃ q9 : Nat, q9 = 0 := ⟨_, rfl⟩
        have he1b : e1 < 1000000000 := by omega
        refine lv_iconst (v := 0) hx hb dW_complement_38 (by decide) ?_
        refine lv_istore_n hx hb dW_complement_39 rfl hl (by decide) rfl (fun ls hl => ?_)
        have hl : lv_has ls 5 [(2, .int 0), (4, .int (-(nI (d1 + o)))), (0, .ref h), (1, .int (nI k0)), (3, .int (nI j))] := hl
        refine lv_aload_n hx hb dW_complement_40 rfl (lv_at hl 2 rfl) ?_
        refine va_get (D := D) (ci := 4) (v := .ref w) (C := R_W) (T := T_W) (N := 3) hx hb hT in_W hown hK hP 0 rfl rfl 0 (by decide) (hT _ w145) (fun _ h9 => h9) rfl dW_complement_41 ?_
        refine lv_iload_n hx hb dW_complement_44 rfl (lv_at hl 4 rfl) ?_
        refine lv_iload hx hb dW_complement_45 (lv_at hl 1 rfl) ?_
        refine lv_iload_n hx hb dW_complement_47 rfl (lv_at hl 0 rfl) ?_
        refine lv_ldc (v := 1000000000) hx hb hown (hT _ w462) dW_complement_48 ?_
        refine lv_imul hx hb dW_complement_50 ?_
        refine lv_topi (fun y9 e9 => ?_)
        cases (show y9 = 0 from e9.trans (by decide))
        refine lv_iadd hx hb dW_complement_51 ?_
        refine lv_topi (fun y9 e9 => ?_)
        cases (show y9 = nI e1 from e9.trans (by rw [he1, gd]; decide))
        refine lq_iast (j := j) hx hb hK hP hD hS 1 0 rfl rfl rfl (by omega) (by omega) dW_complement_52 (fun H locs hP hD hS => ?_)
        have hP : va_P D vwCl [(h, .inr (4, [.ref w, .int n, .int b])), (w, .inl (cT 0, R, .inl (upd g j (nI e1))))] _ := hP
        have hD : va_D A [(h, .inr (4, [.ref w, .int n, .int b])), (w, .inl (cT 0, R, .inl (upd g j (nI e1))))] := hD
        refine lv_iinc (k := 4) (v := nI (j + 1)) hx hb dW_complement_53 hl rfl (nI_1 j) (by decide) rfl (fun ls hl => ?_)
        have hl : lv_has ls 5 [(3, .int (nI (j + 1))), (2, .int 0), (4, .int (-(nI (d1 + o)))), (0, .ref h), (1, .int (nI k0))] := hl
        refine lv_goto (tgt := 4) hx hb dW_complement_56 rfl ?_
        exact ih4 (j + 1, 0, upd g j (nI e1)) (show (j + 1) ≤ k0 ∧ 0 ≤ 1 ∧ dok 1000000000 (upd g j (nI e1)) (j + 1) ∧ (∀ m, (j + 1) ≤ m → (upd g j (nI e1)) m = f m) ∧ hv 1000000000 (dg (upd g j (nI e1))) 0 (j + 1) + hv 1000000000 (dg f) 0 (j + 1) = 0 * 1000000000 ^ (j + 1) from ⟨by omega, by omega, dok_s ig he1b (by decide), fun q h => (pk_un (by omega)).trans (if0 q (by omega)), by rw [hv_us (v := e1) (by omega), hv_snoc, Nat.zero_add, Nat.pow_succ]; exact cpl_s iv (by omega)⟩) (show k0 - (j + 1) < k0 - j from (by omega)) ls H locs (lv_sub hl [3, 4, 1, 0] rfl) hP hD hS
      · have gd : 0 < d1 + o := Nat.pos_of_ne_zero (fun q => h5 ((ng_ge (by omega)).mpr q))
        obtain ⟨e1, he1⟩ : ∃ q9 : Nat, q9 = 1000000000 - (d1 + o) := ⟨_, rfl⟩
        have he1b : e1 < 1000000000 := by omega
        refine lv_iconst (v := 1) hx hb dW_complement_34 (by decide) ?_
        refine lv_goto (tgt := 39) hx hb dW_complement_35 rfl ?_
        refine lv_istore_n hx hb dW_complement_39 rfl hl (by decide) rfl (fun ls hl => ?_)
        have hl : lv_has ls 5 [(2, .int 1), (4, .int (-(nI (d1 + o)))), (0, .ref h), (1, .int (nI k0)), (3, .int (nI j))] := hl
        refine lv_aload_n hx hb dW_complement_40 rfl (lv_at hl 2 rfl) ?_
        refine va_get (D := D) (ci := 4) (v := .ref w) (C := R_W) (T := T_W) (N := 3) hx hb hT in_W hown hK hP 0 rfl rfl 0 (by decide) (hT _ w145) (fun _ h9 => h9) rfl dW_complement_41 ?_
        refine lv_iload_n hx hb dW_complement_44 rfl (lv_at hl 4 rfl) ?_
        refine lv_iload hx hb dW_complement_45 (lv_at hl 1 rfl) ?_
        refine lv_iload_n hx hb dW_complement_47 rfl (lv_at hl 0 rfl) ?_
        refine lv_ldc (v := 1000000000) hx hb hown (hT _ w462) dW_complement_48 ?_
        refine lv_imul hx hb dW_complement_50 ?_
        refine lv_topi (fun y9 e9 => ?_)
        cases (show y9 = 1000000000 from e9.trans (by decide))
        refine lv_iadd hx hb dW_complement_51 ?_
        refine lv_topi (fun y9 e9 => ?_)
        cases (show y9 = nI e1 from e9.trans (by rw [he1]; exact ng_up (n := 1000000000) (by omega)))
        refine lq_iast (j := j) hx hb hK hP hD hS 1 0 rfl rfl rfl (by omega) (by omega) dW_complement_52 (fun H locs hP hD hS => ?_)
        have hP : va_P D vwCl [(h, .inr (4, [.ref w, .int n, .int b])), (w, .inl (cT 0, R, .inl (upd g j (nI e1))))] _ := hP
        have hD : va_D A [(h, .inr (4, [.ref w, .int n, .int b])), (w, .inl (cT 0, R, .inl (upd g j (nI e1))))] := hD
        refine lv_iinc (k := 4) (v := nI (j + 1)) hx hb dW_complement_53 hl rfl (nI_1 j) (by decide) rfl (fun ls hl => ?_)
        have hl : lv_has ls 5 [(3, .int (nI (j + 1))), (2, .int 1), (4, .int (-(nI (d1 + o)))), (0, .ref h), (1, .int (nI k0))] := hl
        refine lv_goto (tgt := 4) hx hb dW_complement_56 rfl ?_
        exact ih4 (j + 1, 1, upd g j (nI e1)) (show (j + 1) ≤ k0 ∧ 1 ≤ 1 ∧ dok 1000000000 (upd g j (nI e1)) (j + 1) ∧ (∀ m, (j + 1) ≤ m → (upd g j (nI e1)) m = f m) ∧ hv 1000000000 (dg (upd g j (nI e1))) 0 (j + 1) + hv 1000000000 (dg f) 0 (j + 1) = 1 * 1000000000 ^ (j + 1) from ⟨by omega, by omega, dok_s ig he1b (by decide), fun q h => (pk_un (by omega)).trans (if0 q (by omega)), by rw [hv_us (v := e1) (by omega), hv_snoc, Nat.zero_add, Nat.pow_succ]; exact cpl_s iv (by omega)⟩) (show k0 - (j + 1) < k0 - j from (by omega)) ls H locs (lv_sub hl [3, 4, 1, 0] rfl) hP hD hS
set_option maxHeartbeats 4000000 in
set_option maxRecDepth 100000 in
theorem k_setW (l : Launch) (D : va_G) (cT : Nat → ClassId) (h : Nat) (w : Nat) (R : Nat) (n : Int32) (b : Int32) (f : Nat → Int32) (x2 : Nat) (w2 : Nat) (R2 : Nat) (n2 : Int32) (b2 : Int32) (f2 : Nat → Int32) (z2 : Int) (hR : R ≤ 48) (hR2 : R2 ≤ 48) (hN2 : WN R2 n2 b2 f2 z2) (hfit : z2.natAbs < 1000000000 ^ R) (sz : Nat) : Met l yW_setb WW_setb ({ frames := 1, cells := 0, slots := 0, locals := 40 } : Room) (RW D vwCl [.ref h, .ref x2] [(h, .inr (4, [.ref w, .int n, .int b])), (w, .inl (cT 0, R, .inl f)), (x2, .inr (4, [.ref w2, .int n2, .int b2])), (w2, .inl (cT 0, R2, .inl f2))] (TY cT) sz) (va_Qv (fun u9 : (Nat → Int32) => WN R n2 b2 u9 z2) (BW D vwCl (va_A [(h, .inr (4, [.ref w, .int n, .int b])), (w, .inl (cT 0, R, .inl f)), (x2, .inr (4, [.ref w2, .int n2, .int b2])), (w2, .inl (cT 0, R2, .inl f2))] sz) (fun u9 : (Nat → Int32) => [(h, .inr (4, [.ref w, .int n2, .int b2])), (w, .inl (cT 0, R, .inl u9)), (x2, .inr (4, [.ref w2, .int n2, .int b2])), (w2, .inl (cT 0, R2, .inl f2))])) (va_A [(h, .inr (4, [.ref w, .int n, .int b])), (w, .inl (cT 0, R, .inl f)), (x2, .inr (4, [.ref w2, .int n2, .int b2])), (w2, .inl (cT 0, R2, .inl f2))] sz)) 0 0 (va_A [(h, .inr (4, [.ref w, .int n, .int b])), (w, .inl (cT 0, R, .inl f)), (x2, .inr (4, [.ref w2, .int n2, .int b2])), (w2, .inl (cT 0, R2, .inl f2))] sz) := by
  refine Met.ofW (cc := cW_setb) (maxL := 2) (ret := none) (by decide) rfl ?_
  intro p e s m args below meth c s₁ B hml hv
  obtain ⟨rfl, hsz, hZ, hP, hK, hD0⟩ := hv
  have hx := B.exec
  have hb := B.bytes
  have hr := B.returns
  have hts := atoms_spec (ws := WW_setb) B.pre
  have hT : ∀ w ∈ TB, w.before _ s = true := fun w h => hts w (List.mem_cons_of_mem _ h)
  have hown : s.vm.findClass R_W = some m.cls := findClass_of_methodNamed B.named
  have hlocks := B.notSynchronized
  subst hsz
  have hD := hD0.self (sz := s.heap.size)
  generalize hAe : va_A [(h, .inr (4, [.ref w, .int n, .int b])), (w, .inl (cT 0, R, .inl f)), (x2, .inr (4, [.ref w2, .int n2, .int b2])), (w2, .inl (cT 0, R2, .inl f2))] s.heap.size = A at hD hZ ⊢
  have hA : ∀ q : Nat, s.heap.size ≤ q → A q := fun q h => by rw [← hAe]; exact Or.inr h
  have hS : va_S A s.heap s.heap [] := va_S.rf
  have hl := lv_entry ([.ref h, .ref x2]) (n := 2) (Nat.le_of_ble_eq_true rfl)
  rw [lg_entry_eq]
  generalize (lg_sl ([.ref h, .ref x2]) ++ List.replicate (2 - (lg_sl ([.ref h, .ref x2])).length) Slot.unset).toArray = ls at hl ⊢
  have hl : lv_has ls 2 [(0, .ref h), (1, .ref x2)] := hl
  obtain ⟨K, rfl, hk, hd, htop, hb01, hz⟩ := hN2
  have hP : va_P D vwCl [(h, .inr (4, [.ref w, .int n, .int b])), (w, .inl (cT 0, R, .inl f)), (x2, .inr (4, [.ref w2, .int (nI K), .int b2])), (w2, .inl (cT 0, R2, .inl f2))] _ := hP
  have hD : va_D A [(h, .inr (4, [.ref w, .int n, .int b])), (w, .inl (cT 0, R, .inl f)), (x2, .inr (4, [.ref w2, .int (nI K), .int b2])), (w2, .inl (cT 0, R2, .inl f2))] := hD
  have hKR : K ≤ R := K_le htop (by rw [hz, wz_abs] at hfit; exact hfit)
  refine lv_aload_n hx hb dW_setb_0 rfl (lv_at hl 0 rfl) ?_
  refine lv_aload_n hx hb dW_setb_1 rfl (lv_at hl 1 rfl) ?_
  refine va_get (D := D) (ci := 4) (v := .int (nI K)) (C := R_W) (T := T_W) (N := 3) hx hb hT in_W hown hK hP 2 rfl rfl 1 (by decide) (hT _ w148) (fun _ h9 => h9) rfl dW_setb_2 ?_
  refine lv_aload_n hx hb dW_setb_5 rfl (lv_at hl 0 rfl) ?_
  refine va_get (D := D) (ci := 4) (v := .ref w) (C := R_W) (T := T_W) (N := 3) hx hb hT in_W hown hK hP 0 rfl rfl 0 (by decide) (hT _ w145) (fun _ h9 => h9) rfl dW_setb_6 ?_
  refine va_alen (v := nI R) hx hb hK hP 1 0 rfl rfl rfl dW_setb_9 ?_
  refine va_mmin hx hb (hml.trans hl.1.symm) hown (hT _ w447) (hT _ w448) (hT _ w22) (hT _ w449) (Nat.le_of_ble_eq_true rfl) (Nat.le_of_ble_eq_true rfl) (Nat.le_of_ble_eq_true rfl) (Nat.le_of_ble_eq_true rfl) dW_setb_10 ?_
  refine lv_topi (fun y9 e9 => ?_)
  cases (show y9 = nI (min K R) from e9.trans (mmin_nI (a := K) (b := R) (by omega) (by omega)))
  refine lv_topi (fun y9 e9 => ?_)
  cases (show y9 = nI K from e9.trans (congrArg nI (Nat.min_eq_left hKR)))
  refine va_put (D := D) (ci := 4) (v := .int (nI K)) (ty := .int) (C := R_W) (T := T_W) (N := 3) hx hb hT in_W ty_W ty_W_ok m_W hown hK hP hD hS 0 rfl rfl 1 (by decide) (hT _ w148) (fun _ h9 => h9) rfl (by decide +kernel) rfl rfl (Nat.le_of_ble_eq_true rfl) dW_setb_13 (fun H locs hP hD hS => ?_)
  have hP : va_P D vwCl [(h, .inr (4, [.ref w, .int (nI K), .int b])), (w, .inl (cT 0, R, .inl f)), (x2, .inr (4, [.ref w2, .int (nI K), .int b2])), (w2, .inl (cT 0, R2, .inl f2))] _ := hP
  have hD : va_D A [(h, .inr (4, [.ref w, .int (nI K), .int b])), (w, .inl (cT 0, R, .inl f)), (x2, .inr (4, [.ref w2, .int (nI K), .int b2])), (w2, .inl (cT 0, R2, .inl f2))] := hD
  refine lv_aload_n hx hb dW_setb_16 rfl (lv_at hl 1 rfl) ?_
  refine va_get (D := D) (ci := 4) (v := .ref w2) (C := R_W) (T := T_W) (N := 3) hx hb hT in_W hown hK hP 2 rfl rfl 0 (by decide) (hT _ w145) (fun _ h9 => h9) rfl dW_setb_17 ?_
  refine lv_iconst (v := 0) hx hb dW_setb_20 (by decide) ?_
  refine lv_aload_n hx hb dW_setb_21 rfl (lv_at hl 0 rfl) ?_
  refine va_get (D := D) (ci := 4) (v := .ref w) (C := R_W) (T := T_W) (N := 3) hx hb hT in_W hown hK hP 0 rfl rfl 0 (by decide) (hT _ w145) (fun _ h9 => h9) rfl dW_setb_22 ?_
  refine lv_iconst (v := 0) hx hb dW_setb_25 (by decide) ?_
  refine lv_aload_n hx hb dW_setb_26 rfl (lv_at hl 0 rfl) ?_
  refine va_get (D := D) (ci := 4) (v := .int (nI K)) (C := R_W) (T := T_W) (N := 3) hx hb hT in_W hown hK hP 0 rfl rfl 1 (by decide) (hT _ w148) (fun _ h9 => h9) rfl dW_setb_27 ?_
  refine lq_copy (K := K) hx hb (hml.trans hl.1.symm) hown (hT _ w450) (hT _ w452) (hT _ w451) (hT _ w23) hK hP hD hS 3 1 0 rfl rfl rfl (by omega) (by omega) (by omega) (Nat.le_of_ble_eq_true rfl) (by decide) dW_setb_30 (fun H locs hP hD hS => ?_)
  have hP : va_P D vwCl [(h, .inr (4, [.ref w, .int (nI K), .int b])), (w, .inl (cT 0, R, .inl (va_cpy f2 f 0 0 K))), (x2, .inr (4, [.ref w2, .int (nI K), .int b2])), (w2, .inl (cT 0, R2, .inl f2))] _ := hP
  have hD : va_D A [(h, .inr (4, [.ref w, .int (nI K), .int b])), (w, .inl (cT 0, R, .inl (va_cpy f2 f 0 0 K))), (x2, .inr (4, [.ref w2, .int (nI K), .int b2])), (w2, .inl (cT 0, R2, .inl f2))] := hD
  refine lv_aload_n hx hb dW_setb_33 rfl (lv_at hl 0 rfl) ?_
  refine lv_aload_n hx hb dW_setb_34 rfl (lv_at hl 1 rfl) ?_
  refine va_get (D := D) (ci := 4) (v := .int b2) (C := R_W) (T := T_W) (N := 3) hx hb hT in_W hown hK hP 2 rfl rfl 2 (by decide) (hT _ w149) (fun _ h9 => h9) rfl dW_setb_35 ?_
  refine va_put (D := D) (ci := 4) (v := .int b2) (ty := .boolean) (C := R_W) (T := T_W) (N := 3) hx hb hT in_W ty_W ty_W_ok m_W hown hK hP hD hS 0 rfl rfl 2 (by decide) (hT _ w149) (fun _ h9 => h9) rfl (by decide +kernel) (bz01 hb01).1 (bz01 hb01).2 (Nat.le_of_ble_eq_true rfl) dW_setb_38 (fun H locs hP hD hS => ?_)
  have hP : va_P D vwCl [(h, .inr (4, [.ref w, .int (nI K), .int b2])), (w, .inl (cT 0, R, .inl (va_cpy f2 f 0 0 K))), (x2, .inr (4, [.ref w2, .int (nI K), .int b2])), (w2, .inl (cT 0, R2, .inl f2))] _ := hP
  have hD : va_D A [(h, .inr (4, [.ref w, .int (nI K), .int b2])), (w, .inl (cT 0, R, .inl (va_cpy f2 f 0 0 K))), (x2, .inr (4, [.ref w2, .int (nI K), .int b2])), (w2, .inl (cT 0, R2, .inl f2))] := hD
  have hP9 := hP.sub (ws' := [(h, .inr (4, [.ref w, .int (nI K), .int b2])), (w, .inl (cT 0, R, .inl (va_cpy f2 f 0 0 K))), (x2, .inr (4, [.ref w2, .int (nI K), .int b2])), (w2, .inl (cT 0, R2, .inl f2))]) [0, 1, 2, 3] rfl
  have hD9 := hD.sub (ws' := [(h, .inr (4, [.ref w, .int (nI K), .int b2])), (w, .inl (cT 0, R, .inl (va_cpy f2 f 0 0 K))), (x2, .inr (4, [.ref w2, .int (nI K), .int b2])), (w2, .inl (cT 0, R2, .inl f2))]) [0, 1, 2, 3] (by decide) rfl
  refine W.widen (k := 0) (n := 0) (Nat.le_of_ble_eq_true rfl) (Nat.le_of_ble_eq_true rfl) ?_
  exact W.vret hx hb hr (fun t9 ht9 hW9 => ⟨⟨(va_cpy f2 f 0 0 K), rfl, (show WN R (nI K) b2 (va_cpy f2 f 0 0 K) z2 from wn_cpy hKR hd htop hb01 hz), by rw [ht9]; exact hP9, hD9⟩, hS.F ht9⟩) hS.2.2 dW_setb_41
set_option maxHeartbeats 4000000 in
set_option maxRecDepth 100000 in
theorem k_plus0 (l : Launch) (D : va_G) (cT : Nat → ClassId) (h : Nat) (w : Nat) (R : Nat) (n : Int32) (b : Int32) (f : Nat → Int32) (z : Int) (x2 : Nat) (w2 : Nat) (R2 : Nat) (n2 : Int32) (b2 : Int32) (f2 : Nat → Int32) (z2 : Int) (hR : R ≤ 48) (hN : WN R n b f z) (hR2 : R2 ≤ 48) (hN2 : WN R2 n2 b2 f2 z2) (hfit : z.natAbs + z2.natAbs < 1000000000 ^ R) (sz : Nat) : Met l yW_plus WW_plus ({ frames := 1, cells := 0, slots := 0, locals := 24 } : Room) (RW D vwCl [.ref h, .ref x2, .int 0] [(h, .inr (4, [.ref w, .int n, .int b])), (w, .inl (cT 0, R, .inl f)), (x2, .inr (4, [.ref w2, .int n2, .int b2])), (w2, .inl (cT 0, R2, .inl f2))] (TY cT) sz) (va_Qv (fun u9 : Int32 × Int32 × (Nat → Int32) => WN R u9.1 u9.2.1 u9.2.2 (z + z2)) (BW D vwCl (va_A [(h, .inr (4, [.ref w, .int n, .int b])), (w, .inl (cT 0, R, .inl f)), (x2, .inr (4, [.ref w2, .int n2, .int b2])), (w2, .inl (cT 0, R2, .inl f2))] sz) (fun u9 : Int32 × Int32 × (Nat → Int32) => [(h, .inr (4, [.ref w, .int u9.1, .int u9.2.1])), (w, .inl (cT 0, R, .inl u9.2.2)), (x2, .inr (4, [.ref w2, .int n2, .int b2])), (w2, .inl (cT 0, R2, .inl f2))])) (va_A [(h, .inr (4, [.ref w, .int n, .int b])), (w, .inl (cT 0, R, .inl f)), (x2, .inr (4, [.ref w2, .int n2, .int b2])), (w2, .inl (cT 0, R2, .inl f2))] sz)) 0 0 (va_A [(h, .inr (4, [.ref w, .int n, .int b])), (w, .inl (cT 0, R, .inl f)), (x2, .inr (4, [.ref w2, .int n2, .int b2])), (w2, .inl (cT 0, R2, .inl f2))] sz) := by
  refine Met.ofW (cc := cW_plus) (maxL := 8) (ret := none) (by decide) rfl ?_
  intro p e s m args below meth c s₁ B hml hv
  obtain ⟨rfl, hsz, hZ, hP, hK, hD0⟩ := hv
  have hx := B.exec
  have hb := B.bytes
  have hr := B.returns
  have hts := atoms_spec (ws := WW_plus) B.pre
  have hT : ∀ w ∈ TB, w.before _ s = true := fun w h => hts w (List.mem_cons_of_mem _ h)
  have hown : s.vm.findClass R_W = some m.cls := findClass_of_methodNamed B.named
  have hlocks := B.notSynchronized
  subst hsz
  have hD := hD0.self (sz := s.heap.size)
  generalize hAe : va_A [(h, .inr (4, [.ref w, .int n, .int b])), (w, .inl (cT 0, R, .inl f)), (x2, .inr (4, [.ref w2, .int n2, .int b2])), (w2, .inl (cT 0, R2, .inl f2))] s.heap.size = A at hD hZ ⊢
  have hA : ∀ q : Nat, s.heap.size ≤ q → A q := fun q h => by rw [← hAe]; exact Or.inr h
  have hS : va_S A s.heap s.heap [] := va_S.rf
  have hl := lv_entry ([.ref h, .ref x2, .int 0]) (n := 8) (Nat.le_of_ble_eq_true rfl)
  rw [lg_entry_eq]
  generalize (lg_sl ([.ref h, .ref x2, .int 0]) ++ List.replicate (8 - (lg_sl ([.ref h, .ref x2, .int 0])).length) Slot.unset).toArray = ls at hl ⊢
  have hl : lv_has ls 8 [(0, .ref h), (1, .ref x2), (2, .int 0)] := hl
  obtain ⟨K, rfl, hk, hd, htop, hb01, hz⟩ := hN
  have hP : va_P D vwCl [(h, .inr (4, [.ref w, .int (nI K), .int b])), (w, .inl (cT 0, R, .inl f)), (x2, .inr (4, [.ref w2, .int n2, .int b2])), (w2, .inl (cT 0, R2, .inl f2))] _ := hP
  have hD : va_D A [(h, .inr (4, [.ref w, .int (nI K), .int b])), (w, .inl (cT 0, R, .inl f)), (x2, .inr (4, [.ref w2, .int n2, .int b2])), (w2, .inl (cT 0, R2, .inl f2))] := hD
  obtain ⟨K2, rfl, qhk, qhd, qhtop, qhb01, qhz⟩ := hN2
  have hP : va_P D vwCl [(h, .inr (4, [.ref w, .int (nI K), .int b])), (w, .inl (cT 0, R, .inl f)), (x2, .inr (4, [.ref w2, .int (nI K2), .int b2])), (w2, .inl (cT 0, R2, .inl f2))] _ := hP
  have hD : va_D A [(h, .inr (4, [.ref w, .int (nI K), .int b])), (w, .inl (cT 0, R, .inl f)), (x2, .inr (4, [.ref w2, .int (nI K2), .int b2])), (w2, .inl (cT 0, R2, .inl f2))] := hD
  rw [hz, qhz, wz_abs, wz_abs] at hfit
  have hK2R : K2 ≤ R := K_le qhtop (by omega)
  refine lv_aload_n hx hb dW_plus_0 rfl (lv_at hl 0 rfl) ?_
  refine va_get (D := D) (ci := 4) (v := .int b) (C := R_W) (T := T_W) (N := 3) hx hb hT in_W hown hK hP 0 rfl rfl 2 (by decide) (hT _ w149) (fun _ h9 => h9) rfl dW_plus_1 ?_
  refine lv_aload_n hx hb dW_plus_4 rfl (lv_at hl 1 rfl) ?_
  refine va_get (D := D) (ci := 4) (v := .int b2) (C := R_W) (T := T_W) (N := 3) hx hb hT in_W hown hK hP 2 rfl rfl 2 (by decide) (hT _ w149) (fun _ h9 => h9) rfl dW_plus_5 ?_
  refine lv_icmp_ne (tgt := 15) hx hb dW_plus_8 rfl (fun h1 => ?_) (fun h1 => ?_)
  · refine lv_iconst (v := 0) hx hb dW_plus_15 (by decide) ?_
    refine lv_iload_n hx hb dW_plus_16 rfl (lv_at hl 2 rfl) ?_
    refine lv_icmp_eq (tgt := 24) hx hb dW_plus_17 rfl (fun _ => ?_) (fun h2 => absurd (by decide) h2)
    refine lv_iconst (v := 0) hx hb dW_plus_24 (by decide) ?_
    refine lv_istore_n hx hb dW_plus_25 rfl hl (by decide) rfl (fun ls hl => ?_)
    have hl : lv_has ls 8 [(3, .int 0), (0, .ref h), (1, .ref x2), (2, .int 0)] := hl
    refine lv_iconst (v := 0) hx hb dW_plus_26 (by decide) ?_
    refine lv_istore hx hb dW_plus_27 hl (by decide) rfl (fun ls hl => ?_)
    have hl : lv_has ls 8 [(4, .int 0), (3, .int 0), (0, .ref h), (1, .ref x2), (2, .int 0)] := hl
    refine lv_iconst (v := 0) hx hb dW_plus_29 (by decide) ?_
    refine lv_istore hx hb dW_plus_30 hl (by decide) rfl (fun ls hl => ?_)
    have hl : lv_has ls 8 [(5, .int 0), (4, .int 0), (3, .int 0), (0, .ref h), (1, .ref x2), (2, .int 0)] := hl
    refine lp_w (α := Nat × Nat × Int32 × (Nat → Int32)) (fun a9 => a9.1 ≤ R ∧ a9.2.1 ≤ 1 ∧ dok 1000000000 a9.2.2.2 a9.1 ∧ (∀ m, a9.1 ≤ m → a9.2.2.2 m = f m) ∧ a9.2.2.1 = -(nI a9.2.1) ∧ hv 1000000000 (dg a9.2.2.2) 0 a9.1 + hv 1000000000 (ct K2 (dg f2)) 0 a9.1 = hv 1000000000 (ct K (dg f)) 0 a9.1 + 1000000000 ^ a9.1 * a9.2.1) (fun a9 => R - a9.1) (fun a9 => [(0, .ref h), (1, .ref x2), (3, .int 0), (4, .int a9.2.2.1), (5, .int (nI a9.1))]) (fun a9 => [(h, .inr (4, [.ref w, .int (nI K), .int b])), (w, .inl (cT 0, R, .inl a9.2.2.2)), (x2, .inr (4, [.ref w2, .int (nI K2), .int b2])), (w2, .inl (cT 0, R2, .inl f2))]) 32 ?_ (0, 0, 0, f) (show 0 ≤ R ∧ 0 ≤ 1 ∧ dok 1000000000 f 0 ∧ (∀ m, 0 ≤ m → f m = f m) ∧ 0 = -(nI 0) ∧ hv 1000000000 (dg f) 0 0 + hv 1000000000 (ct K2 (dg f2)) 0 0 = hv 1000000000 (ct K (dg f)) 0 0 + 1000000000 ^ 0 * 0 from ⟨by omega, by omega, fun q h => absurd h (by omega), fun _ _ => rfl, by decide, by simp [hv]⟩) (lv_sub hl [3, 4, 2, 1, 0] rfl) hP hD hS
    intro a9 hI32 ih32 ls H locs hl hP hD hS
    obtain ⟨j, o, cr, g⟩ := a9
    have hI32 : j ≤ R ∧ o ≤ 1 ∧ dok 1000000000 g j ∧ (∀ m, j ≤ m → g m = f m) ∧ cr = -(nI o) ∧ hv 1000000000 (dg g) 0 j + hv 1000000000 (ct K2 (dg f2)) 0 j = hv 1000000000 (ct K (dg f)) 0 j + 1000000000 ^ j * o := hI32
    obtain ⟨ij, io, ig, if0, icr, iv⟩ := hI32
    have hl : lv_has ls 8 [(0, .ref h), (1, .ref x2), (3, .int 0), (4, .int cr), (5, .int (nI j))] := hl
    have hP : va_P D vwCl [(h, .inr (4, [.ref w, .int (nI K), .int b])), (w, .inl (cT 0, R, .inl g)), (x2, .inr (4, [.ref w2, .int (nI K2), .int b2])), (w2, .inl (cT 0, R2, .inl f2))] _ := hP
    have hD : va_D A [(h, .inr (4, [.ref w, .int (nI K), .int b])), (w, .inl (cT 0, R, .inl g)), (x2, .inr (4, [.ref w2, .int (nI K2), .int b2])), (w2, .inl (cT 0, R2, .inl f2))] := hD
    subst icr
    have hl : lv_has ls 8 [(0, .ref h), (1, .ref x2), (3, .int 0), (4, .int (-(nI o))), (5, .int (nI j))] := hl
    have hP : va_P D vwCl [(h, .inr (4, [.ref w, .int (nI K), .int b])), (w, .inl (cT 0, R, .inl g)), (x2, .inr (4, [.ref w2, .int (nI K2), .int b2])), (w2, .inl (cT 0, R2, .inl f2))] _ := hP
    have hD : va_D A [(h, .inr (4, [.ref w, .int (nI K), .int b])), (w, .inl (cT 0, R, .inl g)), (x2, .inr (4, [.ref w2, .int (nI K2), .int b2])), (w2, .inl (cT 0, R2, .inl f2))] := hD
    refine lv_iload hx hb dW_plus_32 (lv_at hl 4 rfl) ?_
    refine lv_aload_n hx hb dW_plus_34 rfl (lv_at hl 0 rfl) ?_
    refine va_get (D := D) (ci := 4) (v := .ref w) (C := R_W) (T := T_W) (N := 3) hx hb hT in_W hown hK hP 0 rfl rfl 0 (by decide) (hT _ w145) (fun _ h9 => h9) rfl dW_plus_35 ?_
    refine va_alen (v := nI R) hx hb hK hP 1 0 rfl rfl rfl dW_plus_38 ?_
    refine lv_icmp_ge (tgt := 169) hx hb dW_plus_39 rfl (fun h3 => ?_) (fun h3 => ?_)
    · have gh3 : R ≤ j := (nI_leI (a := R) (b := j) (by omega) (by omega)).mp h3
      have hjK : K ≤ j ∧ K2 ≤ j := by omega
      rw [hv_ct hjK.1, hv_ct hjK.2] at iv
      have iv : vW g j + vW f2 K2 = vW f K + 1000000000 ^ j * o := iv
      have hvg := vW_b ig
      have hb2 := vW_b qhd
      have hpw : 1000000000 ^ K2 ≤ 1000000000 ^ j := Nat.pow_le_pow_right (by decide) hjK.2
      refine lv_iload hx hb dW_plus_169 (lv_at hl 3 rfl) ?_
      refine lv_if_ge (tgt := 180) hx hb dW_plus_171 rfl (fun h4 => ?_) (fun h4 => ?_)
      · have ho : o = 0 := by rcases (show o = 0 ∨ o = 1 by omega) with r | r; (exact r); (exact absurd (show 0 ≤ -(nI o) from h4) (by rw [r]; decide))
        rw [ho, Nat.mul_zero, Nat.add_zero] at iv
        refine lv_aload_n hx hb dW_plus_180 rfl (lv_at hl 0 rfl) ?_
        refine lv_iload hx hb dW_plus_181 (lv_at hl 4 rfl) ?_
        refine rw_v (wc := [(h, .inr (4, [.ref w, .int (nI K), .int b])), (w, .inl (cT 0, R, .inl g))]) (wr := [(x2, .inr (4, [.ref w2, .int (nI K2), .int b2])), (w2, .inl (cT 0, R2, .inl f2))]) hP hD hS hA [0, 1] [2, 3] rfl rfl (by decide) (by decide) (va_runV (As := [.int (nI j)]) (rest := []) ⟨hx, hb, hml, hown, hT⟩ (k_trim l D cT h w R (nI K) b g j hR ij ig _) ⟨callB_of 1 hT (tb_gd w397) rfl rfl rfl (hT _ w5) (hT _ w394) hW_trim ⟨Nat.le_of_ble_eq_true rfl, Nat.le_of_ble_eq_true rfl⟩, (hT _ w396), (hT _ wp3)⟩ (RW.preV (ci := 4) (q0 := 0) hZ hS (va_free (wc := [(h, .inr (4, [.ref w, .int (nI K), .int b])), (w, .inl (cT 0, R, .inl g))]) hD hS hA [0, 1] rfl) (hP.sub (ws' := [(h, .inr (4, [.ref w, .int (nI K), .int b])), (w, .inl (cT 0, R, .inl g))]) [0, 1] rfl) hK (hD.sub (ws' := [(h, .inr (4, [.ref w, .int (nI K), .int b])), (w, .inl (cT 0, R, .inl g))]) [0, 1] (by decide) rfl) rfl rfl) rfl rfl hl.1 rfl (lv_room (Nat.le_of_ble_eq_true rfl)) dW_plus_183 ⟨Nat.le_of_ble_eq_true rfl, Nat.le_of_ble_eq_true rfl⟩) (fun u9 H locs hpu5 hP hD hS => ?_)
        obtain ⟨ku5, rfl⟩ : ∃ q9, q9 = u9 := ⟨_, rfl⟩
        have hpu5 : ku5 ≤ j ∧ top0 g ku5 ∧ vW g ku5 = vW g j := hpu5
        have hP : va_P D vwCl [(x2, .inr (4, [.ref w2, .int (nI K2), .int b2])), (w2, .inl (cT 0, R2, .inl f2)), (h, .inr (4, [.ref w, .int (nI ku5), .int b])), (w, .inl (cT 0, R, .inl g))] _ := hP
        have hD : va_D A [(x2, .inr (4, [.ref w2, .int (nI K2), .int b2])), (w2, .inl (cT 0, R2, .inl f2)), (h, .inr (4, [.ref w, .int (nI ku5), .int b])), (w, .inl (cT 0, R, .inl g))] := hD
        have hP9 := hP.sub (ws' := [(h, .inr (4, [.ref w, .int (nI ku5), .int b])), (w, .inl (cT 0, R, .inl g)), (x2, .inr (4, [.ref w2, .int (nI K2), .int b2])), (w2, .inl (cT 0, R2, .inl f2))]) [2, 3, 0, 1] rfl
        have hD9 := hD.sub (ws' := [(h, .inr (4, [.ref w, .int (nI ku5), .int b])), (w, .inl (cT 0, R, .inl g)), (x2, .inr (4, [.ref w2, .int (nI K2), .int b2])), (w2, .inl (cT 0, R2, .inl f2))]) [2, 3, 0, 1] (by decide) rfl
        refine W.widen (k := 0) (n := 0) (Nat.le_of_ble_eq_true rfl) (Nat.le_of_ble_eq_true rfl) ?_
        exact W.vret hx hb hr (fun t9 ht9 hW9 => ⟨⟨(nI ku5, b, g), rfl, (show WN R (nI ku5) b g (z + z2) from by have q0 := wn_trim (R := R) (b := b) ij ig hb01 hpu5; rw [hz, qhz, fl_ne hb01 qhb01 h1, wz_fl]; rw [show vW g j = vW f K - vW f2 K2 by omega] at q0; rw [← Int.sub_eq_add_neg, wz_sub (by omega)]; exact q0), by rw [ht9]; exact hP9, hD9⟩, hS.F ht9⟩) hS.2.2 dW_plus_186
      · have ho : o = 1 := by rcases (show o = 0 ∨ o = 1 by omega) with r | r; (exact absurd (by rw [r]; decide) h4); (exact r)
        rw [ho, Nat.mul_one] at iv
        refine lv_aload_n hx hb dW_plus_174 rfl (lv_at hl 0 rfl) ?_
        refine lv_iload hx hb dW_plus_175 (lv_at hl 4 rfl) ?_
        refine rw_v (wc := [(h, .inr (4, [.ref w, .int (nI K), .int b])), (w, .inl (cT 0, R, .inl g))]) (wr := [(x2, .inr (4, [.ref w2, .int (nI K2), .int b2])), (w2, .inl (cT 0, R2, .inl f2))]) hP hD hS hA [0, 1] [2, 3] rfl rfl (by decide) (by decide) (va_runV (As := [.int (nI j)]) (rest := []) ⟨hx, hb, hml, hown, hT⟩ (k_complement l D cT h w R (nI K) b g j hR ij ig hb01 _) ⟨callB_of 1 hT (tb_gd w466) rfl rfl rfl (hT _ w5) (hT _ w463) hW_complement ⟨Nat.le_of_ble_eq_true rfl, Nat.le_of_ble_eq_true rfl⟩, (hT _ w465), (hT _ wp5)⟩ (RW.preV (ci := 4) (q0 := 0) hZ hS (va_free (wc := [(h, .inr (4, [.ref w, .int (nI K), .int b])), (w, .inl (cT 0, R, .inl g))]) hD hS hA [0, 1] rfl) (hP.sub (ws' := [(h, .inr (4, [.ref w, .int (nI K), .int b])), (w, .inl (cT 0, R, .inl g))]) [0, 1] rfl) hK (hD.sub (ws' := [(h, .inr (4, [.ref w, .int (nI K), .int b])), (w, .inl (cT 0, R, .inl g))]) [0, 1] (by decide) rfl) rfl rfl) rfl rfl hl.1 rfl (lv_room (Nat.le_of_ble_eq_true rfl)) dW_plus_177 ⟨Nat.le_of_ble_eq_true rfl, Nat.le_of_ble_eq_true rfl⟩) (fun u9 H locs hpu6 hP hD hS => ?_)
        obtain ⟨b1u6, f1u6⟩ := u9
        have hpu6 : dok 1000000000 f1u6 j ∧ (0 < vW g j → vW f1u6 j = 1000000000 ^ j - vW g j) ∧ b1u6 = fl b := hpu6
        have hP : va_P D vwCl [(x2, .inr (4, [.ref w2, .int (nI K2), .int b2])), (w2, .inl (cT 0, R2, .inl f2)), (h, .inr (4, [.ref w, .int (nI K), .int b1u6])), (w, .inl (cT 0, R, .inl f1u6))] _ := hP
        have hD : va_D A [(x2, .inr (4, [.ref w2, .int (nI K2), .int b2])), (w2, .inl (cT 0, R2, .inl f2)), (h, .inr (4, [.ref w, .int (nI K), .int b1u6])), (w, .inl (cT 0, R, .inl f1u6))] := hD
        obtain ⟨hc1, hc2, hc3⟩ := hpu6
        have hc2 := hc2 (by omega)
        refine lv_aload_n hx hb dW_plus_180 rfl (lv_at hl 0 rfl) ?_
        refine lv_iload hx hb dW_plus_181 (lv_at hl 4 rfl) ?_
        refine rw_v (wc := [(h, .inr (4, [.ref w, .int (nI K), .int b1u6])), (w, .inl (cT 0, R, .inl f1u6))]) (wr := [(x2, .inr (4, [.ref w2, .int (nI K2), .int b2])), (w2, .inl (cT 0, R2, .inl f2))]) hP hD hS hA [2, 3] [0, 1] rfl rfl (by decide) (by decide) (va_runV (As := [.int (nI j)]) (rest := []) ⟨hx, hb, hml, hown, hT⟩ (k_trim l D cT h w R (nI K) b1u6 f1u6 j hR ij hc1 _) ⟨callB_of 1 hT (tb_gd w397) rfl rfl rfl (hT _ w5) (hT _ w394) hW_trim ⟨Nat.le_of_ble_eq_true rfl, Nat.le_of_ble_eq_true rfl⟩, (hT _ w396), (hT _ wp3)⟩ (RW.preV (ci := 4) (q0 := 0) hZ hS (va_free (wc := [(h, .inr (4, [.ref w, .int (nI K), .int b1u6])), (w, .inl (cT 0, R, .inl f1u6))]) hD hS hA [2, 3] rfl) (hP.sub (ws' := [(h, .inr (4, [.ref w, .int (nI K), .int b1u6])), (w, .inl (cT 0, R, .inl f1u6))]) [2, 3] rfl) hK (hD.sub (ws' := [(h, .inr (4, [.ref w, .int (nI K), .int b1u6])), (w, .inl (cT 0, R, .inl f1u6))]) [2, 3] (by decide) rfl) rfl rfl) rfl rfl hl.1 rfl (lv_room (Nat.le_of_ble_eq_true rfl)) dW_plus_183 ⟨Nat.le_of_ble_eq_true rfl, Nat.le_of_ble_eq_true rfl⟩) (fun u9 H locs hpu7 hP hD hS => ?_)
        obtain ⟨ku7, rfl⟩ : ∃ q9, q9 = u9 := ⟨_, rfl⟩
        have hpu7 : ku7 ≤ j ∧ top0 f1u6 ku7 ∧ vW f1u6 ku7 = vW f1u6 j := hpu7
        have hP : va_P D vwCl [(x2, .inr (4, [.ref w2, .int (nI K2), .int b2])), (w2, .inl (cT 0, R2, .inl f2)), (h, .inr (4, [.ref w, .int (nI ku7), .int b1u6])), (w, .inl (cT 0, R, .inl f1u6))] _ := hP
        have hD : va_D A [(x2, .inr (4, [.ref w2, .int (nI K2), .int b2])), (w2, .inl (cT 0, R2, .inl f2)), (h, .inr (4, [.ref w, .int (nI ku7), .int b1u6])), (w, .inl (cT 0, R, .inl f1u6))] := hD
        have hP9 := hP.sub (ws' := [(h, .inr (4, [.ref w, .int (nI ku7), .int b1u6])), (w, .inl (cT 0, R, .inl f1u6)), (x2, .inr (4, [.ref w2, .int (nI K2), .int b2])), (w2, .inl (cT 0, R2, .inl f2))]) [2, 3, 0, 1] rfl
        have hD9 := hD.sub (ws' := [(h, .inr (4, [.ref w, .int (nI ku7), .int b1u6])), (w, .inl (cT 0, R, .inl f1u6)), (x2, .inr (4, [.ref w2, .int (nI K2), .int b2])), (w2, .inl (cT 0, R2, .inl f2))]) [2, 3, 0, 1] (by decide) rfl
        refine W.widen (k := 0) (n := 0) (Nat.le_of_ble_eq_true rfl) (Nat.le_of_ble_eq_true rfl) ?_
        exact W.vret hx hb hr (fun t9 ht9 hW9 => ⟨⟨(nI ku7, b1u6, f1u6), rfl, (show WN R (nI ku7) b1u6 f1u6 (z + z2) from by have q0 := wn_trim (R := R) (b := b1u6) ij hc1 (by rw [hc3]; exact fl_01 b) hpu7; rw [hz, qhz, fl_ne hb01 qhb01 h1, wz_fl]; rw [hc3]; rw [hc3, wz_fl, show vW f1u6 j = vW f2 K2 - vW f K by omega, ← wz_sub (by omega), Int.neg_sub] at q0; rw [← Int.sub_eq_add_neg]; exact q0), by rw [ht9]; exact hP9, hD9⟩, hS.F ht9⟩) hS.2.2 dW_plus_186
    · have gh3 : j < R := Nat.not_le.mp (fun q => h3 ((nI_leI (a := R) (b := j) (by omega) (by omega)).mpr q))
      refine lv_iload hx hb dW_plus_42 (lv_at hl 4 rfl) ?_
      refine lv_aload_n hx hb dW_plus_44 rfl (lv_at hl 0 rfl) ?_
      refine va_get (D := D) (ci := 4) (v := .int (nI K)) (C := R_W) (T := T_W) (N := 3) hx hb hT in_W hown hK hP 0 rfl rfl 1 (by decide) (hT _ w148) (fun _ h9 => h9) rfl dW_plus_45 ?_
      refine lv_icmp_lt (tgt := 65) hx hb dW_plus_48 rfl (fun h8 => ?_) (fun h8 => ?_)
      · have gh8 : j < K := (nI_ltI (a := j) (b := K) (by omega) (by omega)).mp h8
        obtain ⟨y1, hy1⟩ : ∃ q9 : Nat, q9 = ct K2 (dg f2) j := ⟨_, rfl⟩
        obtain ⟨x1, hx1⟩ : ∃ q9 : Nat, q9 = ct K (dg f) j := ⟨_, rfl⟩
        have hy1b : y1 < 1000000000 := by
          rw [hy1]
          by_cases q : j < K2
          · rw [ct_lt q]; exact (qhd j q).2
          · rw [ct_ge (show K2 ≤ j by omega)]; decide
        have hx1b : x1 < 1000000000 := by
          rw [hx1]
          by_cases q : j < K
          · rw [ct_lt q]; exact (hd j q).2
          · rw [ct_ge (show K ≤ j by omega)]; decide
        refine lp_cut (fun x9 : Int32 => x9 = nI y1) (fun x9 => [.int x9]) 85 ls (fun x9 e9 => ?_) (fun hct9 => ?_)
        · cases (show x9 = nI y1 from e9)
          refine lv_istore hx hb dW_plus_85 hl (by decide) rfl (fun ls hl => ?_)
          have hl : lv_has ls 8 [(6, .int (nI y1)), (0, .ref h), (1, .ref x2), (3, .int 0), (4, .int (-(nI o))), (5, .int (nI j))] := hl
          refine lp_cut (fun x9 : Int32 => x9 = nI x1) (fun x9 => [.int x9]) 107 ls (fun x9 e9 => ?_) (fun hct10 => ?_)
          · cases (show x9 = nI x1 from e9)
            refine lv_iload_n hx hb dW_plus_107 rfl (lv_at hl 3 rfl) ?_
            refine lv_if_eq (tgt := 116) hx hb dW_plus_108 rfl (fun _ => ?_) (fun h11 => absurd (by decide) h11)
            refine lv_iload hx hb dW_plus_116 (lv_at hl 0 rfl) ?_
            refine lv_ineg hx hb dW_plus_118 ?_
            refine lv_iadd hx hb dW_plus_119 ?_
            refine lv_iload hx hb dW_plus_120 (lv_at hl 4 rfl) ?_
            refine lv_iadd hx hb dW_plus_122 ?_
            obtain ⟨s1, hs1⟩ : ∃ q9 : Int32, q9 = nI x1 + -(nI y1) + -(nI o) := ⟨_, rfl⟩
            refine lv_topi (fun y9 e9 => ?_)
            cases (show y9 = s1 from e9.trans hs1.symm)
            have hs1i : s1.toInt = (x1 : Int) - y1 - o := by rw [hs1]; exact sb_ti (by omega) (by omega) io
            refine lv_istore hx hb dW_plus_123 hl (by decide) rfl (fun ls hl => ?_)
            have hl : lv_has ls 8 [(7, .int s1), (6, .int (nI y1)), (0, .ref h), (1, .ref x2), (3, .int 0), (4, .int (-(nI o))), (5, .int (nI j))] := hl
            refine lv_iload hx hb dW_plus_125 (lv_at hl 0 rfl) ?_
            refine lv_ldc (v := 1000000000) hx hb hown (hT _ w462) dW_plus_127 ?_
            refine lv_icmp_lt (tgt := 136) hx hb dW_plus_129 rfl (fun _ => ?_) (fun h12 => absurd (Int32.lt_iff_toInt_lt.mpr (by rw [hs1i]; show _ < (1000000000 : Int); omega)) h12)
            refine lv_iload hx hb dW_plus_136 (lv_at hl 0 rfl) ?_
            refine lv_if_ge (tgt := 145) hx hb dW_plus_138 rfl (fun h13 => ?_) (fun h13 => ?_)
            · have hng : 0 ≤ (x1 : Int) - y1 - o := by have q := Int32.le_iff_toInt_le.mp h13; rw [hs1i] at q; exact q
              obtain ⟨e1, he1⟩ : ∃ q9 : Nat, q9 = x1 - y1 - o := ⟨_, rfl⟩
              have he1b : e1 < 1000000000 := by omega
              refine lv_iconst (v := 0) hx hb dW_plus_145 (by decide) ?_
              refine lv_istore hx hb dW_plus_146 hl (by decide) rfl (fun ls hl => ?_)
              have hl : lv_has ls 8 [(4, .int 0), (7, .int s1), (6, .int (nI y1)), (0, .ref h), (1, .ref x2), (3, .int 0), (5, .int (nI j))] := hl
              refine lv_aload_n hx hb dW_plus_148 rfl (lv_at hl 3 rfl) ?_
              refine va_get (D := D) (ci := 4) (v := .ref w) (C := R_W) (T := T_W) (N := 3) hx hb hT in_W hown hK hP 0 rfl rfl 0 (by decide) (hT _ w145) (fun _ h9 => h9) rfl dW_plus_149 ?_
              refine lv_iload hx hb dW_plus_152 (lv_at hl 6 rfl) ?_
              refine lv_iload hx hb dW_plus_154 (lv_at hl 1 rfl) ?_
              refine lv_iload hx hb dW_plus_156 (lv_at hl 0 rfl) ?_
              refine lv_ldc (v := 1000000000) hx hb hown (hT _ w462) dW_plus_158 ?_
              refine lv_imul hx hb dW_plus_160 ?_
              refine lv_topi (fun y9 e9 => ?_)
              cases (show y9 = 0 from e9.trans (by decide))
              refine lv_isub hx hb dW_plus_161 ?_
              refine lv_topi (fun y9 e9 => ?_)
              cases (show y9 = nI e1 from e9.trans (sb_z hs1i hng (by omega) (by omega)))
              refine lq_iast (j := j) hx hb hK hP hD hS 1 0 rfl rfl rfl (by omega) (by omega) dW_plus_162 (fun H locs hP hD hS => ?_)
              have hP : va_P D vwCl [(h, .inr (4, [.ref w, .int (nI K), .int b])), (w, .inl (cT 0, R, .inl (upd g j (nI e1)))), (x2, .inr (4, [.ref w2, .int (nI K2), .int b2])), (w2, .inl (cT 0, R2, .inl f2))] _ := hP
              have hD : va_D A [(h, .inr (4, [.ref w, .int (nI K), .int b])), (w, .inl (cT 0, R, .inl (upd g j (nI e1)))), (x2, .inr (4, [.ref w2, .int (nI K2), .int b2])), (w2, .inl (cT 0, R2, .inl f2))] := hD
              refine lv_iinc (k := 6) (v := nI (j + 1)) hx hb dW_plus_163 hl rfl (nI_1 j) (by decide) rfl (fun ls hl => ?_)
              have hl : lv_has ls 8 [(5, .int (nI (j + 1))), (4, .int 0), (7, .int s1), (6, .int (nI y1)), (0, .ref h), (1, .ref x2), (3, .int 0)] := hl
              refine lv_goto (tgt := 32) hx hb dW_plus_166 rfl ?_
              exact ih32 (j + 1, 0, 0, upd g j (nI e1)) (show (j + 1) ≤ R ∧ 0 ≤ 1 ∧ dok 1000000000 (upd g j (nI e1)) (j + 1) ∧ (∀ m, (j + 1) ≤ m → (upd g j (nI e1)) m = f m) ∧ 0 = -(nI 0) ∧ hv 1000000000 (dg (upd g j (nI e1))) 0 (j + 1) + hv 1000000000 (ct K2 (dg f2)) 0 (j + 1) = hv 1000000000 (ct K (dg f)) 0 (j + 1) + 1000000000 ^ (j + 1) * 0 from ⟨by omega, by omega, dok_s ig he1b (by decide), fun q h => (pk_un (by omega)).trans (if0 q (by omega)), by decide, by rw [hv_us (v := e1) (by omega), hv_snoc, hv_snoc, Nat.zero_add, Nat.pow_succ, ← hx1, ← hy1]; exact sub_s iv (by omega)⟩) (show R - (j + 1) < R - j from (by omega)) ls H locs (lv_sub hl [4, 5, 6, 1, 0] rfl) hP hD hS
            · have hng : (x1 : Int) - y1 - o < 0 := by have q := Int32.lt_iff_toInt_lt.mp (Int32.not_le.mp h13); rw [hs1i] at q; exact q
              obtain ⟨e1, he1⟩ : ∃ q9 : Nat, q9 = x1 + 1000000000 - y1 - o := ⟨_, rfl⟩
              have he1b : e1 < 1000000000 := by omega
              refine lv_iconst (v := (-1)) hx hb dW_plus_141 (by decide) ?_
              refine lv_goto (tgt := 146) hx hb dW_plus_142 rfl ?_
              refine lv_istore hx hb dW_plus_146 hl (by decide) rfl (fun ls hl => ?_)
              have hl : lv_has ls 8 [(4, .int (-1)), (7, .int s1), (6, .int (nI y1)), (0, .ref h), (1, .ref x2), (3, .int 0), (5, .int (nI j))] := hl
              refine lv_aload_n hx hb dW_plus_148 rfl (lv_at hl 3 rfl) ?_
              refine va_get (D := D) (ci := 4) (v := .ref w) (C := R_W) (T := T_W) (N := 3) hx hb hT in_W hown hK hP 0 rfl rfl 0 (by decide) (hT _ w145) (fun _ h9 => h9) rfl dW_plus_149 ?_
              refine lv_iload hx hb dW_plus_152 (lv_at hl 6 rfl) ?_
              refine lv_iload hx hb dW_plus_154 (lv_at hl 1 rfl) ?_
              refine lv_iload hx hb dW_plus_156 (lv_at hl 0 rfl) ?_
              refine lv_ldc (v := 1000000000) hx hb hown (hT _ w462) dW_plus_158 ?_
              refine lv_imul hx hb dW_plus_160 ?_
              refine lv_topi (fun y9 e9 => ?_)
              cases (show y9 = (-1000000000) from e9.trans (by decide))
              refine lv_isub hx hb dW_plus_161 ?_
              refine lv_topi (fun y9 e9 => ?_)
              cases (show y9 = nI e1 from e9.trans (sb_m hs1i (by omega) hng (by omega)))
              refine lq_iast (j := j) hx hb hK hP hD hS 1 0 rfl rfl rfl (by omega) (by omega) dW_plus_162 (fun H locs hP hD hS => ?_)
              have hP : va_P D vwCl [(h, .inr (4, [.ref w, .int (nI K), .int b])), (w, .inl (cT 0, R, .inl (upd g j (nI e1)))), (x2, .inr (4, [.ref w2, .int (nI K2), .int b2])), (w2, .inl (cT 0, R2, .inl f2))] _ := hP
              have hD : va_D A [(h, .inr (4, [.ref w, .int (nI K), .int b])), (w, .inl (cT 0, R, .inl (upd g j (nI e1)))), (x2, .inr (4, [.ref w2, .int (nI K2), .int b2])), (w2, .inl (cT 0, R2, .inl f2))] := hD
              refine lv_iinc (k := 6) (v := nI (j + 1)) hx hb dW_plus_163 hl rfl (nI_1 j) (by decide) rfl (fun ls hl => ?_)
              have hl : lv_has ls 8 [(5, .int (nI (j + 1))), (4, .int (-1)), (7, .int s1), (6, .int (nI y1)), (0, .ref h), (1, .ref x2), (3, .int 0)] := hl
              refine lv_goto (tgt := 32) hx hb dW_plus_166 rfl ?_
              exact ih32 (j + 1, 1, (-1), upd g j (nI e1)) (show (j + 1) ≤ R ∧ 1 ≤ 1 ∧ dok 1000000000 (upd g j (nI e1)) (j + 1) ∧ (∀ m, (j + 1) ≤ m → (upd g j (nI e1)) m = f m) ∧ (-1) = -(nI 1) ∧ hv 1000000000 (dg (upd g j (nI e1))) 0 (j + 1) + hv 1000000000 (ct K2 (dg f2)) 0 (j + 1) = hv 1000000000 (ct K (dg f)) 0 (j + 1) + 1000000000 ^ (j + 1) * 1 from ⟨by omega, by omega, dok_s ig he1b (by decide), fun q h => (pk_un (by omega)).trans (if0 q (by omega)), by decide, by rw [hv_us (v := e1) (by omega), hv_snoc, hv_snoc, Nat.zero_add, Nat.pow_succ, ← hx1, ← hy1]; exact sub_s iv (by omega)⟩) (show R - (j + 1) < R - j from (by omega)) ls H locs (lv_sub hl [4, 5, 6, 1, 0] rfl) hP hD hS
          · refine lv_iload hx hb dW_plus_87 (lv_at hl 5 rfl) ?_
            refine lv_aload_n hx hb dW_plus_89 rfl (lv_at hl 1 rfl) ?_
            refine va_get (D := D) (ci := 4) (v := .int (nI K)) (C := R_W) (T := T_W) (N := 3) hx hb hT in_W hown hK hP 0 rfl rfl 1 (by decide) (hT _ w148) (fun _ h9 => h9) rfl dW_plus_90 ?_
            refine lv_icmp_ge (tgt := 106) hx hb dW_plus_93 rfl (fun h14 => absurd h14 (Int32.not_le.mpr h8)) (fun _ => ?_)
            refine lv_aload_n hx hb dW_plus_96 rfl (lv_at hl 1 rfl) ?_
            refine va_get (D := D) (ci := 4) (v := .ref w) (C := R_W) (T := T_W) (N := 3) hx hb hT in_W hown hK hP 0 rfl rfl 0 (by decide) (hT _ w145) (fun _ h9 => h9) rfl dW_plus_97 ?_
            refine lv_iload hx hb dW_plus_100 (lv_at hl 5 rfl) ?_
            refine lq_iald (j := j) hx hb hK hP 1 0 rfl rfl rfl (by omega) (by omega) dW_plus_102 ?_
            refine lv_goto (tgt := 107) hx hb dW_plus_103 rfl ?_
            exact hct10 _ (by rw [if0 j (Nat.le_refl _), hx1, ct_lt (show j < K by omega)]; exact (hd j (by omega)).1)
        · refine lv_iload hx hb dW_plus_65 (lv_at hl 4 rfl) ?_
          refine lv_aload_n hx hb dW_plus_67 rfl (lv_at hl 1 rfl) ?_
          refine va_get (D := D) (ci := 4) (v := .int (nI K2)) (C := R_W) (T := T_W) (N := 3) hx hb hT in_W hown hK hP 2 rfl rfl 1 (by decide) (hT _ w148) (fun _ h9 => h9) rfl dW_plus_68 ?_
          refine lv_icmp_ge (tgt := 84) hx hb dW_plus_71 rfl (fun h15 => ?_) (fun h15 => ?_)
          · have gh15 : K2 ≤ j := (nI_leI (a := K2) (b := j) (by omega) (by omega)).mp h15
            refine lv_iconst (v := 0) hx hb dW_plus_84 (by decide) ?_
            exact hct9 _ (by rw [hy1, ct_ge (show K2 ≤ j by omega)]; rfl)
          · have gh15 : j < K2 := Nat.not_le.mp (fun q => h15 ((nI_leI (a := K2) (b := j) (by omega) (by omega)).mpr q))
            refine lv_aload_n hx hb dW_plus_74 rfl (lv_at hl 1 rfl) ?_
            refine va_get (D := D) (ci := 4) (v := .ref w2) (C := R_W) (T := T_W) (N := 3) hx hb hT in_W hown hK hP 2 rfl rfl 0 (by decide) (hT _ w145) (fun _ h9 => h9) rfl dW_plus_75 ?_
            refine lv_iload hx hb dW_plus_78 (lv_at hl 4 rfl) ?_
            refine lq_iald (j := j) hx hb hK hP 3 0 rfl rfl rfl (by omega) (by omega) dW_plus_80 ?_
            refine lv_goto (tgt := 85) hx hb dW_plus_81 rfl ?_
            exact hct9 _ (by rw [hy1, ct_lt (show j < K2 by omega)]; exact (qhd j (by omega)).1)
      · have gh8 : K ≤ j := Nat.not_lt.mp (fun q => h8 ((nI_ltI (a := j) (b := K) (by omega) (by omega)).mpr q))
        refine lv_iload hx hb dW_plus_51 (lv_at hl 4 rfl) ?_
        refine lv_aload_n hx hb dW_plus_53 rfl (lv_at hl 1 rfl) ?_
        refine va_get (D := D) (ci := 4) (v := .int (nI K2)) (C := R_W) (T := T_W) (N := 3) hx hb hT in_W hown hK hP 2 rfl rfl 1 (by decide) (hT _ w148) (fun _ h9 => h9) rfl dW_plus_54 ?_
        refine lv_icmp_lt (tgt := 65) hx hb dW_plus_57 rfl (fun h16 => ?_) (fun h16 => ?_)
        · have gh16 : j < K2 := (nI_ltI (a := j) (b := K2) (by omega) (by omega)).mp h16
          obtain ⟨y1, hy1⟩ : ∃ q9 : Nat, q9 = ct K2 (dg f2) j := ⟨_, rfl⟩
          obtain ⟨x1, hx1⟩ : ∃ q9 : Nat, q9 = ct K (dg f) j := ⟨_, rfl⟩
          have hy1b : y1 < 1000000000 := by
            rw [hy1]
            by_cases q : j < K2
            · rw [ct_lt q]; exact (qhd j q).2
            · rw [ct_ge (show K2 ≤ j by omega)]; decide
          have hx1b : x1 < 1000000000 := by
            rw [hx1]
            by_cases q : j < K
            · rw [ct_lt q]; exact (hd j q).2
            · rw [ct_ge (show K ≤ j by omega)]; decide
          refine lp_cut (fun x9 : Int32 => x9 = nI y1) (fun x9 => [.int x9]) 85 ls (fun x9 e9 => ?_) (fun hct17 => ?_)
          · cases (show x9 = nI y1 from e9)
            refine lv_istore hx hb dW_plus_85 hl (by decide) rfl (fun ls hl => ?_)
            have hl : lv_has ls 8 [(6, .int (nI y1)), (0, .ref h), (1, .ref x2), (3, .int 0), (4, .int (-(nI o))), (5, .int (nI j))] := hl
            refine lp_cut (fun x9 : Int32 => x9 = nI x1) (fun x9 => [.int x9]) 107 ls (fun x9 e9 => ?_) (fun hct18 => ?_)
            · cases (show x9 = nI x1 from e9)
              refine lv_iload_n hx hb dW_plus_107 rfl (lv_at hl 3 rfl) ?_
              refine lv_if_eq (tgt := 116) hx hb dW_plus_108 rfl (fun _ => ?_) (fun h19 => absurd (by decide) h19)
              refine lv_iload hx hb dW_plus_116 (lv_at hl 0 rfl) ?_
              refine lv_ineg hx hb dW_plus_118 ?_
              refine lv_iadd hx hb dW_plus_119 ?_
              refine lv_iload hx hb dW_plus_120 (lv_at hl 4 rfl) ?_
              refine lv_iadd hx hb dW_plus_122 ?_
              obtain ⟨s1, hs1⟩ : ∃ q9 : Int32, q9 = nI x1 + -(nI y1) + -(nI o) := ⟨_, rfl⟩
              refine lv_topi (fun y9 e9 => ?_)
              cases (show y9 = s1 from e9.trans hs1.symm)
              have hs1i : s1.toInt = (x1 : Int) - y1 - o := by rw [hs1]; exact sb_ti (by omega) (by omega) io
              refine lv_istore hx hb dW_plus_123 hl (by decide) rfl (fun ls hl => ?_)
              have hl : lv_has ls 8 [(7, .int s1), (6, .int (nI y1)), (0, .ref h), (1, .ref x2), (3, .int 0), (4, .int (-(nI o))), (5, .int (nI j))] := hl
              refine lv_iload hx hb dW_plus_125 (lv_at hl 0 rfl) ?_
              refine lv_ldc (v := 1000000000) hx hb hown (hT _ w462) dW_plus_127 ?_
              refine lv_icmp_lt (tgt := 136) hx hb dW_plus_129 rfl (fun _ => ?_) (fun h20 => absurd (Int32.lt_iff_toInt_lt.mpr (by rw [hs1i]; show _ < (1000000000 : Int); omega)) h20)
              refine lv_iload hx hb dW_plus_136 (lv_at hl 0 rfl) ?_
              refine lv_if_ge (tgt := 145) hx hb dW_plus_138 rfl (fun h21 => ?_) (fun h21 => ?_)
              · have hng : 0 ≤ (x1 : Int) - y1 - o := by have q := Int32.le_iff_toInt_le.mp h21; rw [hs1i] at q; exact q
                obtain ⟨e1, he1⟩ : ∃ q9 : Nat, q9 = x1 - y1 - o := ⟨_, rfl⟩
                have he1b : e1 < 1000000000 := by omega
                refine lv_iconst (v := 0) hx hb dW_plus_145 (by decide) ?_
                refine lv_istore hx hb dW_plus_146 hl (by decide) rfl (fun ls hl => ?_)
                have hl : lv_has ls 8 [(4, .int 0), (7, .int s1), (6, .int (nI y1)), (0, .ref h), (1, .ref x2), (3, .int 0), (5, .int (nI j))] := hl
                refine lv_aload_n hx hb dW_plus_148 rfl (lv_at hl 3 rfl) ?_
                refine va_get (D := D) (ci := 4) (v := .ref w) (C := R_W) (T := T_W) (N := 3) hx hb hT in_W hown hK hP 0 rfl rfl 0 (by decide) (hT _ w145) (fun _ h9 => h9) rfl dW_plus_149 ?_
                refine lv_iload hx hb dW_plus_152 (lv_at hl 6 rfl) ?_
                refine lv_iload hx hb dW_plus_154 (lv_at hl 1 rfl) ?_
                refine lv_iload hx hb dW_plus_156 (lv_at hl 0 rfl) ?_
                refine lv_ldc (v := 1000000000) hx hb hown (hT _ w462) dW_plus_158 ?_
                refine lv_imul hx hb dW_plus_160 ?_
                refine lv_topi (fun y9 e9 => ?_)
                cases (show y9 = 0 from e9.trans (by decide))
                refine lv_isub hx hb dW_plus_161 ?_
                refine lv_topi (fun y9 e9 => ?_)
                cases (show y9 = nI e1 from e9.trans (sb_z hs1i hng (by omega) (by omega)))
                refine lq_iast (j := j) hx hb hK hP hD hS 1 0 rfl rfl rfl (by omega) (by omega) dW_plus_162 (fun H locs hP hD hS => ?_)
                have hP : va_P D vwCl [(h, .inr (4, [.ref w, .int (nI K), .int b])), (w, .inl (cT 0, R, .inl (upd g j (nI e1)))), (x2, .inr (4, [.ref w2, .int (nI K2), .int b2])), (w2, .inl (cT 0, R2, .inl f2))] _ := hP
                have hD : va_D A [(h, .inr (4, [.ref w, .int (nI K), .int b])), (w, .inl (cT 0, R, .inl (upd g j (nI e1)))), (x2, .inr (4, [.ref w2, .int (nI K2), .int b2])), (w2, .inl (cT 0, R2, .inl f2))] := hD
                refine lv_iinc (k := 6) (v := nI (j + 1)) hx hb dW_plus_163 hl rfl (nI_1 j) (by decide) rfl (fun ls hl => ?_)
                have hl : lv_has ls 8 [(5, .int (nI (j + 1))), (4, .int 0), (7, .int s1), (6, .int (nI y1)), (0, .ref h), (1, .ref x2), (3, .int 0)] := hl
                refine lv_goto (tgt := 32) hx hb dW_plus_166 rfl ?_
                exact ih32 (j + 1, 0, 0, upd g j (nI e1)) (show (j + 1) ≤ R ∧ 0 ≤ 1 ∧ dok 1000000000 (upd g j (nI e1)) (j + 1) ∧ (∀ m, (j + 1) ≤ m → (upd g j (nI e1)) m = f m) ∧ 0 = -(nI 0) ∧ hv 1000000000 (dg (upd g j (nI e1))) 0 (j + 1) + hv 1000000000 (ct K2 (dg f2)) 0 (j + 1) = hv 1000000000 (ct K (dg f)) 0 (j + 1) + 1000000000 ^ (j + 1) * 0 from ⟨by omega, by omega, dok_s ig he1b (by decide), fun q h => (pk_un (by omega)).trans (if0 q (by omega)), by decide, by rw [hv_us (v := e1) (by omega), hv_snoc, hv_snoc, Nat.zero_add, Nat.pow_succ, ← hx1, ← hy1]; exact sub_s iv (by omega)⟩) (show R - (j + 1) < R - j from (by omega)) ls H locs (lv_sub hl [4, 5, 6, 1, 0] rfl) hP hD hS
              · have hng : (x1 : Int) - y1 - o < 0 := by have q := Int32.lt_iff_toInt_lt.mp (Int32.not_le.mp h21); rw [hs1i] at q; exact q
                obtain ⟨e1, he1⟩ : ∃ q9 : Nat, q9 = x1 + 1000000000 - y1 - o := ⟨_, rfl⟩
                have he1b : e1 < 1000000000 := by omega
                refine lv_iconst (v := (-1)) hx hb dW_plus_141 (by decide) ?_
                refine lv_goto (tgt := 146) hx hb dW_plus_142 rfl ?_
                refine lv_istore hx hb dW_plus_146 hl (by decide) rfl (fun ls hl => ?_)
                have hl : lv_has ls 8 [(4, .int (-1)), (7, .int s1), (6, .int (nI y1)), (0, .ref h), (1, .ref x2), (3, .int 0), (5, .int (nI j))] := hl
                refine lv_aload_n hx hb dW_plus_148 rfl (lv_at hl 3 rfl) ?_
                refine va_get (D := D) (ci := 4) (v := .ref w) (C := R_W) (T := T_W) (N := 3) hx hb hT in_W hown hK hP 0 rfl rfl 0 (by decide) (hT _ w145) (fun _ h9 => h9) rfl dW_plus_149 ?_
                refine lv_iload hx hb dW_plus_152 (lv_at hl 6 rfl) ?_
                refine lv_iload hx hb dW_plus_154 (lv_at hl 1 rfl) ?_
                refine lv_iload hx hb dW_plus_156 (lv_at hl 0 rfl) ?_
                refine lv_ldc (v := 1000000000) hx hb hown (hT _ w462) dW_plus_158 ?_
                refine lv_imul hx hb dW_plus_160 ?_
                refine lv_topi (fun y9 e9 => ?_)
                cases (show y9 = (-1000000000) from e9.trans (by decide))
                refine lv_isub hx hb dW_plus_161 ?_
                refine lv_topi (fun y9 e9 => ?_)
                cases (show y9 = nI e1 from e9.trans (sb_m hs1i (by omega) hng (by omega)))
                refine lq_iast (j := j) hx hb hK hP hD hS 1 0 rfl rfl rfl (by omega) (by omega) dW_plus_162 (fun H locs hP hD hS => ?_)
                have hP : va_P D vwCl [(h, .inr (4, [.ref w, .int (nI K), .int b])), (w, .inl (cT 0, R, .inl (upd g j (nI e1)))), (x2, .inr (4, [.ref w2, .int (nI K2), .int b2])), (w2, .inl (cT 0, R2, .inl f2))] _ := hP
                have hD : va_D A [(h, .inr (4, [.ref w, .int (nI K), .int b])), (w, .inl (cT 0, R, .inl (upd g j (nI e1)))), (x2, .inr (4, [.ref w2, .int (nI K2), .int b2])), (w2, .inl (cT 0, R2, .inl f2))] := hD
                refine lv_iinc (k := 6) (v := nI (j + 1)) hx hb dW_plus_163 hl rfl (nI_1 j) (by decide) rfl (fun ls hl => ?_)
                have hl : lv_has ls 8 [(5, .int (nI (j + 1))), (4, .int (-1)), (7, .int s1), (6, .int (nI y1)), (0, .ref h), (1, .ref x2), (3, .int 0)] := hl
                refine lv_goto (tgt := 32) hx hb dW_plus_166 rfl ?_
                exact ih32 (j + 1, 1, (-1), upd g j (nI e1)) (show (j + 1) ≤ R ∧ 1 ≤ 1 ∧ dok 1000000000 (upd g j (nI e1)) (j + 1) ∧ (∀ m, (j + 1) ≤ m → (upd g j (nI e1)) m = f m) ∧ (-1) = -(nI 1) ∧ hv 1000000000 (dg (upd g j (nI e1))) 0 (j + 1) + hv 1000000000 (ct K2 (dg f2)) 0 (j + 1) = hv 1000000000 (ct K (dg f)) 0 (j + 1) + 1000000000 ^ (j + 1) * 1 from ⟨by omega, by omega, dok_s ig he1b (by decide), fun q h => (pk_un (by omega)).trans (if0 q (by omega)), by decide, by rw [hv_us (v := e1) (by omega), hv_snoc, hv_snoc, Nat.zero_add, Nat.pow_succ, ← hx1, ← hy1]; exact sub_s iv (by omega)⟩) (show R - (j + 1) < R - j from (by omega)) ls H locs (lv_sub hl [4, 5, 6, 1, 0] rfl) hP hD hS
            · refine lv_iload hx hb dW_plus_87 (lv_at hl 5 rfl) ?_
              refine lv_aload_n hx hb dW_plus_89 rfl (lv_at hl 1 rfl) ?_
              refine va_get (D := D) (ci := 4) (v := .int (nI K)) (C := R_W) (T := T_W) (N := 3) hx hb hT in_W hown hK hP 0 rfl rfl 1 (by decide) (hT _ w148) (fun _ h9 => h9) rfl dW_plus_90 ?_
              refine lv_icmp_ge (tgt := 106) hx hb dW_plus_93 rfl (fun _ => ?_) (fun h22 => absurd (Int32.not_lt.mp h8) h22)
              refine lv_iconst (v := 0) hx hb dW_plus_106 (by decide) ?_
              exact hct18 _ (by rw [hx1, ct_ge (show K ≤ j by omega)]; rfl)
          · refine lv_iload hx hb dW_plus_65 (lv_at hl 4 rfl) ?_
            refine lv_aload_n hx hb dW_plus_67 rfl (lv_at hl 1 rfl) ?_
            refine va_get (D := D) (ci := 4) (v := .int (nI K2)) (C := R_W) (T := T_W) (N := 3) hx hb hT in_W hown hK hP 2 rfl rfl 1 (by decide) (hT _ w148) (fun _ h9 => h9) rfl dW_plus_68 ?_
            refine lv_icmp_ge (tgt := 84) hx hb dW_plus_71 rfl (fun h23 => absurd h23 (Int32.not_le.mpr h16)) (fun _ => ?_)
            refine lv_aload_n hx hb dW_plus_74 rfl (lv_at hl 1 rfl) ?_
            refine va_get (D := D) (ci := 4) (v := .ref w2) (C := R_W) (T := T_W) (N := 3) hx hb hT in_W hown hK hP 2 rfl rfl 0 (by decide) (hT _ w145) (fun _ h9 => h9) rfl dW_plus_75 ?_
            refine lv_iload hx hb dW_plus_78 (lv_at hl 4 rfl) ?_
            refine lq_iald (j := j) hx hb hK hP 3 0 rfl rfl rfl (by omega) (by omega) dW_plus_80 ?_
            refine lv_goto (tgt := 85) hx hb dW_plus_81 rfl ?_
            exact hct17 _ (by rw [hy1, ct_lt (show j < K2 by omega)]; exact (qhd j (by omega)).1)
        · have gh16 : K2 ≤ j := Nat.not_lt.mp (fun q => h16 ((nI_ltI (a := j) (b := K2) (by omega) (by omega)).mpr q))
          refine lv_iload hx hb dW_plus_60 (lv_at hl 3 rfl) ?_
          refine lv_if_le (tgt := 169) hx hb dW_plus_62 rfl (fun _ => ?_) (fun h24 => absurd (show -(nI o) ≤ 0 from by rcases (show o = 0 ∨ o = 1 by omega) with r | r <;> rw [r] <;> decide) h24)
          have hjK : K ≤ j ∧ K2 ≤ j := by omega
          rw [hv_ct hjK.1, hv_ct hjK.2] at iv
          have iv : vW g j + vW f2 K2 = vW f K + 1000000000 ^ j * o := iv
          have hvg := vW_b ig
          have hb2 := vW_b qhd
          have hpw : 1000000000 ^ K2 ≤ 1000000000 ^ j := Nat.pow_le_pow_right (by decide) hjK.2
          refine lv_iload hx hb dW_plus_169 (lv_at hl 3 rfl) ?_
          refine lv_if_ge (tgt := 180) hx hb dW_plus_171 rfl (fun h25 => ?_) (fun h25 => ?_)
          · have ho : o = 0 := by rcases (show o = 0 ∨ o = 1 by omega) with r | r; (exact r); (exact absurd (show 0 ≤ -(nI o) from h25) (by rw [r]; decide))
            rw [ho, Nat.mul_zero, Nat.add_zero] at iv
            refine lv_aload_n hx hb dW_plus_180 rfl (lv_at hl 0 rfl) ?_
            refine lv_iload hx hb dW_plus_181 (lv_at hl 4 rfl) ?_
            refine rw_v (wc := [(h, .inr (4, [.ref w, .int (nI K), .int b])), (w, .inl (cT 0, R, .inl g))]) (wr := [(x2, .inr (4, [.ref w2, .int (nI K2), .int b2])), (w2, .inl (cT 0, R2, .inl f2))]) hP hD hS hA [0, 1] [2, 3] rfl rfl (by decide) (by decide) (va_runV (As := [.int (nI j)]) (rest := []) ⟨hx, hb, hml, hown, hT⟩ (k_trim l D cT h w R (nI K) b g j hR ij ig _) ⟨callB_of 1 hT (tb_gd w397) rfl rfl rfl (hT _ w5) (hT _ w394) hW_trim ⟨Nat.le_of_ble_eq_true rfl, Nat.le_of_ble_eq_true rfl⟩, (hT _ w396), (hT _ wp3)⟩ (RW.preV (ci := 4) (q0 := 0) hZ hS (va_free (wc := [(h, .inr (4, [.ref w, .int (nI K), .int b])), (w, .inl (cT 0, R, .inl g))]) hD hS hA [0, 1] rfl) (hP.sub (ws' := [(h, .inr (4, [.ref w, .int (nI K), .int b])), (w, .inl (cT 0, R, .inl g))]) [0, 1] rfl) hK (hD.sub (ws' := [(h, .inr (4, [.ref w, .int (nI K), .int b])), (w, .inl (cT 0, R, .inl g))]) [0, 1] (by decide) rfl) rfl rfl) rfl rfl hl.1 rfl (lv_room (Nat.le_of_ble_eq_true rfl)) dW_plus_183 ⟨Nat.le_of_ble_eq_true rfl, Nat.le_of_ble_eq_true rfl⟩) (fun u9 H locs hpu26 hP hD hS => ?_)
            obtain ⟨ku26, rfl⟩ : ∃ q9, q9 = u9 := ⟨_, rfl⟩
            have hpu26 : ku26 ≤ j ∧ top0 g ku26 ∧ vW g ku26 = vW g j := hpu26
            have hP : va_P D vwCl [(x2, .inr (4, [.ref w2, .int (nI K2), .int b2])), (w2, .inl (cT 0, R2, .inl f2)), (h, .inr (4, [.ref w, .int (nI ku26), .int b])), (w, .inl (cT 0, R, .inl g))] _ := hP
            have hD : va_D A [(x2, .inr (4, [.ref w2, .int (nI K2), .int b2])), (w2, .inl (cT 0, R2, .inl f2)), (h, .inr (4, [.ref w, .int (nI ku26), .int b])), (w, .inl (cT 0, R, .inl g))] := hD
            have hP9 := hP.sub (ws' := [(h, .inr (4, [.ref w, .int (nI ku26), .int b])), (w, .inl (cT 0, R, .inl g)), (x2, .inr (4, [.ref w2, .int (nI K2), .int b2])), (w2, .inl (cT 0, R2, .inl f2))]) [2, 3, 0, 1] rfl
            have hD9 := hD.sub (ws' := [(h, .inr (4, [.ref w, .int (nI ku26), .int b])), (w, .inl (cT 0, R, .inl g)), (x2, .inr (4, [.ref w2, .int (nI K2), .int b2])), (w2, .inl (cT 0, R2, .inl f2))]) [2, 3, 0, 1] (by decide) rfl
            refine W.widen (k := 0) (n := 0) (Nat.le_of_ble_eq_true rfl) (Nat.le_of_ble_eq_true rfl) ?_
            exact W.vret hx hb hr (fun t9 ht9 hW9 => ⟨⟨(nI ku26, b, g), rfl, (show WN R (nI ku26) b g (z + z2) from by have q0 := wn_trim (R := R) (b := b) ij ig hb01 hpu26; rw [hz, qhz, fl_ne hb01 qhb01 h1, wz_fl]; rw [show vW g j = vW f K - vW f2 K2 by omega] at q0; rw [← Int.sub_eq_add_neg, wz_sub (by omega)]; exact q0), by rw [ht9]; exact hP9, hD9⟩, hS.F ht9⟩) hS.2.2 dW_plus_186
          · have ho : o = 1 := by rcases (show o = 0 ∨ o = 1 by omega) with r | r; (exact absurd (by rw [r]; decide) h25); (exact r)
            rw [ho, Nat.mul_one] at iv
            refine lv_aload_n hx hb dW_plus_174 rfl (lv_at hl 0 rfl) ?_
            refine lv_iload hx hb dW_plus_175 (lv_at hl 4 rfl) ?_
            refine rw_v (wc := [(h, .inr (4, [.ref w, .int (nI K), .int b])), (w, .inl (cT 0, R, .inl g))]) (wr := [(x2, .inr (4, [.ref w2, .int (nI K2), .int b2])), (w2, .inl (cT 0, R2, .inl f2))]) hP hD hS hA [0, 1] [2, 3] rfl rfl (by decide) (by decide) (va_runV (As := [.int (nI j)]) (rest := []) ⟨hx, hb, hml, hown, hT⟩ (k_complement l D cT h w R (nI K) b g j hR ij ig hb01 _) ⟨callB_of 1 hT (tb_gd w466) rfl rfl rfl (hT _ w5) (hT _ w463) hW_complement ⟨Nat.le_of_ble_eq_true rfl, Nat.le_of_ble_eq_true rfl⟩, (hT _ w465), (hT _ wp5)⟩ (RW.preV (ci := 4) (q0 := 0) hZ hS (va_free (wc := [(h, .inr (4, [.ref w, .int (nI K), .int b])), (w, .inl (cT 0, R, .inl g))]) hD hS hA [0, 1] rfl) (hP.sub (ws' := [(h, .inr (4, [.ref w, .int (nI K), .int b])), (w, .inl (cT 0, R, .inl g))]) [0, 1] rfl) hK (hD.sub (ws' := [(h, .inr (4, [.ref w, .int (nI K), .int b])), (w, .inl (cT 0, R, .inl g))]) [0, 1] (by decide) rfl) rfl rfl) rfl rfl hl.1 rfl (lv_room (Nat.le_of_ble_eq_true rfl)) dW_plus_177 ⟨Nat.le_of_ble_eq_true rfl, Nat.le_of_ble_eq_true rfl⟩) (fun u9 H locs hpu27 hP hD hS => ?_)
            obtain ⟨b1u27, f1u27⟩ := u9
            have hpu27 : dok 1000000000 f1u27 j ∧ (0 < vW g j → vW f1u27 j = 1000000000 ^ j - vW g j) ∧ b1u27 = fl b := hpu27
            have hP : va_P D vwCl [(x2, .inr (4, [.ref w2, .int (nI K2), .int b2])), (w2, .inl (cT 0, R2, .inl f2)), (h, .inr (4, [.ref w, .int (nI K), .int b1u27])), (w, .inl (cT 0, R, .inl f1u27))] _ := hP
            have hD : va_D A [(x2, .inr (4, [.ref w2, .int (nI K2), .int b2])), (w2, .inl (cT 0, R2, .inl f2)), (h, .inr (4, [.ref w, .int (nI K), .int b1u27])), (w, .inl (cT 0, R, .inl f1u27))] := hD
            obtain ⟨hc1, hc2, hc3⟩ := hpu27
            have hc2 := hc2 (by omega)
            refine lv_aload_n hx hb dW_plus_180 rfl (lv_at hl 0 rfl) ?_
            refine lv_iload hx hb dW_plus_181 (lv_at hl 4 rfl) ?_
            refine rw_v (wc := [(h, .inr (4, [.ref w, .int (nI K), .int b1u27])), (w, .inl (cT 0, R, .inl f1u27))]) (wr := [(x2, .inr (4, [.ref w2, .int (nI K2), .int b2])), (w2, .inl (cT 0, R2, .inl f2))]) hP hD hS hA [2, 3] [0, 1] rfl rfl (by decide) (by decide) (va_runV (As := [.int (nI j)]) (rest := []) ⟨hx, hb, hml, hown, hT⟩ (k_trim l D cT h w R (nI K) b1u27 f1u27 j hR ij hc1 _) ⟨callB_of 1 hT (tb_gd w397) rfl rfl rfl (hT _ w5) (hT _ w394) hW_trim ⟨Nat.le_of_ble_eq_true rfl, Nat.le_of_ble_eq_true rfl⟩, (hT _ w396), (hT _ wp3)⟩ (RW.preV (ci := 4) (q0 := 0) hZ hS (va_free (wc := [(h, .inr (4, [.ref w, .int (nI K), .int b1u27])), (w, .inl (cT 0, R, .inl f1u27))]) hD hS hA [2, 3] rfl) (hP.sub (ws' := [(h, .inr (4, [.ref w, .int (nI K), .int b1u27])), (w, .inl (cT 0, R, .inl f1u27))]) [2, 3] rfl) hK (hD.sub (ws' := [(h, .inr (4, [.ref w, .int (nI K), .int b1u27])), (w, .inl (cT 0, R, .inl f1u27))]) [2, 3] (by decide) rfl) rfl rfl) rfl rfl hl.1 rfl (lv_room (Nat.le_of_ble_eq_true rfl)) dW_plus_183 ⟨Nat.le_of_ble_eq_true rfl, Nat.le_of_ble_eq_true rfl⟩) (fun u9 H locs hpu28 hP hD hS => ?_)
            obtain ⟨ku28, rfl⟩ : ∃ q9, q9 = u9 := ⟨_, rfl⟩
            have hpu28 : ku28 ≤ j ∧ top0 f1u27 ku28 ∧ vW f1u27 ku28 = vW f1u27 j := hpu28
            have hP : va_P D vwCl [(x2, .inr (4, [.ref w2, .int (nI K2), .int b2])), (w2, .inl (cT 0, R2, .inl f2)), (h, .inr (4, [.ref w, .int (nI ku28), .int b1u27])), (w, .inl (cT 0, R, .inl f1u27))] _ := hP
            have hD : va_D A [(x2, .inr (4, [.ref w2, .int (nI K2), .int b2])), (w2, .inl (cT 0, R2, .inl f2)), (h, .inr (4, [.ref w, .int (nI ku28), .int b1u27])), (w, .inl (cT 0, R, .inl f1u27))] := hD
            have hP9 := hP.sub (ws' := [(h, .inr (4, [.ref w, .int (nI ku28), .int b1u27])), (w, .inl (cT 0, R, .inl f1u27)), (x2, .inr (4, [.ref w2, .int (nI K2), .int b2])), (w2, .inl (cT 0, R2, .inl f2))]) [2, 3, 0, 1] rfl
            have hD9 := hD.sub (ws' := [(h, .inr (4, [.ref w, .int (nI ku28), .int b1u27])), (w, .inl (cT 0, R, .inl f1u27)), (x2, .inr (4, [.ref w2, .int (nI K2), .int b2])), (w2, .inl (cT 0, R2, .inl f2))]) [2, 3, 0, 1] (by decide) rfl
            refine W.widen (k := 0) (n := 0) (Nat.le_of_ble_eq_true rfl) (Nat.le_of_ble_eq_true rfl) ?_
            exact W.vret hx hb hr (fun t9 ht9 hW9 => ⟨⟨(nI ku28, b1u27, f1u27), rfl, (show WN R (nI ku28) b1u27 f1u27 (z + z2) from by have q0 := wn_trim (R := R) (b := b1u27) ij hc1 (by rw [hc3]; exact fl_01 b) hpu28; rw [hz, qhz, fl_ne hb01 qhb01 h1, wz_fl]; rw [hc3]; rw [hc3, wz_fl, show vW f1u27 j = vW f2 K2 - vW f K by omega, ← wz_sub (by omega), Int.neg_sub] at q0; rw [← Int.sub_eq_add_neg]; exact q0), by rw [ht9]; exact hP9, hD9⟩, hS.F ht9⟩) hS.2.2 dW_plus_186
  · refine lv_iconst (v := 1) hx hb dW_plus_11 (by decide) ?_
    refine lv_goto (tgt := 16) hx hb dW_plus_12 rfl ?_
    refine lv_iload_n hx hb dW_plus_16 rfl (lv_at hl 2 rfl) ?_
    refine lv_icmp_eq (tgt := 24) hx hb dW_plus_17 rfl (fun h29 => absurd h29 (by decide)) (fun _ => ?_)
    refine lv_iconst (v := 1) hx hb dW_plus_20 (by decide) ?_
    refine lv_goto (tgt := 25) hx hb dW_plus_21 rfl ?_
    refine lv_istore_n hx hb dW_plus_25 rfl hl (by decide) rfl (fun ls hl => ?_)
    have hl : lv_has ls 8 [(3, .int 1), (0, .ref h), (1, .ref x2), (2, .int 0)] := hl
    refine lv_iconst (v := 0) hx hb dW_plus_26 (by decide) ?_
    refine lv_istore hx hb dW_plus_27 hl (by decide) rfl (fun ls hl => ?_)
    have hl : lv_has ls 8 [(4, .int 0), (3, .int 1), (0, .ref h), (1, .ref x2), (2, .int 0)] := hl
    refine lv_iconst (v := 0) hx hb dW_plus_29 (by decide) ?_
    refine lv_istore hx hb dW_plus_30 hl (by decide) rfl (fun ls hl => ?_)
    have hl : lv_has ls 8 [(5, .int 0), (4, .int 0), (3, .int 1), (0, .ref h), (1, .ref x2), (2, .int 0)] := hl
    refine lp_w (α := Nat × Nat × Int32 × (Nat → Int32)) (fun a9 => a9.1 ≤ R ∧ a9.2.1 ≤ 1 ∧ dok 1000000000 a9.2.2.2 a9.1 ∧ (∀ m, a9.1 ≤ m → a9.2.2.2 m = f m) ∧ a9.2.2.1 = nI a9.2.1 ∧ hv 1000000000 (dg a9.2.2.2) 0 a9.1 + 1000000000 ^ a9.1 * a9.2.1 = hv 1000000000 (ct K (dg f)) 0 a9.1 + hv 1000000000 (ct K2 (dg f2)) 0 a9.1) (fun a9 => R - a9.1) (fun a9 => [(0, .ref h), (1, .ref x2), (3, .int 1), (4, .int a9.2.2.1), (5, .int (nI a9.1))]) (fun a9 => [(h, .inr (4, [.ref w, .int (nI K), .int b])), (w, .inl (cT 0, R, .inl a9.2.2.2)), (x2, .inr (4, [.ref w2, .int (nI K2), .int b2])), (w2, .inl (cT 0, R2, .inl f2))]) 32 ?_ (0, 0, 0, f) (show 0 ≤ R ∧ 0 ≤ 1 ∧ dok 1000000000 f 0 ∧ (∀ m, 0 ≤ m → f m = f m) ∧ 0 = nI 0 ∧ hv 1000000000 (dg f) 0 0 + 1000000000 ^ 0 * 0 = hv 1000000000 (ct K (dg f)) 0 0 + hv 1000000000 (ct K2 (dg f2)) 0 0 from ⟨by omega, by omega, fun q h => absurd h (by omega), fun _ _ => rfl, by decide, by simp [hv]⟩) (lv_sub hl [3, 4, 2, 1, 0] rfl) hP hD hS
    intro a9 hI32 ih32 ls H locs hl hP hD hS
    obtain ⟨j, o, cr, g⟩ := a9
    have hI32 : j ≤ R ∧ o ≤ 1 ∧ dok 1000000000 g j ∧ (∀ m, j ≤ m → g m = f m) ∧ cr = nI o ∧ hv 1000000000 (dg g) 0 j + 1000000000 ^ j * o = hv 1000000000 (ct K (dg f)) 0 j + hv 1000000000 (ct K2 (dg f2)) 0 j := hI32
    obtain ⟨ij, io, ig, if0, icr, iv⟩ := hI32
    have hl : lv_has ls 8 [(0, .ref h), (1, .ref x2), (3, .int 1), (4, .int cr), (5, .int (nI j))] := hl
    have hP : va_P D vwCl [(h, .inr (4, [.ref w, .int (nI K), .int b])), (w, .inl (cT 0, R, .inl g)), (x2, .inr (4, [.ref w2, .int (nI K2), .int b2])), (w2, .inl (cT 0, R2, .inl f2))] _ := hP
    have hD : va_D A [(h, .inr (4, [.ref w, .int (nI K), .int b])), (w, .inl (cT 0, R, .inl g)), (x2, .inr (4, [.ref w2, .int (nI K2), .int b2])), (w2, .inl (cT 0, R2, .inl f2))] := hD
    subst icr
    have hl : lv_has ls 8 [(0, .ref h), (1, .ref x2), (3, .int 1), (4, .int (nI o)), (5, .int (nI j))] := hl
    have hP : va_P D vwCl [(h, .inr (4, [.ref w, .int (nI K), .int b])), (w, .inl (cT 0, R, .inl g)), (x2, .inr (4, [.ref w2, .int (nI K2), .int b2])), (w2, .inl (cT 0, R2, .inl f2))] _ := hP
    have hD : va_D A [(h, .inr (4, [.ref w, .int (nI K), .int b])), (w, .inl (cT 0, R, .inl g)), (x2, .inr (4, [.ref w2, .int (nI K2), .int b2])), (w2, .inl (cT 0, R2, .inl f2))] := hD
    refine lv_iload hx hb dW_plus_32 (lv_at hl 4 rfl) ?_
    refine lv_aload_n hx hb dW_plus_34 rfl (lv_at hl 0 rfl) ?_
    refine va_get (D := D) (ci := 4) (v := .ref w) (C := R_W) (T := T_W) (N := 3) hx hb hT in_W hown hK hP 0 rfl rfl 0 (by decide) (hT _ w145) (fun _ h9 => h9) rfl dW_plus_35 ?_
    refine va_alen (v := nI R) hx hb hK hP 1 0 rfl rfl rfl dW_plus_38 ?_
    refine lv_icmp_ge (tgt := 169) hx hb dW_plus_39 rfl (fun h30 => ?_) (fun h30 => ?_)
    · have gh30 : R ≤ j := (nI_leI (a := R) (b := j) (by omega) (by omega)).mp h30
      have hjK : K ≤ j ∧ K2 ≤ j := by omega
      rw [hv_ct hjK.1, hv_ct hjK.2] at iv
      have iv : vW g j + 1000000000 ^ j * o = vW f K + vW f2 K2 := iv
      have ho : o = 0 := by
        have e1 : j = R := by omega
        rw [e1] at iv
        rcases (show o = 0 ∨ o = 1 by omega) with r | r
        · exact r
        · rw [r, Nat.mul_one] at iv; omega
      rw [ho, Nat.mul_zero, Nat.add_zero] at iv
      refine lv_iload hx hb dW_plus_169 (lv_at hl 3 rfl) ?_
      refine lv_if_ge (tgt := 180) hx hb dW_plus_171 rfl (fun _ => ?_) (fun h31 => absurd (nI_pos' (by omega)) h31)
      refine lv_aload_n hx hb dW_plus_180 rfl (lv_at hl 0 rfl) ?_
      refine lv_iload hx hb dW_plus_181 (lv_at hl 4 rfl) ?_
      refine rw_v (wc := [(h, .inr (4, [.ref w, .int (nI K), .int b])), (w, .inl (cT 0, R, .inl g))]) (wr := [(x2, .inr (4, [.ref w2, .int (nI K2), .int b2])), (w2, .inl (cT 0, R2, .inl f2))]) hP hD hS hA [0, 1] [2, 3] rfl rfl (by decide) (by decide) (va_runV (As := [.int (nI j)]) (rest := []) ⟨hx, hb, hml, hown, hT⟩ (k_trim l D cT h w R (nI K) b g j hR ij ig _) ⟨callB_of 1 hT (tb_gd w397) rfl rfl rfl (hT _ w5) (hT _ w394) hW_trim ⟨Nat.le_of_ble_eq_true rfl, Nat.le_of_ble_eq_true rfl⟩, (hT _ w396), (hT _ wp3)⟩ (RW.preV (ci := 4) (q0 := 0) hZ hS (va_free (wc := [(h, .inr (4, [.ref w, .int (nI K), .int b])), (w, .inl (cT 0, R, .inl g))]) hD hS hA [0, 1] rfl) (hP.sub (ws' := [(h, .inr (4, [.ref w, .int (nI K), .int b])), (w, .inl (cT 0, R, .inl g))]) [0, 1] rfl) hK (hD.sub (ws' := [(h, .inr (4, [.ref w, .int (nI K), .int b])), (w, .inl (cT 0, R, .inl g))]) [0, 1] (by decide) rfl) rfl rfl) rfl rfl hl.1 rfl (lv_room (Nat.le_of_ble_eq_true rfl)) dW_plus_183 ⟨Nat.le_of_ble_eq_true rfl, Nat.le_of_ble_eq_true rfl⟩) (fun u9 H locs hpu32 hP hD hS => ?_)
      obtain ⟨ku32, rfl⟩ : ∃ q9, q9 = u9 := ⟨_, rfl⟩
      have hpu32 : ku32 ≤ j ∧ top0 g ku32 ∧ vW g ku32 = vW g j := hpu32
      have hP : va_P D vwCl [(x2, .inr (4, [.ref w2, .int (nI K2), .int b2])), (w2, .inl (cT 0, R2, .inl f2)), (h, .inr (4, [.ref w, .int (nI ku32), .int b])), (w, .inl (cT 0, R, .inl g))] _ := hP
      have hD : va_D A [(x2, .inr (4, [.ref w2, .int (nI K2), .int b2])), (w2, .inl (cT 0, R2, .inl f2)), (h, .inr (4, [.ref w, .int (nI ku32), .int b])), (w, .inl (cT 0, R, .inl g))] := hD
      have hP9 := hP.sub (ws' := [(h, .inr (4, [.ref w, .int (nI ku32), .int b])), (w, .inl (cT 0, R, .inl g)), (x2, .inr (4, [.ref w2, .int (nI K2), .int b2])), (w2, .inl (cT 0, R2, .inl f2))]) [2, 3, 0, 1] rfl
      have hD9 := hD.sub (ws' := [(h, .inr (4, [.ref w, .int (nI ku32), .int b])), (w, .inl (cT 0, R, .inl g)), (x2, .inr (4, [.ref w2, .int (nI K2), .int b2])), (w2, .inl (cT 0, R2, .inl f2))]) [2, 3, 0, 1] (by decide) rfl
      refine W.widen (k := 0) (n := 0) (Nat.le_of_ble_eq_true rfl) (Nat.le_of_ble_eq_true rfl) ?_
      exact W.vret hx hb hr (fun t9 ht9 hW9 => ⟨⟨(nI ku32, b, g), rfl, (show WN R (nI ku32) b g (z + z2) from by have q0 := wn_trim (R := R) (b := b) ij ig hb01 hpu32; rw [hz, qhz, ← h1]; rw [show vW g j = vW f K + vW f2 K2 from iv] at q0; rw [wz_add]; exact q0), by rw [ht9]; exact hP9, hD9⟩, hS.F ht9⟩) hS.2.2 dW_plus_186
    · have gh30 : j < R := Nat.not_le.mp (fun q => h30 ((nI_leI (a := R) (b := j) (by omega) (by omega)).mpr q))
      refine lv_iload hx hb dW_plus_42 (lv_at hl 4 rfl) ?_
      refine lv_aload_n hx hb dW_plus_44 rfl (lv_at hl 0 rfl) ?_
      refine va_get (D := D) (ci := 4) (v := .int (nI K)) (C := R_W) (T := T_W) (N := 3) hx hb hT in_W hown hK hP 0 rfl rfl 1 (by decide) (hT _ w148) (fun _ h9 => h9) rfl dW_plus_45 ?_
      refine lv_icmp_lt (tgt := 65) hx hb dW_plus_48 rfl (fun h33 => ?_) (fun h33 => ?_)
      · have gh33 : j < K := (nI_ltI (a := j) (b := K) (by omega) (by omega)).mp h33
        obtain ⟨y1, hy1⟩ : ∃ q9 : Nat, q9 = ct K2 (dg f2) j := ⟨_, rfl⟩
        obtain ⟨x1, hx1⟩ : ∃ q9 : Nat, q9 = ct K (dg f) j := ⟨_, rfl⟩
        have hy1b : y1 < 1000000000 := by
          rw [hy1]
          by_cases q : j < K2
          · rw [ct_lt q]; exact (qhd j q).2
          · rw [ct_ge (show K2 ≤ j by omega)]; decide
        have hx1b : x1 < 1000000000 := by
          rw [hx1]
          by_cases q : j < K
          · rw [ct_lt q]; exact (hd j q).2
          · rw [ct_ge (show K ≤ j by omega)]; decide
        refine lp_cut (fun x9 : Int32 => x9 = nI y1) (fun x9 => [.int x9]) 85 ls (fun x9 e9 => ?_) (fun hct34 => ?_)
        · cases (show x9 = nI y1 from e9)
          refine lv_istore hx hb dW_plus_85 hl (by decide) rfl (fun ls hl => ?_)
          have hl : lv_has ls 8 [(6, .int (nI y1)), (0, .ref h), (1, .ref x2), (3, .int 1), (4, .int (nI o)), (5, .int (nI j))] := hl
          refine lp_cut (fun x9 : Int32 => x9 = nI x1) (fun x9 => [.int x9]) 107 ls (fun x9 e9 => ?_) (fun hct35 => ?_)
          · cases (show x9 = nI x1 from e9)
            refine lv_iload_n hx hb dW_plus_107 rfl (lv_at hl 3 rfl) ?_
            refine lv_if_eq (tgt := 116) hx hb dW_plus_108 rfl (fun h36 => absurd h36 (by decide)) (fun _ => ?_)
            refine lv_iload hx hb dW_plus_111 (lv_at hl 0 rfl) ?_
            refine lv_goto (tgt := 119) hx hb dW_plus_113 rfl ?_
            refine lv_iadd hx hb dW_plus_119 ?_
            refine lv_topi (fun y9 e9 => ?_)
            cases (show y9 = nI (x1 + y1) from e9.trans (nI_add x1 y1))
            refine lv_iload hx hb dW_plus_120 (lv_at hl 4 rfl) ?_
            refine lv_iadd hx hb dW_plus_122 ?_
            refine lv_topi (fun y9 e9 => ?_)
            cases (show y9 = nI ((x1 + y1) + o) from e9.trans (nI_add (x1 + y1) o))
            obtain ⟨s1, hs1⟩ : ∃ q9 : Nat, q9 = x1 + y1 + o := ⟨_, rfl⟩
            refine lv_topi (fun y9 e9 => ?_)
            cases (show y9 = nI s1 from e9.trans (by rw [hs1]))
            refine lv_istore hx hb dW_plus_123 hl (by decide) rfl (fun ls hl => ?_)
            have hl : lv_has ls 8 [(7, .int (nI s1)), (6, .int (nI y1)), (0, .ref h), (1, .ref x2), (3, .int 1), (4, .int (nI o)), (5, .int (nI j))] := hl
            refine lv_iload hx hb dW_plus_125 (lv_at hl 0 rfl) ?_
            refine lv_ldc (v := 1000000000) hx hb hown (hT _ w462) dW_plus_127 ?_
            refine lv_icmp_lt (tgt := 136) hx hb dW_plus_129 rfl (fun h37 => ?_) (fun h37 => ?_)
            · have gh37 : s1 < 1000000000 := (nI_ltI (a := s1) (b := 1000000000) (by omega) (by omega)).mp h37
              refine lv_iload hx hb dW_plus_136 (lv_at hl 0 rfl) ?_
              refine lv_if_ge (tgt := 145) hx hb dW_plus_138 rfl (fun _ => ?_) (fun h38 => absurd (nI_pos' (by omega)) h38)
              obtain ⟨e1, he1⟩ : ∃ q9 : Nat, q9 = s1 := ⟨_, rfl⟩
              have he1b : e1 < 1000000000 := by omega
              refine lv_iconst (v := 0) hx hb dW_plus_145 (by decide) ?_
              refine lv_istore hx hb dW_plus_146 hl (by decide) rfl (fun ls hl => ?_)
              have hl : lv_has ls 8 [(4, .int 0), (7, .int (nI s1)), (6, .int (nI y1)), (0, .ref h), (1, .ref x2), (3, .int 1), (5, .int (nI j))] := hl
              refine lv_aload_n hx hb dW_plus_148 rfl (lv_at hl 3 rfl) ?_
              refine va_get (D := D) (ci := 4) (v := .ref w) (C := R_W) (T := T_W) (N := 3) hx hb hT in_W hown hK hP 0 rfl rfl 0 (by decide) (hT _ w145) (fun _ h9 => h9) rfl dW_plus_149 ?_
              refine lv_iload hx hb dW_plus_152 (lv_at hl 6 rfl) ?_
              refine lv_iload hx hb dW_plus_154 (lv_at hl 1 rfl) ?_
              refine lv_iload hx hb dW_plus_156 (lv_at hl 0 rfl) ?_
              refine lv_ldc (v := 1000000000) hx hb hown (hT _ w462) dW_plus_158 ?_
              refine lv_imul hx hb dW_plus_160 ?_
              refine lv_topi (fun y9 e9 => ?_)
              cases (show y9 = 0 from e9.trans (by decide))
              refine lv_isub hx hb dW_plus_161 ?_
              refine lv_topi (fun y9 e9 => ?_)
              cases (show y9 = nI e1 from e9.trans (by rw [he1]; exact Int32.sub_zero _))
              refine lq_iast (j := j) hx hb hK hP hD hS 1 0 rfl rfl rfl (by omega) (by omega) dW_plus_162 (fun H locs hP hD hS => ?_)
              have hP : va_P D vwCl [(h, .inr (4, [.ref w, .int (nI K), .int b])), (w, .inl (cT 0, R, .inl (upd g j (nI e1)))), (x2, .inr (4, [.ref w2, .int (nI K2), .int b2])), (w2, .inl (cT 0, R2, .inl f2))] _ := hP
              have hD : va_D A [(h, .inr (4, [.ref w, .int (nI K), .int b])), (w, .inl (cT 0, R, .inl (upd g j (nI e1)))), (x2, .inr (4, [.ref w2, .int (nI K2), .int b2])), (w2, .inl (cT 0, R2, .inl f2))] := hD
              refine lv_iinc (k := 6) (v := nI (j + 1)) hx hb dW_plus_163 hl rfl (nI_1 j) (by decide) rfl (fun ls hl => ?_)
              have hl : lv_has ls 8 [(5, .int (nI (j + 1))), (4, .int 0), (7, .int (nI s1)), (6, .int (nI y1)), (0, .ref h), (1, .ref x2), (3, .int 1)] := hl
              refine lv_goto (tgt := 32) hx hb dW_plus_166 rfl ?_
              exact ih32 (j + 1, 0, 0, upd g j (nI e1)) (show (j + 1) ≤ R ∧ 0 ≤ 1 ∧ dok 1000000000 (upd g j (nI e1)) (j + 1) ∧ (∀ m, (j + 1) ≤ m → (upd g j (nI e1)) m = f m) ∧ 0 = nI 0 ∧ hv 1000000000 (dg (upd g j (nI e1))) 0 (j + 1) + 1000000000 ^ (j + 1) * 0 = hv 1000000000 (ct K (dg f)) 0 (j + 1) + hv 1000000000 (ct K2 (dg f2)) 0 (j + 1) from ⟨by omega, by omega, dok_s ig he1b (by decide), fun q h => (pk_un (by omega)).trans (if0 q (by omega)), by decide, by rw [hv_us (v := e1) (by omega), hv_snoc, hv_snoc, Nat.zero_add, Nat.pow_succ, ← hx1, ← hy1]; exact add_s iv (by omega)⟩) (show R - (j + 1) < R - j from (by omega)) ls H locs (lv_sub hl [4, 5, 6, 1, 0] rfl) hP hD hS
            · have gh37 : 1000000000 ≤ s1 := Nat.not_lt.mp (fun q => h37 ((nI_ltI (a := s1) (b := 1000000000) (by omega) (by omega)).mpr q))
              obtain ⟨e1, he1⟩ : ∃ q9 : Nat, q9 = s1 - 1000000000 := ⟨_, rfl⟩
              have he1b : e1 < 1000000000 := by omega
              refine lv_iconst (v := 1) hx hb dW_plus_132 (by decide) ?_
              refine lv_goto (tgt := 146) hx hb dW_plus_133 rfl ?_
              refine lv_istore hx hb dW_plus_146 hl (by decide) rfl (fun ls hl => ?_)
              have hl : lv_has ls 8 [(4, .int 1), (7, .int (nI s1)), (6, .int (nI y1)), (0, .ref h), (1, .ref x2), (3, .int 1), (5, .int (nI j))] := hl
              refine lv_aload_n hx hb dW_plus_148 rfl (lv_at hl 3 rfl) ?_
              refine va_get (D := D) (ci := 4) (v := .ref w) (C := R_W) (T := T_W) (N := 3) hx hb hT in_W hown hK hP 0 rfl rfl 0 (by decide) (hT _ w145) (fun _ h9 => h9) rfl dW_plus_149 ?_
              refine lv_iload hx hb dW_plus_152 (lv_at hl 6 rfl) ?_
              refine lv_iload hx hb dW_plus_154 (lv_at hl 1 rfl) ?_
              refine lv_iload hx hb dW_plus_156 (lv_at hl 0 rfl) ?_
              refine lv_ldc (v := 1000000000) hx hb hown (hT _ w462) dW_plus_158 ?_
              refine lv_imul hx hb dW_plus_160 ?_
              refine lv_topi (fun y9 e9 => ?_)
              cases (show y9 = 1000000000 from e9.trans (by decide))
              refine lv_isub hx hb dW_plus_161 ?_
              refine lv_topi (fun y9 e9 => ?_)
              cases (show y9 = nI e1 from e9.trans (by rw [he1]; exact pk_sub (a := s1) (b := 1000000000) (by omega)))
              refine lq_iast (j := j) hx hb hK hP hD hS 1 0 rfl rfl rfl (by omega) (by omega) dW_plus_162 (fun H locs hP hD hS => ?_)
              have hP : va_P D vwCl [(h, .inr (4, [.ref w, .int (nI K), .int b])), (w, .inl (cT 0, R, .inl (upd g j (nI e1)))), (x2, .inr (4, [.ref w2, .int (nI K2), .int b2])), (w2, .inl (cT 0, R2, .inl f2))] _ := hP
              have hD : va_D A [(h, .inr (4, [.ref w, .int (nI K), .int b])), (w, .inl (cT 0, R, .inl (upd g j (nI e1)))), (x2, .inr (4, [.ref w2, .int (nI K2), .int b2])), (w2, .inl (cT 0, R2, .inl f2))] := hD
              refine lv_iinc (k := 6) (v := nI (j + 1)) hx hb dW_plus_163 hl rfl (nI_1 j) (by decide) rfl (fun ls hl => ?_)
              have hl : lv_has ls 8 [(5, .int (nI (j + 1))), (4, .int 1), (7, .int (nI s1)), (6, .int (nI y1)), (0, .ref h), (1, .ref x2), (3, .int 1)] := hl
              refine lv_goto (tgt := 32) hx hb dW_plus_166 rfl ?_
              exact ih32 (j + 1, 1, 1, upd g j (nI e1)) (show (j + 1) ≤ R ∧ 1 ≤ 1 ∧ dok 1000000000 (upd g j (nI e1)) (j + 1) ∧ (∀ m, (j + 1) ≤ m → (upd g j (nI e1)) m = f m) ∧ 1 = nI 1 ∧ hv 1000000000 (dg (upd g j (nI e1))) 0 (j + 1) + 1000000000 ^ (j + 1) * 1 = hv 1000000000 (ct K (dg f)) 0 (j + 1) + hv 1000000000 (ct K2 (dg f2)) 0 (j + 1) from ⟨by omega, by omega, dok_s ig he1b (by decide), fun q h => (pk_un (by omega)).trans (if0 q (by omega)), by decide, by rw [hv_us (v := e1) (by omega), hv_snoc, hv_snoc, Nat.zero_add, Nat.pow_succ, ← hx1, ← hy1]; exact add_s iv (by omega)⟩) (show R - (j + 1) < R - j from (by omega)) ls H locs (lv_sub hl [4, 5, 6, 1, 0] rfl) hP hD hS
          · refine lv_iload hx hb dW_plus_87 (lv_at hl 5 rfl) ?_
            refine lv_aload_n hx hb dW_plus_89 rfl (lv_at hl 1 rfl) ?_
            refine va_get (D := D) (ci := 4) (v := .int (nI K)) (C := R_W) (T := T_W) (N := 3) hx hb hT in_W hown hK hP 0 rfl rfl 1 (by decide) (hT _ w148) (fun _ h9 => h9) rfl dW_plus_90 ?_
            refine lv_icmp_ge (tgt := 106) hx hb dW_plus_93 rfl (fun h39 => absurd h39 (Int32.not_le.mpr h33)) (fun _ => ?_)
            refine lv_aload_n hx hb dW_plus_96 rfl (lv_at hl 1 rfl) ?_
            refine va_get (D := D) (ci := 4) (v := .ref w) (C := R_W) (T := T_W) (N := 3) hx hb hT in_W hown hK hP 0 rfl rfl 0 (by decide) (hT _ w145) (fun _ h9 => h9) rfl dW_plus_97 ?_
            refine lv_iload hx hb dW_plus_100 (lv_at hl 5 rfl) ?_
            refine lq_iald (j := j) hx hb hK hP 1 0 rfl rfl rfl (by omega) (by omega) dW_plus_102 ?_
            refine lv_goto (tgt := 107) hx hb dW_plus_103 rfl ?_
            exact hct35 _ (by rw [if0 j (Nat.le_refl _), hx1, ct_lt (show j < K by omega)]; exact (hd j (by omega)).1)
        · refine lv_iload hx hb dW_plus_65 (lv_at hl 4 rfl) ?_
          refine lv_aload_n hx hb dW_plus_67 rfl (lv_at hl 1 rfl) ?_
          refine va_get (D := D) (ci := 4) (v := .int (nI K2)) (C := R_W) (T := T_W) (N := 3) hx hb hT in_W hown hK hP 2 rfl rfl 1 (by decide) (hT _ w148) (fun _ h9 => h9) rfl dW_plus_68 ?_
          refine lv_icmp_ge (tgt := 84) hx hb dW_plus_71 rfl (fun h40 => ?_) (fun h40 => ?_)
          · have gh40 : K2 ≤ j := (nI_leI (a := K2) (b := j) (by omega) (by omega)).mp h40
            refine lv_iconst (v := 0) hx hb dW_plus_84 (by decide) ?_
            exact hct34 _ (by rw [hy1, ct_ge (show K2 ≤ j by omega)]; rfl)
          · have gh40 : j < K2 := Nat.not_le.mp (fun q => h40 ((nI_leI (a := K2) (b := j) (by omega) (by omega)).mpr q))
            refine lv_aload_n hx hb dW_plus_74 rfl (lv_at hl 1 rfl) ?_
            refine va_get (D := D) (ci := 4) (v := .ref w2) (C := R_W) (T := T_W) (N := 3) hx hb hT in_W hown hK hP 2 rfl rfl 0 (by decide) (hT _ w145) (fun _ h9 => h9) rfl dW_plus_75 ?_
            refine lv_iload hx hb dW_plus_78 (lv_at hl 4 rfl) ?_
            refine lq_iald (j := j) hx hb hK hP 3 0 rfl rfl rfl (by omega) (by omega) dW_plus_80 ?_
            refine lv_goto (tgt := 85) hx hb dW_plus_81 rfl ?_
            exact hct34 _ (by rw [hy1, ct_lt (show j < K2 by omega)]; exact (qhd j (by omega)).1)
      · have gh33 : K ≤ j := Nat.not_lt.mp (fun q => h33 ((nI_ltI (a := j) (b := K) (by omega) (by omega)).mpr q))
        refine lv_iload hx hb dW_plus_51 (lv_at hl 4 rfl) ?_
        refine lv_aload_n hx hb dW_plus_53 rfl (lv_at hl 1 rfl) ?_
        refine va_get (D := D) (ci := 4) (v := .int (nI K2)) (C := R_W) (T := T_W) (N := 3) hx hb hT in_W hown hK hP 2 rfl rfl 1 (by decide) (hT _ w148) (fun _ h9 => h9) rfl dW_plus_54 ?_
        refine lv_icmp_lt (tgt := 65) hx hb dW_plus_57 rfl (fun h41 => ?_) (fun h41 => ?_)
        · have gh41 : j < K2 := (nI_ltI (a := j) (b := K2) (by omega) (by omega)).mp h41
          obtain ⟨y1, hy1⟩ : ∃ q9 : Nat, q9 = ct K2 (dg f2) j := ⟨_, rfl⟩
          obtain ⟨x1, hx1⟩ : ∃ q9 : Nat, q9 = ct K (dg f) j := ⟨_, rfl⟩
          have hy1b : y1 < 1000000000 := by
            rw [hy1]
            by_cases q : j < K2
            · rw [ct_lt q]; exact (qhd j q).2
            · rw [ct_ge (show K2 ≤ j by omega)]; decide
          have hx1b : x1 < 1000000000 := by
            rw [hx1]
            by_cases q : j < K
            · rw [ct_lt q]; exact (hd j q).2
            · rw [ct_ge (show K ≤ j by omega)]; decide
          refine lp_cut (fun x9 : Int32 => x9 = nI y1) (fun x9 => [.int x9]) 85 ls (fun x9 e9 => ?_) (fun hct42 => ?_)
          · cases (show x9 = nI y1 from e9)
            refine lv_istore hx hb dW_plus_85 hl (by decide) rfl (fun ls hl => ?_)
            have hl : lv_has ls 8 [(6, .int (nI y1)), (0, .ref h), (1, .ref x2), (3, .int 1), (4, .int (nI o)), (5, .int (nI j))] := hl
            refine lp_cut (fun x9 : Int32 => x9 = nI x1) (fun x9 => [.int x9]) 107 ls (fun x9 e9 => ?_) (fun hct43 => ?_)
            · cases (show x9 = nI x1 from e9)
              refine lv_iload_n hx hb dW_plus_107 rfl (lv_at hl 3 rfl) ?_
              refine lv_if_eq (tgt := 116) hx hb dW_plus_108 rfl (fun h44 => absurd h44 (by decide)) (fun _ => ?_)
              refine lv_iload hx hb dW_plus_111 (lv_at hl 0 rfl) ?_
              refine lv_goto (tgt := 119) hx hb dW_plus_113 rfl ?_
              refine lv_iadd hx hb dW_plus_119 ?_
              refine lv_topi (fun y9 e9 => ?_)
              cases (show y9 = nI (x1 + y1) from e9.trans (nI_add x1 y1))
              refine lv_iload hx hb dW_plus_120 (lv_at hl 4 rfl) ?_
              refine lv_iadd hx hb dW_plus_122 ?_
              refine lv_topi (fun y9 e9 => ?_)
              cases (show y9 = nI ((x1 + y1) + o) from e9.trans (nI_add (x1 + y1) o))
              obtain ⟨s1, hs1⟩ : ∃ q9 : Nat, q9 = x1 + y1 + o := ⟨_, rfl⟩
              refine lv_topi (fun y9 e9 => ?_)
              cases (show y9 = nI s1 from e9.trans (by rw [hs1]))
              refine lv_istore hx hb dW_plus_123 hl (by decide) rfl (fun ls hl => ?_)
              have hl : lv_has ls 8 [(7, .int (nI s1)), (6, .int (nI y1)), (0, .ref h), (1, .ref x2), (3, .int 1), (4, .int (nI o)), (5, .int (nI j))] := hl
              refine lv_iload hx hb dW_plus_125 (lv_at hl 0 rfl) ?_
              refine lv_ldc (v := 1000000000) hx hb hown (hT _ w462) dW_plus_127 ?_
              refine lv_icmp_lt (tgt := 136) hx hb dW_plus_129 rfl (fun h45 => ?_) (fun h45 => ?_)
              · have gh45 : s1 < 1000000000 := (nI_ltI (a := s1) (b := 1000000000) (by omega) (by omega)).mp h45
                refine lv_iload hx hb dW_plus_136 (lv_at hl 0 rfl) ?_
                refine lv_if_ge (tgt := 145) hx hb dW_plus_138 rfl (fun _ => ?_) (fun h46 => absurd (nI_pos' (by omega)) h46)
                obtain ⟨e1, he1⟩ : ∃ q9 : Nat, q9 = s1 := ⟨_, rfl⟩
                have he1b : e1 < 1000000000 := by omega
                refine lv_iconst (v := 0) hx hb dW_plus_145 (by decide) ?_
                refine lv_istore hx hb dW_plus_146 hl (by decide) rfl (fun ls hl => ?_)
                have hl : lv_has ls 8 [(4, .int 0), (7, .int (nI s1)), (6, .int (nI y1)), (0, .ref h), (1, .ref x2), (3, .int 1), (5, .int (nI j))] := hl
                refine lv_aload_n hx hb dW_plus_148 rfl (lv_at hl 3 rfl) ?_
                refine va_get (D := D) (ci := 4) (v := .ref w) (C := R_W) (T := T_W) (N := 3) hx hb hT in_W hown hK hP 0 rfl rfl 0 (by decide) (hT _ w145) (fun _ h9 => h9) rfl dW_plus_149 ?_
                refine lv_iload hx hb dW_plus_152 (lv_at hl 6 rfl) ?_
                refine lv_iload hx hb dW_plus_154 (lv_at hl 1 rfl) ?_
                refine lv_iload hx hb dW_plus_156 (lv_at hl 0 rfl) ?_
                refine lv_ldc (v := 1000000000) hx hb hown (hT _ w462) dW_plus_158 ?_
                refine lv_imul hx hb dW_plus_160 ?_
                refine lv_topi (fun y9 e9 => ?_)
                cases (show y9 = 0 from e9.trans (by decide))
                refine lv_isub hx hb dW_plus_161 ?_
                refine lv_topi (fun y9 e9 => ?_)
                cases (show y9 = nI e1 from e9.trans (by rw [he1]; exact Int32.sub_zero _))
                refine lq_iast (j := j) hx hb hK hP hD hS 1 0 rfl rfl rfl (by omega) (by omega) dW_plus_162 (fun H locs hP hD hS => ?_)
                have hP : va_P D vwCl [(h, .inr (4, [.ref w, .int (nI K), .int b])), (w, .inl (cT 0, R, .inl (upd g j (nI e1)))), (x2, .inr (4, [.ref w2, .int (nI K2), .int b2])), (w2, .inl (cT 0, R2, .inl f2))] _ := hP
                have hD : va_D A [(h, .inr (4, [.ref w, .int (nI K), .int b])), (w, .inl (cT 0, R, .inl (upd g j (nI e1)))), (x2, .inr (4, [.ref w2, .int (nI K2), .int b2])), (w2, .inl (cT 0, R2, .inl f2))] := hD
                refine lv_iinc (k := 6) (v := nI (j + 1)) hx hb dW_plus_163 hl rfl (nI_1 j) (by decide) rfl (fun ls hl => ?_)
                have hl : lv_has ls 8 [(5, .int (nI (j + 1))), (4, .int 0), (7, .int (nI s1)), (6, .int (nI y1)), (0, .ref h), (1, .ref x2), (3, .int 1)] := hl
                refine lv_goto (tgt := 32) hx hb dW_plus_166 rfl ?_
                exact ih32 (j + 1, 0, 0, upd g j (nI e1)) (show (j + 1) ≤ R ∧ 0 ≤ 1 ∧ dok 1000000000 (upd g j (nI e1)) (j + 1) ∧ (∀ m, (j + 1) ≤ m → (upd g j (nI e1)) m = f m) ∧ 0 = nI 0 ∧ hv 1000000000 (dg (upd g j (nI e1))) 0 (j + 1) + 1000000000 ^ (j + 1) * 0 = hv 1000000000 (ct K (dg f)) 0 (j + 1) + hv 1000000000 (ct K2 (dg f2)) 0 (j + 1) from ⟨by omega, by omega, dok_s ig he1b (by decide), fun q h => (pk_un (by omega)).trans (if0 q (by omega)), by decide, by rw [hv_us (v := e1) (by omega), hv_snoc, hv_snoc, Nat.zero_add, Nat.pow_succ, ← hx1, ← hy1]; exact add_s iv (by omega)⟩) (show R - (j + 1) < R - j from (by omega)) ls H locs (lv_sub hl [4, 5, 6, 1, 0] rfl) hP hD hS
              · have gh45 : 1000000000 ≤ s1 := Nat.not_lt.mp (fun q => h45 ((nI_ltI (a := s1) (b := 1000000000) (by omega) (by omega)).mpr q))
                obtain ⟨e1, he1⟩ : ∃ q9 : Nat, q9 = s1 - 1000000000 := ⟨_, rfl⟩
                have he1b : e1 < 1000000000 := by omega
                refine lv_iconst (v := 1) hx hb dW_plus_132 (by decide) ?_
                refine lv_goto (tgt := 146) hx hb dW_plus_133 rfl ?_
                refine lv_istore hx hb dW_plus_146 hl (by decide) rfl (fun ls hl => ?_)
                have hl : lv_has ls 8 [(4, .int 1), (7, .int (nI s1)), (6, .int (nI y1)), (0, .ref h), (1, .ref x2), (3, .int 1), (5, .int (nI j))] := hl
                refine lv_aload_n hx hb dW_plus_148 rfl (lv_at hl 3 rfl) ?_
                refine va_get (D := D) (ci := 4) (v := .ref w) (C := R_W) (T := T_W) (N := 3) hx hb hT in_W hown hK hP 0 rfl rfl 0 (by decide) (hT _ w145) (fun _ h9 => h9) rfl dW_plus_149 ?_
                refine lv_iload hx hb dW_plus_152 (lv_at hl 6 rfl) ?_
                refine lv_iload hx hb dW_plus_154 (lv_at hl 1 rfl) ?_
                refine lv_iload hx hb dW_plus_156 (lv_at hl 0 rfl) ?_
                refine lv_ldc (v := 1000000000) hx hb hown (hT _ w462) dW_plus_158 ?_
                refine lv_imul hx hb dW_plus_160 ?_
                refine lv_topi (fun y9 e9 => ?_)
                cases (show y9 = 1000000000 from e9.trans (by decide))
                refine lv_isub hx hb dW_plus_161 ?_
                refine lv_topi (fun y9 e9 => ?_)
                cases (show y9 = nI e1 from e9.trans (by rw [he1]; exact pk_sub (a := s1) (b := 1000000000) (by omega)))
                refine lq_iast (j := j) hx hb hK hP hD hS 1 0 rfl rfl rfl (by omega) (by omega) dW_plus_162 (fun H locs hP hD hS => ?_)
                have hP : va_P D vwCl [(h, .inr (4, [.ref w, .int (nI K), .int b])), (w, .inl (cT 0, R, .inl (upd g j (nI e1)))), (x2, .inr (4, [.ref w2, .int (nI K2), .int b2])), (w2, .inl (cT 0, R2, .inl f2))] _ := hP
                have hD : va_D A [(h, .inr (4, [.ref w, .int (nI K), .int b])), (w, .inl (cT 0, R, .inl (upd g j (nI e1)))), (x2, .inr (4, [.ref w2, .int (nI K2), .int b2])), (w2, .inl (cT 0, R2, .inl f2))] := hD
                refine lv_iinc (k := 6) (v := nI (j + 1)) hx hb dW_plus_163 hl rfl (nI_1 j) (by decide) rfl (fun ls hl => ?_)
                have hl : lv_has ls 8 [(5, .int (nI (j + 1))), (4, .int 1), (7, .int (nI s1)), (6, .int (nI y1)), (0, .ref h), (1, .ref x2), (3, .int 1)] := hl
                refine lv_goto (tgt := 32) hx hb dW_plus_166 rfl ?_
                exact ih32 (j + 1, 1, 1, upd g j (nI e1)) (show (j + 1) ≤ R ∧ 1 ≤ 1 ∧ dok 1000000000 (upd g j (nI e1)) (j + 1) ∧ (∀ m, (j + 1) ≤ m → (upd g j (nI e1)) m = f m) ∧ 1 = nI 1 ∧ hv 1000000000 (dg (upd g j (nI e1))) 0 (j + 1) + 1000000000 ^ (j + 1) * 1 = hv 1000000000 (ct K (dg f)) 0 (j + 1) + hv 1000000000 (ct K2 (dg f2)) 0 (j + 1) from ⟨by omega, by omega, dok_s ig he1b (by decide), fun q h => (pk_un (by omega)).trans (if0 q (by omega)), by decide, by rw [hv_us (v := e1) (by omega), hv_snoc, hv_snoc, Nat.zero_add, Nat.pow_succ, ← hx1, ← hy1]; exact add_s iv (by omega)⟩) (show R - (j + 1) < R - j from (by omega)) ls H locs (lv_sub hl [4, 5, 6, 1, 0] rfl) hP hD hS
            · refine lv_iload hx hb dW_plus_87 (lv_at hl 5 rfl) ?_
              refine lv_aload_n hx hb dW_plus_89 rfl (lv_at hl 1 rfl) ?_
              refine va_get (D := D) (ci := 4) (v := .int (nI K)) (C := R_W) (T := T_W) (N := 3) hx hb hT in_W hown hK hP 0 rfl rfl 1 (by decide) (hT _ w148) (fun _ h9 => h9) rfl dW_plus_90 ?_
              refine lv_icmp_ge (tgt := 106) hx hb dW_plus_93 rfl (fun _ => ?_) (fun h47 => absurd (Int32.not_lt.mp h33) h47)
              refine lv_iconst (v := 0) hx hb dW_plus_106 (by decide) ?_
              exact hct43 _ (by rw [hx1, ct_ge (show K ≤ j by omega)]; rfl)
          · refine lv_iload hx hb dW_plus_65 (lv_at hl 4 rfl) ?_
            refine lv_aload_n hx hb dW_plus_67 rfl (lv_at hl 1 rfl) ?_
            refine va_get (D := D) (ci := 4) (v := .int (nI K2)) (C := R_W) (T := T_W) (N := 3) hx hb hT in_W hown hK hP 2 rfl rfl 1 (by decide) (hT _ w148) (fun _ h9 => h9) rfl dW_plus_68 ?_
            refine lv_icmp_ge (tgt := 84) hx hb dW_plus_71 rfl (fun h48 => absurd h48 (Int32.not_le.mpr h41)) (fun _ => ?_)
            refine lv_aload_n hx hb dW_plus_74 rfl (lv_at hl 1 rfl) ?_
            refine va_get (D := D) (ci := 4) (v := .ref w2) (C := R_W) (T := T_W) (N := 3) hx hb hT in_W hown hK hP 2 rfl rfl 0 (by decide) (hT _ w145) (fun _ h9 => h9) rfl dW_plus_75 ?_
            refine lv_iload hx hb dW_plus_78 (lv_at hl 4 rfl) ?_
            refine lq_iald (j := j) hx hb hK hP 3 0 rfl rfl rfl (by omega) (by omega) dW_plus_80 ?_
            refine lv_goto (tgt := 85) hx hb dW_plus_81 rfl ?_
            exact hct42 _ (by rw [hy1, ct_lt (show j < K2 by omega)]; exact (qhd j (by omega)).1)
        · have gh41 : K2 ≤ j := Nat.not_lt.mp (fun q => h41 ((nI_ltI (a := j) (b := K2) (by omega) (by omega)).mpr q))
          refine lv_iload hx hb dW_plus_60 (lv_at hl 3 rfl) ?_
          refine lv_if_le (tgt := 169) hx hb dW_plus_62 rfl (fun h49 => ?_) (fun h49 => ?_)
          · have gh49 : o ≤ 0 := (nI_leI (a := o) (b := 0) (by omega) (by omega)).mp h49
            have hjK : K ≤ j ∧ K2 ≤ j := by omega
            rw [hv_ct hjK.1, hv_ct hjK.2] at iv
            have iv : vW g j + 1000000000 ^ j * o = vW f K + vW f2 K2 := iv
            have ho : o = 0 := by
              omega
            rw [ho, Nat.mul_zero, Nat.add_zero] at iv
            refine lv_iload hx hb dW_plus_169 (lv_at hl 3 rfl) ?_
            refine lv_if_ge (tgt := 180) hx hb dW_plus_171 rfl (fun _ => ?_) (fun h50 => absurd (nI_pos' (by omega)) h50)
            refine lv_aload_n hx hb dW_plus_180 rfl (lv_at hl 0 rfl) ?_
            refine lv_iload hx hb dW_plus_181 (lv_at hl 4 rfl) ?_
            refine rw_v (wc := [(h, .inr (4, [.ref w, .int (nI K), .int b])), (w, .inl (cT 0, R, .inl g))]) (wr := [(x2, .inr (4, [.ref w2, .int (nI K2), .int b2])), (w2, .inl (cT 0, R2, .inl f2))]) hP hD hS hA [0, 1] [2, 3] rfl rfl (by decide) (by decide) (va_runV (As := [.int (nI j)]) (rest := []) ⟨hx, hb, hml, hown, hT⟩ (k_trim l D cT h w R (nI K) b g j hR ij ig _) ⟨callB_of 1 hT (tb_gd w397) rfl rfl rfl (hT _ w5) (hT _ w394) hW_trim ⟨Nat.le_of_ble_eq_true rfl, Nat.le_of_ble_eq_true rfl⟩, (hT _ w396), (hT _ wp3)⟩ (RW.preV (ci := 4) (q0 := 0) hZ hS (va_free (wc := [(h, .inr (4, [.ref w, .int (nI K), .int b])), (w, .inl (cT 0, R, .inl g))]) hD hS hA [0, 1] rfl) (hP.sub (ws' := [(h, .inr (4, [.ref w, .int (nI K), .int b])), (w, .inl (cT 0, R, .inl g))]) [0, 1] rfl) hK (hD.sub (ws' := [(h, .inr (4, [.ref w, .int (nI K), .int b])), (w, .inl (cT 0, R, .inl g))]) [0, 1] (by decide) rfl) rfl rfl) rfl rfl hl.1 rfl (lv_room (Nat.le_of_ble_eq_true rfl)) dW_plus_183 ⟨Nat.le_of_ble_eq_true rfl, Nat.le_of_ble_eq_true rfl⟩) (fun u9 H locs hpu51 hP hD hS => ?_)
            obtain ⟨ku51, rfl⟩ : ∃ q9, q9 = u9 := ⟨_, rfl⟩
            have hpu51 : ku51 ≤ j ∧ top0 g ku51 ∧ vW g ku51 = vW g j := hpu51
            have hP : va_P D vwCl [(x2, .inr (4, [.ref w2, .int (nI K2), .int b2])), (w2, .inl (cT 0, R2, .inl f2)), (h, .inr (4, [.ref w, .int (nI ku51), .int b])), (w, .inl (cT 0, R, .inl g))] _ := hP
            have hD : va_D A [(x2, .inr (4, [.ref w2, .int (nI K2), .int b2])), (w2, .inl (cT 0, R2, .inl f2)), (h, .inr (4, [.ref w, .int (nI ku51), .int b])), (w, .inl (cT 0, R, .inl g))] := hD
            have hP9 := hP.sub (ws' := [(h, .inr (4, [.ref w, .int (nI ku51), .int b])), (w, .inl (cT 0, R, .inl g)), (x2, .inr (4, [.ref w2, .int (nI K2), .int b2])), (w2, .inl (cT 0, R2, .inl f2))]) [2, 3, 0, 1] rfl
            have hD9 := hD.sub (ws' := [(h, .inr (4, [.ref w, .int (nI ku51), .int b])), (w, .inl (cT 0, R, .inl g)), (x2, .inr (4, [.ref w2, .int (nI K2), .int b2])), (w2, .inl (cT 0, R2, .inl f2))]) [2, 3, 0, 1] (by decide) rfl
            refine W.widen (k := 0) (n := 0) (Nat.le_of_ble_eq_true rfl) (Nat.le_of_ble_eq_true rfl) ?_
            exact W.vret hx hb hr (fun t9 ht9 hW9 => ⟨⟨(nI ku51, b, g), rfl, (show WN R (nI ku51) b g (z + z2) from by have q0 := wn_trim (R := R) (b := b) ij ig hb01 hpu51; rw [hz, qhz, ← h1]; rw [show vW g j = vW f K + vW f2 K2 from iv] at q0; rw [wz_add]; exact q0), by rw [ht9]; exact hP9, hD9⟩, hS.F ht9⟩) hS.2.2 dW_plus_186
          · have gh49 : 0 < o := Nat.not_le.mp (fun q => h49 ((nI_leI (a := o) (b := 0) (by omega) (by omega)).mpr q))
            obtain ⟨y1, hy1⟩ : ∃ q9 : Nat, q9 = ct K2 (dg f2) j := ⟨_, rfl⟩
            obtain ⟨x1, hx1⟩ : ∃ q9 : Nat, q9 = ct K (dg f) j := ⟨_, rfl⟩
            have hy1b : y1 < 1000000000 := by
              rw [hy1]
              by_cases q : j < K2
              · rw [ct_lt q]; exact (qhd j q).2
              · rw [ct_ge (show K2 ≤ j by omega)]; decide
            have hx1b : x1 < 1000000000 := by
              rw [hx1]
              by_cases q : j < K
              · rw [ct_lt q]; exact (hd j q).2
              · rw [ct_ge (show K ≤ j by omega)]; decide
            refine lp_cut (fun x9 : Int32 => x9 = nI y1) (fun x9 => [.int x9]) 85 ls (fun x9 e9 => ?_) (fun hct52 => ?_)
            · cases (show x9 = nI y1 from e9)
              refine lv_istore hx hb dW_plus_85 hl (by decide) rfl (fun ls hl => ?_)
              have hl : lv_has ls 8 [(6, .int (nI y1)), (0, .ref h), (1, .ref x2), (3, .int 1), (4, .int (nI o)), (5, .int (nI j))] := hl
              refine lp_cut (fun x9 : Int32 => x9 = nI x1) (fun x9 => [.int x9]) 107 ls (fun x9 e9 => ?_) (fun hct53 => ?_)
              · cases (show x9 = nI x1 from e9)
                refine lv_iload_n hx hb dW_plus_107 rfl (lv_at hl 3 rfl) ?_
                refine lv_if_eq (tgt := 116) hx hb dW_plus_108 rfl (fun h54 => absurd h54 (by decide)) (fun _ => ?_)
                refine lv_iload hx hb dW_plus_111 (lv_at hl 0 rfl) ?_
                refine lv_goto (tgt := 119) hx hb dW_plus_113 rfl ?_
                refine lv_iadd hx hb dW_plus_119 ?_
                refine lv_topi (fun y9 e9 => ?_)
                cases (show y9 = nI (x1 + y1) from e9.trans (nI_add x1 y1))
                refine lv_iload hx hb dW_plus_120 (lv_at hl 4 rfl) ?_
                refine lv_iadd hx hb dW_plus_122 ?_
                refine lv_topi (fun y9 e9 => ?_)
                cases (show y9 = nI ((x1 + y1) + o) from e9.trans (nI_add (x1 + y1) o))
                obtain ⟨s1, hs1⟩ : ∃ q9 : Nat, q9 = x1 + y1 + o := ⟨_, rfl⟩
                refine lv_topi (fun y9 e9 => ?_)
                cases (show y9 = nI s1 from e9.trans (by rw [hs1]))
                refine lv_istore hx hb dW_plus_123 hl (by decide) rfl (fun ls hl => ?_)
                have hl : lv_has ls 8 [(7, .int (nI s1)), (6, .int (nI y1)), (0, .ref h), (1, .ref x2), (3, .int 1), (4, .int (nI o)), (5, .int (nI j))] := hl
                refine lv_iload hx hb dW_plus_125 (lv_at hl 0 rfl) ?_
                refine lv_ldc (v := 1000000000) hx hb hown (hT _ w462) dW_plus_127 ?_
                refine lv_icmp_lt (tgt := 136) hx hb dW_plus_129 rfl (fun h55 => ?_) (fun h55 => ?_)
                · have gh55 : s1 < 1000000000 := (nI_ltI (a := s1) (b := 1000000000) (by omega) (by omega)).mp h55
                  refine lv_iload hx hb dW_plus_136 (lv_at hl 0 rfl) ?_
                  refine lv_if_ge (tgt := 145) hx hb dW_plus_138 rfl (fun _ => ?_) (fun h56 => absurd (nI_pos' (by omega)) h56)
                  obtain ⟨e1, he1⟩ : ∃ q9 : Nat, q9 = s1 := ⟨_, rfl⟩
                  have he1b : e1 < 1000000000 := by omega
                  refine lv_iconst (v := 0) hx hb dW_plus_145 (by decide) ?_
                  refine lv_istore hx hb dW_plus_146 hl (by decide) rfl (fun ls hl => ?_)
                  have hl : lv_has ls 8 [(4, .int 0), (7, .int (nI s1)), (6, .int (nI y1)), (0, .ref h), (1, .ref x2), (3, .int 1), (5, .int (nI j))] := hl
                  refine lv_aload_n hx hb dW_plus_148 rfl (lv_at hl 3 rfl) ?_
                  refine va_get (D := D) (ci := 4) (v := .ref w) (C := R_W) (T := T_W) (N := 3) hx hb hT in_W hown hK hP 0 rfl rfl 0 (by decide) (hT _ w145) (fun _ h9 => h9) rfl dW_plus_149 ?_
                  refine lv_iload hx hb dW_plus_152 (lv_at hl 6 rfl) ?_
                  refine lv_iload hx hb dW_plus_154 (lv_at hl 1 rfl) ?_
                  refine lv_iload hx hb dW_plus_156 (lv_at hl 0 rfl) ?_
                  refine lv_ldc (v := 1000000000) hx hb hown (hT _ w462) dW_plus_158 ?_
                  refine lv_imul hx hb dW_plus_160 ?_
                  refine lv_topi (fun y9 e9 => ?_)
                  cases (show y9 = 0 from e9.trans (by decide))
                  refine lv_isub hx hb dW_plus_161 ?_
                  refine lv_topi (fun y9 e9 => ?_)
                  cases (show y9 = nI e1 from e9.trans (by rw [he1]; exact Int32.sub_zero _))
                  refine lq_iast (j := j) hx hb hK hP hD hS 1 0 rfl rfl rfl (by omega) (by omega) dW_plus_162 (fun H locs hP hD hS => ?_)
                  have hP : va_P D vwCl [(h, .inr (4, [.ref w, .int (nI K), .int b])), (w, .inl (cT 0, R, .inl (upd g j (nI e1)))), (x2, .inr (4, [.ref w2, .int (nI K2), .int b2])), (w2, .inl (cT 0, R2, .inl f2))] _ := hP
                  have hD : va_D A [(h, .inr (4, [.ref w, .int (nI K), .int b])), (w, .inl (cT 0, R, .inl (upd g j (nI e1)))), (x2, .inr (4, [.ref w2, .int (nI K2), .int b2])), (w2, .inl (cT 0, R2, .inl f2))] := hD
                  refine lv_iinc (k := 6) (v := nI (j + 1)) hx hb dW_plus_163 hl rfl (nI_1 j) (by decide) rfl (fun ls hl => ?_)
                  have hl : lv_has ls 8 [(5, .int (nI (j + 1))), (4, .int 0), (7, .int (nI s1)), (6, .int (nI y1)), (0, .ref h), (1, .ref x2), (3, .int 1)] := hl
                  refine lv_goto (tgt := 32) hx hb dW_plus_166 rfl ?_
                  exact ih32 (j + 1, 0, 0, upd g j (nI e1)) (show (j + 1) ≤ R ∧ 0 ≤ 1 ∧ dok 1000000000 (upd g j (nI e1)) (j + 1) ∧ (∀ m, (j + 1) ≤ m → (upd g j (nI e1)) m = f m) ∧ 0 = nI 0 ∧ hv 1000000000 (dg (upd g j (nI e1))) 0 (j + 1) + 1000000000 ^ (j + 1) * 0 = hv 1000000000 (ct K (dg f)) 0 (j + 1) + hv 1000000000 (ct K2 (dg f2)) 0 (j + 1) from ⟨by omega, by omega, dok_s ig he1b (by decide), fun q h => (pk_un (by omega)).trans (if0 q (by omega)), by decide, by rw [hv_us (v := e1) (by omega), hv_snoc, hv_snoc, Nat.zero_add, Nat.pow_succ, ← hx1, ← hy1]; exact add_s iv (by omega)⟩) (show R - (j + 1) < R - j from (by omega)) ls H locs (lv_sub hl [4, 5, 6, 1, 0] rfl) hP hD hS
                · have gh55 : 1000000000 ≤ s1 := Nat.not_lt.mp (fun q => h55 ((nI_ltI (a := s1) (b := 1000000000) (by omega) (by omega)).mpr q))
                  obtain ⟨e1, he1⟩ : ∃ q9 : Nat, q9 = s1 - 1000000000 := ⟨_, rfl⟩
                  have he1b : e1 < 1000000000 := by omega
                  refine lv_iconst (v := 1) hx hb dW_plus_132 (by decide) ?_
                  refine lv_goto (tgt := 146) hx hb dW_plus_133 rfl ?_
                  refine lv_istore hx hb dW_plus_146 hl (by decide) rfl (fun ls hl => ?_)
                  have hl : lv_has ls 8 [(4, .int 1), (7, .int (nI s1)), (6, .int (nI y1)), (0, .ref h), (1, .ref x2), (3, .int 1), (5, .int (nI j))] := hl
                  refine lv_aload_n hx hb dW_plus_148 rfl (lv_at hl 3 rfl) ?_
                  refine va_get (D := D) (ci := 4) (v := .ref w) (C := R_W) (T := T_W) (N := 3) hx hb hT in_W hown hK hP 0 rfl rfl 0 (by decide) (hT _ w145) (fun _ h9 => h9) rfl dW_plus_149 ?_
                  refine lv_iload hx hb dW_plus_152 (lv_at hl 6 rfl) ?_
                  refine lv_iload hx hb dW_plus_154 (lv_at hl 1 rfl) ?_
                  refine lv_iload hx hb dW_plus_156 (lv_at hl 0 rfl) ?_
                  refine lv_ldc (v := 1000000000) hx hb hown (hT _ w462) dW_plus_158 ?_
                  refine lv_imul hx hb dW_plus_160 ?_
                  refine lv_topi (fun y9 e9 => ?_)
                  cases (show y9 = 1000000000 from e9.trans (by decide))
                  refine lv_isub hx hb dW_plus_161 ?_
                  refine lv_topi (fun y9 e9 => ?_)
                  cases (show y9 = nI e1 from e9.trans (by rw [he1]; exact pk_sub (a := s1) (b := 1000000000) (by omega)))
                  refine lq_iast (j := j) hx hb hK hP hD hS 1 0 rfl rfl rfl (by omega) (by omega) dW_plus_162 (fun H locs hP hD hS => ?_)
                  have hP : va_P D vwCl [(h, .inr (4, [.ref w, .int (nI K), .int b])), (w, .inl (cT 0, R, .inl (upd g j (nI e1)))), (x2, .inr (4, [.ref w2, .int (nI K2), .int b2])), (w2, .inl (cT 0, R2, .inl f2))] _ := hP
                  have hD : va_D A [(h, .inr (4, [.ref w, .int (nI K), .int b])), (w, .inl (cT 0, R, .inl (upd g j (nI e1)))), (x2, .inr (4, [.ref w2, .int (nI K2), .int b2])), (w2, .inl (cT 0, R2, .inl f2))] := hD
                  refine lv_iinc (k := 6) (v := nI (j + 1)) hx hb dW_plus_163 hl rfl (nI_1 j) (by decide) rfl (fun ls hl => ?_)
                  have hl : lv_has ls 8 [(5, .int (nI (j + 1))), (4, .int 1), (7, .int (nI s1)), (6, .int (nI y1)), (0, .ref h), (1, .ref x2), (3, .int 1)] := hl
                  refine lv_goto (tgt := 32) hx hb dW_plus_166 rfl ?_
                  exact ih32 (j + 1, 1, 1, upd g j (nI e1)) (show (j + 1) ≤ R ∧ 1 ≤ 1 ∧ dok 1000000000 (upd g j (nI e1)) (j + 1) ∧ (∀ m, (j + 1) ≤ m → (upd g j (nI e1)) m = f m) ∧ 1 = nI 1 ∧ hv 1000000000 (dg (upd g j (nI e1))) 0 (j + 1) + 1000000000 ^ (j + 1) * 1 = hv 1000000000 (ct K (dg f)) 0 (j + 1) + hv 1000000000 (ct K2 (dg f2)) 0 (j + 1) from ⟨by omega, by omega, dok_s ig he1b (by decide), fun q h => (pk_un (by omega)).trans (if0 q (by omega)), by decide, by rw [hv_us (v := e1) (by omega), hv_snoc, hv_snoc, Nat.zero_add, Nat.pow_succ, ← hx1, ← hy1]; exact add_s iv (by omega)⟩) (show R - (j + 1) < R - j from (by omega)) ls H locs (lv_sub hl [4, 5, 6, 1, 0] rfl) hP hD hS
              · refine lv_iload hx hb dW_plus_87 (lv_at hl 5 rfl) ?_
                refine lv_aload_n hx hb dW_plus_89 rfl (lv_at hl 1 rfl) ?_
                refine va_get (D := D) (ci := 4) (v := .int (nI K)) (C := R_W) (T := T_W) (N := 3) hx hb hT in_W hown hK hP 0 rfl rfl 1 (by decide) (hT _ w148) (fun _ h9 => h9) rfl dW_plus_90 ?_
                refine lv_icmp_ge (tgt := 106) hx hb dW_plus_93 rfl (fun _ => ?_) (fun h57 => absurd (Int32.not_lt.mp h33) h57)
                refine lv_iconst (v := 0) hx hb dW_plus_106 (by decide) ?_
                exact hct53 _ (by rw [hx1, ct_ge (show K ≤ j by omega)]; rfl)
            · refine lv_iload hx hb dW_plus_65 (lv_at hl 4 rfl) ?_
              refine lv_aload_n hx hb dW_plus_67 rfl (lv_at hl 1 rfl) ?_
              refine va_get (D := D) (ci := 4) (v := .int (nI K2)) (C := R_W) (T := T_W) (N := 3) hx hb hT in_W hown hK hP 2 rfl rfl 1 (by decide) (hT _ w148) (fun _ h9 => h9) rfl dW_plus_68 ?_
              refine lv_icmp_ge (tgt := 84) hx hb dW_plus_71 rfl (fun _ => ?_) (fun h58 => absurd (Int32.not_lt.mp h41) h58)
              refine lv_iconst (v := 0) hx hb dW_plus_84 (by decide) ?_
              exact hct52 _ (by rw [hy1, ct_ge (show K2 ≤ j by omega)]; rfl)
set_option maxHeartbeats 4000000 in
set_option maxRecDepth 100000 in
theorem k_plus1 (l : Launch) (D : va_G) (cT : Nat → ClassId) (h : Nat) (w : Nat) (R : Nat) (n : Int32) (b : Int32) (f : Nat → Int32) (z : Int) (x2 : Nat) (w2 : Nat) (R2 : Nat) (n2 : Int32) (b2 : Int32) (f2 : Nat → Int32) (z2 : Int) (hR : R ≤ 48) (hN : WN R n b f z) (hR2 : R2 ≤ 48) (hN2 : WN R2 n2 b2 f2 z2) (hfit : z.natAbs + z2.natAbs < 1000000000 ^ R) (sz : Nat) : Met l yW_plus WW_plus ({ frames := 1, cells := 0, slots := 0, locals := 24 } : Room) (RW D vwCl [.ref h, .ref x2, .int 1] [(h, .inr (4, [.ref w, .int n, .int b])), (w, .inl (cT 0, R, .inl f)), (x2, .inr (4, [.ref w2, .int n2, .int b2])), (w2, .inl (cT 0, R2, .inl f2))] (TY cT) sz) (va_Qv (fun u9 : Int32 × Int32 × (Nat → Int32) => WN R u9.1 u9.2.1 u9.2.2 (z - z2)) (BW D vwCl (va_A [(h, .inr (4, [.ref w, .int n, .int b])), (w, .inl (cT 0, R, .inl f)), (x2, .inr (4, [.ref w2, .int n2, .int b2])), (w2, .inl (cT 0, R2, .inl f2))] sz) (fun u9 : Int32 × Int32 × (Nat → Int32) => [(h, .inr (4, [.ref w, .int u9.1, .int u9.2.1])), (w, .inl (cT 0, R, .inl u9.2.2)), (x2, .inr (4, [.ref w2, .int n2, .int b2])), (w2, .inl (cT 0, R2, .inl f2))])) (va_A [(h, .inr (4, [.ref w, .int n, .int b])), (w, .inl (cT 0, R, .inl f)), (x2, .inr (4, [.ref w2, .int n2, .int b2])), (w2, .inl (cT 0, R2, .inl f2))] sz)) 0 0 (va_A [(h, .inr (4, [.ref w, .int n, .int b])), (w, .inl (cT 0, R, .inl f)), (x2, .inr (4, [.ref w2, .int n2, .int b2])), (w2, .inl (cT 0, R2, .inl f2))] sz) := by
  refine Met.ofW (cc := cW_plus) (maxL := 8) (ret := none) (by decide) rfl ?_
  intro p e s m args below meth c s₁ B hml hv
  obtain ⟨rfl, hsz, hZ, hP, hK, hD0⟩ := hv
  have hx := B.exec
  have hb := B.bytes
  have hr := B.returns
  have hts := atoms_spec (ws := WW_plus) B.pre
  have hT : ∀ w ∈ TB, w.before _ s = true := fun w h => hts w (List.mem_cons_of_mem _ h)
  have hown : s.vm.findClass R_W = some m.cls := findClass_of_methodNamed B.named
  have hlocks := B.notSynchronized
  subst hsz
  have hD := hD0.self (sz := s.heap.size)
  generalize hAe : va_A [(h, .inr (4, [.ref w, .int n, .int b])), (w, .inl (cT 0, R, .inl f)), (x2, .inr (4, [.ref w2, .int n2, .int b2])), (w2, .inl (cT 0, R2, .inl f2))] s.heap.size = A at hD hZ ⊢
  have hA : ∀ q : Nat, s.heap.size ≤ q → A q := fun q h => by rw [← hAe]; exact Or.inr h
  have hS : va_S A s.heap s.heap [] := va_S.rf
  have hl := lv_entry ([.ref h, .ref x2, .int 1]) (n := 8) (Nat.le_of_ble_eq_true rfl)
  rw [lg_entry_eq]
  generalize (lg_sl ([.ref h, .ref x2, .int 1]) ++ List.replicate (8 - (lg_sl ([.ref h, .ref x2, .int 1])).length) Slot.unset).toArray = ls at hl ⊢
  have hl : lv_has ls 8 [(0, .ref h), (1, .ref x2), (2, .int 1)] := hl
  obtain ⟨K, rfl, hk, hd, htop, hb01, hz⟩ := hN
  have hP : va_P D vwCl [(h, .inr (4, [.ref w, .int (nI K), .int b])), (w, .inl (cT 0, R, .inl f)), (x2, .inr (4, [.ref w2, .int n2, .int b2])), (w2, .inl (cT 0, R2, .inl f2))] _ := hP
  have hD : va_D A [(h, .inr (4, [.ref w, .int (nI K), .int b])), (w, .inl (cT 0, R, .inl f)), (x2, .inr (4, [.ref w2, .int n2, .int b2])), (w2, .inl (cT 0, R2, .inl f2))] := hD
  obtain ⟨K2, rfl, qhk, qhd, qhtop, qhb01, qhz⟩ := hN2
  have hP : va_P D vwCl [(h, .inr (4, [.ref w, .int (nI K), .int b])), (w, .inl (cT 0, R, .inl f)), (x2, .inr (4, [.ref w2, .int (nI K2), .int b2])), (w2, .inl (cT 0, R2, .inl f2))] _ := hP
  have hD : va_D A [(h, .inr (4, [.ref w, .int (nI K), .int b])), (w, .inl (cT 0, R, .inl f)), (x2, .inr (4, [.ref w2, .int (nI K2), .int b2])), (w2, .inl (cT 0, R2, .inl f2))] := hD
  rw [hz, qhz, wz_abs, wz_abs] at hfit
  have hK2R : K2 ≤ R := K_le qhtop (by omega)
  refine lv_aload_n hx hb dW_plus_0 rfl (lv_at hl 0 rfl) ?_
  refine va_get (D := D) (ci := 4) (v := .int b) (C := R_W) (T := T_W) (N := 3) hx hb hT in_W hown hK hP 0 rfl rfl 2 (by decide) (hT _ w149) (fun _ h9 => h9) rfl dW_plus_1 ?_
  refine lv_aload_n hx hb dW_plus_4 rfl (lv_at hl 1 rfl) ?_
  refine va_get (D := D) (ci := 4) (v := .int b2) (C := R_W) (T := T_W) (N := 3) hx hb hT in_W hown hK hP 2 rfl rfl 2 (by decide) (hT _ w149) (fun _ h9 => h9) rfl dW_plus_5 ?_
  refine lv_icmp_ne (tgt := 15) hx hb dW_plus_8 rfl (fun h1 => ?_) (fun h1 => ?_)
  · refine lv_iconst (v := 0) hx hb dW_plus_15 (by decide) ?_
    refine lv_iload_n hx hb dW_plus_16 rfl (lv_at hl 2 rfl) ?_
    refine lv_icmp_eq (tgt := 24) hx hb dW_plus_17 rfl (fun h2 => absurd h2 (by decide)) (fun _ => ?_)
    refine lv_iconst (v := 1) hx hb dW_plus_20 (by decide) ?_
    refine lv_goto (tgt := 25) hx hb dW_plus_21 rfl ?_
    refine lv_istore_n hx hb dW_plus_25 rfl hl (by decide) rfl (fun ls hl => ?_)
    have hl : lv_has ls 8 [(3, .int 1), (0, .ref h), (1, .ref x2), (2, .int 1)] := hl
    refine lv_iconst (v := 0) hx hb dW_plus_26 (by decide) ?_
    refine lv_istore hx hb dW_plus_27 hl (by decide) rfl (fun ls hl => ?_)
    have hl : lv_has ls 8 [(4, .int 0), (3, .int 1), (0, .ref h), (1, .ref x2), (2, .int 1)] := hl
    refine lv_iconst (v := 0) hx hb dW_plus_29 (by decide) ?_
    refine lv_istore hx hb dW_plus_30 hl (by decide) rfl (fun ls hl => ?_)
    have hl : lv_has ls 8 [(5, .int 0), (4, .int 0), (3, .int 1), (0, .ref h), (1, .ref x2), (2, .int 1)] := hl
    refine lp_w (α := Nat × Nat × Int32 × (Nat → Int32)) (fun a9 => a9.1 ≤ R ∧ a9.2.1 ≤ 1 ∧ dok 1000000000 a9.2.2.2 a9.1 ∧ (∀ m, a9.1 ≤ m → a9.2.2.2 m = f m) ∧ a9.2.2.1 = nI a9.2.1 ∧ hv 1000000000 (dg a9.2.2.2) 0 a9.1 + 1000000000 ^ a9.1 * a9.2.1 = hv 1000000000 (ct K (dg f)) 0 a9.1 + hv 1000000000 (ct K2 (dg f2)) 0 a9.1) (fun a9 => R - a9.1) (fun a9 => [(0, .ref h), (1, .ref x2), (3, .int 1), (4, .int a9.2.2.1), (5, .int (nI a9.1))]) (fun a9 => [(h, .inr (4, [.ref w, .int (nI K), .int b])), (w, .inl (cT 0, R, .inl a9.2.2.2)), (x2, .inr (4, [.ref w2, .int (nI K2), .int b2])), (w2, .inl (cT 0, R2, .inl f2))]) 32 ?_ (0, 0, 0, f) (show 0 ≤ R ∧ 0 ≤ 1 ∧ dok 1000000000 f 0 ∧ (∀ m, 0 ≤ m → f m = f m) ∧ 0 = nI 0 ∧ hv 1000000000 (dg f) 0 0 + 1000000000 ^ 0 * 0 = hv 1000000000 (ct K (dg f)) 0 0 + hv 1000000000 (ct K2 (dg f2)) 0 0 from ⟨by omega, by omega, fun q h => absurd h (by omega), fun _ _ => rfl, by decide, by simp [hv]⟩) (lv_sub hl [3, 4, 2, 1, 0] rfl) hP hD hS
    intro a9 hI32 ih32 ls H locs hl hP hD hS
    obtain ⟨j, o, cr, g⟩ := a9
    have hI32 : j ≤ R ∧ o ≤ 1 ∧ dok 1000000000 g j ∧ (∀ m, j ≤ m → g m = f m) ∧ cr = nI o ∧ hv 1000000000 (dg g) 0 j + 1000000000 ^ j * o = hv 1000000000 (ct K (dg f)) 0 j + hv 1000000000 (ct K2 (dg f2)) 0 j := hI32
    obtain ⟨ij, io, ig, if0, icr, iv⟩ := hI32
    have hl : lv_has ls 8 [(0, .ref h), (1, .ref x2), (3, .int 1), (4, .int cr), (5, .int (nI j))] := hl
    have hP : va_P D vwCl [(h, .inr (4, [.ref w, .int (nI K), .int b])), (w, .inl (cT 0, R, .inl g)), (x2, .inr (4, [.ref w2, .int (nI K2), .int b2])), (w2, .inl (cT 0, R2, .inl f2))] _ := hP
    have hD : va_D A [(h, .inr (4, [.ref w, .int (nI K), .int b])), (w, .inl (cT 0, R, .inl g)), (x2, .inr (4, [.ref w2, .int (nI K2), .int b2])), (w2, .inl (cT 0, R2, .inl f2))] := hD
    subst icr
    have hl : lv_has ls 8 [(0, .ref h), (1, .ref x2), (3, .int 1), (4, .int (nI o)), (5, .int (nI j))] := hl
    have hP : va_P D vwCl [(h, .inr (4, [.ref w, .int (nI K), .int b])), (w, .inl (cT 0, R, .inl g)), (x2, .inr (4, [.ref w2, .int (nI K2), .int b2])), (w2, .inl (cT 0, R2, .inl f2))] _ := hP
    have hD : va_D A [(h, .inr (4, [.ref w, .int (nI K), .int b])), (w, .inl (cT 0, R, .inl g)), (x2, .inr (4, [.ref w2, .int (nI K2), .int b2])), (w2, .inl (cT 0, R2, .inl f2))] := hD
    refine lv_iload hx hb dW_plus_32 (lv_at hl 4 rfl) ?_
    refine lv_aload_n hx hb dW_plus_34 rfl (lv_at hl 0 rfl) ?_
    refine va_get (D := D) (ci := 4) (v := .ref w) (C := R_W) (T := T_W) (N := 3) hx hb hT in_W hown hK hP 0 rfl rfl 0 (by decide) (hT _ w145) (fun _ h9 => h9) rfl dW_plus_35 ?_
    refine va_alen (v := nI R) hx hb hK hP 1 0 rfl rfl rfl dW_plus_38 ?_
    refine lv_icmp_ge (tgt := 169) hx hb dW_plus_39 rfl (fun h3 => ?_) (fun h3 => ?_)
    · have gh3 : R ≤ j := (nI_leI (a := R) (b := j) (by omega) (by omega)).mp h3
      have hjK : K ≤ j ∧ K2 ≤ j := by omega
      rw [hv_ct hjK.1, hv_ct hjK.2] at iv
      have iv : vW g j + 1000000000 ^ j * o = vW f K + vW f2 K2 := iv
      have ho : o = 0 := by
        have e1 : j = R := by omega
        rw [e1] at iv
        rcases (show o = 0 ∨ o = 1 by omega) with r | r
        · exact r
        · rw [r, Nat.mul_one] at iv; omega
      rw [ho, Nat.mul_zero, Nat.add_zero] at iv
      refine lv_iload hx hb dW_plus_169 (lv_at hl 3 rfl) ?_
      refine lv_if_ge (tgt := 180) hx hb dW_plus_171 rfl (fun _ => ?_) (fun h4 => absurd (nI_pos' (by omega)) h4)
      refine lv_aload_n hx hb dW_plus_180 rfl (lv_at hl 0 rfl) ?_
      refine lv_iload hx hb dW_plus_181 (lv_at hl 4 rfl) ?_
      refine rw_v (wc := [(h, .inr (4, [.ref w, .int (nI K), .int b])), (w, .inl (cT 0, R, .inl g))]) (wr := [(x2, .inr (4, [.ref w2, .int (nI K2), .int b2])), (w2, .inl (cT 0, R2, .inl f2))]) hP hD hS hA [0, 1] [2, 3] rfl rfl (by decide) (by decide) (va_runV (As := [.int (nI j)]) (rest := []) ⟨hx, hb, hml, hown, hT⟩ (k_trim l D cT h w R (nI K) b g j hR ij ig _) ⟨callB_of 1 hT (tb_gd w397) rfl rfl rfl (hT _ w5) (hT _ w394) hW_trim ⟨Nat.le_of_ble_eq_true rfl, Nat.le_of_ble_eq_true rfl⟩, (hT _ w396), (hT _ wp3)⟩ (RW.preV (ci := 4) (q0 := 0) hZ hS (va_free (wc := [(h, .inr (4, [.ref w, .int (nI K), .int b])), (w, .inl (cT 0, R, .inl g))]) hD hS hA [0, 1] rfl) (hP.sub (ws' := [(h, .inr (4, [.ref w, .int (nI K), .int b])), (w, .inl (cT 0, R, .inl g))]) [0, 1] rfl) hK (hD.sub (ws' := [(h, .inr (4, [.ref w, .int (nI K), .int b])), (w, .inl (cT 0, R, .inl g))]) [0, 1] (by decide) rfl) rfl rfl) rfl rfl hl.1 rfl (lv_room (Nat.le_of_ble_eq_true rfl)) dW_plus_183 ⟨Nat.le_of_ble_eq_true rfl, Nat.le_of_ble_eq_true rfl⟩) (fun u9 H locs hpu5 hP hD hS => ?_)
      obtain ⟨ku5, rfl⟩ : ∃ q9, q9 = u9 := ⟨_, rfl⟩
      have hpu5 : ku5 ≤ j ∧ top0 g ku5 ∧ vW g ku5 = vW g j := hpu5
      have hP : va_P D vwCl [(x2, .inr (4, [.ref w2, .int (nI K2), .int b2])), (w2, .inl (cT 0, R2, .inl f2)), (h, .inr (4, [.ref w, .int (nI ku5), .int b])), (w, .inl (cT 0, R, .inl g))] _ := hP
      have hD : va_D A [(x2, .inr (4, [.ref w2, .int (nI K2), .int b2])), (w2, .inl (cT 0, R2, .inl f2)), (h, .inr (4, [.ref w, .int (nI ku5), .int b])), (w, .inl (cT 0, R, .inl g))] := hD
      have hP9 := hP.sub (ws' := [(h, .inr (4, [.ref w, .int (nI ku5), .int b])), (w, .inl (cT 0, R, .inl g)), (x2, .inr (4, [.ref w2, .int (nI K2), .int b2])), (w2, .inl (cT 0, R2, .inl f2))]) [2, 3, 0, 1] rfl
      have hD9 := hD.sub (ws' := [(h, .inr (4, [.ref w, .int (nI ku5), .int b])), (w, .inl (cT 0, R, .inl g)), (x2, .inr (4, [.ref w2, .int (nI K2), .int b2])), (w2, .inl (cT 0, R2, .inl f2))]) [2, 3, 0, 1] (by decide) rfl
      refine W.widen (k := 0) (n := 0) (Nat.le_of_ble_eq_true rfl) (Nat.le_of_ble_eq_true rfl) ?_
      exact W.vret hx hb hr (fun t9 ht9 hW9 => ⟨⟨(nI ku5, b, g), rfl, (show WN R (nI ku5) b g (z - z2) from by have q0 := wn_trim (R := R) (b := b) ij ig hb01 hpu5; rw [hz, qhz, fl_ne hb01 qhb01 h1, wz_fl]; rw [show vW g j = vW f K + vW f2 K2 from iv] at q0; rw [Int.sub_neg, wz_add]; exact q0), by rw [ht9]; exact hP9, hD9⟩, hS.F ht9⟩) hS.2.2 dW_plus_186
    · have gh3 : j < R := Nat.not_le.mp (fun q => h3 ((nI_leI (a := R) (b := j) (by omega) (by omega)).mpr q))
      refine lv_iload hx hb dW_plus_42 (lv_at hl 4 rfl) ?_
      refine lv_aload_n hx hb dW_plus_44 rfl (lv_at hl 0 rfl) ?_
      refine va_get (D := D) (ci := 4) (v := .int (nI K)) (C := R_W) (T := T_W) (N := 3) hx hb hT in_W hown hK hP 0 rfl rfl 1 (by decide) (hT _ w148) (fun _ h9 => h9) rfl dW_plus_45 ?_
      refine lv_icmp_lt (tgt := 65) hx hb dW_plus_48 rfl (fun h6 => ?_) (fun h6 => ?_)
      · have gh6 : j < K := (nI_ltI (a := j) (b := K) (by omega) (by omega)).mp h6
        obtain ⟨y1, hy1⟩ : ∃ q9 : Nat, q9 = ct K2 (dg f2) j := ⟨_, rfl⟩
        obtain ⟨x1, hx1⟩ : ∃ q9 : Nat, q9 = ct K (dg f) j := ⟨_, rfl⟩
        have hy1b : y1 < 1000000000 := by
          rw [hy1]
          by_cases q : j < K2
          · rw [ct_lt q]; exact (qhd j q).2
          · rw [ct_ge (show K2 ≤ j by omega)]; decide
        have hx1b : x1 < 1000000000 := by
          rw [hx1]
          by_cases q : j < K
          · rw [ct_lt q]; exact (hd j q).2
          · rw [ct_ge (show K ≤ j by omega)]; decide
        refine lp_cut (fun x9 : Int32 => x9 = nI y1) (fun x9 => [.int x9]) 85 ls (fun x9 e9 => ?_) (fun hct7 => ?_)
        · cases (show x9 = nI y1 from e9)
          refine lv_istore hx hb dW_plus_85 hl (by decide) rfl (fun ls hl => ?_)
          have hl : lv_has ls 8 [(6, .int (nI y1)), (0, .ref h), (1, .ref x2), (3, .int 1), (4, .int (nI o)), (5, .int (nI j))] := hl
          refine lp_cut (fun x9 : Int32 => x9 = nI x1) (fun x9 => [.int x9]) 107 ls (fun x9 e9 => ?_) (fun hct8 => ?_)
          · cases (show x9 = nI x1 from e9)
            refine lv_iload_n hx hb dW_plus_107 rfl (lv_at hl 3 rfl) ?_
            refine lv_if_eq (tgt := 116) hx hb dW_plus_108 rfl (fun h9 => absurd h9 (by decide)) (fun _ => ?_)
            refine lv_iload hx hb dW_plus_111 (lv_at hl 0 rfl) ?_
            refine lv_goto (tgt := 119) hx hb dW_plus_113 rfl ?_
            refine lv_iadd hx hb dW_plus_119 ?_
            refine lv_topi (fun y9 e9 => ?_)
            cases (show y9 = nI (x1 + y1) from e9.trans (nI_add x1 y1))
            refine lv_iload hx hb dW_plus_120 (lv_at hl 4 rfl) ?_
            refine lv_iadd hx hb dW_plus_122 ?_
            refine lv_topi (fun y9 e9 => ?_)
            cases (show y9 = nI ((x1 + y1) + o) from e9.trans (nI_add (x1 + y1) o))
            obtain ⟨s1, hs1⟩ : ∃ q9 : Nat, q9 = x1 + y1 + o := ⟨_, rfl⟩
            refine lv_topi (fun y9 e9 => ?_)
            cases (show y9 = nI s1 from e9.trans (by rw [hs1]))
            refine lv_istore hx hb dW_plus_123 hl (by decide) rfl (fun ls hl => ?_)
            have hl : lv_has ls 8 [(7, .int (nI s1)), (6, .int (nI y1)), (0, .ref h), (1, .ref x2), (3, .int 1), (4, .int (nI o)), (5, .int (nI j))] := hl
            refine lv_iload hx hb dW_plus_125 (lv_at hl 0 rfl) ?_
            refine lv_ldc (v := 1000000000) hx hb hown (hT _ w462) dW_plus_127 ?_
            refine lv_icmp_lt (tgt := 136) hx hb dW_plus_129 rfl (fun h10 => ?_) (fun h10 => ?_)
            · have gh10 : s1 < 1000000000 := (nI_ltI (a := s1) (b := 1000000000) (by omega) (by omega)).mp h10
              refine lv_iload hx hb dW_plus_136 (lv_at hl 0 rfl) ?_
              refine lv_if_ge (tgt := 145) hx hb dW_plus_138 rfl (fun _ => ?_) (fun h11 => absurd (nI_pos' (by omega)) h11)
              obtain ⟨e1, he1⟩ : ∃ q9 : Nat, q9 = s1 := ⟨_, rfl⟩
              have he1b : e1 < 1000000000 := by omega
              refine lv_iconst (v := 0) hx hb dW_plus_145 (by decide) ?_
              refine lv_istore hx hb dW_plus_146 hl (by decide) rfl (fun ls hl => ?_)
              have hl : lv_has ls 8 [(4, .int 0), (7, .int (nI s1)), (6, .int (nI y1)), (0, .ref h), (1, .ref x2), (3, .int 1), (5, .int (nI j))] := hl
              refine lv_aload_n hx hb dW_plus_148 rfl (lv_at hl 3 rfl) ?_
              refine va_get (D := D) (ci := 4) (v := .ref w) (C := R_W) (T := T_W) (N := 3) hx hb hT in_W hown hK hP 0 rfl rfl 0 (by decide) (hT _ w145) (fun _ h9 => h9) rfl dW_plus_149 ?_
              refine lv_iload hx hb dW_plus_152 (lv_at hl 6 rfl) ?_
              refine lv_iload hx hb dW_plus_154 (lv_at hl 1 rfl) ?_
              refine lv_iload hx hb dW_plus_156 (lv_at hl 0 rfl) ?_
              refine lv_ldc (v := 1000000000) hx hb hown (hT _ w462) dW_plus_158 ?_
              refine lv_imul hx hb dW_plus_160 ?_
              refine lv_topi (fun y9 e9 => ?_)
              cases (show y9 = 0 from e9.trans (by decide))
              refine lv_isub hx hb dW_plus_161 ?_
              refine lv_topi (fun y9 e9 => ?_)
              cases (show y9 = nI e1 from e9.trans (by rw [he1]; exact Int32.sub_zero _))
              refine lq_iast (j := j) hx hb hK hP hD hS 1 0 rfl rfl rfl (by omega) (by omega) dW_plus_162 (fun H locs hP hD hS => ?_)
              have hP : va_P D vwCl [(h, .inr (4, [.ref w, .int (nI K), .int b])), (w, .inl (cT 0, R, .inl (upd g j (nI e1)))), (x2, .inr (4, [.ref w2, .int (nI K2), .int b2])), (w2, .inl (cT 0, R2, .inl f2))] _ := hP
              have hD : va_D A [(h, .inr (4, [.ref w, .int (nI K), .int b])), (w, .inl (cT 0, R, .inl (upd g j (nI e1)))), (x2, .inr (4, [.ref w2, .int (nI K2), .int b2])), (w2, .inl (cT 0, R2, .inl f2))] := hD
              refine lv_iinc (k := 6) (v := nI (j + 1)) hx hb dW_plus_163 hl rfl (nI_1 j) (by decide) rfl (fun ls hl => ?_)
              have hl : lv_has ls 8 [(5, .int (nI (j + 1))), (4, .int 0), (7, .int (nI s1)), (6, .int (nI y1)), (0, .ref h), (1, .ref x2), (3, .int 1)] := hl
              refine lv_goto (tgt := 32) hx hb dW_plus_166 rfl ?_
              exact ih32 (j + 1, 0, 0, upd g j (nI e1)) (show (j + 1) ≤ R ∧ 0 ≤ 1 ∧ dok 1000000000 (upd g j (nI e1)) (j + 1) ∧ (∀ m, (j + 1) ≤ m → (upd g j (nI e1)) m = f m) ∧ 0 = nI 0 ∧ hv 1000000000 (dg (upd g j (nI e1))) 0 (j + 1) + 1000000000 ^ (j + 1) * 0 = hv 1000000000 (ct K (dg f)) 0 (j + 1) + hv 1000000000 (ct K2 (dg f2)) 0 (j + 1) from ⟨by omega, by omega, dok_s ig he1b (by decide), fun q h => (pk_un (by omega)).trans (if0 q (by omega)), by decide, by rw [hv_us (v := e1) (by omega), hv_snoc, hv_snoc, Nat.zero_add, Nat.pow_succ, ← hx1, ← hy1]; exact add_s iv (by omega)⟩) (show R - (j + 1) < R - j from (by omega)) ls H locs (lv_sub hl [4, 5, 6, 1, 0] rfl) hP hD hS
            · have gh10 : 1000000000 ≤ s1 := Nat.not_lt.mp (fun q => h10 ((nI_ltI (a := s1) (b := 1000000000) (by omega) (by omega)).mpr q))
              obtain ⟨e1, he1⟩ : ∃ q9 : Nat, q9 = s1 - 1000000000 := ⟨_, rfl⟩
              have he1b : e1 < 1000000000 := by omega
              refine lv_iconst (v := 1) hx hb dW_plus_132 (by decide) ?_
              refine lv_goto (tgt := 146) hx hb dW_plus_133 rfl ?_
              refine lv_istore hx hb dW_plus_146 hl (by decide) rfl (fun ls hl => ?_)
              have hl : lv_has ls 8 [(4, .int 1), (7, .int (nI s1)), (6, .int (nI y1)), (0, .ref h), (1, .ref x2), (3, .int 1), (5, .int (nI j))] := hl
              refine lv_aload_n hx hb dW_plus_148 rfl (lv_at hl 3 rfl) ?_
              refine va_get (D := D) (ci := 4) (v := .ref w) (C := R_W) (T := T_W) (N := 3) hx hb hT in_W hown hK hP 0 rfl rfl 0 (by decide) (hT _ w145) (fun _ h9 => h9) rfl dW_plus_149 ?_
              refine lv_iload hx hb dW_plus_152 (lv_at hl 6 rfl) ?_
              refine lv_iload hx hb dW_plus_154 (lv_at hl 1 rfl) ?_
              refine lv_iload hx hb dW_plus_156 (lv_at hl 0 rfl) ?_
              refine lv_ldc (v := 1000000000) hx hb hown (hT _ w462) dW_plus_158 ?_
              refine lv_imul hx hb dW_plus_160 ?_
              refine lv_topi (fun y9 e9 => ?_)
              cases (show y9 = 1000000000 from e9.trans (by decide))
              refine lv_isub hx hb dW_plus_161 ?_
              refine lv_topi (fun y9 e9 => ?_)
              cases (show y9 = nI e1 from e9.trans (by rw [he1]; exact pk_sub (a := s1) (b := 1000000000) (by omega)))
              refine lq_iast (j := j) hx hb hK hP hD hS 1 0 rfl rfl rfl (by omega) (by omega) dW_plus_162 (fun H locs hP hD hS => ?_)
              have hP : va_P D vwCl [(h, .inr (4, [.ref w, .int (nI K), .int b])), (w, .inl (cT 0, R, .inl (upd g j (nI e1)))), (x2, .inr (4, [.ref w2, .int (nI K2), .int b2])), (w2, .inl (cT 0, R2, .inl f2))] _ := hP
              have hD : va_D A [(h, .inr (4, [.ref w, .int (nI K), .int b])), (w, .inl (cT 0, R, .inl (upd g j (nI e1)))), (x2, .inr (4, [.ref w2, .int (nI K2), .int b2])), (w2, .inl (cT 0, R2, .inl f2))] := hD
              refine lv_iinc (k := 6) (v := nI (j + 1)) hx hb dW_plus_163 hl rfl (nI_1 j) (by decide) rfl (fun ls hl => ?_)
              have hl : lv_has ls 8 [(5, .int (nI (j + 1))), (4, .int 1), (7, .int (nI s1)), (6, .int (nI y1)), (0, .ref h), (1, .ref x2), (3, .int 1)] := hl
              refine lv_goto (tgt := 32) hx hb dW_plus_166 rfl ?_
              exact ih32 (j + 1, 1, 1, upd g j (nI e1)) (show (j + 1) ≤ R ∧ 1 ≤ 1 ∧ dok 1000000000 (upd g j (nI e1)) (j + 1) ∧ (∀ m, (j + 1) ≤ m → (upd g j (nI e1)) m = f m) ∧ 1 = nI 1 ∧ hv 1000000000 (dg (upd g j (nI e1))) 0 (j + 1) + 1000000000 ^ (j + 1) * 1 = hv 1000000000 (ct K (dg f)) 0 (j + 1) + hv 1000000000 (ct K2 (dg f2)) 0 (j + 1) from ⟨by omega, by omega, dok_s ig he1b (by decide), fun q h => (pk_un (by omega)).trans (if0 q (by omega)), by decide, by rw [hv_us (v := e1) (by omega), hv_snoc, hv_snoc, Nat.zero_add, Nat.pow_succ, ← hx1, ← hy1]; exact add_s iv (by omega)⟩) (show R - (j + 1) < R - j from (by omega)) ls H locs (lv_sub hl [4, 5, 6, 1, 0] rfl) hP hD hS
          · refine lv_iload hx hb dW_plus_87 (lv_at hl 5 rfl) ?_
            refine lv_aload_n hx hb dW_plus_89 rfl (lv_at hl 1 rfl) ?_
            refine va_get (D := D) (ci := 4) (v := .int (nI K)) (C := R_W) (T := T_W) (N := 3) hx hb hT in_W hown hK hP 0 rfl rfl 1 (by decide) (hT _ w148) (fun _ h9 => h9) rfl dW_plus_90 ?_
            refine lv_icmp_ge (tgt := 106) hx hb dW_plus_93 rfl (fun h12 => absurd h12 (Int32.not_le.mpr h6)) (fun _ => ?_)
            refine lv_aload_n hx hb dW_plus_96 rfl (lv_at hl 1 rfl) ?_
            refine va_get (D := D) (ci := 4) (v := .ref w) (C := R_W) (T := T_W) (N := 3) hx hb hT in_W hown hK hP 0 rfl rfl 0 (by decide) (hT _ w145) (fun _ h9 => h9) rfl dW_plus_97 ?_
            refine lv_iload hx hb dW_plus_100 (lv_at hl 5 rfl) ?_
            refine lq_iald (j := j) hx hb hK hP 1 0 rfl rfl rfl (by omega) (by omega) dW_plus_102 ?_
            refine lv_goto (tgt := 107) hx hb dW_plus_103 rfl ?_
            exact hct8 _ (by rw [if0 j (Nat.le_refl _), hx1, ct_lt (show j < K by omega)]; exact (hd j (by omega)).1)
        · refine lv_iload hx hb dW_plus_65 (lv_at hl 4 rfl) ?_
          refine lv_aload_n hx hb dW_plus_67 rfl (lv_at hl 1 rfl) ?_
          refine va_get (D := D) (ci := 4) (v := .int (nI K2)) (C := R_W) (T := T_W) (N := 3) hx hb hT in_W hown hK hP 2 rfl rfl 1 (by decide) (hT _ w148) (fun _ h9 => h9) rfl dW_plus_68 ?_
          refine lv_icmp_ge (tgt := 84) hx hb dW_plus_71 rfl (fun h13 => ?_) (fun h13 => ?_)
          · have gh13 : K2 ≤ j := (nI_leI (a := K2) (b := j) (by omega) (by omega)).mp h13
            refine lv_iconst (v := 0) hx hb dW_plus_84 (by decide) ?_
            exact hct7 _ (by rw [hy1, ct_ge (show K2 ≤ j by omega)]; rfl)
          · have gh13 : j < K2 := Nat.not_le.mp (fun q => h13 ((nI_leI (a := K2) (b := j) (by omega) (by omega)).mpr q))
            refine lv_aload_n hx hb dW_plus_74 rfl (lv_at hl 1 rfl) ?_
            refine va_get (D := D) (ci := 4) (v := .ref w2) (C := R_W) (T := T_W) (N := 3) hx hb hT in_W hown hK hP 2 rfl rfl 0 (by decide) (hT _ w145) (fun _ h9 => h9) rfl dW_plus_75 ?_
            refine lv_iload hx hb dW_plus_78 (lv_at hl 4 rfl) ?_
            refine lq_iald (j := j) hx hb hK hP 3 0 rfl rfl rfl (by omega) (by omega) dW_plus_80 ?_
            refine lv_goto (tgt := 85) hx hb dW_plus_81 rfl ?_
            exact hct7 _ (by rw [hy1, ct_lt (show j < K2 by omega)]; exact (qhd j (by omega)).1)
      · have gh6 : K ≤ j := Nat.not_lt.mp (fun q => h6 ((nI_ltI (a := j) (b := K) (by omega) (by omega)).mpr q))
        refine lv_iload hx hb dW_plus_51 (lv_at hl 4 rfl) ?_
        refine lv_aload_n hx hb dW_plus_53 rfl (lv_at hl 1 rfl) ?_
        refine va_get (D := D) (ci := 4) (v := .int (nI K2)) (C := R_W) (T := T_W) (N := 3) hx hb hT in_W hown hK hP 2 rfl rfl 1 (by decide) (hT _ w148) (fun _ h9 => h9) rfl dW_plus_54 ?_
        refine lv_icmp_lt (tgt := 65) hx hb dW_plus_57 rfl (fun h14 => ?_) (fun h14 => ?_)
        · have gh14 : j < K2 := (nI_ltI (a := j) (b := K2) (by omega) (by omega)).mp h14
          obtain ⟨y1, hy1⟩ : ∃ q9 : Nat, q9 = ct K2 (dg f2) j := ⟨_, rfl⟩
          obtain ⟨x1, hx1⟩ : ∃ q9 : Nat, q9 = ct K (dg f) j := ⟨_, rfl⟩
          have hy1b : y1 < 1000000000 := by
            rw [hy1]
            by_cases q : j < K2
            · rw [ct_lt q]; exact (qhd j q).2
            · rw [ct_ge (show K2 ≤ j by omega)]; decide
          have hx1b : x1 < 1000000000 := by
            rw [hx1]
            by_cases q : j < K
            · rw [ct_lt q]; exact (hd j q).2
            · rw [ct_ge (show K ≤ j by omega)]; decide
          refine lp_cut (fun x9 : Int32 => x9 = nI y1) (fun x9 => [.int x9]) 85 ls (fun x9 e9 => ?_) (fun hct15 => ?_)
          · cases (show x9 = nI y1 from e9)
            refine lv_istore hx hb dW_plus_85 hl (by decide) rfl (fun ls hl => ?_)
            have hl : lv_has ls 8 [(6, .int (nI y1)), (0, .ref h), (1, .ref x2), (3, .int 1), (4, .int (nI o)), (5, .int (nI j))] := hl
            refine lp_cut (fun x9 : Int32 => x9 = nI x1) (fun x9 => [.int x9]) 107 ls (fun x9 e9 => ?_) (fun hct16 => ?_)
            · cases (show x9 = nI x1 from e9)
              refine lv_iload_n hx hb dW_plus_107 rfl (lv_at hl 3 rfl) ?_
              refine lv_if_eq (tgt := 116) hx hb dW_plus_108 rfl (fun h17 => absurd h17 (by decide)) (fun _ => ?_)
              refine lv_iload hx hb dW_plus_111 (lv_at hl 0 rfl) ?_
              refine lv_goto (tgt := 119) hx hb dW_plus_113 rfl ?_
              refine lv_iadd hx hb dW_plus_119 ?_
              refine lv_topi (fun y9 e9 => ?_)
              cases (show y9 = nI (x1 + y1) from e9.trans (nI_add x1 y1))
              refine lv_iload hx hb dW_plus_120 (lv_at hl 4 rfl) ?_
              refine lv_iadd hx hb dW_plus_122 ?_
              refine lv_topi (fun y9 e9 => ?_)
              cases (show y9 = nI ((x1 + y1) + o) from e9.trans (nI_add (x1 + y1) o))
              obtain ⟨s1, hs1⟩ : ∃ q9 : Nat, q9 = x1 + y1 + o := ⟨_, rfl⟩
              refine lv_topi (fun y9 e9 => ?_)
              cases (show y9 = nI s1 from e9.trans (by rw [hs1]))
              refine lv_istore hx hb dW_plus_123 hl (by decide) rfl (fun ls hl => ?_)
              have hl : lv_has ls 8 [(7, .int (nI s1)), (6, .int (nI y1)), (0, .ref h), (1, .ref x2), (3, .int 1), (4, .int (nI o)), (5, .int (nI j))] := hl
              refine lv_iload hx hb dW_plus_125 (lv_at hl 0 rfl) ?_
              refine lv_ldc (v := 1000000000) hx hb hown (hT _ w462) dW_plus_127 ?_
              refine lv_icmp_lt (tgt := 136) hx hb dW_plus_129 rfl (fun h18 => ?_) (fun h18 => ?_)
              · have gh18 : s1 < 1000000000 := (nI_ltI (a := s1) (b := 1000000000) (by omega) (by omega)).mp h18
                refine lv_iload hx hb dW_plus_136 (lv_at hl 0 rfl) ?_
                refine lv_if_ge (tgt := 145) hx hb dW_plus_138 rfl (fun _ => ?_) (fun h19 => absurd (nI_pos' (by omega)) h19)
                obtain ⟨e1, he1⟩ : ∃ q9 : Nat, q9 = s1 := ⟨_, rfl⟩
                have he1b : e1 < 1000000000 := by omega
                refine lv_iconst (v := 0) hx hb dW_plus_145 (by decide) ?_
                refine lv_istore hx hb dW_plus_146 hl (by decide) rfl (fun ls hl => ?_)
                have hl : lv_has ls 8 [(4, .int 0), (7, .int (nI s1)), (6, .int (nI y1)), (0, .ref h), (1, .ref x2), (3, .int 1), (5, .int (nI j))] := hl
                refine lv_aload_n hx hb dW_plus_148 rfl (lv_at hl 3 rfl) ?_
                refine va_get (D := D) (ci := 4) (v := .ref w) (C := R_W) (T := T_W) (N := 3) hx hb hT in_W hown hK hP 0 rfl rfl 0 (by decide) (hT _ w145) (fun _ h9 => h9) rfl dW_plus_149 ?_
                refine lv_iload hx hb dW_plus_152 (lv_at hl 6 rfl) ?_
                refine lv_iload hx hb dW_plus_154 (lv_at hl 1 rfl) ?_
                refine lv_iload hx hb dW_plus_156 (lv_at hl 0 rfl) ?_
                refine lv_ldc (v := 1000000000) hx hb hown (hT _ w462) dW_plus_158 ?_
                refine lv_imul hx hb dW_plus_160 ?_
                refine lv_topi (fun y9 e9 => ?_)
                cases (show y9 = 0 from e9.trans (by decide))
                refine lv_isub hx hb dW_plus_161 ?_
                refine lv_topi (fun y9 e9 => ?_)
                cases (show y9 = nI e1 from e9.trans (by rw [he1]; exact Int32.sub_zero _))
                refine lq_iast (j := j) hx hb hK hP hD hS 1 0 rfl rfl rfl (by omega) (by omega) dW_plus_162 (fun H locs hP hD hS => ?_)
                have hP : va_P D vwCl [(h, .inr (4, [.ref w, .int (nI K), .int b])), (w, .inl (cT 0, R, .inl (upd g j (nI e1)))), (x2, .inr (4, [.ref w2, .int (nI K2), .int b2])), (w2, .inl (cT 0, R2, .inl f2))] _ := hP
                have hD : va_D A [(h, .inr (4, [.ref w, .int (nI K), .int b])), (w, .inl (cT 0, R, .inl (upd g j (nI e1)))), (x2, .inr (4, [.ref w2, .int (nI K2), .int b2])), (w2, .inl (cT 0, R2, .inl f2))] := hD
                refine lv_iinc (k := 6) (v := nI (j + 1)) hx hb dW_plus_163 hl rfl (nI_1 j) (by decide) rfl (fun ls hl => ?_)
                have hl : lv_has ls 8 [(5, .int (nI (j + 1))), (4, .int 0), (7, .int (nI s1)), (6, .int (nI y1)), (0, .ref h), (1, .ref x2), (3, .int 1)] := hl
                refine lv_goto (tgt := 32) hx hb dW_plus_166 rfl ?_
                exact ih32 (j + 1, 0, 0, upd g j (nI e1)) (show (j + 1) ≤ R ∧ 0 ≤ 1 ∧ dok 1000000000 (upd g j (nI e1)) (j + 1) ∧ (∀ m, (j + 1) ≤ m → (upd g j (nI e1)) m = f m) ∧ 0 = nI 0 ∧ hv 1000000000 (dg (upd g j (nI e1))) 0 (j + 1) + 1000000000 ^ (j + 1) * 0 = hv 1000000000 (ct K (dg f)) 0 (j + 1) + hv 1000000000 (ct K2 (dg f2)) 0 (j + 1) from ⟨by omega, by omega, dok_s ig he1b (by decide), fun q h => (pk_un (by omega)).trans (if0 q (by omega)), by decide, by rw [hv_us (v := e1) (by omega), hv_snoc, hv_snoc, Nat.zero_add, Nat.pow_succ, ← hx1, ← hy1]; exact add_s iv (by omega)⟩) (show R - (j + 1) < R - j from (by omega)) ls H locs (lv_sub hl [4, 5, 6, 1, 0] rfl) hP hD hS
              · have gh18 : 1000000000 ≤ s1 := Nat.not_lt.mp (fun q => h18 ((nI_ltI (a := s1) (b := 1000000000) (by omega) (by omega)).mpr q))
                obtain ⟨e1, he1⟩ : ∃ q9 : Nat, q9 = s1 - 1000000000 := ⟨_, rfl⟩
                have he1b : e1 < 1000000000 := by omega
                refine lv_iconst (v := 1) hx hb dW_plus_132 (by decide) ?_
                refine lv_goto (tgt := 146) hx hb dW_plus_133 rfl ?_
                refine lv_istore hx hb dW_plus_146 hl (by decide) rfl (fun ls hl => ?_)
                have hl : lv_has ls 8 [(4, .int 1), (7, .int (nI s1)), (6, .int (nI y1)), (0, .ref h), (1, .ref x2), (3, .int 1), (5, .int (nI j))] := hl
                refine lv_aload_n hx hb dW_plus_148 rfl (lv_at hl 3 rfl) ?_
                refine va_get (D := D) (ci := 4) (v := .ref w) (C := R_W) (T := T_W) (N := 3) hx hb hT in_W hown hK hP 0 rfl rfl 0 (by decide) (hT _ w145) (fun _ h9 => h9) rfl dW_plus_149 ?_
                refine lv_iload hx hb dW_plus_152 (lv_at hl 6 rfl) ?_
                refine lv_iload hx hb dW_plus_154 (lv_at hl 1 rfl) ?_
                refine lv_iload hx hb dW_plus_156 (lv_at hl 0 rfl) ?_
                refine lv_ldc (v := 1000000000) hx hb hown (hT _ w462) dW_plus_158 ?_
                refine lv_imul hx hb dW_plus_160 ?_
                refine lv_topi (fun y9 e9 => ?_)
                cases (show y9 = 1000000000 from e9.trans (by decide))
                refine lv_isub hx hb dW_plus_161 ?_
                refine lv_topi (fun y9 e9 => ?_)
                cases (show y9 = nI e1 from e9.trans (by rw [he1]; exact pk_sub (a := s1) (b := 1000000000) (by omega)))
                refine lq_iast (j := j) hx hb hK hP hD hS 1 0 rfl rfl rfl (by omega) (by omega) dW_plus_162 (fun H locs hP hD hS => ?_)
                have hP : va_P D vwCl [(h, .inr (4, [.ref w, .int (nI K), .int b])), (w, .inl (cT 0, R, .inl (upd g j (nI e1)))), (x2, .inr (4, [.ref w2, .int (nI K2), .int b2])), (w2, .inl (cT 0, R2, .inl f2))] _ := hP
                have hD : va_D A [(h, .inr (4, [.ref w, .int (nI K), .int b])), (w, .inl (cT 0, R, .inl (upd g j (nI e1)))), (x2, .inr (4, [.ref w2, .int (nI K2), .int b2])), (w2, .inl (cT 0, R2, .inl f2))] := hD
                refine lv_iinc (k := 6) (v := nI (j + 1)) hx hb dW_plus_163 hl rfl (nI_1 j) (by decide) rfl (fun ls hl => ?_)
                have hl : lv_has ls 8 [(5, .int (nI (j + 1))), (4, .int 1), (7, .int (nI s1)), (6, .int (nI y1)), (0, .ref h), (1, .ref x2), (3, .int 1)] := hl
                refine lv_goto (tgt := 32) hx hb dW_plus_166 rfl ?_
                exact ih32 (j + 1, 1, 1, upd g j (nI e1)) (show (j + 1) ≤ R ∧ 1 ≤ 1 ∧ dok 1000000000 (upd g j (nI e1)) (j + 1) ∧ (∀ m, (j + 1) ≤ m → (upd g j (nI e1)) m = f m) ∧ 1 = nI 1 ∧ hv 1000000000 (dg (upd g j (nI e1))) 0 (j + 1) + 1000000000 ^ (j + 1) * 1 = hv 1000000000 (ct K (dg f)) 0 (j + 1) + hv 1000000000 (ct K2 (dg f2)) 0 (j + 1) from ⟨by omega, by omega, dok_s ig he1b (by decide), fun q h => (pk_un (by omega)).trans (if0 q (by omega)), by decide, by rw [hv_us (v := e1) (by omega), hv_snoc, hv_snoc, Nat.zero_add, Nat.pow_succ, ← hx1, ← hy1]; exact add_s iv (by omega)⟩) (show R - (j + 1) < R - j from (by omega)) ls H locs (lv_sub hl [4, 5, 6, 1, 0] rfl) hP hD hS
            · refine lv_iload hx hb dW_plus_87 (lv_at hl 5 rfl) ?_
              refine lv_aload_n hx hb dW_plus_89 rfl (lv_at hl 1 rfl) ?_
              refine va_get (D := D) (ci := 4) (v := .int (nI K)) (C := R_W) (T := T_W) (N := 3) hx hb hT in_W hown hK hP 0 rfl rfl 1 (by decide) (hT _ w148) (fun _ h9 => h9) rfl dW_plus_90 ?_
              refine lv_icmp_ge (tgt := 106) hx hb dW_plus_93 rfl (fun _ => ?_) (fun h20 => absurd (Int32.not_lt.mp h6) h20)
              refine lv_iconst (v := 0) hx hb dW_plus_106 (by decide) ?_
              exact hct16 _ (by rw [hx1, ct_ge (show K ≤ j by omega)]; rfl)
          · refine lv_iload hx hb dW_plus_65 (lv_at hl 4 rfl) ?_
            refine lv_aload_n hx hb dW_plus_67 rfl (lv_at hl 1 rfl) ?_
            refine va_get (D := D) (ci := 4) (v := .int (nI K2)) (C := R_W) (T := T_W) (N := 3) hx hb hT in_W hown hK hP 2 rfl rfl 1 (by decide) (hT _ w148) (fun _ h9 => h9) rfl dW_plus_68 ?_
            refine lv_icmp_ge (tgt := 84) hx hb dW_plus_71 rfl (fun h21 => absurd h21 (Int32.not_le.mpr h14)) (fun _ => ?_)
            refine lv_aload_n hx hb dW_plus_74 rfl (lv_at hl 1 rfl) ?_
            refine va_get (D := D) (ci := 4) (v := .ref w2) (C := R_W) (T := T_W) (N := 3) hx hb hT in_W hown hK hP 2 rfl rfl 0 (by decide) (hT _ w145) (fun _ h9 => h9) rfl dW_plus_75 ?_
            refine lv_iload hx hb dW_plus_78 (lv_at hl 4 rfl) ?_
            refine lq_iald (j := j) hx hb hK hP 3 0 rfl rfl rfl (by omega) (by omega) dW_plus_80 ?_
            refine lv_goto (tgt := 85) hx hb dW_plus_81 rfl ?_
            exact hct15 _ (by rw [hy1, ct_lt (show j < K2 by omega)]; exact (qhd j (by omega)).1)
        · have gh14 : K2 ≤ j := Nat.not_lt.mp (fun q => h14 ((nI_ltI (a := j) (b := K2) (by omega) (by omega)).mpr q))
          refine lv_iload hx hb dW_plus_60 (lv_at hl 3 rfl) ?_
          refine lv_if_le (tgt := 169) hx hb dW_plus_62 rfl (fun h22 => ?_) (fun h22 => ?_)
          · have gh22 : o ≤ 0 := (nI_leI (a := o) (b := 0) (by omega) (by omega)).mp h22
            have hjK : K ≤ j ∧ K2 ≤ j := by omega
            rw [hv_ct hjK.1, hv_ct hjK.2] at iv
            have iv : vW g j + 1000000000 ^ j * o = vW f K + vW f2 K2 := iv
            have ho : o = 0 := by
              omega
            rw [ho, Nat.mul_zero, Nat.add_zero] at iv
            refine lv_iload hx hb dW_plus_169 (lv_at hl 3 rfl) ?_
            refine lv_if_ge (tgt := 180) hx hb dW_plus_171 rfl (fun _ => ?_) (fun h23 => absurd (nI_pos' (by omega)) h23)
            refine lv_aload_n hx hb dW_plus_180 rfl (lv_at hl 0 rfl) ?_
            refine lv_iload hx hb dW_plus_181 (lv_at hl 4 rfl) ?_
            refine rw_v (wc := [(h, .inr (4, [.ref w, .int (nI K), .int b])), (w, .inl (cT 0, R, .inl g))]) (wr := [(x2, .inr (4, [.ref w2, .int (nI K2), .int b2])), (w2, .inl (cT 0, R2, .inl f2))]) hP hD hS hA [0, 1] [2, 3] rfl rfl (by decide) (by decide) (va_runV (As := [.int (nI j)]) (rest := []) ⟨hx, hb, hml, hown, hT⟩ (k_trim l D cT h w R (nI K) b g j hR ij ig _) ⟨callB_of 1 hT (tb_gd w397) rfl rfl rfl (hT _ w5) (hT _ w394) hW_trim ⟨Nat.le_of_ble_eq_true rfl, Nat.le_of_ble_eq_true rfl⟩, (hT _ w396), (hT _ wp3)⟩ (RW.preV (ci := 4) (q0 := 0) hZ hS (va_free (wc := [(h, .inr (4, [.ref w, .int (nI K), .int b])), (w, .inl (cT 0, R, .inl g))]) hD hS hA [0, 1] rfl) (hP.sub (ws' := [(h, .inr (4, [.ref w, .int (nI K), .int b])), (w, .inl (cT 0, R, .inl g))]) [0, 1] rfl) hK (hD.sub (ws' := [(h, .inr (4, [.ref w, .int (nI K), .int b])), (w, .inl (cT 0, R, .inl g))]) [0, 1] (by decide) rfl) rfl rfl) rfl rfl hl.1 rfl (lv_room (Nat.le_of_ble_eq_true rfl)) dW_plus_183 ⟨Nat.le_of_ble_eq_true rfl, Nat.le_of_ble_eq_true rfl⟩) (fun u9 H locs hpu24 hP hD hS => ?_)
            obtain ⟨ku24, rfl⟩ : ∃ q9, q9 = u9 := ⟨_, rfl⟩
            have hpu24 : ku24 ≤ j ∧ top0 g ku24 ∧ vW g ku24 = vW g j := hpu24
            have hP : va_P D vwCl [(x2, .inr (4, [.ref w2, .int (nI K2), .int b2])), (w2, .inl (cT 0, R2, .inl f2)), (h, .inr (4, [.ref w, .int (nI ku24), .int b])), (w, .inl (cT 0, R, .inl g))] _ := hP
            have hD : va_D A [(x2, .inr (4, [.ref w2, .int (nI K2), .int b2])), (w2, .inl (cT 0, R2, .inl f2)), (h, .inr (4, [.ref w, .int (nI ku24), .int b])), (w, .inl (cT 0, R, .inl g))] := hD
            have hP9 := hP.sub (ws' := [(h, .inr (4, [.ref w, .int (nI ku24), .int b])), (w, .inl (cT 0, R, .inl g)), (x2, .inr (4, [.ref w2, .int (nI K2), .int b2])), (w2, .inl (cT 0, R2, .inl f2))]) [2, 3, 0, 1] rfl
            have hD9 := hD.sub (ws' := [(h, .inr (4, [.ref w, .int (nI ku24), .int b])), (w, .inl (cT 0, R, .inl g)), (x2, .inr (4, [.ref w2, .int (nI K2), .int b2])), (w2, .inl (cT 0, R2, .inl f2))]) [2, 3, 0, 1] (by decide) rfl
            refine W.widen (k := 0) (n := 0) (Nat.le_of_ble_eq_true rfl) (Nat.le_of_ble_eq_true rfl) ?_
            exact W.vret hx hb hr (fun t9 ht9 hW9 => ⟨⟨(nI ku24, b, g), rfl, (show WN R (nI ku24) b g (z - z2) from by have q0 := wn_trim (R := R) (b := b) ij ig hb01 hpu24; rw [hz, qhz, fl_ne hb01 qhb01 h1, wz_fl]; rw [show vW g j = vW f K + vW f2 K2 from iv] at q0; rw [Int.sub_neg, wz_add]; exact q0), by rw [ht9]; exact hP9, hD9⟩, hS.F ht9⟩) hS.2.2 dW_plus_186
          · have gh22 : 0 < o := Nat.not_le.mp (fun q => h22 ((nI_leI (a := o) (b := 0) (by omega) (by omega)).mpr q))
            obtain ⟨y1, hy1⟩ : ∃ q9 : Nat, q9 = ct K2 (dg f2) j := ⟨_, rfl⟩
            obtain ⟨x1, hx1⟩ : ∃ q9 : Nat, q9 = ct K (dg f) j := ⟨_, rfl⟩
            have hy1b : y1 < 1000000000 := by
              rw [hy1]
              by_cases q : j < K2
              · rw [ct_lt q]; exact (qhd j q).2
              · rw [ct_ge (show K2 ≤ j by omega)]; decide
            have hx1b : x1 < 1000000000 := by
              rw [hx1]
              by_cases q : j < K
              · rw [ct_lt q]; exact (hd j q).2
              · rw [ct_ge (show K ≤ j by omega)]; decide
            refine lp_cut (fun x9 : Int32 => x9 = nI y1) (fun x9 => [.int x9]) 85 ls (fun x9 e9 => ?_) (fun hct25 => ?_)
            · cases (show x9 = nI y1 from e9)
              refine lv_istore hx hb dW_plus_85 hl (by decide) rfl (fun ls hl => ?_)
              have hl : lv_has ls 8 [(6, .int (nI y1)), (0, .ref h), (1, .ref x2), (3, .int 1), (4, .int (nI o)), (5, .int (nI j))] := hl
              refine lp_cut (fun x9 : Int32 => x9 = nI x1) (fun x9 => [.int x9]) 107 ls (fun x9 e9 => ?_) (fun hct26 => ?_)
              · cases (show x9 = nI x1 from e9)
                refine lv_iload_n hx hb dW_plus_107 rfl (lv_at hl 3 rfl) ?_
                refine lv_if_eq (tgt := 116) hx hb dW_plus_108 rfl (fun h27 => absurd h27 (by decide)) (fun _ => ?_)
                refine lv_iload hx hb dW_plus_111 (lv_at hl 0 rfl) ?_
                refine lv_goto (tgt := 119) hx hb dW_plus_113 rfl ?_
                refine lv_iadd hx hb dW_plus_119 ?_
                refine lv_topi (fun y9 e9 => ?_)
                cases (show y9 = nI (x1 + y1) from e9.trans (nI_add x1 y1))
                refine lv_iload hx hb dW_plus_120 (lv_at hl 4 rfl) ?_
                refine lv_iadd hx hb dW_plus_122 ?_
                refine lv_topi (fun y9 e9 => ?_)
                cases (show y9 = nI ((x1 + y1) + o) from e9.trans (nI_add (x1 + y1) o))
                obtain ⟨s1, hs1⟩ : ∃ q9 : Nat, q9 = x1 + y1 + o := ⟨_, rfl⟩
                refine lv_topi (fun y9 e9 => ?_)
                cases (show y9 = nI s1 from e9.trans (by rw [hs1]))
                refine lv_istore hx hb dW_plus_123 hl (by decide) rfl (fun ls hl => ?_)
                have hl : lv_has ls 8 [(7, .int (nI s1)), (6, .int (nI y1)), (0, .ref h), (1, .ref x2), (3, .int 1), (4, .int (nI o)), (5, .int (nI j))] := hl
                refine lv_iload hx hb dW_plus_125 (lv_at hl 0 rfl) ?_
                refine lv_ldc (v := 1000000000) hx hb hown (hT _ w462) dW_plus_127 ?_
                refine lv_icmp_lt (tgt := 136) hx hb dW_plus_129 rfl (fun h28 => ?_) (fun h28 => ?_)
                · have gh28 : s1 < 1000000000 := (nI_ltI (a := s1) (b := 1000000000) (by omega) (by omega)).mp h28
                  refine lv_iload hx hb dW_plus_136 (lv_at hl 0 rfl) ?_
                  refine lv_if_ge (tgt := 145) hx hb dW_plus_138 rfl (fun _ => ?_) (fun h29 => absurd (nI_pos' (by omega)) h29)
                  obtain ⟨e1, he1⟩ : ∃ q9 : Nat, q9 = s1 := ⟨_, rfl⟩
                  have he1b : e1 < 1000000000 := by omega
                  refine lv_iconst (v := 0) hx hb dW_plus_145 (by decide) ?_
                  refine lv_istore hx hb dW_plus_146 hl (by decide) rfl (fun ls hl => ?_)
                  have hl : lv_has ls 8 [(4, .int 0), (7, .int (nI s1)), (6, .int (nI y1)), (0, .ref h), (1, .ref x2), (3, .int 1), (5, .int (nI j))] := hl
                  refine lv_aload_n hx hb dW_plus_148 rfl (lv_at hl 3 rfl) ?_
                  refine va_get (D := D) (ci := 4) (v := .ref w) (C := R_W) (T := T_W) (N := 3) hx hb hT in_W hown hK hP 0 rfl rfl 0 (by decide) (hT _ w145) (fun _ h9 => h9) rfl dW_plus_149 ?_
                  refine lv_iload hx hb dW_plus_152 (lv_at hl 6 rfl) ?_
                  refine lv_iload hx hb dW_plus_154 (lv_at hl 1 rfl) ?_
                  refine lv_iload hx hb dW_plus_156 (lv_at hl 0 rfl) ?_
                  refine lv_ldc (v := 1000000000) hx hb hown (hT _ w462) dW_plus_158 ?_
                  refine lv_imul hx hb dW_plus_160 ?_
                  refine lv_topi (fun y9 e9 => ?_)
                  cases (show y9 = 0 from e9.trans (by decide))
                  refine lv_isub hx hb dW_plus_161 ?_
                  refine lv_topi (fun y9 e9 => ?_)
                  cases (show y9 = nI e1 from e9.trans (by rw [he1]; exact Int32.sub_zero _))
                  refine lq_iast (j := j) hx hb hK hP hD hS 1 0 rfl rfl rfl (by omega) (by omega) dW_plus_162 (fun H locs hP hD hS => ?_)
                  have hP : va_P D vwCl [(h, .inr (4, [.ref w, .int (nI K), .int b])), (w, .inl (cT 0, R, .inl (upd g j (nI e1)))), (x2, .inr (4, [.ref w2, .int (nI K2), .int b2])), (w2, .inl (cT 0, R2, .inl f2))] _ := hP
                  have hD : va_D A [(h, .inr (4, [.ref w, .int (nI K), .int b])), (w, .inl (cT 0, R, .inl (upd g j (nI e1)))), (x2, .inr (4, [.ref w2, .int (nI K2), .int b2])), (w2, .inl (cT 0, R2, .inl f2))] := hD
                  refine lv_iinc (k := 6) (v := nI (j + 1)) hx hb dW_plus_163 hl rfl (nI_1 j) (by decide) rfl (fun ls hl => ?_)
                  have hl : lv_has ls 8 [(5, .int (nI (j + 1))), (4, .int 0), (7, .int (nI s1)), (6, .int (nI y1)), (0, .ref h), (1, .ref x2), (3, .int 1)] := hl
                  refine lv_goto (tgt := 32) hx hb dW_plus_166 rfl ?_
                  exact ih32 (j + 1, 0, 0, upd g j (nI e1)) (show (j + 1) ≤ R ∧ 0 ≤ 1 ∧ dok 1000000000 (upd g j (nI e1)) (j + 1) ∧ (∀ m, (j + 1) ≤ m → (upd g j (nI e1)) m = f m) ∧ 0 = nI 0 ∧ hv 1000000000 (dg (upd g j (nI e1))) 0 (j + 1) + 1000000000 ^ (j + 1) * 0 = hv 1000000000 (ct K (dg f)) 0 (j + 1) + hv 1000000000 (ct K2 (dg f2)) 0 (j + 1) from ⟨by omega, by omega, dok_s ig he1b (by decide), fun q h => (pk_un (by omega)).trans (if0 q (by omega)), by decide, by rw [hv_us (v := e1) (by omega), hv_snoc, hv_snoc, Nat.zero_add, Nat.pow_succ, ← hx1, ← hy1]; exact add_s iv (by omega)⟩) (show R - (j + 1) < R - j from (by omega)) ls H locs (lv_sub hl [4, 5, 6, 1, 0] rfl) hP hD hS
                · have gh28 : 1000000000 ≤ s1 := Nat.not_lt.mp (fun q => h28 ((nI_ltI (a := s1) (b := 1000000000) (by omega) (by omega)).mpr q))
                  obtain ⟨e1, he1⟩ : ∃ q9 : Nat, q9 = s1 - 1000000000 := ⟨_, rfl⟩
                  have he1b : e1 < 1000000000 := by omega
                  refine lv_iconst (v := 1) hx hb dW_plus_132 (by decide) ?_
                  refine lv_goto (tgt := 146) hx hb dW_plus_133 rfl ?_
                  refine lv_istore hx hb dW_plus_146 hl (by decide) rfl (fun ls hl => ?_)
                  have hl : lv_has ls 8 [(4, .int 1), (7, .int (nI s1)), (6, .int (nI y1)), (0, .ref h), (1, .ref x2), (3, .int 1), (5, .int (nI j))] := hl
                  refine lv_aload_n hx hb dW_plus_148 rfl (lv_at hl 3 rfl) ?_
                  refine va_get (D := D) (ci := 4) (v := .ref w) (C := R_W) (T := T_W) (N := 3) hx hb hT in_W hown hK hP 0 rfl rfl 0 (by decide) (hT _ w145) (fun _ h9 => h9) rfl dW_plus_149 ?_
                  refine lv_iload hx hb dW_plus_152 (lv_at hl 6 rfl) ?_
                  refine lv_iload hx hb dW_plus_154 (lv_at hl 1 rfl) ?_
                  refine lv_iload hx hb dW_plus_156 (lv_at hl 0 rfl) ?_
                  refine lv_ldc (v := 1000000000) hx hb hown (hT _ w462) dW_plus_158 ?_
                  refine lv_imul hx hb dW_plus_160 ?_
                  refine lv_topi (fun y9 e9 => ?_)
                  cases (show y9 = 1000000000 from e9.trans (by decide))
                  refine lv_isub hx hb dW_plus_161 ?_
                  refine lv_topi (fun y9 e9 => ?_)
                  cases (show y9 = nI e1 from e9.trans (by rw [he1]; exact pk_sub (a := s1) (b := 1000000000) (by omega)))
                  refine lq_iast (j := j) hx hb hK hP hD hS 1 0 rfl rfl rfl (by omega) (by omega) dW_plus_162 (fun H locs hP hD hS => ?_)
                  have hP : va_P D vwCl [(h, .inr (4, [.ref w, .int (nI K), .int b])), (w, .inl (cT 0, R, .inl (upd g j (nI e1)))), (x2, .inr (4, [.ref w2, .int (nI K2), .int b2])), (w2, .inl (cT 0, R2, .inl f2))] _ := hP
                  have hD : va_D A [(h, .inr (4, [.ref w, .int (nI K), .int b])), (w, .inl (cT 0, R, .inl (upd g j (nI e1)))), (x2, .inr (4, [.ref w2, .int (nI K2), .int b2])), (w2, .inl (cT 0, R2, .inl f2))] := hD
                  refine lv_iinc (k := 6) (v := nI (j + 1)) hx hb dW_plus_163 hl rfl (nI_1 j) (by decide) rfl (fun ls hl => ?_)
                  have hl : lv_has ls 8 [(5, .int (nI (j + 1))), (4, .int 1), (7, .int (nI s1)), (6, .int (nI y1)), (0, .ref h), (1, .ref x2), (3, .int 1)] := hl
                  refine lv_goto (tgt := 32) hx hb dW_plus_166 rfl ?_
                  exact ih32 (j + 1, 1, 1, upd g j (nI e1)) (show (j + 1) ≤ R ∧ 1 ≤ 1 ∧ dok 1000000000 (upd g j (nI e1)) (j + 1) ∧ (∀ m, (j + 1) ≤ m → (upd g j (nI e1)) m = f m) ∧ 1 = nI 1 ∧ hv 1000000000 (dg (upd g j (nI e1))) 0 (j + 1) + 1000000000 ^ (j + 1) * 1 = hv 1000000000 (ct K (dg f)) 0 (j + 1) + hv 1000000000 (ct K2 (dg f2)) 0 (j + 1) from ⟨by omega, by omega, dok_s ig he1b (by decide), fun q h => (pk_un (by omega)).trans (if0 q (by omega)), by decide, by rw [hv_us (v := e1) (by omega), hv_snoc, hv_snoc, Nat.zero_add, Nat.pow_succ, ← hx1, ← hy1]; exact add_s iv (by omega)⟩) (show R - (j + 1) < R - j from (by omega)) ls H locs (lv_sub hl [4, 5, 6, 1, 0] rfl) hP hD hS
              · refine lv_iload hx hb dW_plus_87 (lv_at hl 5 rfl) ?_
                refine lv_aload_n hx hb dW_plus_89 rfl (lv_at hl 1 rfl) ?_
                refine va_get (D := D) (ci := 4) (v := .int (nI K)) (C := R_W) (T := T_W) (N := 3) hx hb hT in_W hown hK hP 0 rfl rfl 1 (by decide) (hT _ w148) (fun _ h9 => h9) rfl dW_plus_90 ?_
                refine lv_icmp_ge (tgt := 106) hx hb dW_plus_93 rfl (fun _ => ?_) (fun h30 => absurd (Int32.not_lt.mp h6) h30)
                refine lv_iconst (v := 0) hx hb dW_plus_106 (by decide) ?_
                exact hct26 _ (by rw [hx1, ct_ge (show K ≤ j by omega)]; rfl)
            · refine lv_iload hx hb dW_plus_65 (lv_at hl 4 rfl) ?_
              refine lv_aload_n hx hb dW_plus_67 rfl (lv_at hl 1 rfl) ?_
              refine va_get (D := D) (ci := 4) (v := .int (nI K2)) (C := R_W) (T := T_W) (N := 3) hx hb hT in_W hown hK hP 2 rfl rfl 1 (by decide) (hT _ w148) (fun _ h9 => h9) rfl dW_plus_68 ?_
              refine lv_icmp_ge (tgt := 84) hx hb dW_plus_71 rfl (fun _ => ?_) (fun h31 => absurd (Int32.not_lt.mp h14) h31)
              refine lv_iconst (v := 0) hx hb dW_plus_84 (by decide) ?_
              exact hct25 _ (by rw [hy1, ct_ge (show K2 ≤ j by omega)]; rfl)
  · refine lv_iconst (v := 1) hx hb dW_plus_11 (by decide) ?_
    refine lv_goto (tgt := 16) hx hb dW_plus_12 rfl ?_
    refine lv_iload_n hx hb dW_plus_16 rfl (lv_at hl 2 rfl) ?_
    refine lv_icmp_eq (tgt := 24) hx hb dW_plus_17 rfl (fun _ => ?_) (fun h32 => absurd (by decide) h32)
    refine lv_iconst (v := 0) hx hb dW_plus_24 (by decide) ?_
    refine lv_istore_n hx hb dW_plus_25 rfl hl (by decide) rfl (fun ls hl => ?_)
    have hl : lv_has ls 8 [(3, .int 0), (0, .ref h), (1, .ref x2), (2, .int 1)] := hl
    refine lv_iconst (v := 0) hx hb dW_plus_26 (by decide) ?_
    refine lv_istore hx hb dW_plus_27 hl (by decide) rfl (fun ls hl => ?_)
    have hl : lv_has ls 8 [(4, .int 0), (3, .int 0), (0, .ref h), (1, .ref x2), (2, .int 1)] := hl
    refine lv_iconst (v := 0) hx hb dW_plus_29 (by decide) ?_
    refine lv_istore hx hb dW_plus_30 hl (by decide) rfl (fun ls hl => ?_)
    have hl : lv_has ls 8 [(5, .int 0), (4, .int 0), (3, .int 0), (0, .ref h), (1, .ref x2), (2, .int 1)] := hl
    refine lp_w (α := Nat × Nat × Int32 × (Nat → Int32)) (fun a9 => a9.1 ≤ R ∧ a9.2.1 ≤ 1 ∧ dok 1000000000 a9.2.2.2 a9.1 ∧ (∀ m, a9.1 ≤ m → a9.2.2.2 m = f m) ∧ a9.2.2.1 = -(nI a9.2.1) ∧ hv 1000000000 (dg a9.2.2.2) 0 a9.1 + hv 1000000000 (ct K2 (dg f2)) 0 a9.1 = hv 1000000000 (ct K (dg f)) 0 a9.1 + 1000000000 ^ a9.1 * a9.2.1) (fun a9 => R - a9.1) (fun a9 => [(0, .ref h), (1, .ref x2), (3, .int 0), (4, .int a9.2.2.1), (5, .int (nI a9.1))]) (fun a9 => [(h, .inr (4, [.ref w, .int (nI K), .int b])), (w, .inl (cT 0, R, .inl a9.2.2.2)), (x2, .inr (4, [.ref w2, .int (nI K2), .int b2])), (w2, .inl (cT 0, R2, .inl f2))]) 32 ?_ (0, 0, 0, f) (show 0 ≤ R ∧ 0 ≤ 1 ∧ dok 1000000000 f 0 ∧ (∀ m, 0 ≤ m → f m = f m) ∧ 0 = -(nI 0) ∧ hv 1000000000 (dg f) 0 0 + hv 1000000000 (ct K2 (dg f2)) 0 0 = hv 1000000000 (ct K (dg f)) 0 0 + 1000000000 ^ 0 * 0 from ⟨by omega, by omega, fun q h => absurd h (by omega), fun _ _ => rfl, by decide, by simp [hv]⟩) (lv_sub hl [3, 4, 2, 1, 0] rfl) hP hD hS
    intro a9 hI32 ih32 ls H locs hl hP hD hS
    obtain ⟨j, o, cr, g⟩ := a9
    have hI32 : j ≤ R ∧ o ≤ 1 ∧ dok 1000000000 g j ∧ (∀ m, j ≤ m → g m = f m) ∧ cr = -(nI o) ∧ hv 1000000000 (dg g) 0 j + hv 1000000000 (ct K2 (dg f2)) 0 j = hv 1000000000 (ct K (dg f)) 0 j + 1000000000 ^ j * o := hI32
    obtain ⟨ij, io, ig, if0, icr, iv⟩ := hI32
    have hl : lv_has ls 8 [(0, .ref h), (1, .ref x2), (3, .int 0), (4, .int cr), (5, .int (nI j))] := hl
    have hP : va_P D vwCl [(h, .inr (4, [.ref w, .int (nI K), .int b])), (w, .inl (cT 0, R, .inl g)), (x2, .inr (4, [.ref w2, .int (nI K2), .int b2])), (w2, .inl (cT 0, R2, .inl f2))] _ := hP
    have hD : va_D A [(h, .inr (4, [.ref w, .int (nI K), .int b])), (w, .inl (cT 0, R, .inl g)), (x2, .inr (4, [.ref w2, .int (nI K2), .int b2])), (w2, .inl (cT 0, R2, .inl f2))] := hD
    subst icr
    have hl : lv_has ls 8 [(0, .ref h), (1, .ref x2), (3, .int 0), (4, .int (-(nI o))), (5, .int (nI j))] := hl
    have hP : va_P D vwCl [(h, .inr (4, [.ref w, .int (nI K), .int b])), (w, .inl (cT 0, R, .inl g)), (x2, .inr (4, [.ref w2, .int (nI K2), .int b2])), (w2, .inl (cT 0, R2, .inl f2))] _ := hP
    have hD : va_D A [(h, .inr (4, [.ref w, .int (nI K), .int b])), (w, .inl (cT 0, R, .inl g)), (x2, .inr (4, [.ref w2, .int (nI K2), .int b2])), (w2, .inl (cT 0, R2, .inl f2))] := hD
    refine lv_iload hx hb dW_plus_32 (lv_at hl 4 rfl) ?_
    refine lv_aload_n hx hb dW_plus_34 rfl (lv_at hl 0 rfl) ?_
    refine va_get (D := D) (ci := 4) (v := .ref w) (C := R_W) (T := T_W) (N := 3) hx hb hT in_W hown hK hP 0 rfl rfl 0 (by decide) (hT _ w145) (fun _ h9 => h9) rfl dW_plus_35 ?_
    refine va_alen (v := nI R) hx hb hK hP 1 0 rfl rfl rfl dW_plus_38 ?_
    refine lv_icmp_ge (tgt := 169) hx hb dW_plus_39 rfl (fun h33 => ?_) (fun h33 => ?_)
    · have gh33 : R ≤ j := (nI_leI (a := R) (b := j) (by omega) (by omega)).mp h33
      have hjK : K ≤ j ∧ K2 ≤ j := by omega
      rw [hv_ct hjK.1, hv_ct hjK.2] at iv
      have iv : vW g j + vW f2 K2 = vW f K + 1000000000 ^ j * o := iv
      have hvg := vW_b ig
      have hb2 := vW_b qhd
      have hpw : 1000000000 ^ K2 ≤ 1000000000 ^ j := Nat.pow_le_pow_right (by decide) hjK.2
      refine lv_iload hx hb dW_plus_169 (lv_at hl 3 rfl) ?_
      refine lv_if_ge (tgt := 180) hx hb dW_plus_171 rfl (fun h34 => ?_) (fun h34 => ?_)
      · have ho : o = 0 := by rcases (show o = 0 ∨ o = 1 by omega) with r | r; (exact r); (exact absurd (show 0 ≤ -(nI o) from h34) (by rw [r]; decide))
        rw [ho, Nat.mul_zero, Nat.add_zero] at iv
        refine lv_aload_n hx hb dW_plus_180 rfl (lv_at hl 0 rfl) ?_
        refine lv_iload hx hb dW_plus_181 (lv_at hl 4 rfl) ?_
        refine rw_v (wc := [(h, .inr (4, [.ref w, .int (nI K), .int b])), (w, .inl (cT 0, R, .inl g))]) (wr := [(x2, .inr (4, [.ref w2, .int (nI K2), .int b2])), (w2, .inl (cT 0, R2, .inl f2))]) hP hD hS hA [0, 1] [2, 3] rfl rfl (by decide) (by decide) (va_runV (As := [.int (nI j)]) (rest := []) ⟨hx, hb, hml, hown, hT⟩ (k_trim l D cT h w R (nI K) b g j hR ij ig _) ⟨callB_of 1 hT (tb_gd w397) rfl rfl rfl (hT _ w5) (hT _ w394) hW_trim ⟨Nat.le_of_ble_eq_true rfl, Nat.le_of_ble_eq_true rfl⟩, (hT _ w396), (hT _ wp3)⟩ (RW.preV (ci := 4) (q0 := 0) hZ hS (va_free (wc := [(h, .inr (4, [.ref w, .int (nI K), .int b])), (w, .inl (cT 0, R, .inl g))]) hD hS hA [0, 1] rfl) (hP.sub (ws' := [(h, .inr (4, [.ref w, .int (nI K), .int b])), (w, .inl (cT 0, R, .inl g))]) [0, 1] rfl) hK (hD.sub (ws' := [(h, .inr (4, [.ref w, .int (nI K), .int b])), (w, .inl (cT 0, R, .inl g))]) [0, 1] (by decide) rfl) rfl rfl) rfl rfl hl.1 rfl (lv_room (Nat.le_of_ble_eq_true rfl)) dW_plus_183 ⟨Nat.le_of_ble_eq_true rfl, Nat.le_of_ble_eq_true rfl⟩) (fun u9 H locs hpu35 hP hD hS => ?_)
        obtain ⟨ku35, rfl⟩ : ∃ q9, q9 = u9 := ⟨_, rfl⟩
        have hpu35 : ku35 ≤ j ∧ top0 g ku35 ∧ vW g ku35 = vW g j := hpu35
        have hP : va_P D vwCl [(x2, .inr (4, [.ref w2, .int (nI K2), .int b2])), (w2, .inl (cT 0, R2, .inl f2)), (h, .inr (4, [.ref w, .int (nI ku35), .int b])), (w, .inl (cT 0, R, .inl g))] _ := hP
        have hD : va_D A [(x2, .inr (4, [.ref w2, .int (nI K2), .int b2])), (w2, .inl (cT 0, R2, .inl f2)), (h, .inr (4, [.ref w, .int (nI ku35), .int b])), (w, .inl (cT 0, R, .inl g))] := hD
        have hP9 := hP.sub (ws' := [(h, .inr (4, [.ref w, .int (nI ku35), .int b])), (w, .inl (cT 0, R, .inl g)), (x2, .inr (4, [.ref w2, .int (nI K2), .int b2])), (w2, .inl (cT 0, R2, .inl f2))]) [2, 3, 0, 1] rfl
        have hD9 := hD.sub (ws' := [(h, .inr (4, [.ref w, .int (nI ku35), .int b])), (w, .inl (cT 0, R, .inl g)), (x2, .inr (4, [.ref w2, .int (nI K2), .int b2])), (w2, .inl (cT 0, R2, .inl f2))]) [2, 3, 0, 1] (by decide) rfl
        refine W.widen (k := 0) (n := 0) (Nat.le_of_ble_eq_true rfl) (Nat.le_of_ble_eq_true rfl) ?_
        exact W.vret hx hb hr (fun t9 ht9 hW9 => ⟨⟨(nI ku35, b, g), rfl, (show WN R (nI ku35) b g (z - z2) from by have q0 := wn_trim (R := R) (b := b) ij ig hb01 hpu35; rw [hz, qhz, ← h1]; rw [show vW g j = vW f K - vW f2 K2 by omega] at q0; rw [wz_sub (by omega)]; exact q0), by rw [ht9]; exact hP9, hD9⟩, hS.F ht9⟩) hS.2.2 dW_plus_186
      · have ho : o = 1 := by rcases (show o = 0 ∨ o = 1 by omega) with r | r; (exact absurd (by rw [r]; decide) h34); (exact r)
        rw [ho, Nat.mul_one] at iv
        refine lv_aload_n hx hb dW_plus_174 rfl (lv_at hl 0 rfl) ?_
        refine lv_iload hx hb dW_plus_175 (lv_at hl 4 rfl) ?_
        refine rw_v (wc := [(h, .inr (4, [.ref w, .int (nI K), .int b])), (w, .inl (cT 0, R, .inl g))]) (wr := [(x2, .inr (4, [.ref w2, .int (nI K2), .int b2])), (w2, .inl (cT 0, R2, .inl f2))]) hP hD hS hA [0, 1] [2, 3] rfl rfl (by decide) (by decide) (va_runV (As := [.int (nI j)]) (rest := []) ⟨hx, hb, hml, hown, hT⟩ (k_complement l D cT h w R (nI K) b g j hR ij ig hb01 _) ⟨callB_of 1 hT (tb_gd w466) rfl rfl rfl (hT _ w5) (hT _ w463) hW_complement ⟨Nat.le_of_ble_eq_true rfl, Nat.le_of_ble_eq_true rfl⟩, (hT _ w465), (hT _ wp5)⟩ (RW.preV (ci := 4) (q0 := 0) hZ hS (va_free (wc := [(h, .inr (4, [.ref w, .int (nI K), .int b])), (w, .inl (cT 0, R, .inl g))]) hD hS hA [0, 1] rfl) (hP.sub (ws' := [(h, .inr (4, [.ref w, .int (nI K), .int b])), (w, .inl (cT 0, R, .inl g))]) [0, 1] rfl) hK (hD.sub (ws' := [(h, .inr (4, [.ref w, .int (nI K), .int b])), (w, .inl (cT 0, R, .inl g))]) [0, 1] (by decide) rfl) rfl rfl) rfl rfl hl.1 rfl (lv_room (Nat.le_of_ble_eq_true rfl)) dW_plus_177 ⟨Nat.le_of_ble_eq_true rfl, Nat.le_of_ble_eq_true rfl⟩) (fun u9 H locs hpu36 hP hD hS => ?_)
        obtain ⟨b1u36, f1u36⟩ := u9
        have hpu36 : dok 1000000000 f1u36 j ∧ (0 < vW g j → vW f1u36 j = 1000000000 ^ j - vW g j) ∧ b1u36 = fl b := hpu36
        have hP : va_P D vwCl [(x2, .inr (4, [.ref w2, .int (nI K2), .int b2])), (w2, .inl (cT 0, R2, .inl f2)), (h, .inr (4, [.ref w, .int (nI K), .int b1u36])), (w, .inl (cT 0, R, .inl f1u36))] _ := hP
        have hD : va_D A [(x2, .inr (4, [.ref w2, .int (nI K2), .int b2])), (w2, .inl (cT 0, R2, .inl f2)), (h, .inr (4, [.ref w, .int (nI K), .int b1u36])), (w, .inl (cT 0, R, .inl f1u36))] := hD
        obtain ⟨hc1, hc2, hc3⟩ := hpu36
        have hc2 := hc2 (by omega)
        refine lv_aload_n hx hb dW_plus_180 rfl (lv_at hl 0 rfl) ?_
        refine lv_iload hx hb dW_plus_181 (lv_at hl 4 rfl) ?_
        refine rw_v (wc := [(h, .inr (4, [.ref w, .int (nI K), .int b1u36])), (w, .inl (cT 0, R, .inl f1u36))]) (wr := [(x2, .inr (4, [.ref w2, .int (nI K2), .int b2])), (w2, .inl (cT 0, R2, .inl f2))]) hP hD hS hA [2, 3] [0, 1] rfl rfl (by decide) (by decide) (va_runV (As := [.int (nI j)]) (rest := []) ⟨hx, hb, hml, hown, hT⟩ (k_trim l D cT h w R (nI K) b1u36 f1u36 j hR ij hc1 _) ⟨callB_of 1 hT (tb_gd w397) rfl rfl rfl (hT _ w5) (hT _ w394) hW_trim ⟨Nat.le_of_ble_eq_true rfl, Nat.le_of_ble_eq_true rfl⟩, (hT _ w396), (hT _ wp3)⟩ (RW.preV (ci := 4) (q0 := 0) hZ hS (va_free (wc := [(h, .inr (4, [.ref w, .int (nI K), .int b1u36])), (w, .inl (cT 0, R, .inl f1u36))]) hD hS hA [2, 3] rfl) (hP.sub (ws' := [(h, .inr (4, [.ref w, .int (nI K), .int b1u36])), (w, .inl (cT 0, R, .inl f1u36))]) [2, 3] rfl) hK (hD.sub (ws' := [(h, .inr (4, [.ref w, .int (nI K), .int b1u36])), (w, .inl (cT 0, R, .inl f1u36))]) [2, 3] (by decide) rfl) rfl rfl) rfl rfl hl.1 rfl (lv_room (Nat.le_of_ble_eq_true rfl)) dW_plus_183 ⟨Nat.le_of_ble_eq_true rfl, Nat.le_of_ble_eq_true rfl⟩) (fun u9 H locs hpu37 hP hD hS => ?_)
        obtain ⟨ku37, rfl⟩ : ∃ q9, q9 = u9 := ⟨_, rfl⟩
        have hpu37 : ku37 ≤ j ∧ top0 f1u36 ku37 ∧ vW f1u36 ku37 = vW f1u36 j := hpu37
        have hP : va_P D vwCl [(x2, .inr (4, [.ref w2, .int (nI K2), .int b2])), (w2, .inl (cT 0, R2, .inl f2)), (h, .inr (4, [.ref w, .int (nI ku37), .int b1u36])), (w, .inl (cT 0, R, .inl f1u36))] _ := hP
        have hD : va_D A [(x2, .inr (4, [.ref w2, .int (nI K2), .int b2])), (w2, .inl (cT 0, R2, .inl f2)), (h, .inr (4, [.ref w, .int (nI ku37), .int b1u36])), (w, .inl (cT 0, R, .inl f1u36))] := hD
        have hP9 := hP.sub (ws' := [(h, .inr (4, [.ref w, .int (nI ku37), .int b1u36])), (w, .inl (cT 0, R, .inl f1u36)), (x2, .inr (4, [.ref w2, .int (nI K2), .int b2])), (w2, .inl (cT 0, R2, .inl f2))]) [2, 3, 0, 1] rfl
        have hD9 := hD.sub (ws' := [(h, .inr (4, [.ref w, .int (nI ku37), .int b1u36])), (w, .inl (cT 0, R, .inl f1u36)), (x2, .inr (4, [.ref w2, .int (nI K2), .int b2])), (w2, .inl (cT 0, R2, .inl f2))]) [2, 3, 0, 1] (by decide) rfl
        refine W.widen (k := 0) (n := 0) (Nat.le_of_ble_eq_true rfl) (Nat.le_of_ble_eq_true rfl) ?_
        exact W.vret hx hb hr (fun t9 ht9 hW9 => ⟨⟨(nI ku37, b1u36, f1u36), rfl, (show WN R (nI ku37) b1u36 f1u36 (z - z2) from by have q0 := wn_trim (R := R) (b := b1u36) ij hc1 (by rw [hc3]; exact fl_01 b) hpu37; rw [hz, qhz, ← h1]; rw [hc3]; rw [hc3, wz_fl, show vW f1u36 j = vW f2 K2 - vW f K by omega, ← wz_sub (by omega), Int.neg_sub] at q0; exact q0), by rw [ht9]; exact hP9, hD9⟩, hS.F ht9⟩) hS.2.2 dW_plus_186
    · have gh33 : j < R := Nat.not_le.mp (fun q => h33 ((nI_leI (a := R) (b := j) (by omega) (by omega)).mpr q))
      refine lv_iload hx hb dW_plus_42 (lv_at hl 4 rfl) ?_
      refine lv_aload_n hx hb dW_plus_44 rfl (lv_at hl 0 rfl) ?_
      refine va_get (D := D) (ci := 4) (v := .int (nI K)) (C := R_W) (T := T_W) (N := 3) hx hb hT in_W hown hK hP 0 rfl rfl 1 (by decide) (hT _ w148) (fun _ h9 => h9) rfl dW_plus_45 ?_
      refine lv_icmp_lt (tgt := 65) hx hb dW_plus_48 rfl (fun h38 => ?_) (fun h38 => ?_)
      · have gh38 : j < K := (nI_ltI (a := j) (b := K) (by omega) (by omega)).mp h38
        obtain ⟨y1, hy1⟩ : ∃ q9 : Nat, q9 = ct K2 (dg f2) j := ⟨_, rfl⟩
        obtain ⟨x1, hx1⟩ : ∃ q9 : Nat, q9 = ct K (dg f) j := ⟨_, rfl⟩
        have hy1b : y1 < 1000000000 := by
          rw [hy1]
          by_cases q : j < K2
          · rw [ct_lt q]; exact (qhd j q).2
          · rw [ct_ge (show K2 ≤ j by omega)]; decide
        have hx1b : x1 < 1000000000 := by
          rw [hx1]
          by_cases q : j < K
          · rw [ct_lt q]; exact (hd j q).2
          · rw [ct_ge (show K ≤ j by omega)]; decide
        refine lp_cut (fun x9 : Int32 => x9 = nI y1) (fun x9 => [.int x9]) 85 ls (fun x9 e9 => ?_) (fun hct39 => ?_)
        · cases (show x9 = nI y1 from e9)
          refine lv_istore hx hb dW_plus_85 hl (by decide) rfl (fun ls hl => ?_)
          have hl : lv_has ls 8 [(6, .int (nI y1)), (0, .ref h), (1, .ref x2), (3, .int 0), (4, .int (-(nI o))), (5, .int (nI j))] := hl
          refine lp_cut (fun x9 : Int32 => x9 = nI x1) (fun x9 => [.int x9]) 107 ls (fun x9 e9 => ?_) (fun hct40 => ?_)
          · cases (show x9 = nI x1 from e9)
            refine lv_iload_n hx hb dW_plus_107 rfl (lv_at hl 3 rfl) ?_
            refine lv_if_eq (tgt := 116) hx hb dW_plus_108 rfl (fun _ => ?_) (fun h41 => absurd (by decide) h41)
            refine lv_iload hx hb dW_plus_116 (lv_at hl 0 rfl) ?_
            refine lv_ineg hx hb dW_plus_118 ?_
            refine lv_iadd hx hb dW_plus_119 ?_
            refine lv_iload hx hb dW_plus_120 (lv_at hl 4 rfl) ?_
            refine lv_iadd hx hb dW_plus_122 ?_
            obtain ⟨s1, hs1⟩ : ∃ q9 : Int32, q9 = nI x1 + -(nI y1) + -(nI o) := ⟨_, rfl⟩
            refine lv_topi (fun y9 e9 => ?_)
            cases (show y9 = s1 from e9.trans hs1.symm)
            have hs1i : s1.toInt = (x1 : Int) - y1 - o := by rw [hs1]; exact sb_ti (by omega) (by omega) io
            refine lv_istore hx hb dW_plus_123 hl (by decide) rfl (fun ls hl => ?_)
            have hl : lv_has ls 8 [(7, .int s1), (6, .int (nI y1)), (0, .ref h), (1, .ref x2), (3, .int 0), (4, .int (-(nI o))), (5, .int (nI j))] := hl
            refine lv_iload hx hb dW_plus_125 (lv_at hl 0 rfl) ?_
            refine lv_ldc (v := 1000000000) hx hb hown (hT _ w462) dW_plus_127 ?_
            refine lv_icmp_lt (tgt := 136) hx hb dW_plus_129 rfl (fun _ => ?_) (fun h42 => absurd (Int32.lt_iff_toInt_lt.mpr (by rw [hs1i]; show _ < (1000000000 : Int); omega)) h42)
            refine lv_iload hx hb dW_plus_136 (lv_at hl 0 rfl) ?_
            refine lv_if_ge (tgt := 145) hx hb dW_plus_138 rfl (fun h43 => ?_) (fun h43 => ?_)
            · have hng : 0 ≤ (x1 : Int) - y1 - o := by have q := Int32.le_iff_toInt_le.mp h43; rw [hs1i] at q; exact q
              obtain ⟨e1, he1⟩ : ∃ q9 : Nat, q9 = x1 - y1 - o := ⟨_, rfl⟩
              have he1b : e1 < 1000000000 := by omega
              refine lv_iconst (v := 0) hx hb dW_plus_145 (by decide) ?_
              refine lv_istore hx hb dW_plus_146 hl (by decide) rfl (fun ls hl => ?_)
              have hl : lv_has ls 8 [(4, .int 0), (7, .int s1), (6, .int (nI y1)), (0, .ref h), (1, .ref x2), (3, .int 0), (5, .int (nI j))] := hl
              refine lv_aload_n hx hb dW_plus_148 rfl (lv_at hl 3 rfl) ?_
              refine va_get (D := D) (ci := 4) (v := .ref w) (C := R_W) (T := T_W) (N := 3) hx hb hT in_W hown hK hP 0 rfl rfl 0 (by decide) (hT _ w145) (fun _ h9 => h9) rfl dW_plus_149 ?_
              refine lv_iload hx hb dW_plus_152 (lv_at hl 6 rfl) ?_
              refine lv_iload hx hb dW_plus_154 (lv_at hl 1 rfl) ?_
              refine lv_iload hx hb dW_plus_156 (lv_at hl 0 rfl) ?_
              refine lv_ldc (v := 1000000000) hx hb hown (hT _ w462) dW_plus_158 ?_
              refine lv_imul hx hb dW_plus_160 ?_
              refine lv_topi (fun y9 e9 => ?_)
              cases (show y9 = 0 from e9.trans (by decide))
              refine lv_isub hx hb dW_plus_161 ?_
              refine lv_topi (fun y9 e9 => ?_)
              cases (show y9 = nI e1 from e9.trans (sb_z hs1i hng (by omega) (by omega)))
              refine lq_iast (j := j) hx hb hK hP hD hS 1 0 rfl rfl rfl (by omega) (by omega) dW_plus_162 (fun H locs hP hD hS => ?_)
              have hP : va_P D vwCl [(h, .inr (4, [.ref w, .int (nI K), .int b])), (w, .inl (cT 0, R, .inl (upd g j (nI e1)))), (x2, .inr (4, [.ref w2, .int (nI K2), .int b2])), (w2, .inl (cT 0, R2, .inl f2))] _ := hP
              have hD : va_D A [(h, .inr (4, [.ref w, .int (nI K), .int b])), (w, .inl (cT 0, R, .inl (upd g j (nI e1)))), (x2, .inr (4, [.ref w2, .int (nI K2), .int b2])), (w2, .inl (cT 0, R2, .inl f2))] := hD
              refine lv_iinc (k := 6) (v := nI (j + 1)) hx hb dW_plus_163 hl rfl (nI_1 j) (by decide) rfl (fun ls hl => ?_)
              have hl : lv_has ls 8 [(5, .int (nI (j + 1))), (4, .int 0), (7, .int s1), (6, .int (nI y1)), (0, .ref h), (1, .ref x2), (3, .int 0)] := hl
              refine lv_goto (tgt := 32) hx hb dW_plus_166 rfl ?_
              exact ih32 (j + 1, 0, 0, upd g j (nI e1)) (show (j + 1) ≤ R ∧ 0 ≤ 1 ∧ dok 1000000000 (upd g j (nI e1)) (j + 1) ∧ (∀ m, (j + 1) ≤ m → (upd g j (nI e1)) m = f m) ∧ 0 = -(nI 0) ∧ hv 1000000000 (dg (upd g j (nI e1))) 0 (j + 1) + hv 1000000000 (ct K2 (dg f2)) 0 (j + 1) = hv 1000000000 (ct K (dg f)) 0 (j + 1) + 1000000000 ^ (j + 1) * 0 from ⟨by omega, by omega, dok_s ig he1b (by decide), fun q h => (pk_un (by omega)).trans (if0 q (by omega)), by decide, by rw [hv_us (v := e1) (by omega), hv_snoc, hv_snoc, Nat.zero_add, Nat.pow_succ, ← hx1, ← hy1]; exact sub_s iv (by omega)⟩) (show R - (j + 1) < R - j from (by omega)) ls H locs (lv_sub hl [4, 5, 6, 1, 0] rfl) hP hD hS
            · have hng : (x1 : Int) - y1 - o < 0 := by have q := Int32.lt_iff_toInt_lt.mp (Int32.not_le.mp h43); rw [hs1i] at q; exact q
              obtain ⟨e1, he1⟩ : ∃ q9 : Nat, q9 = x1 + 1000000000 - y1 - o := ⟨_, rfl⟩
              have he1b : e1 < 1000000000 := by omega
              refine lv_iconst (v := (-1)) hx hb dW_plus_141 (by decide) ?_
              refine lv_goto (tgt := 146) hx hb dW_plus_142 rfl ?_
              refine lv_istore hx hb dW_plus_146 hl (by decide) rfl (fun ls hl => ?_)
              have hl : lv_has ls 8 [(4, .int (-1)), (7, .int s1), (6, .int (nI y1)), (0, .ref h), (1, .ref x2), (3, .int 0), (5, .int (nI j))] := hl
              refine lv_aload_n hx hb dW_plus_148 rfl (lv_at hl 3 rfl) ?_
              refine va_get (D := D) (ci := 4) (v := .ref w) (C := R_W) (T := T_W) (N := 3) hx hb hT in_W hown hK hP 0 rfl rfl 0 (by decide) (hT _ w145) (fun _ h9 => h9) rfl dW_plus_149 ?_
              refine lv_iload hx hb dW_plus_152 (lv_at hl 6 rfl) ?_
              refine lv_iload hx hb dW_plus_154 (lv_at hl 1 rfl) ?_
              refine lv_iload hx hb dW_plus_156 (lv_at hl 0 rfl) ?_
              refine lv_ldc (v := 1000000000) hx hb hown (hT _ w462) dW_plus_158 ?_
              refine lv_imul hx hb dW_plus_160 ?_
              refine lv_topi (fun y9 e9 => ?_)
              cases (show y9 = (-1000000000) from e9.trans (by decide))
              refine lv_isub hx hb dW_plus_161 ?_
              refine lv_topi (fun y9 e9 => ?_)
              cases (show y9 = nI e1 from e9.trans (sb_m hs1i (by omega) hng (by omega)))
              refine lq_iast (j := j) hx hb hK hP hD hS 1 0 rfl rfl rfl (by omega) (by omega) dW_plus_162 (fun H locs hP hD hS => ?_)
              have hP : va_P D vwCl [(h, .inr (4, [.ref w, .int (nI K), .int b])), (w, .inl (cT 0, R, .inl (upd g j (nI e1)))), (x2, .inr (4, [.ref w2, .int (nI K2), .int b2])), (w2, .inl (cT 0, R2, .inl f2))] _ := hP
              have hD : va_D A [(h, .inr (4, [.ref w, .int (nI K), .int b])), (w, .inl (cT 0, R, .inl (upd g j (nI e1)))), (x2, .inr (4, [.ref w2, .int (nI K2), .int b2])), (w2, .inl (cT 0, R2, .inl f2))] := hD
              refine lv_iinc (k := 6) (v := nI (j + 1)) hx hb dW_plus_163 hl rfl (nI_1 j) (by decide) rfl (fun ls hl => ?_)
              have hl : lv_has ls 8 [(5, .int (nI (j + 1))), (4, .int (-1)), (7, .int s1), (6, .int (nI y1)), (0, .ref h), (1, .ref x2), (3, .int 0)] := hl
              refine lv_goto (tgt := 32) hx hb dW_plus_166 rfl ?_
              exact ih32 (j + 1, 1, (-1), upd g j (nI e1)) (show (j + 1) ≤ R ∧ 1 ≤ 1 ∧ dok 1000000000 (upd g j (nI e1)) (j + 1) ∧ (∀ m, (j + 1) ≤ m → (upd g j (nI e1)) m = f m) ∧ (-1) = -(nI 1) ∧ hv 1000000000 (dg (upd g j (nI e1))) 0 (j + 1) + hv 1000000000 (ct K2 (dg f2)) 0 (j + 1) = hv 1000000000 (ct K (dg f)) 0 (j + 1) + 1000000000 ^ (j + 1) * 1 from ⟨by omega, by omega, dok_s ig he1b (by decide), fun q h => (pk_un (by omega)).trans (if0 q (by omega)), by decide, by rw [hv_us (v := e1) (by omega), hv_snoc, hv_snoc, Nat.zero_add, Nat.pow_succ, ← hx1, ← hy1]; exact sub_s iv (by omega)⟩) (show R - (j + 1) < R - j from (by omega)) ls H locs (lv_sub hl [4, 5, 6, 1, 0] rfl) hP hD hS
          · refine lv_iload hx hb dW_plus_87 (lv_at hl 5 rfl) ?_
            refine lv_aload_n hx hb dW_plus_89 rfl (lv_at hl 1 rfl) ?_
            refine va_get (D := D) (ci := 4) (v := .int (nI K)) (C := R_W) (T := T_W) (N := 3) hx hb hT in_W hown hK hP 0 rfl rfl 1 (by decide) (hT _ w148) (fun _ h9 => h9) rfl dW_plus_90 ?_
            refine lv_icmp_ge (tgt := 106) hx hb dW_plus_93 rfl (fun h44 => absurd h44 (Int32.not_le.mpr h38)) (fun _ => ?_)
            refine lv_aload_n hx hb dW_plus_96 rfl (lv_at hl 1 rfl) ?_
            refine va_get (D := D) (ci := 4) (v := .ref w) (C := R_W) (T := T_W) (N := 3) hx hb hT in_W hown hK hP 0 rfl rfl 0 (by decide) (hT _ w145) (fun _ h9 => h9) rfl dW_plus_97 ?_
            refine lv_iload hx hb dW_plus_100 (lv_at hl 5 rfl) ?_
            refine lq_iald (j := j) hx hb hK hP 1 0 rfl rfl rfl (by omega) (by omega) dW_plus_102 ?_
            refine lv_goto (tgt := 107) hx hb dW_plus_103 rfl ?_
            exact hct40 _ (by rw [if0 j (Nat.le_refl _), hx1, ct_lt (show j < K by omega)]; exact (hd j (by omega)).1)
        · refine lv_iload hx hb dW_plus_65 (lv_at hl 4 rfl) ?_
          refine lv_aload_n hx hb dW_plus_67 rfl (lv_at hl 1 rfl) ?_
          refine va_get (D := D) (ci := 4) (v := .int (nI K2)) (C := R_W) (T := T_W) (N := 3) hx hb hT in_W hown hK hP 2 rfl rfl 1 (by decide) (hT _ w148) (fun _ h9 => h9) rfl dW_plus_68 ?_
          refine lv_icmp_ge (tgt := 84) hx hb dW_plus_71 rfl (fun h45 => ?_) (fun h45 => ?_)
          · have gh45 : K2 ≤ j := (nI_leI (a := K2) (b := j) (by omega) (by omega)).mp h45
            refine lv_iconst (v := 0) hx hb dW_plus_84 (by decide) ?_
            exact hct39 _ (by rw [hy1, ct_ge (show K2 ≤ j by omega)]; rfl)
          · have gh45 : j < K2 := Nat.not_le.mp (fun q => h45 ((nI_leI (a := K2) (b := j) (by omega) (by omega)).mpr q))
            refine lv_aload_n hx hb dW_plus_74 rfl (lv_at hl 1 rfl) ?_
            refine va_get (D := D) (ci := 4) (v := .ref w2) (C := R_W) (T := T_W) (N := 3) hx hb hT in_W hown hK hP 2 rfl rfl 0 (by decide) (hT _ w145) (fun _ h9 => h9) rfl dW_plus_75 ?_
            refine lv_iload hx hb dW_plus_78 (lv_at hl 4 rfl) ?_
            refine lq_iald (j := j) hx hb hK hP 3 0 rfl rfl rfl (by omega) (by omega) dW_plus_80 ?_
            refine lv_goto (tgt := 85) hx hb dW_plus_81 rfl ?_
            exact hct39 _ (by rw [hy1, ct_lt (show j < K2 by omega)]; exact (qhd j (by omega)).1)
      · have gh38 : K ≤ j := Nat.not_lt.mp (fun q => h38 ((nI_ltI (a := j) (b := K) (by omega) (by omega)).mpr q))
        refine lv_iload hx hb dW_plus_51 (lv_at hl 4 rfl) ?_
        refine lv_aload_n hx hb dW_plus_53 rfl (lv_at hl 1 rfl) ?_
        refine va_get (D := D) (ci := 4) (v := .int (nI K2)) (C := R_W) (T := T_W) (N := 3) hx hb hT in_W hown hK hP 2 rfl rfl 1 (by decide) (hT _ w148) (fun _ h9 => h9) rfl dW_plus_54 ?_
        refine lv_icmp_lt (tgt := 65) hx hb dW_plus_57 rfl (fun h46 => ?_) (fun h46 => ?_)
        · have gh46 : j < K2 := (nI_ltI (a := j) (b := K2) (by omega) (by omega)).mp h46
          obtain ⟨y1, hy1⟩ : ∃ q9 : Nat, q9 = ct K2 (dg f2) j := ⟨_, rfl⟩
          obtain ⟨x1, hx1⟩ : ∃ q9 : Nat, q9 = ct K (dg f) j := ⟨_, rfl⟩
          have hy1b : y1 < 1000000000 := by
            rw [hy1]
            by_cases q : j < K2
            · rw [ct_lt q]; exact (qhd j q).2
            · rw [ct_ge (show K2 ≤ j by omega)]; decide
          have hx1b : x1 < 1000000000 := by
            rw [hx1]
            by_cases q : j < K
            · rw [ct_lt q]; exact (hd j q).2
            · rw [ct_ge (show K ≤ j by omega)]; decide
          refine lp_cut (fun x9 : Int32 => x9 = nI y1) (fun x9 => [.int x9]) 85 ls (fun x9 e9 => ?_) (fun hct47 => ?_)
          · cases (show x9 = nI y1 from e9)
            refine lv_istore hx hb dW_plus_85 hl (by decide) rfl (fun ls hl => ?_)
            have hl : lv_has ls 8 [(6, .int (nI y1)), (0, .ref h), (1, .ref x2), (3, .int 0), (4, .int (-(nI o))), (5, .int (nI j))] := hl
            refine lp_cut (fun x9 : Int32 => x9 = nI x1) (fun x9 => [.int x9]) 107 ls (fun x9 e9 => ?_) (fun hct48 => ?_)
            · cases (show x9 = nI x1 from e9)
              refine lv_iload_n hx hb dW_plus_107 rfl (lv_at hl 3 rfl) ?_
              refine lv_if_eq (tgt := 116) hx hb dW_plus_108 rfl (fun _ => ?_) (fun h49 => absurd (by decide) h49)
              refine lv_iload hx hb dW_plus_116 (lv_at hl 0 rfl) ?_
              refine lv_ineg hx hb dW_plus_118 ?_
              refine lv_iadd hx hb dW_plus_119 ?_
              refine lv_iload hx hb dW_plus_120 (lv_at hl 4 rfl) ?_
              refine lv_iadd hx hb dW_plus_122 ?_
              obtain ⟨s1, hs1⟩ : ∃ q9 : Int32, q9 = nI x1 + -(nI y1) + -(nI o) := ⟨_, rfl⟩
              refine lv_topi (fun y9 e9 => ?_)
              cases (show y9 = s1 from e9.trans hs1.symm)
              have hs1i : s1.toInt = (x1 : Int) - y1 - o := by rw [hs1]; exact sb_ti (by omega) (by omega) io
              refine lv_istore hx hb dW_plus_123 hl (by decide) rfl (fun ls hl => ?_)
              have hl : lv_has ls 8 [(7, .int s1), (6, .int (nI y1)), (0, .ref h), (1, .ref x2), (3, .int 0), (4, .int (-(nI o))), (5, .int (nI j))] := hl
              refine lv_iload hx hb dW_plus_125 (lv_at hl 0 rfl) ?_
              refine lv_ldc (v := 1000000000) hx hb hown (hT _ w462) dW_plus_127 ?_
              refine lv_icmp_lt (tgt := 136) hx hb dW_plus_129 rfl (fun _ => ?_) (fun h50 => absurd (Int32.lt_iff_toInt_lt.mpr (by rw [hs1i]; show _ < (1000000000 : Int); omega)) h50)
              refine lv_iload hx hb dW_plus_136 (lv_at hl 0 rfl) ?_
              refine lv_if_ge (tgt := 145) hx hb dW_plus_138 rfl (fun h51 => ?_) (fun h51 => ?_)
              · have hng : 0 ≤ (x1 : Int) - y1 - o := by have q := Int32.le_iff_toInt_le.mp h51; rw [hs1i] at q; exact q
                obtain ⟨e1, he1⟩ : ∃ q9 : Nat, q9 = x1 - y1 - o := ⟨_, rfl⟩
                have he1b : e1 < 1000000000 := by omega
                refine lv_iconst (v := 0) hx hb dW_plus_145 (by decide) ?_
                refine lv_istore hx hb dW_plus_146 hl (by decide) rfl (fun ls hl => ?_)
                have hl : lv_has ls 8 [(4, .int 0), (7, .int s1), (6, .int (nI y1)), (0, .ref h), (1, .ref x2), (3, .int 0), (5, .int (nI j))] := hl
                refine lv_aload_n hx hb dW_plus_148 rfl (lv_at hl 3 rfl) ?_
                refine va_get (D := D) (ci := 4) (v := .ref w) (C := R_W) (T := T_W) (N := 3) hx hb hT in_W hown hK hP 0 rfl rfl 0 (by decide) (hT _ w145) (fun _ h9 => h9) rfl dW_plus_149 ?_
                refine lv_iload hx hb dW_plus_152 (lv_at hl 6 rfl) ?_
                refine lv_iload hx hb dW_plus_154 (lv_at hl 1 rfl) ?_
                refine lv_iload hx hb dW_plus_156 (lv_at hl 0 rfl) ?_
                refine lv_ldc (v := 1000000000) hx hb hown (hT _ w462) dW_plus_158 ?_
                refine lv_imul hx hb dW_plus_160 ?_
                refine lv_topi (fun y9 e9 => ?_)
                cases (show y9 = 0 from e9.trans (by decide))
                refine lv_isub hx hb dW_plus_161 ?_
                refine lv_topi (fun y9 e9 => ?_)
                cases (show y9 = nI e1 from e9.trans (sb_z hs1i hng (by omega) (by omega)))
                refine lq_iast (j := j) hx hb hK hP hD hS 1 0 rfl rfl rfl (by omega) (by omega) dW_plus_162 (fun H locs hP hD hS => ?_)
                have hP : va_P D vwCl [(h, .inr (4, [.ref w, .int (nI K), .int b])), (w, .inl (cT 0, R, .inl (upd g j (nI e1)))), (x2, .inr (4, [.ref w2, .int (nI K2), .int b2])), (w2, .inl (cT 0, R2, .inl f2))] _ := hP
                have hD : va_D A [(h, .inr (4, [.ref w, .int (nI K), .int b])), (w, .inl (cT 0, R, .inl (upd g j (nI e1)))), (x2, .inr (4, [.ref w2, .int (nI K2), .int b2])), (w2, .inl (cT 0, R2, .inl f2))] := hD
                refine lv_iinc (k := 6) (v := nI (j + 1)) hx hb dW_plus_163 hl rfl (nI_1 j) (by decide) rfl (fun ls hl => ?_)
                have hl : lv_has ls 8 [(5, .int (nI (j + 1))), (4, .int 0), (7, .int s1), (6, .int (nI y1)), (0, .ref h), (1, .ref x2), (3, .int 0)] := hl
                refine lv_goto (tgt := 32) hx hb dW_plus_166 rfl ?_
                exact ih32 (j + 1, 0, 0, upd g j (nI e1)) (show (j + 1) ≤ R ∧ 0 ≤ 1 ∧ dok 1000000000 (upd g j (nI e1)) (j + 1) ∧ (∀ m, (j + 1) ≤ m → (upd g j (nI e1)) m = f m) ∧ 0 = -(nI 0) ∧ hv 1000000000 (dg (upd g j (nI e1))) 0 (j + 1) + hv 1000000000 (ct K2 (dg f2)) 0 (j + 1) = hv 1000000000 (ct K (dg f)) 0 (j + 1) + 1000000000 ^ (j + 1) * 0 from ⟨by omega, by omega, dok_s ig he1b (by decide), fun q h => (pk_un (by omega)).trans (if0 q (by omega)), by decide, by rw [hv_us (v := e1) (by omega), hv_snoc, hv_snoc, Nat.zero_add, Nat.pow_succ, ← hx1, ← hy1]; exact sub_s iv (by omega)⟩) (show R - (j + 1) < R - j from (by omega)) ls H locs (lv_sub hl [4, 5, 6, 1, 0] rfl) hP hD hS
              · have hng : (x1 : Int) - y1 - o < 0 := by have q := Int32.lt_iff_toInt_lt.mp (Int32.not_le.mp h51); rw [hs1i] at q; exact q
                obtain ⟨e1, he1⟩ : ∃ q9 : Nat, q9 = x1 + 1000000000 - y1 - o := ⟨_, rfl⟩
                have he1b : e1 < 1000000000 := by omega
                refine lv_iconst (v := (-1)) hx hb dW_plus_141 (by decide) ?_
                refine lv_goto (tgt := 146) hx hb dW_plus_142 rfl ?_
                refine lv_istore hx hb dW_plus_146 hl (by decide) rfl (fun ls hl => ?_)
                have hl : lv_has ls 8 [(4, .int (-1)), (7, .int s1), (6, .int (nI y1)), (0, .ref h), (1, .ref x2), (3, .int 0), (5, .int (nI j))] := hl
                refine lv_aload_n hx hb dW_plus_148 rfl (lv_at hl 3 rfl) ?_
                refine va_get (D := D) (ci := 4) (v := .ref w) (C := R_W) (T := T_W) (N := 3) hx hb hT in_W hown hK hP 0 rfl rfl 0 (by decide) (hT _ w145) (fun _ h9 => h9) rfl dW_plus_149 ?_
                refine lv_iload hx hb dW_plus_152 (lv_at hl 6 rfl) ?_
                refine lv_iload hx hb dW_plus_154 (lv_at hl 1 rfl) ?_
                refine lv_iload hx hb dW_plus_156 (lv_at hl 0 rfl) ?_
                refine lv_ldc (v := 1000000000) hx hb hown (hT _ w462) dW_plus_158 ?_
                refine lv_imul hx hb dW_plus_160 ?_
                refine lv_topi (fun y9 e9 => ?_)
                cases (show y9 = (-1000000000) from e9.trans (by decide))
                refine lv_isub hx hb dW_plus_161 ?_
                refine lv_topi (fun y9 e9 => ?_)
                cases (show y9 = nI e1 from e9.trans (sb_m hs1i (by omega) hng (by omega)))
                refine lq_iast (j := j) hx hb hK hP hD hS 1 0 rfl rfl rfl (by omega) (by omega) dW_plus_162 (fun H locs hP hD hS => ?_)
                have hP : va_P D vwCl [(h, .inr (4, [.ref w, .int (nI K), .int b])), (w, .inl (cT 0, R, .inl (upd g j (nI e1)))), (x2, .inr (4, [.ref w2, .int (nI K2), .int b2])), (w2, .inl (cT 0, R2, .inl f2))] _ := hP
                have hD : va_D A [(h, .inr (4, [.ref w, .int (nI K), .int b])), (w, .inl (cT 0, R, .inl (upd g j (nI e1)))), (x2, .inr (4, [.ref w2, .int (nI K2), .int b2])), (w2, .inl (cT 0, R2, .inl f2))] := hD
                refine lv_iinc (k := 6) (v := nI (j + 1)) hx hb dW_plus_163 hl rfl (nI_1 j) (by decide) rfl (fun ls hl => ?_)
                have hl : lv_has ls 8 [(5, .int (nI (j + 1))), (4, .int (-1)), (7, .int s1), (6, .int (nI y1)), (0, .ref h), (1, .ref x2), (3, .int 0)] := hl
                refine lv_goto (tgt := 32) hx hb dW_plus_166 rfl ?_
                exact ih32 (j + 1, 1, (-1), upd g j (nI e1)) (show (j + 1) ≤ R ∧ 1 ≤ 1 ∧ dok 1000000000 (upd g j (nI e1)) (j + 1) ∧ (∀ m, (j + 1) ≤ m → (upd g j (nI e1)) m = f m) ∧ (-1) = -(nI 1) ∧ hv 1000000000 (dg (upd g j (nI e1))) 0 (j + 1) + hv 1000000000 (ct K2 (dg f2)) 0 (j + 1) = hv 1000000000 (ct K (dg f)) 0 (j + 1) + 1000000000 ^ (j + 1) * 1 from ⟨by omega, by omega, dok_s ig he1b (by decide), fun q h => (pk_un (by omega)).trans (if0 q (by omega)), by decide, by rw [hv_us (v := e1) (by omega), hv_snoc, hv_snoc, Nat.zero_add, Nat.pow_succ, ← hx1, ← hy1]; exact sub_s iv (by omega)⟩) (show R - (j + 1) < R - j from (by omega)) ls H locs (lv_sub hl [4, 5, 6, 1, 0] rfl) hP hD hS
            · refine lv_iload hx hb dW_plus_87 (lv_at hl 5 rfl) ?_
              refine lv_aload_n hx hb dW_plus_89 rfl (lv_at hl 1 rfl) ?_
              refine va_get (D := D) (ci := 4) (v := .int (nI K)) (C := R_W) (T := T_W) (N := 3) hx hb hT in_W hown hK hP 0 rfl rfl 1 (by decide) (hT _ w148) (fun _ h9 => h9) rfl dW_plus_90 ?_
              refine lv_icmp_ge (tgt := 106) hx hb dW_plus_93 rfl (fun _ => ?_) (fun h52 => absurd (Int32.not_lt.mp h38) h52)
              refine lv_iconst (v := 0) hx hb dW_plus_106 (by decide) ?_
              exact hct48 _ (by rw [hx1, ct_ge (show K ≤ j by omega)]; rfl)
          · refine lv_iload hx hb dW_plus_65 (lv_at hl 4 rfl) ?_
            refine lv_aload_n hx hb dW_plus_67 rfl (lv_at hl 1 rfl) ?_
            refine va_get (D := D) (ci := 4) (v := .int (nI K2)) (C := R_W) (T := T_W) (N := 3) hx hb hT in_W hown hK hP 2 rfl rfl 1 (by decide) (hT _ w148) (fun _ h9 => h9) rfl dW_plus_68 ?_
            refine lv_icmp_ge (tgt := 84) hx hb dW_plus_71 rfl (fun h53 => absurd h53 (Int32.not_le.mpr h46)) (fun _ => ?_)
            refine lv_aload_n hx hb dW_plus_74 rfl (lv_at hl 1 rfl) ?_
            refine va_get (D := D) (ci := 4) (v := .ref w2) (C := R_W) (T := T_W) (N := 3) hx hb hT in_W hown hK hP 2 rfl rfl 0 (by decide) (hT _ w145) (fun _ h9 => h9) rfl dW_plus_75 ?_
            refine lv_iload hx hb dW_plus_78 (lv_at hl 4 rfl) ?_
            refine lq_iald (j := j) hx hb hK hP 3 0 rfl rfl rfl (by omega) (by omega) dW_plus_80 ?_
            refine lv_goto (tgt := 85) hx hb dW_plus_81 rfl ?_
            exact hct47 _ (by rw [hy1, ct_lt (show j < K2 by omega)]; exact (qhd j (by omega)).1)
        · have gh46 : K2 ≤ j := Nat.not_lt.mp (fun q => h46 ((nI_ltI (a := j) (b := K2) (by omega) (by omega)).mpr q))
          refine lv_iload hx hb dW_plus_60 (lv_at hl 3 rfl) ?_
          refine lv_if_le (tgt := 169) hx hb dW_plus_62 rfl (fun _ => ?_) (fun h54 => absurd (show -(nI o) ≤ 0 from by rcases (show o = 0 ∨ o = 1 by omega) with r | r <;> rw [r] <;> decide) h54)
          have hjK : K ≤ j ∧ K2 ≤ j := by omega
          rw [hv_ct hjK.1, hv_ct hjK.2] at iv
          have iv : vW g j + vW f2 K2 = vW f K + 1000000000 ^ j * o := iv
          have hvg := vW_b ig
          have hb2 := vW_b qhd
          have hpw : 1000000000 ^ K2 ≤ 1000000000 ^ j := Nat.pow_le_pow_right (by decide) hjK.2
          refine lv_iload hx hb dW_plus_169 (lv_at hl 3 rfl) ?_
          refine lv_if_ge (tgt := 180) hx hb dW_plus_171 rfl (fun h55 => ?_) (fun h55 => ?_)
          · have ho : o = 0 := by rcases (show o = 0 ∨ o = 1 by omega) with r | r; (exact r); (exact absurd (show 0 ≤ -(nI o) from h55) (by rw [r]; decide))
            rw [ho, Nat.mul_zero, Nat.add_zero] at iv
            refine lv_aload_n hx hb dW_plus_180 rfl (lv_at hl 0 rfl) ?_
            refine lv_iload hx hb dW_plus_181 (lv_at hl 4 rfl) ?_
            refine rw_v (wc := [(h, .inr (4, [.ref w, .int (nI K), .int b])), (w, .inl (cT 0, R, .inl g))]) (wr := [(x2, .inr (4, [.ref w2, .int (nI K2), .int b2])), (w2, .inl (cT 0, R2, .inl f2))]) hP hD hS hA [0, 1] [2, 3] rfl rfl (by decide) (by decide) (va_runV (As := [.int (nI j)]) (rest := []) ⟨hx, hb, hml, hown, hT⟩ (k_trim l D cT h w R (nI K) b g j hR ij ig _) ⟨callB_of 1 hT (tb_gd w397) rfl rfl rfl (hT _ w5) (hT _ w394) hW_trim ⟨Nat.le_of_ble_eq_true rfl, Nat.le_of_ble_eq_true rfl⟩, (hT _ w396), (hT _ wp3)⟩ (RW.preV (ci := 4) (q0 := 0) hZ hS (va_free (wc := [(h, .inr (4, [.ref w, .int (nI K), .int b])), (w, .inl (cT 0, R, .inl g))]) hD hS hA [0, 1] rfl) (hP.sub (ws' := [(h, .inr (4, [.ref w, .int (nI K), .int b])), (w, .inl (cT 0, R, .inl g))]) [0, 1] rfl) hK (hD.sub (ws' := [(h, .inr (4, [.ref w, .int (nI K), .int b])), (w, .inl (cT 0, R, .inl g))]) [0, 1] (by decide) rfl) rfl rfl) rfl rfl hl.1 rfl (lv_room (Nat.le_of_ble_eq_true rfl)) dW_plus_183 ⟨Nat.le_of_ble_eq_true rfl, Nat.le_of_ble_eq_true rfl⟩) (fun u9 H locs hpu56 hP hD hS => ?_)
            obtain ⟨ku56, rfl⟩ : ∃ q9, q9 = u9 := ⟨_, rfl⟩
            have hpu56 : ku56 ≤ j ∧ top0 g ku56 ∧ vW g ku56 = vW g j := hpu56
            have hP : va_P D vwCl [(x2, .inr (4, [.ref w2, .int (nI K2), .int b2])), (w2, .inl (cT 0, R2, .inl f2)), (h, .inr (4, [.ref w, .int (nI ku56), .int b])), (w, .inl (cT 0, R, .inl g))] _ := hP
            have hD : va_D A [(x2, .inr (4, [.ref w2, .int (nI K2), .int b2])), (w2, .inl (cT 0, R2, .inl f2)), (h, .inr (4, [.ref w, .int (nI ku56), .int b])), (w, .inl (cT 0, R, .inl g))] := hD
            have hP9 := hP.sub (ws' := [(h, .inr (4, [.ref w, .int (nI ku56), .int b])), (w, .inl (cT 0, R, .inl g)), (x2, .inr (4, [.ref w2, .int (nI K2), .int b2])), (w2, .inl (cT 0, R2, .inl f2))]) [2, 3, 0, 1] rfl
            have hD9 := hD.sub (ws' := [(h, .inr (4, [.ref w, .int (nI ku56), .int b])), (w, .inl (cT 0, R, .inl g)), (x2, .inr (4, [.ref w2, .int (nI K2), .int b2])), (w2, .inl (cT 0, R2, .inl f2))]) [2, 3, 0, 1] (by decide) rfl
            refine W.widen (k := 0) (n := 0) (Nat.le_of_ble_eq_true rfl) (Nat.le_of_ble_eq_true rfl) ?_
            exact W.vret hx hb hr (fun t9 ht9 hW9 => ⟨⟨(nI ku56, b, g), rfl, (show WN R (nI ku56) b g (z - z2) from by have q0 := wn_trim (R := R) (b := b) ij ig hb01 hpu56; rw [hz, qhz, ← h1]; rw [show vW g j = vW f K - vW f2 K2 by omega] at q0; rw [wz_sub (by omega)]; exact q0), by rw [ht9]; exact hP9, hD9⟩, hS.F ht9⟩) hS.2.2 dW_plus_186
          · have ho : o = 1 := by rcases (show o = 0 ∨ o = 1 by omega) with r | r; (exact absurd (by rw [r]; decide) h55); (exact r)
            rw [ho, Nat.mul_one] at iv
            refine lv_aload_n hx hb dW_plus_174 rfl (lv_at hl 0 rfl) ?_
            refine lv_iload hx hb dW_plus_175 (lv_at hl 4 rfl) ?_
            refine rw_v (wc := [(h, .inr (4, [.ref w, .int (nI K), .int b])), (w, .inl (cT 0, R, .inl g))]) (wr := [(x2, .inr (4, [.ref w2, .int (nI K2), .int b2])), (w2, .inl (cT 0, R2, .inl f2))]) hP hD hS hA [0, 1] [2, 3] rfl rfl (by decide) (by decide) (va_runV (As := [.int (nI j)]) (rest := []) ⟨hx, hb, hml, hown, hT⟩ (k_complement l D cT h w R (nI K) b g j hR ij ig hb01 _) ⟨callB_of 1 hT (tb_gd w466) rfl rfl rfl (hT _ w5) (hT _ w463) hW_complement ⟨Nat.le_of_ble_eq_true rfl, Nat.le_of_ble_eq_true rfl⟩, (hT _ w465), (hT _ wp5)⟩ (RW.preV (ci := 4) (q0 := 0) hZ hS (va_free (wc := [(h, .inr (4, [.ref w, .int (nI K), .int b])), (w, .inl (cT 0, R, .inl g))]) hD hS hA [0, 1] rfl) (hP.sub (ws' := [(h, .inr (4, [.ref w, .int (nI K), .int b])), (w, .inl (cT 0, R, .inl g))]) [0, 1] rfl) hK (hD.sub (ws' := [(h, .inr (4, [.ref w, .int (nI K), .int b])), (w, .inl (cT 0, R, .inl g))]) [0, 1] (by decide) rfl) rfl rfl) rfl rfl hl.1 rfl (lv_room (Nat.le_of_ble_eq_true rfl)) dW_plus_177 ⟨Nat.le_of_ble_eq_true rfl, Nat.le_of_ble_eq_true rfl⟩) (fun u9 H locs hpu57 hP hD hS => ?_)
            obtain ⟨b1u57, f1u57⟩ := u9
            have hpu57 : dok 1000000000 f1u57 j ∧ (0 < vW g j → vW f1u57 j = 1000000000 ^ j - vW g j) ∧ b1u57 = fl b := hpu57
            have hP : va_P D vwCl [(x2, .inr (4, [.ref w2, .int (nI K2), .int b2])), (w2, .inl (cT 0, R2, .inl f2)), (h, .inr (4, [.ref w, .int (nI K), .int b1u57])), (w, .inl (cT 0, R, .inl f1u57))] _ := hP
            have hD : va_D A [(x2, .inr (4, [.ref w2, .int (nI K2), .int b2])), (w2, .inl (cT 0, R2, .inl f2)), (h, .inr (4, [.ref w, .int (nI K), .int b1u57])), (w, .inl (cT 0, R, .inl f1u57))] := hD
            obtain ⟨hc1, hc2, hc3⟩ := hpu57
            have hc2 := hc2 (by omega)
            refine lv_aload_n hx hb dW_plus_180 rfl (lv_at hl 0 rfl) ?_
            refine lv_iload hx hb dW_plus_181 (lv_at hl 4 rfl) ?_
            refine rw_v (wc := [(h, .inr (4, [.ref w, .int (nI K), .int b1u57])), (w, .inl (cT 0, R, .inl f1u57))]) (wr := [(x2, .inr (4, [.ref w2, .int (nI K2), .int b2])), (w2, .inl (cT 0, R2, .inl f2))]) hP hD hS hA [2, 3] [0, 1] rfl rfl (by decide) (by decide) (va_runV (As := [.int (nI j)]) (rest := []) ⟨hx, hb, hml, hown, hT⟩ (k_trim l D cT h w R (nI K) b1u57 f1u57 j hR ij hc1 _) ⟨callB_of 1 hT (tb_gd w397) rfl rfl rfl (hT _ w5) (hT _ w394) hW_trim ⟨Nat.le_of_ble_eq_true rfl, Nat.le_of_ble_eq_true rfl⟩, (hT _ w396), (hT _ wp3)⟩ (RW.preV (ci := 4) (q0 := 0) hZ hS (va_free (wc := [(h, .inr (4, [.ref w, .int (nI K), .int b1u57])), (w, .inl (cT 0, R, .inl f1u57))]) hD hS hA [2, 3] rfl) (hP.sub (ws' := [(h, .inr (4, [.ref w, .int (nI K), .int b1u57])), (w, .inl (cT 0, R, .inl f1u57))]) [2, 3] rfl) hK (hD.sub (ws' := [(h, .inr (4, [.ref w, .int (nI K), .int b1u57])), (w, .inl (cT 0, R, .inl f1u57))]) [2, 3] (by decide) rfl) rfl rfl) rfl rfl hl.1 rfl (lv_room (Nat.le_of_ble_eq_true rfl)) dW_plus_183 ⟨Nat.le_of_ble_eq_true rfl, Nat.le_of_ble_eq_true rfl⟩) (fun u9 H locs hpu58 hP hD hS => ?_)
            obtain ⟨ku58, rfl⟩ : ∃ q9, q9 = u9 := ⟨_, rfl⟩
            have hpu58 : ku58 ≤ j ∧ top0 f1u57 ku58 ∧ vW f1u57 ku58 = vW f1u57 j := hpu58
            have hP : va_P D vwCl [(x2, .inr (4, [.ref w2, .int (nI K2), .int b2])), (w2, .inl (cT 0, R2, .inl f2)), (h, .inr (4, [.ref w, .int (nI ku58), .int b1u57])), (w, .inl (cT 0, R, .inl f1u57))] _ := hP
            have hD : va_D A [(x2, .inr (4, [.ref w2, .int (nI K2), .int b2])), (w2, .inl (cT 0, R2, .inl f2)), (h, .inr (4, [.ref w, .int (nI ku58), .int b1u57])), (w, .inl (cT 0, R, .inl f1u57))] := hD
            have hP9 := hP.sub (ws' := [(h, .inr (4, [.ref w, .int (nI ku58), .int b1u57])), (w, .inl (cT 0, R, .inl f1u57)), (x2, .inr (4, [.ref w2, .int (nI K2), .int b2])), (w2, .inl (cT 0, R2, .inl f2))]) [2, 3, 0, 1] rfl
            have hD9 := hD.sub (ws' := [(h, .inr (4, [.ref w, .int (nI ku58), .int b1u57])), (w, .inl (cT 0, R, .inl f1u57)), (x2, .inr (4, [.ref w2, .int (nI K2), .int b2])), (w2, .inl (cT 0, R2, .inl f2))]) [2, 3, 0, 1] (by decide) rfl
            refine W.widen (k := 0) (n := 0) (Nat.le_of_ble_eq_true rfl) (Nat.le_of_ble_eq_true rfl) ?_
            exact W.vret hx hb hr (fun t9 ht9 hW9 => ⟨⟨(nI ku58, b1u57, f1u57), rfl, (show WN R (nI ku58) b1u57 f1u57 (z - z2) from by have q0 := wn_trim (R := R) (b := b1u57) ij hc1 (by rw [hc3]; exact fl_01 b) hpu58; rw [hz, qhz, ← h1]; rw [hc3]; rw [hc3, wz_fl, show vW f1u57 j = vW f2 K2 - vW f K by omega, ← wz_sub (by omega), Int.neg_sub] at q0; exact q0), by rw [ht9]; exact hP9, hD9⟩, hS.F ht9⟩) hS.2.2 dW_plus_186
