set_option maxHeartbeats 4000000 in
set_option maxRecDepth 100000 in
theorem m_in (l : Launch) (D : va_G) (cT : Nat → ClassId) (v : Int32) (lo : Int32) (hi : Int32) : Met l yM_in WM_in ({ frames := 0, cells := 0, slots := 0, locals := 0 } : Room) (RO D vwCl [.int v, .int lo, .int hi] [] (TY cT)) (QcRead (bi (lo ≤ v ∧ v ≤ hi))) 0 0 (fun _ => False) := by
  refine Met.ofW (cc := cM_in) (maxL := 3) (ret := (some .boolean)) (by decide) rfl ?_
  intro p e s m args below meth c s₁ B hml hv
  obtain ⟨rfl, hZ, hP, hK⟩ := hv
  have hx := B.exec
  have hb := B.bytes
  have hr := B.returns
  have hts := atoms_spec (ws := WM_in) B.pre
  have hT : ∀ w ∈ TB, w.before _ s = true := fun w h => hts w (List.mem_cons_of_mem _ h)
  have hown : s.vm.findClass R_M = some m.cls := findClass_of_methodNamed B.named
  have hlocks := B.notSynchronized
  have hS : va_S (fun _ => False) s.heap s.heap [] := va_S.rf
  have hl := lv_entry ([.int v, .int lo, .int hi]) (n := 3) (Nat.le_of_ble_eq_true rfl)
  rw [lg_entry_eq]
  generalize (lg_sl ([.int v, .int lo, .int hi]) ++ List.replicate (3 - (lg_sl ([.int v, .int lo, .int hi])).length) Slot.unset).toArray = ls at hl ⊢
  have hl : lv_has ls 3 [(0, .int v), (1, .int lo), (2, .int hi)] := hl
  refine lv_iload_n hx hb dM_in_0 rfl (lv_at hl 0 rfl) ?_
  refine lv_iload_n hx hb dM_in_1 rfl (lv_at hl 1 rfl) ?_
  refine lv_icmp_lt (tgt := 14) hx hb dM_in_2 rfl (fun h1 => ?_) (fun h1 => ?_)
  · refine lv_iconst (v := 0) hx hb dM_in_14 (by decide) ?_
    exact W.zret (v := 0) hx hb hr rfl (fun t9 ht9 hW9 => ⟨by rw [bi_f (fun q => absurd h1 (Int32.not_lt.mpr q.1))], ht9⟩) (fun q h => nomatch h) dM_in_15
  · refine lv_iload_n hx hb dM_in_5 rfl (lv_at hl 0 rfl) ?_
    refine lv_iload_n hx hb dM_in_6 rfl (lv_at hl 2 rfl) ?_
    refine lv_icmp_gt (tgt := 14) hx hb dM_in_7 rfl (fun h2 => ?_) (fun h2 => ?_)
    · refine lv_iconst (v := 0) hx hb dM_in_14 (by decide) ?_
      exact W.zret (v := 0) hx hb hr rfl (fun t9 ht9 hW9 => ⟨by rw [bi_f (fun q => absurd h2 (Int32.not_lt.mpr q.2))], ht9⟩) (fun q h => nomatch h) dM_in_15
    · refine lv_iconst (v := 1) hx hb dM_in_10 (by decide) ?_
      refine lv_goto (tgt := 15) hx hb dM_in_11 rfl ?_
      exact W.zret (v := 1) hx hb hr rfl (fun t9 ht9 hW9 => ⟨by rw [bi_t ⟨Int32.not_lt.mp h1, Int32.not_lt.mp h2⟩], ht9⟩) (fun q h => nomatch h) dM_in_15
set_option maxHeartbeats 4000000 in
set_option maxRecDepth 100000 in
theorem m_goes (l : Launch) (D : va_G) (cT : Nat → ClassId) (y : Nat) (yr : Nat → Nat) (yi : Nat → Int32) (ysb : Int64) (ybs : Int64) (tl : Nat → Int32) (kd : Nat → Int32) (ed : Nat → Int32) (nd : Nat) (v : Int32) (hnd : nd < 496) (htb : tl nd = 0 ∨ tl nd = 1) : Met l yM_goesLeft WM_goesLeft ({ frames := 1, cells := 0, slots := 0, locals := 22 } : Room) (RO D vwCl [.ref y, .int (nI nd), .int v] [(y, .inr (11, MO yr yi ysb ybs)), (yr 21, .inl (cT 3, 496, .inl tl)), (yr 26, .inl (cT 3, 496, .inl kd)), (yr 20, .inl (cT 0, 496, .inl ed))] (TY cT)) (QcRead (bn (goB (tl nd) (kd nd) (ed nd) v))) 0 0 (fun _ => False) := by
  refine Met.ofW (cc := cM_goesLeft) (maxL := 3) (ret := (some .boolean)) (by decide) rfl ?_
  intro p e s m args below meth c s₁ B hml hv
  obtain ⟨rfl, hZ, hP, hK⟩ := hv
  have hx := B.exec
  have hb := B.bytes
  have hr := B.returns
  have hts := atoms_spec (ws := WM_goesLeft) B.pre
  have hT : ∀ w ∈ TB, w.before _ s = true := fun w h => hts w (List.mem_cons_of_mem _ h)
  have hown : s.vm.findClass R_M = some m.cls := findClass_of_methodNamed B.named
  have hlocks := B.notSynchronized
  have hS : va_S (fun _ => False) s.heap s.heap [] := va_S.rf
  have hl := lv_entry ([.ref y, .int (nI nd), .int v]) (n := 3) (Nat.le_of_ble_eq_true rfl)
  rw [lg_entry_eq]
  generalize (lg_sl ([.ref y, .int (nI nd), .int v]) ++ List.replicate (3 - (lg_sl ([.ref y, .int (nI nd), .int v])).length) Slot.unset).toArray = ls at hl ⊢
  have hl : lv_has ls 3 [(0, .ref y), (1, .int (nI nd)), (2, .int v)] := hl
  refine lv_iload_n hx hb dM_goesLeft_0 rfl (lv_at hl 2 rfl) ?_
  refine lv_ldc (v := (-2147483648)) hx hb hown (hT _ w1103) dM_goesLeft_1 ?_
  refine lv_icmp_ne (tgt := 13) hx hb dM_goesLeft_3 rfl (fun h1 => ?_) (fun h1 => ?_)
  · refine lv_aload_n hx hb dM_goesLeft_13 rfl (lv_at hl 0 rfl) ?_
    refine va_get (D := D) (ci := 11) (v := .ref (yr 26)) (C := R_M) (T := T_M) (N := 60) hx hb hT in_M hown hK hP 0 rfl rfl 26 (by decide) (hT _ w1130) (fun _ h9 => h9) rfl dM_goesLeft_14 ?_
    refine lv_iload_n hx hb dM_goesLeft_17 rfl (lv_at hl 1 rfl) ?_
    refine lq_zald (j := nd) hx hb hK hP 2 3 rfl rfl rfl (by omega) (by omega) dM_goesLeft_18 ?_
    refine lv_if_eq (tgt := 54) hx hb dM_goesLeft_19 rfl (fun h2 => ?_) (fun h2 => ?_)
    · refine lv_iload_n hx hb dM_goesLeft_54 rfl (lv_at hl 2 rfl) ?_
      refine lv_aload_n hx hb dM_goesLeft_55 rfl (lv_at hl 0 rfl) ?_
      refine va_get (D := D) (ci := 11) (v := .ref (yr 20)) (C := R_M) (T := T_M) (N := 60) hx hb hT in_M hown hK hP 0 rfl rfl 20 (by decide) (hT _ w1124) (fun _ h9 => h9) rfl dM_goesLeft_56 ?_
      refine lv_iload_n hx hb dM_goesLeft_59 rfl (lv_at hl 1 rfl) ?_
      refine lq_iald (j := nd) hx hb hK hP 3 0 rfl rfl rfl (by omega) (by omega) dM_goesLeft_60 ?_
      refine lv_icmp_ge (tgt := 68) hx hb dM_goesLeft_61 rfl (fun h3 => ?_) (fun h3 => ?_)
      · refine lv_iconst (v := 0) hx hb dM_goesLeft_68 (by decide) ?_
        exact W.zret (v := 0) hx hb hr rfl (fun t9 ht9 hW9 => ⟨by rw [← goB_vn h1 h2 (Int32.not_lt.mpr h3)], ht9⟩) (fun q h => nomatch h) dM_goesLeft_69
      · refine lv_iconst (v := 1) hx hb dM_goesLeft_64 (by decide) ?_
        refine lv_goto (tgt := 69) hx hb dM_goesLeft_65 rfl ?_
        exact W.zret (v := 1) hx hb hr rfl (fun t9 ht9 hW9 => ⟨by rw [← goB_v h1 h2 (Int32.not_le.mp h3)], ht9⟩) (fun q h => nomatch h) dM_goesLeft_69
    · refine lv_iload_n hx hb dM_goesLeft_22 rfl (lv_at hl 2 rfl) ?_
      refine lv_iconst (v := 0) hx hb dM_goesLeft_23 (by decide) ?_
      refine lv_bipush (v := 11) hx hb dM_goesLeft_24 (by decide) ?_
      refine ro_i (va_Run.run (va_runS (As := [.int v, .int 0, .int 11]) (rest := []) ⟨hx, hb, hml, hown, hT⟩ (m_in l D cT v 0 11) ⟨callB_of 3 hT (tb_gd w1297) rfl rfl rfl (hT _ w13) (hT _ w1295) hM_in ⟨Nat.le_of_ble_eq_true rfl, Nat.le_of_ble_eq_true rfl⟩, (hT _ w1296)⟩ (RO.preS hZ hS ((show va_P D vwCl [] _ from fun _ _ h => nomatch h)) hK) rfl rfl hl.1 rfl (lv_room (Nat.le_of_ble_eq_true rfl)) dM_goesLeft_26 ⟨Nat.le_of_ble_eq_true rfl, Nat.le_of_ble_eq_true rfl⟩)) ?_
      refine lv_if_eq (tgt := 50) hx hb dM_goesLeft_29 rfl (fun h4 => ?_) (fun h4 => ?_)
      · refine lv_iconst (v := 0) hx hb dM_goesLeft_50 (by decide) ?_
        refine lv_goto (tgt := 69) hx hb dM_goesLeft_51 rfl ?_
        exact W.zret (v := 0) hx hb hr rfl (fun t9 ht9 hW9 => ⟨by rw [← goB_kn h1 h2 (fun q => (bi_0 h4) q.1)], ht9⟩) (fun q h => nomatch h) dM_goesLeft_69
      · refine lv_aload_n hx hb dM_goesLeft_32 rfl (lv_at hl 0 rfl) ?_
        refine va_get (D := D) (ci := 11) (v := .ref (yr 20)) (C := R_M) (T := T_M) (N := 60) hx hb hT in_M hown hK hP 0 rfl rfl 20 (by decide) (hT _ w1124) (fun _ h9 => h9) rfl dM_goesLeft_33 ?_
        refine lv_iload_n hx hb dM_goesLeft_36 rfl (lv_at hl 1 rfl) ?_
        refine lq_iald (j := nd) hx hb hK hP 3 0 rfl rfl rfl (by omega) (by omega) dM_goesLeft_37 ?_
        refine lv_iload_n hx hb dM_goesLeft_38 rfl (lv_at hl 2 rfl) ?_
        refine lv_ishr hx hb dM_goesLeft_39 ?_
        refine lv_iconst (v := 1) hx hb dM_goesLeft_40 (by decide) ?_
        refine lv_iand hx hb dM_goesLeft_41 ?_
        refine lv_iconst (v := 1) hx hb dM_goesLeft_42 (by decide) ?_
        refine lv_icmp_ne (tgt := 50) hx hb dM_goesLeft_43 rfl (fun h5 => ?_) (fun h5 => ?_)
        · refine lv_iconst (v := 0) hx hb dM_goesLeft_50 (by decide) ?_
          refine lv_goto (tgt := 69) hx hb dM_goesLeft_51 rfl ?_
          exact W.zret (v := 0) hx hb hr rfl (fun t9 ht9 hW9 => ⟨by rw [← goB_kn h1 h2 (fun q => h5 q.2)], ht9⟩) (fun q h => nomatch h) dM_goesLeft_69
        · refine lv_iconst (v := 1) hx hb dM_goesLeft_46 (by decide) ?_
          refine lv_goto (tgt := 69) hx hb dM_goesLeft_47 rfl ?_
          exact W.zret (v := 1) hx hb hr rfl (fun t9 ht9 hW9 => ⟨by rw [← goB_k h1 h2 ⟨bi_1 h4, h5⟩], ht9⟩) (fun q h => nomatch h) dM_goesLeft_69
  · refine lv_aload_n hx hb dM_goesLeft_6 rfl (lv_at hl 0 rfl) ?_
    refine va_get (D := D) (ci := 11) (v := .ref (yr 21)) (C := R_M) (T := T_M) (N := 60) hx hb hT in_M hown hK hP 0 rfl rfl 21 (by decide) (hT _ w1125) (fun _ h9 => h9) rfl dM_goesLeft_7 ?_
    refine lv_iload_n hx hb dM_goesLeft_10 rfl (lv_at hl 1 rfl) ?_
    refine lq_zald (j := nd) hx hb hK hP 1 3 rfl rfl rfl (by omega) (by omega) dM_goesLeft_11 ?_
    exact W.zret (v := tl nd) hx hb hr (bz01 htb).1 (fun t9 ht9 hW9 => ⟨by rw [← goB_m h1 htb], ht9⟩) (fun q h => nomatch h) dM_goesLeft_12
set_option maxHeartbeats 4000000 in
set_option maxRecDepth 100000 in
theorem m_leafR (l : Launch) (D : va_G) (cT : Nat → ClassId) (y : Nat) (yr : Nat → Nat) (yi : Nat → Int32) (ysb : Int64) (ybs : Int64) (nc : Nat → Int32) (nl : Nat → Int32) (nr : Nat → Int32) (tl : Nat → Int32) (kd : Nat → Int32) (ed : Nat → Int32) (vv : Nat → Int32) (t : Nat) (r : Nat) (n : Nat) (dp : Nat → Nat) (go : Nat → Bool) (lf : Nat) (ht16 : t < 16) (hr48 : r < 48) (hT9 : TWF nc nl nr dp (31 * t) n) (htl : ∀ q, q < 496 → tl q = 0 ∨ tl q = 1) (hgo : ∀ k, k < n → ∀ c, c < 6 → nc (31 * t + k) = nI c → go k = goB (tl (31 * t + k)) (kd (31 * t + k)) (ed (31 * t + k)) (vv (6 * r + c))) (hlf : lf = lfw nc nl nr go (31 * t) 4 0) : Met l yM_leafOf WM_leafOf ({ frames := 2, cells := 0, slots := 0, locals := 44 } : Room) (RO D vwCl [.ref y, .int (nI t), .int (nI r)] [(y, .inr (11, MO yr yi ysb ybs)), (yr 19, .inl (cT 0, 496, .inl nc)), (yr 22, .inl (cT 0, 496, .inl nl)), (yr 23, .inl (cT 0, 496, .inl nr)), (yr 5, .inl (cT 0, 288, .inl vv)), (yr 21, .inl (cT 3, 496, .inl tl)), (yr 26, .inl (cT 3, 496, .inl kd)), (yr 20, .inl (cT 0, 496, .inl ed))] (TY cT)) (QcRead (nI (31 * t + lf))) 0 0 (fun _ => False) := by
  refine Met.ofW (cc := cM_leafOf) (maxL := 5) (ret := (some .int)) (by decide) rfl ?_
  intro p e s m args below meth c s₁ B hml hv
  obtain ⟨rfl, hZ, hP, hK⟩ := hv
  have hx := B.exec
  have hb := B.bytes
  have hr := B.returns
  have hts := atoms_spec (ws := WM_leafOf) B.pre
  have hT : ∀ w ∈ TB, w.before _ s = true := fun w h => hts w (List.mem_cons_of_mem _ h)
  have hown : s.vm.findClass R_M = some m.cls := findClass_of_methodNamed B.named
  have hlocks := B.notSynchronized
  have hS : va_S (fun _ => False) s.heap s.heap [] := va_S.rf
  have hl := lv_entry ([.ref y, .int (nI t), .int (nI r)]) (n := 5) (Nat.le_of_ble_eq_true rfl)
  rw [lg_entry_eq]
  generalize (lg_sl ([.ref y, .int (nI t), .int (nI r)]) ++ List.replicate (5 - (lg_sl ([.ref y, .int (nI t), .int (nI r)])).length) Slot.unset).toArray = ls at hl ⊢
  have hl : lv_has ls 5 [(0, .ref y), (1, .int (nI t)), (2, .int (nI r))] := hl
  refine lv_bipush (v := 31) hx hb dM_leafOf_0 (by decide) ?_
  refine lv_iload_n hx hb dM_leafOf_2 rfl (lv_at hl 1 rfl) ?_
  refine lv_imul hx hb dM_leafOf_3 ?_
  refine lv_topi (fun y9 e9 => ?_)
  cases (show y9 = nI (31 * t) from e9.trans (pk_mul 31 t))
  refine lv_istore_n hx hb dM_leafOf_4 rfl hl (by decide) rfl (fun ls hl => ?_)
  have hl : lv_has ls 5 [(3, .int (nI (31 * t))), (0, .ref y), (1, .int (nI t)), (2, .int (nI r))] := hl
  refine lp_r (α := Nat) (fun a9 => a9 < n ∧ lfw nc nl nr go (31 * t) (4 - dp a9) a9 = lfw nc nl nr go (31 * t) 4 0) (fun a9 => 4 - dp a9) (fun a9 => [(0, .ref y), (1, .int (nI t)), (2, .int (nI r)), (3, .int (nI (31 * t + a9)))]) 5 ?_ 0 (show 0 < n ∧ lfw nc nl nr go (31 * t) (4 - dp 0) 0 = lfw nc nl nr go (31 * t) 4 0 from ⟨hT9.1, by rw [hT9.2.2.1]⟩) (lv_sub hl [1, 2, 3, 0] rfl)
  intro a9 hI5 ih5 ls hl
  obtain ⟨k, rfl⟩ : ∃ q9, q9 = a9 := ⟨_, rfl⟩
  have hI5 : k < n ∧ lfw nc nl nr go (31 * t) (4 - dp k) k = lfw nc nl nr go (31 * t) 4 0 := hI5
  obtain ⟨ik, iv⟩ := hI5
  have hl : lv_has ls 5 [(0, .ref y), (1, .int (nI t)), (2, .int (nI r)), (3, .int (nI (31 * t + k)))] := hl
  have hn31 := hT9.2.1
  refine lv_aload_n hx hb dM_leafOf_5 rfl (lv_at hl 0 rfl) ?_
  refine va_get (D := D) (ci := 11) (v := .ref (yr 19)) (C := R_M) (T := T_M) (N := 60) hx hb hT in_M hown hK hP 0 rfl rfl 19 (by decide) (hT _ w1123) (fun _ h9 => h9) rfl dM_leafOf_6 ?_
  refine lv_iload_n hx hb dM_leafOf_9 rfl (lv_at hl 3 rfl) ?_
  refine lq_iald (j := 31 * t + k) hx hb hK hP 1 0 rfl rfl rfl (by omega) (by omega) dM_leafOf_10 ?_
  refine lv_if_lt (tgt := 84) hx hb dM_leafOf_11 rfl (fun h1 => ?_) (fun h1 => ?_)
  · refine lv_iload_n hx hb dM_leafOf_84 rfl (lv_at hl 3 rfl) ?_
    exact W.iret (v := nI (31 * t + k)) hx hb hr (fun t9 ht9 hW9 => ⟨by rw [hlf, ← iv, lfw_leaf h1], ht9⟩) (fun q h => nomatch h) dM_leafOf_85
  · obtain ⟨⟨cc9, hcc, hcn⟩, hd4, hnl, hnr, hlb, hrb, hld, hrd⟩ := tw_in hT9 ik h1
    refine lv_iload_n hx hb dM_leafOf_14 rfl (lv_at hl 2 rfl) ?_
    refine lv_if_ge (tgt := 32) hx hb dM_leafOf_15 rfl (fun _ => ?_) (fun h2 => absurd (nI_pos' (by omega)) h2)
    refine lv_aload_n hx hb dM_leafOf_32 rfl (lv_at hl 0 rfl) ?_
    refine va_get (D := D) (ci := 11) (v := .ref (yr 5)) (C := R_M) (T := T_M) (N := 60) hx hb hT in_M hown hK hP 0 rfl rfl 5 (by decide) (hT _ w1109) (fun _ h9 => h9) rfl dM_leafOf_33 ?_
    refine lv_bipush (v := 6) hx hb dM_leafOf_36 (by decide) ?_
    refine lv_iload_n hx hb dM_leafOf_38 rfl (lv_at hl 2 rfl) ?_
    refine lv_imul hx hb dM_leafOf_39 ?_
    refine lv_topi (fun y9 e9 => ?_)
    cases (show y9 = nI (6 * r) from e9.trans (pk_mul 6 r))
    refine lv_aload_n hx hb dM_leafOf_40 rfl (lv_at hl 0 rfl) ?_
    refine va_get (D := D) (ci := 11) (v := .ref (yr 19)) (C := R_M) (T := T_M) (N := 60) hx hb hT in_M hown hK hP 0 rfl rfl 19 (by decide) (hT _ w1123) (fun _ h9 => h9) rfl dM_leafOf_41 ?_
    refine lv_iload_n hx hb dM_leafOf_44 rfl (lv_at hl 3 rfl) ?_
    refine lq_iald (j := 31 * t + k) hx hb hK hP 1 0 rfl rfl rfl (by omega) (by omega) dM_leafOf_45 ?_
    refine lv_topi (fun y9 e9 => ?_)
    cases (show y9 = nI cc9 from e9.trans hcn)
    refine lv_iadd hx hb dM_leafOf_46 ?_
    refine lv_topi (fun y9 e9 => ?_)
    cases (show y9 = nI ((6 * r) + cc9) from e9.trans (nI_add (6 * r) cc9))
    refine lq_iald (j := (6 * r) + cc9) hx hb hK hP 4 0 rfl rfl rfl (by omega) (by omega) dM_leafOf_47 ?_
    refine lv_istore hx hb dM_leafOf_48 hl (by decide) rfl (fun ls hl => ?_)
    have hl : lv_has ls 5 [(4, .int (vv ((6 * r) + cc9))), (0, .ref y), (1, .int (nI t)), (2, .int (nI r)), (3, .int (nI (31 * t + k)))] := hl
    refine lv_bipush (v := 31) hx hb dM_leafOf_50 (by decide) ?_
    refine lv_iload_n hx hb dM_leafOf_52 rfl (lv_at hl 2 rfl) ?_
    refine lv_imul hx hb dM_leafOf_53 ?_
    refine lv_topi (fun y9 e9 => ?_)
    cases (show y9 = nI (31 * t) from e9.trans (pk_mul 31 t))
    refine lv_aload_n hx hb dM_leafOf_54 rfl (lv_at hl 1 rfl) ?_
    refine lv_iload_n hx hb dM_leafOf_55 rfl (lv_at hl 4 rfl) ?_
    refine lv_iload hx hb dM_leafOf_56 (lv_at hl 0 rfl) ?_
    refine ro_i (va_Run.run (va_runV (As := [.int (nI (31 * t + k)), .int (vv ((6 * r) + cc9))]) (rest := [.int (nI (31 * t))]) ⟨hx, hb, hml, hown, hT⟩ (m_goes l D cT y yr yi ysb ybs tl kd ed (31 * t + k) (vv ((6 * r) + cc9)) (by omega) (htl _ (by omega))) ⟨callB_of 2 hT (tb_gd w1396) rfl rfl rfl (hT _ w13) (hT _ w1393) hM_goesLeft ⟨Nat.le_of_ble_eq_true rfl, Nat.le_of_ble_eq_true rfl⟩, (hT _ w1395), (hT _ wp38)⟩ (RO.preV (ci := 11) (q0 := 0) hZ hS (hP.sub (ws' := [(y, .inr (11, MO yr yi ysb ybs)), (yr 21, .inl (cT 3, 496, .inl tl)), (yr 26, .inl (cT 3, 496, .inl kd)), (yr 20, .inl (cT 0, 496, .inl ed))]) [0, 5, 6, 7] rfl) hK rfl rfl) rfl rfl hl.1 rfl (lv_room (Nat.le_of_ble_eq_true rfl)) dM_leafOf_58 ⟨Nat.le_of_ble_eq_true rfl, Nat.le_of_ble_eq_true rfl⟩)) ?_
    refine lv_if_eq (tgt := 73) hx hb dM_leafOf_61 rfl (fun h3 => ?_) (fun h3 => ?_)
    · have hg : ¬ go k = true := by rw [hgo k ik cc9 hcc hcn, bn_0.mp h3]; decide
      refine lv_aload_n hx hb dM_leafOf_73 rfl (lv_at hl 1 rfl) ?_
      refine va_get (D := D) (ci := 11) (v := .ref (yr 23)) (C := R_M) (T := T_M) (N := 60) hx hb hT in_M hown hK hP 0 rfl rfl 23 (by decide) (hT _ w1127) (fun _ h9 => h9) rfl dM_leafOf_74 ?_
      refine lv_iload_n hx hb dM_leafOf_77 rfl (lv_at hl 4 rfl) ?_
      refine lq_iald (j := 31 * t + k) hx hb hK hP 3 0 rfl rfl rfl (by omega) (by omega) dM_leafOf_78 ?_
      refine lv_topi (fun y9 e9 => ?_)
      cases (show y9 = nI (dg nr (31 * t + k)) from e9.trans hnr)
      refine lv_iadd hx hb dM_leafOf_79 ?_
      refine lv_topi (fun y9 e9 => ?_)
      cases (show y9 = nI ((31 * t) + (dg nr (31 * t + k))) from e9.trans (nI_add (31 * t) (dg nr (31 * t + k))))
      refine lv_istore_n hx hb dM_leafOf_80 rfl hl (by decide) rfl (fun ls hl => ?_)
      have hl : lv_has ls 5 [(3, .int (nI ((31 * t) + (dg nr (31 * t + k))))), (4, .int (vv ((6 * r) + cc9))), (0, .ref y), (1, .int (nI t)), (2, .int (nI r))] := hl
      refine lv_goto (tgt := 5) hx hb dM_leafOf_81 rfl ?_
      exact ih5 (dg nr (31 * t + k)) (show (dg nr (31 * t + k)) < n ∧ lfw nc nl nr go (31 * t) (4 - dp (dg nr (31 * t + k))) (dg nr (31 * t + k)) = lfw nc nl nr go (31 * t) 4 0 from ⟨hrb, by rw [← iv, show 4 - dp k = (4 - (dp k + 1)) + 1 by omega, lfw_s h1, if_neg hg, hrd]⟩) (show 4 - dp (dg nr (31 * t + k)) < 4 - dp k from (by omega)) ls (lv_sub hl [2, 3, 4, 0] rfl)
    · have hg : go k = true := by rw [hgo k ik cc9 hcc hcn]; exact bt_nf (fun q => h3 (bn_0.mpr q))
      refine lv_aload_n hx hb dM_leafOf_64 rfl (lv_at hl 1 rfl) ?_
      refine va_get (D := D) (ci := 11) (v := .ref (yr 22)) (C := R_M) (T := T_M) (N := 60) hx hb hT in_M hown hK hP 0 rfl rfl 22 (by decide) (hT _ w1126) (fun _ h9 => h9) rfl dM_leafOf_65 ?_
      refine lv_iload_n hx hb dM_leafOf_68 rfl (lv_at hl 4 rfl) ?_
      refine lq_iald (j := 31 * t + k) hx hb hK hP 2 0 rfl rfl rfl (by omega) (by omega) dM_leafOf_69 ?_
      refine lv_topi (fun y9 e9 => ?_)
      cases (show y9 = nI (dg nl (31 * t + k)) from e9.trans hnl)
      refine lv_goto (tgt := 79) hx hb dM_leafOf_70 rfl ?_
      refine lv_iadd hx hb dM_leafOf_79 ?_
      refine lv_topi (fun y9 e9 => ?_)
      cases (show y9 = nI ((31 * t) + (dg nl (31 * t + k))) from e9.trans (nI_add (31 * t) (dg nl (31 * t + k))))
      refine lv_istore_n hx hb dM_leafOf_80 rfl hl (by decide) rfl (fun ls hl => ?_)
      have hl : lv_has ls 5 [(3, .int (nI ((31 * t) + (dg nl (31 * t + k))))), (4, .int (vv ((6 * r) + cc9))), (0, .ref y), (1, .int (nI t)), (2, .int (nI r))] := hl
      refine lv_goto (tgt := 5) hx hb dM_leafOf_81 rfl ?_
      exact ih5 (dg nl (31 * t + k)) (show (dg nl (31 * t + k)) < n ∧ lfw nc nl nr go (31 * t) (4 - dp (dg nl (31 * t + k))) (dg nl (31 * t + k)) = lfw nc nl nr go (31 * t) 4 0 from ⟨hlb, by rw [← iv, show 4 - dp k = (4 - (dp k + 1)) + 1 by omega, lfw_s h1, if_pos hg, hld]⟩) (show 4 - dp (dg nl (31 * t + k)) < 4 - dp k from (by omega)) ls (lv_sub hl [2, 3, 4, 0] rfl)
set_option maxHeartbeats 4000000 in
set_option maxRecDepth 100000 in
theorem m_leafQ (l : Launch) (D : va_G) (cT : Nat → ClassId) (y : Nat) (yr : Nat → Nat) (yi : Nat → Int32) (ysb : Int64) (ybs : Int64) (nc : Nat → Int32) (nl : Nat → Int32) (nr : Nat → Int32) (tl : Nat → Int32) (kd : Nat → Int32) (ed : Nat → Int32) (vv : Nat → Int32) (t : Nat) (r : Nat) (n : Nat) (dp : Nat → Nat) (go : Nat → Bool) (lf : Nat) (ht16 : t < 16) (hr48 : r < 48) (hT9 : TWF nc nl nr dp (31 * t) n) (htl : ∀ q, q < 496 → tl q = 0 ∨ tl q = 1) (hgo : ∀ k, k < n → ∀ c, c < 6 → nc (31 * t + k) = nI c → go k = goB (tl (31 * t + k)) (kd (31 * t + k)) (ed (31 * t + k)) (vv c)) (hlf : lf = lfw nc nl nr go (31 * t) 4 0) : Met l yM_leafOf WM_leafOf ({ frames := 2, cells := 0, slots := 0, locals := 44 } : Room) (RO D vwCl [.ref y, .int (nI t), .int (-1)] [(y, .inr (11, MO yr yi ysb ybs)), (yr 19, .inl (cT 0, 496, .inl nc)), (yr 22, .inl (cT 0, 496, .inl nl)), (yr 23, .inl (cT 0, 496, .inl nr)), (yr 9, .inl (cT 0, 6, .inl vv)), (yr 21, .inl (cT 3, 496, .inl tl)), (yr 26, .inl (cT 3, 496, .inl kd)), (yr 20, .inl (cT 0, 496, .inl ed))] (TY cT)) (QcRead (nI (31 * t + lf))) 0 0 (fun _ => False) := by
  refine Met.ofW (cc := cM_leafOf) (maxL := 5) (ret := (some .int)) (by decide) rfl ?_
  intro p e s m args below meth c s₁ B hml hv
  obtain ⟨rfl, hZ, hP, hK⟩ := hv
  have hx := B.exec
  have hb := B.bytes
  have hr := B.returns
  have hts := atoms_spec (ws := WM_leafOf) B.pre
  have hT : ∀ w ∈ TB, w.before _ s = true := fun w h => hts w (List.mem_cons_of_mem _ h)
  have hown : s.vm.findClass R_M = some m.cls := findClass_of_methodNamed B.named
  have hlocks := B.notSynchronized
  have hS : va_S (fun _ => False) s.heap s.heap [] := va_S.rf
  have hl := lv_entry ([.ref y, .int (nI t), .int (-1)]) (n := 5) (Nat.le_of_ble_eq_true rfl)
  rw [lg_entry_eq]
  generalize (lg_sl ([.ref y, .int (nI t), .int (-1)]) ++ List.replicate (5 - (lg_sl ([.ref y, .int (nI t), .int (-1)])).length) Slot.unset).toArray = ls at hl ⊢
  have hl : lv_has ls 5 [(0, .ref y), (1, .int (nI t)), (2, .int (-1))] := hl
  refine lv_bipush (v := 31) hx hb dM_leafOf_0 (by decide) ?_
  refine lv_iload_n hx hb dM_leafOf_2 rfl (lv_at hl 1 rfl) ?_
  refine lv_imul hx hb dM_leafOf_3 ?_
  refine lv_topi (fun y9 e9 => ?_)
  cases (show y9 = nI (31 * t) from e9.trans (pk_mul 31 t))
  refine lv_istore_n hx hb dM_leafOf_4 rfl hl (by decide) rfl (fun ls hl => ?_)
  have hl : lv_has ls 5 [(3, .int (nI (31 * t))), (0, .ref y), (1, .int (nI t)), (2, .int (-1))] := hl
  refine lp_r (α := Nat) (fun a9 => a9 < n ∧ lfw nc nl nr go (31 * t) (4 - dp a9) a9 = lfw nc nl nr go (31 * t) 4 0) (fun a9 => 4 - dp a9) (fun a9 => [(0, .ref y), (1, .int (nI t)), (2, .int (-1)), (3, .int (nI (31 * t + a9)))]) 5 ?_ 0 (show 0 < n ∧ lfw nc nl nr go (31 * t) (4 - dp 0) 0 = lfw nc nl nr go (31 * t) 4 0 from ⟨hT9.1, by rw [hT9.2.2.1]⟩) (lv_sub hl [1, 2, 3, 0] rfl)
  intro a9 hI5 ih5 ls hl
  obtain ⟨k, rfl⟩ : ∃ q9, q9 = a9 := ⟨_, rfl⟩
  have hI5 : k < n ∧ lfw nc nl nr go (31 * t) (4 - dp k) k = lfw nc nl nr go (31 * t) 4 0 := hI5
  obtain ⟨ik, iv⟩ := hI5
  have hl : lv_has ls 5 [(0, .ref y), (1, .int (nI t)), (2, .int (-1)), (3, .int (nI (31 * t + k)))] := hl
  have hn31 := hT9.2.1
  refine lv_aload_n hx hb dM_leafOf_5 rfl (lv_at hl 0 rfl) ?_
  refine va_get (D := D) (ci := 11) (v := .ref (yr 19)) (C := R_M) (T := T_M) (N := 60) hx hb hT in_M hown hK hP 0 rfl rfl 19 (by decide) (hT _ w1123) (fun _ h9 => h9) rfl dM_leafOf_6 ?_
  refine lv_iload_n hx hb dM_leafOf_9 rfl (lv_at hl 3 rfl) ?_
  refine lq_iald (j := 31 * t + k) hx hb hK hP 1 0 rfl rfl rfl (by omega) (by omega) dM_leafOf_10 ?_
  refine lv_if_lt (tgt := 84) hx hb dM_leafOf_11 rfl (fun h1 => ?_) (fun h1 => ?_)
  · refine lv_iload_n hx hb dM_leafOf_84 rfl (lv_at hl 3 rfl) ?_
    exact W.iret (v := nI (31 * t + k)) hx hb hr (fun t9 ht9 hW9 => ⟨by rw [hlf, ← iv, lfw_leaf h1], ht9⟩) (fun q h => nomatch h) dM_leafOf_85
  · obtain ⟨⟨cc9, hcc, hcn⟩, hd4, hnl, hnr, hlb, hrb, hld, hrd⟩ := tw_in hT9 ik h1
    refine lv_iload_n hx hb dM_leafOf_14 rfl (lv_at hl 2 rfl) ?_
    refine lv_if_ge (tgt := 32) hx hb dM_leafOf_15 rfl (fun h2 => absurd h2 (by decide)) (fun _ => ?_)
    refine lv_aload_n hx hb dM_leafOf_18 rfl (lv_at hl 0 rfl) ?_
    refine va_get (D := D) (ci := 11) (v := .ref (yr 9)) (C := R_M) (T := T_M) (N := 60) hx hb hT in_M hown hK hP 0 rfl rfl 9 (by decide) (hT _ w1113) (fun _ h9 => h9) rfl dM_leafOf_19 ?_
    refine lv_aload_n hx hb dM_leafOf_22 rfl (lv_at hl 0 rfl) ?_
    refine va_get (D := D) (ci := 11) (v := .ref (yr 19)) (C := R_M) (T := T_M) (N := 60) hx hb hT in_M hown hK hP 0 rfl rfl 19 (by decide) (hT _ w1123) (fun _ h9 => h9) rfl dM_leafOf_23 ?_
    refine lv_iload_n hx hb dM_leafOf_26 rfl (lv_at hl 3 rfl) ?_
    refine lq_iald (j := 31 * t + k) hx hb hK hP 1 0 rfl rfl rfl (by omega) (by omega) dM_leafOf_27 ?_
    refine lv_topi (fun y9 e9 => ?_)
    cases (show y9 = nI cc9 from e9.trans hcn)
    refine lq_iald (j := cc9) hx hb hK hP 4 0 rfl rfl rfl (by omega) (by omega) dM_leafOf_28 ?_
    refine lv_goto (tgt := 48) hx hb dM_leafOf_29 rfl ?_
    refine lv_istore hx hb dM_leafOf_48 hl (by decide) rfl (fun ls hl => ?_)
    have hl : lv_has ls 5 [(4, .int (vv cc9)), (0, .ref y), (1, .int (nI t)), (2, .int (-1)), (3, .int (nI (31 * t + k)))] := hl
    refine lv_bipush (v := 31) hx hb dM_leafOf_50 (by decide) ?_
    refine lv_iload_n hx hb dM_leafOf_52 rfl (lv_at hl 2 rfl) ?_
    refine lv_imul hx hb dM_leafOf_53 ?_
    refine lv_topi (fun y9 e9 => ?_)
    cases (show y9 = nI (31 * t) from e9.trans (pk_mul 31 t))
    refine lv_aload_n hx hb dM_leafOf_54 rfl (lv_at hl 1 rfl) ?_
    refine lv_iload_n hx hb dM_leafOf_55 rfl (lv_at hl 4 rfl) ?_
    refine lv_iload hx hb dM_leafOf_56 (lv_at hl 0 rfl) ?_
    refine ro_i (va_Run.run (va_runV (As := [.int (nI (31 * t + k)), .int (vv cc9)]) (rest := [.int (nI (31 * t))]) ⟨hx, hb, hml, hown, hT⟩ (m_goes l D cT y yr yi ysb ybs tl kd ed (31 * t + k) (vv cc9) (by omega) (htl _ (by omega))) ⟨callB_of 2 hT (tb_gd w1396) rfl rfl rfl (hT _ w13) (hT _ w1393) hM_goesLeft ⟨Nat.le_of_ble_eq_true rfl, Nat.le_of_ble_eq_true rfl⟩, (hT _ w1395), (hT _ wp38)⟩ (RO.preV (ci := 11) (q0 := 0) hZ hS (hP.sub (ws' := [(y, .inr (11, MO yr yi ysb ybs)), (yr 21, .inl (cT 3, 496, .inl tl)), (yr 26, .inl (cT 3, 496, .inl kd)), (yr 20, .inl (cT 0, 496, .inl ed))]) [0, 5, 6, 7] rfl) hK rfl rfl) rfl rfl hl.1 rfl (lv_room (Nat.le_of_ble_eq_true rfl)) dM_leafOf_58 ⟨Nat.le_of_ble_eq_true rfl, Nat.le_of_ble_eq_true rfl⟩)) ?_
    refine lv_if_eq (tgt := 73) hx hb dM_leafOf_61 rfl (fun h3 => ?_) (fun h3 => ?_)
    · have hg : ¬ go k = true := by rw [hgo k ik cc9 hcc hcn, bn_0.mp h3]; decide
      refine lv_aload_n hx hb dM_leafOf_73 rfl (lv_at hl 1 rfl) ?_
      refine va_get (D := D) (ci := 11) (v := .ref (yr 23)) (C := R_M) (T := T_M) (N := 60) hx hb hT in_M hown hK hP 0 rfl rfl 23 (by decide) (hT _ w1127) (fun _ h9 => h9) rfl dM_leafOf_74 ?_
      refine lv_iload_n hx hb dM_leafOf_77 rfl (lv_at hl 4 rfl) ?_
      refine lq_iald (j := 31 * t + k) hx hb hK hP 3 0 rfl rfl rfl (by omega) (by omega) dM_leafOf_78 ?_
      refine lv_topi (fun y9 e9 => ?_)
      cases (show y9 = nI (dg nr (31 * t + k)) from e9.trans hnr)
      refine lv_iadd hx hb dM_leafOf_79 ?_
      refine lv_topi (fun y9 e9 => ?_)
      cases (show y9 = nI ((31 * t) + (dg nr (31 * t + k))) from e9.trans (nI_add (31 * t) (dg nr (31 * t + k))))
      refine lv_istore_n hx hb dM_leafOf_80 rfl hl (by decide) rfl (fun ls hl => ?_)
      have hl : lv_has ls 5 [(3, .int (nI ((31 * t) + (dg nr (31 * t + k))))), (4, .int (vv cc9)), (0, .ref y), (1, .int (nI t)), (2, .int (-1))] := hl
      refine lv_goto (tgt := 5) hx hb dM_leafOf_81 rfl ?_
      exact ih5 (dg nr (31 * t + k)) (show (dg nr (31 * t + k)) < n ∧ lfw nc nl nr go (31 * t) (4 - dp (dg nr (31 * t + k))) (dg nr (31 * t + k)) = lfw nc nl nr go (31 * t) 4 0 from ⟨hrb, by rw [← iv, show 4 - dp k = (4 - (dp k + 1)) + 1 by omega, lfw_s h1, if_neg hg, hrd]⟩) (show 4 - dp (dg nr (31 * t + k)) < 4 - dp k from (by omega)) ls (lv_sub hl [2, 3, 4, 0] rfl)
    · have hg : go k = true := by rw [hgo k ik cc9 hcc hcn]; exact bt_nf (fun q => h3 (bn_0.mpr q))
      refine lv_aload_n hx hb dM_leafOf_64 rfl (lv_at hl 1 rfl) ?_
      refine va_get (D := D) (ci := 11) (v := .ref (yr 22)) (C := R_M) (T := T_M) (N := 60) hx hb hT in_M hown hK hP 0 rfl rfl 22 (by decide) (hT _ w1126) (fun _ h9 => h9) rfl dM_leafOf_65 ?_
      refine lv_iload_n hx hb dM_leafOf_68 rfl (lv_at hl 4 rfl) ?_
      refine lq_iald (j := 31 * t + k) hx hb hK hP 2 0 rfl rfl rfl (by omega) (by omega) dM_leafOf_69 ?_
      refine lv_topi (fun y9 e9 => ?_)
      cases (show y9 = nI (dg nl (31 * t + k)) from e9.trans hnl)
      refine lv_goto (tgt := 79) hx hb dM_leafOf_70 rfl ?_
      refine lv_iadd hx hb dM_leafOf_79 ?_
      refine lv_topi (fun y9 e9 => ?_)
      cases (show y9 = nI ((31 * t) + (dg nl (31 * t + k))) from e9.trans (nI_add (31 * t) (dg nl (31 * t + k))))
      refine lv_istore_n hx hb dM_leafOf_80 rfl hl (by decide) rfl (fun ls hl => ?_)
      have hl : lv_has ls 5 [(3, .int (nI ((31 * t) + (dg nl (31 * t + k))))), (4, .int (vv cc9)), (0, .ref y), (1, .int (nI t)), (2, .int (-1))] := hl
      refine lv_goto (tgt := 5) hx hb dM_leafOf_81 rfl ?_
      exact ih5 (dg nl (31 * t + k)) (show (dg nl (31 * t + k)) < n ∧ lfw nc nl nr go (31 * t) (4 - dp (dg nl (31 * t + k))) (dg nl (31 * t + k)) = lfw nc nl nr go (31 * t) 4 0 from ⟨hlb, by rw [← iv, show 4 - dp k = (4 - (dp k + 1)) + 1 by omega, lfw_s h1, if_pos hg, hld]⟩) (show 4 - dp (dg nl (31 * t + k)) < 4 - dp k from (by omega)) ls (lv_sub hl [2, 3, 4, 0] rfl)
set_option maxHeartbeats 4000000 in
set_option maxRecDepth 100000 in
theorem m_take (l : Launch) (D : va_G) (cT : Nat → ClassId) (y : Nat) (yr : Nat → Nat) (yi : Nat → Int32) (ysb : Int64) (ybs : Int64) (up : Nat → Int32) (lw : Nat → Int32) (nd : Nat) (z : Int) (f2 : Nat → Int32) (g2 : Nat → Int32) (hM : MR up (132 * nd) z) (hnd : nd < 496) (sz : Nat) : Met l yM_take WM_take ({ frames := 1, cells := 0, slots := 0, locals := 23 } : Room) (RW D vwCl [.ref y, .int (nI nd)] [(y, .inr (11, MO yr yi ysb ybs)), (yr 27, .inl (cT 0, 65472, .inl up)), (yr 28, .inl (cT 0, 9424, .inl lw)), (yr 30, .inl (cT 0, 302, .inl f2)), (yr 41, .inl (cT 0, 19, .inl g2))] (TY cT) sz) (va_Qv (fun u9 : (Nat → Int32) × (Nat → Int32) => MN u9.1 z ∧ ∀ q8, q8 < 19 → u9.2 q8 = lw (19 * nd + q8)) (BW D vwCl (va_A [(y, .inr (11, MO yr yi ysb ybs)), (yr 27, .inl (cT 0, 65472, .inl up)), (yr 28, .inl (cT 0, 9424, .inl lw)), (yr 30, .inl (cT 0, 302, .inl f2)), (yr 41, .inl (cT 0, 19, .inl g2))] sz) (fun u9 : (Nat → Int32) × (Nat → Int32) => [(y, .inr (11, MO yr yi ysb ybs)), (yr 27, .inl (cT 0, 65472, .inl up)), (yr 28, .inl (cT 0, 9424, .inl lw)), (yr 30, .inl (cT 0, 302, .inl u9.1)), (yr 41, .inl (cT 0, 19, .inl u9.2))])) (va_A [(y, .inr (11, MO yr yi ysb ybs)), (yr 27, .inl (cT 0, 65472, .inl up)), (yr 28, .inl (cT 0, 9424, .inl lw)), (yr 30, .inl (cT 0, 302, .inl f2)), (yr 41, .inl (cT 0, 19, .inl g2))] sz)) 0 0 (va_A [(y, .inr (11, MO yr yi ysb ybs)), (yr 27, .inl (cT 0, 65472, .inl up)), (yr 28, .inl (cT 0, 9424, .inl lw)), (yr 30, .inl (cT 0, 302, .inl f2)), (yr 41, .inl (cT 0, 19, .inl g2))] sz) := by
  refine Met.ofW (cc := cM_take) (maxL := 2) (ret := none) (by decide) rfl ?_
  intro p e s m args below meth c s₁ B hml hv
  obtain ⟨rfl, hsz, hZ, hP, hK, hD0⟩ := hv
  have hx := B.exec
  have hb := B.bytes
  have hr := B.returns
  have hts := atoms_spec (ws := WM_take) B.pre
  have hT : ∀ w ∈ TB, w.before _ s = true := fun w h => hts w (List.mem_cons_of_mem _ h)
  have hown : s.vm.findClass R_M = some m.cls := findClass_of_methodNamed B.named
  have hlocks := B.notSynchronized
  subst hsz
  have hD := hD0.self (sz := s.heap.size)
  generalize hAe : va_A [(y, .inr (11, MO yr yi ysb ybs)), (yr 27, .inl (cT 0, 65472, .inl up)), (yr 28, .inl (cT 0, 9424, .inl lw)), (yr 30, .inl (cT 0, 302, .inl f2)), (yr 41, .inl (cT 0, 19, .inl g2))] s.heap.size = A at hD hZ ⊢
  have hA : ∀ q : Nat, s.heap.size ≤ q → A q := fun q h => by rw [← hAe]; exact Or.inr h
  have hS : va_S A s.heap s.heap [] := va_S.rf
  have hl := lv_entry ([.ref y, .int (nI nd)]) (n := 2) (Nat.le_of_ble_eq_true rfl)
  rw [lg_entry_eq]
  generalize (lg_sl ([.ref y, .int (nI nd)]) ++ List.replicate (2 - (lg_sl ([.ref y, .int (nI nd)])).length) Slot.unset).toArray = ls at hl ⊢
  have hl : lv_has ls 2 [(0, .ref y), (1, .int (nI nd))] := hl
  refine lv_aload_n hx hb dM_take_0 rfl (lv_at hl 0 rfl) ?_
  refine va_get (D := D) (ci := 11) (v := .ref (yr 27)) (C := R_M) (T := T_M) (N := 60) hx hb hT in_M hown hK hP 0 rfl rfl 27 (by decide) (hT _ w1131) (fun _ h9 => h9) rfl dM_take_1 ?_
  refine lv_sipush (v := 132) hx hb dM_take_4 (by decide) ?_
  refine lv_iload_n hx hb dM_take_7 rfl (lv_at hl 1 rfl) ?_
  refine lv_imul hx hb dM_take_8 ?_
  refine lv_topi (fun y9 e9 => ?_)
  cases (show y9 = nI (132 * nd) from e9.trans (pk_mul 132 nd))
  refine lv_aload_n hx hb dM_take_9 rfl (lv_at hl 0 rfl) ?_
  refine va_get (D := D) (ci := 11) (v := .ref (yr 30)) (C := R_M) (T := T_M) (N := 60) hx hb hT in_M hown hK hP 0 rfl rfl 30 (by decide) (hT _ w1134) (fun _ h9 => h9) rfl dM_take_10 ?_
  refine rw_v (wc := [(yr 27, .inl (cT 0, 65472, .inl up)), (yr 30, .inl (cT 0, 302, .inl f2))]) (wr := [(y, .inr (11, MO yr yi ysb ybs)), (yr 28, .inl (cT 0, 9424, .inl lw)), (yr 41, .inl (cT 0, 19, .inl g2))]) hP hD hS hA [1, 3] [0, 2, 4] rfl rfl (by decide) (by decide) (va_runS (As := [.ref (yr 27), .int (nI (132 * nd)), .ref (yr 30)]) (rest := []) ⟨hx, hb, hml, hown, hT⟩ (m_load l D cT (yr 27) 65472 up (132 * nd) z (yr 30) f2 hM (by omega) (by decide) _) ⟨callB_of 3 hT (tb_gd w1403) rfl rfl rfl (hT _ w13) (hT _ w1401) hM_load ⟨Nat.le_of_ble_eq_true rfl, Nat.le_of_ble_eq_true rfl⟩, (hT _ w1402)⟩ (RW.preS hZ hS (va_free (wc := [(yr 27, .inl (cT 0, 65472, .inl up)), (yr 30, .inl (cT 0, 302, .inl f2))]) hD hS hA [1, 3] rfl) (hP.sub (ws' := [(yr 27, .inl (cT 0, 65472, .inl up)), (yr 30, .inl (cT 0, 302, .inl f2))]) [1, 3] rfl) hK (hD.sub (ws' := [(yr 27, .inl (cT 0, 65472, .inl up)), (yr 30, .inl (cT 0, 302, .inl f2))]) [1, 3] (by decide) rfl)) rfl rfl hl.1 rfl (lv_room (Nat.le_of_ble_eq_true rfl)) dM_take_13 ⟨Nat.le_of_ble_eq_true rfl, Nat.le_of_ble_eq_true rfl⟩) (fun u9 H locs hpu1 hP hD hS => ?_)
  obtain ⟨f1u1, rfl⟩ : ∃ q9, q9 = u9 := ⟨_, rfl⟩
  have hpu1 : MN f1u1 z := hpu1
  have hP : va_P D vwCl [(y, .inr (11, MO yr yi ysb ybs)), (yr 28, .inl (cT 0, 9424, .inl lw)), (yr 41, .inl (cT 0, 19, .inl g2)), (yr 27, .inl (cT 0, 65472, .inl up)), (yr 30, .inl (cT 0, 302, .inl f1u1))] _ := hP
  have hD : va_D A [(y, .inr (11, MO yr yi ysb ybs)), (yr 28, .inl (cT 0, 9424, .inl lw)), (yr 41, .inl (cT 0, 19, .inl g2)), (yr 27, .inl (cT 0, 65472, .inl up)), (yr 30, .inl (cT 0, 302, .inl f1u1))] := hD
  refine lv_aload_n hx hb dM_take_16 rfl (lv_at hl 0 rfl) ?_
  refine va_get (D := D) (ci := 11) (v := .ref (yr 28)) (C := R_M) (T := T_M) (N := 60) hx hb hT in_M hown hK hP 0 rfl rfl 28 (by decide) (hT _ w1132) (fun _ h9 => h9) rfl dM_take_17 ?_
  refine lv_bipush (v := 19) hx hb dM_take_20 (by decide) ?_
  refine lv_iload_n hx hb dM_take_22 rfl (lv_at hl 1 rfl) ?_
  refine lv_imul hx hb dM_take_23 ?_
  refine lv_topi (fun y9 e9 => ?_)
  cases (show y9 = nI (19 * nd) from e9.trans (pk_mul 19 nd))
  refine lv_aload_n hx hb dM_take_24 rfl (lv_at hl 0 rfl) ?_
  refine va_get (D := D) (ci := 11) (v := .ref (yr 41)) (C := R_M) (T := T_M) (N := 60) hx hb hT in_M hown hK hP 0 rfl rfl 41 (by decide) (hT _ w1145) (fun _ h9 => h9) rfl dM_take_25 ?_
  refine rw_v (wc := [(yr 28, .inl (cT 0, 9424, .inl lw)), (yr 41, .inl (cT 0, 19, .inl g2))]) (wr := [(y, .inr (11, MO yr yi ysb ybs)), (yr 27, .inl (cT 0, 65472, .inl up)), (yr 30, .inl (cT 0, 302, .inl f1u1))]) hP hD hS hA [1, 2] [0, 3, 4] rfl rfl (by decide) (by decide) (va_runS (As := [.ref (yr 28), .int (nI (19 * nd)), .ref (yr 41)]) (rest := []) ⟨hx, hb, hml, hown, hT⟩ (m_loadL l D cT (yr 28) 9424 lw (19 * nd) (yr 41) g2 (by omega) (by decide) _) ⟨callB_of 3 hT (tb_gd w1406) rfl rfl rfl (hT _ w13) (hT _ w1404) hM_loadLows ⟨Nat.le_of_ble_eq_true rfl, Nat.le_of_ble_eq_true rfl⟩, (hT _ w1405)⟩ (RW.preS hZ hS (va_free (wc := [(yr 28, .inl (cT 0, 9424, .inl lw)), (yr 41, .inl (cT 0, 19, .inl g2))]) hD hS hA [1, 2] rfl) (hP.sub (ws' := [(yr 28, .inl (cT 0, 9424, .inl lw)), (yr 41, .inl (cT 0, 19, .inl g2))]) [1, 2] rfl) hK (hD.sub (ws' := [(yr 28, .inl (cT 0, 9424, .inl lw)), (yr 41, .inl (cT 0, 19, .inl g2))]) [1, 2] (by decide) rfl)) rfl rfl hl.1 rfl (lv_room (Nat.le_of_ble_eq_true rfl)) dM_take_28 ⟨Nat.le_of_ble_eq_true rfl, Nat.le_of_ble_eq_true rfl⟩) (fun u9 H locs hpu2 hP hD hS => ?_)
  obtain ⟨f1u2, rfl⟩ : ∃ q9, q9 = u9 := ⟨_, rfl⟩
  have hpu2 : ∀ q8, q8 < 19 → f1u2 q8 = lw ((19 * nd) + q8) := hpu2
  have hP : va_P D vwCl [(y, .inr (11, MO yr yi ysb ybs)), (yr 27, .inl (cT 0, 65472, .inl up)), (yr 30, .inl (cT 0, 302, .inl f1u1)), (yr 28, .inl (cT 0, 9424, .inl lw)), (yr 41, .inl (cT 0, 19, .inl f1u2))] _ := hP
  have hD : va_D A [(y, .inr (11, MO yr yi ysb ybs)), (yr 27, .inl (cT 0, 65472, .inl up)), (yr 30, .inl (cT 0, 302, .inl f1u1)), (yr 28, .inl (cT 0, 9424, .inl lw)), (yr 41, .inl (cT 0, 19, .inl f1u2))] := hD
  have hP9 := hP.sub (ws' := [(y, .inr (11, MO yr yi ysb ybs)), (yr 27, .inl (cT 0, 65472, .inl up)), (yr 28, .inl (cT 0, 9424, .inl lw)), (yr 30, .inl (cT 0, 302, .inl f1u1)), (yr 41, .inl (cT 0, 19, .inl f1u2))]) [0, 1, 3, 2, 4] rfl
  have hD9 := hD.sub (ws' := [(y, .inr (11, MO yr yi ysb ybs)), (yr 27, .inl (cT 0, 65472, .inl up)), (yr 28, .inl (cT 0, 9424, .inl lw)), (yr 30, .inl (cT 0, 302, .inl f1u1)), (yr 41, .inl (cT 0, 19, .inl f1u2))]) [0, 1, 3, 2, 4] (by decide) rfl
  refine W.widen (k := 0) (n := 0) (Nat.le_of_ble_eq_true rfl) (Nat.le_of_ble_eq_true rfl) ?_
  exact W.vret hx hb hr (fun t9 ht9 hW9 => ⟨⟨(f1u1, f1u2), rfl, (show MN f1u1 z ∧ ∀ q8, q8 < 19 → f1u2 q8 = lw (19 * nd + q8) from ⟨hpu1, hpu2⟩), by rw [ht9]; exact hP9, hD9⟩, hS.F ht9⟩) hS.2.2 dM_take_31
