set_option maxHeartbeats 4000000 in
set_option maxRecDepth 100000 in
theorem k_bitCount (l : Launch) (D : va_G) (cT : Nat → ClassId) (x : Int64) : Met l yLg_bitCount WLg_bitCount ({ frames := 0, cells := 0, slots := 0, locals := 0 } : Room) (RO D vwCl [.long x] [] (TY cT)) (QcRead (nI (cb x))) 0 0 (fun _ => False) := by
  refine Met.ofW (cc := cLg_bitCount) (maxL := 2) (ret := (some .int)) (by decide) rfl ?_
  intro p e s m args below meth c s₁ B hml hv
  obtain ⟨rfl, hZ, hP, hK⟩ := hv
  have hx := B.exec
  have hb := B.bytes
  have hr := B.returns
  have hts := atoms_spec (ws := WLg_bitCount) B.pre
  have hT : ∀ w ∈ TB, w.before _ s = true := fun w h => hts w (List.mem_cons_of_mem _ h)
  have hown : s.vm.findClass R_Lg = some m.cls := findClass_of_methodNamed B.named
  have hlocks := B.notSynchronized
  have hS : va_S (fun _ => False) s.heap s.heap [] := va_S.rf
  have hl := lv_entry ([.long x]) (n := 2) (Nat.le_of_ble_eq_true rfl)
  rw [lg_entry_eq]
  generalize (lg_sl ([.long x]) ++ List.replicate (2 - (lg_sl ([.long x])).length) Slot.unset).toArray = ls at hl ⊢
  have hl : lv_has ls 2 [(0, .long x)] := hl
  obtain ⟨v, hv8, hxv⟩ := wb_of x
  have hl : lv_has ls 2 [(0, .long (lN v))] := by
    rw [hxv.symm]; exact hl
  have h88 : v < 256 ^ 8 := hv8
  refine lv_lload_n hx hb dLg_bitCount_0 rfl (lv_at hl 0 rfl) ?_
  refine lv_lload_n hx hb dLg_bitCount_1 rfl (lv_at hl 0 rfl) ?_
  refine lv_iconst (v := 1) hx hb dLg_bitCount_2 (by decide) ?_
  refine lv_lushr (v := lN (v / 2)) hx hb dLg_bitCount_3 (lu_sh (k := 1) hv8 (by decide) (by decide)) ?_
  refine lv_ldc2 (v := 6148914691236517205) hx hb hown (hT _ w375) dLg_bitCount_4 ?_
  refine lv_land hx hb dLg_bitCount_7 ?_
  refine lv_topl (fun y9 e9 => ?_)
  cases (show y9 = lN (v / 2 &&& mk 85 8) from e9.trans (by rw [mk_85]; exact lN_and _ _))
  refine lv_lsub hx hb dLg_bitCount_8 ?_
  refine lv_topl (fun y9 e9 => ?_)
  cases (show y9 = lN (v - (v / 2 &&& mk 85 8)) from e9.trans (lN_sub (a := v) (b := v / 2 &&& mk 85 8) (s1_le 8 v h88)))
  refine lv_topl (fun y9 e9 => ?_)
  cases (show y9 = lN (s1 8 v) from e9.trans rfl)
  refine lv_lstore_n hx hb dLg_bitCount_9 rfl hl (by decide) rfl (fun ls hl => ?_)
  have hl : lv_has ls 2 [(0, .long (lN (s1 8 v)))] := hl
  have hs1 : s1 8 v < 2 ^ 64 := Nat.lt_of_le_of_lt (Nat.sub_le _ _) hv8
  refine lv_lload_n hx hb dLg_bitCount_10 rfl (lv_at hl 0 rfl) ?_
  refine lv_ldc2 (v := 3689348814741910323) hx hb hown (hT _ w376) dLg_bitCount_11 ?_
  refine lv_land hx hb dLg_bitCount_14 ?_
  refine lv_topl (fun y9 e9 => ?_)
  cases (show y9 = lN (s1 8 v &&& mk 51 8) from e9.trans (by rw [mk_51]; exact lN_and _ _))
  refine lv_lload_n hx hb dLg_bitCount_15 rfl (lv_at hl 0 rfl) ?_
  refine lv_iconst (v := 2) hx hb dLg_bitCount_16 (by decide) ?_
  refine lv_lushr (v := lN (s1 8 v / 4)) hx hb dLg_bitCount_17 (lu_sh (k := 2) hs1 (by decide) (by decide)) ?_
  refine lv_ldc2 (v := 3689348814741910323) hx hb hown (hT _ w376) dLg_bitCount_18 ?_
  refine lv_land hx hb dLg_bitCount_21 ?_
  refine lv_topl (fun y9 e9 => ?_)
  cases (show y9 = lN (s1 8 v / 4 &&& mk 51 8) from e9.trans (by rw [mk_51]; exact lN_and _ _))
  refine lv_ladd hx hb dLg_bitCount_22 ?_
  refine lv_topl (fun y9 e9 => ?_)
  cases (show y9 = lN ((s1 8 v &&& mk 51 8) + (s1 8 v / 4 &&& mk 51 8)) from e9.trans (lN_add (s1 8 v &&& mk 51 8) (s1 8 v / 4 &&& mk 51 8)))
  refine lv_topl (fun y9 e9 => ?_)
  cases (show y9 = lN (s2 8 (s1 8 v)) from e9.trans rfl)
  refine lv_lstore_n hx hb dLg_bitCount_23 rfl hl (by decide) rfl (fun ls hl => ?_)
  have hl : lv_has ls 2 [(0, .long (lN (s2 8 (s1 8 v))))] := hl
  refine lv_lload_n hx hb dLg_bitCount_24 rfl (lv_at hl 0 rfl) ?_
  refine lv_lload_n hx hb dLg_bitCount_25 rfl (lv_at hl 0 rfl) ?_
  refine lv_iconst (v := 4) hx hb dLg_bitCount_26 (by decide) ?_
  refine lv_lushr (v := lN (s2 8 (s1 8 v) / 16)) hx hb dLg_bitCount_27 (lu_sh (k := 4) s2_b (by decide) (by decide)) ?_
  refine lv_ladd hx hb dLg_bitCount_28 ?_
  refine lv_topl (fun y9 e9 => ?_)
  cases (show y9 = lN ((s2 8 (s1 8 v)) + (s2 8 (s1 8 v) / 16)) from e9.trans (lN_add (s2 8 (s1 8 v)) (s2 8 (s1 8 v) / 16)))
  refine lv_ldc2 (v := 1085102592571150095) hx hb hown (hT _ w377) dLg_bitCount_29 ?_
  refine lv_land hx hb dLg_bitCount_32 ?_
  refine lv_topl (fun y9 e9 => ?_)
  cases (show y9 = lN (ps 8 v) from e9.trans (by rw [mk_15, lN_and]; exact congrArg lN (s123 8 v h88)))
  refine lv_lstore_n hx hb dLg_bitCount_33 rfl hl (by decide) rfl (fun ls hl => ?_)
  have hl : lv_has ls 2 [(0, .long (lN (ps 8 v)))] := hl
  refine lv_lload_n hx hb dLg_bitCount_34 rfl (lv_at hl 0 rfl) ?_
  refine lv_lload_n hx hb dLg_bitCount_35 rfl (lv_at hl 0 rfl) ?_
  refine lv_bipush (v := 8) hx hb dLg_bitCount_36 (by decide) ?_
  refine lv_lushr (v := lN (ps 8 v / 256)) hx hb dLg_bitCount_38 (lu_sh (k := 8) (Nat.lt_of_le_of_lt ps_b (by decide)) (by decide) (by decide)) ?_
  refine lv_ladd hx hb dLg_bitCount_39 ?_
  refine lv_topl (fun y9 e9 => ?_)
  cases (show y9 = lN ((ps 8 v) + (ps 8 v / 256)) from e9.trans (lN_add (ps 8 v) (ps 8 v / 256)))
  obtain ⟨v4, hv4⟩ : ∃ q9 : Nat, q9 = ps 8 v + ps 8 v / 256 := ⟨_, rfl⟩
  refine lv_topl (fun y9 e9 => ?_)
  cases (show y9 = lN v4 from e9.trans (congrArg lN hv4.symm))
  have hb4 : v4 < 2 ^ 62 := by have q9 := ps_b (v := v); omega
  refine lv_lstore_n hx hb dLg_bitCount_40 rfl hl (by decide) rfl (fun ls hl => ?_)
  have hl : lv_has ls 2 [(0, .long (lN v4))] := hl
  refine lv_lload_n hx hb dLg_bitCount_41 rfl (lv_at hl 0 rfl) ?_
  refine lv_lload_n hx hb dLg_bitCount_42 rfl (lv_at hl 0 rfl) ?_
  refine lv_bipush (v := 16) hx hb dLg_bitCount_43 (by decide) ?_
  refine lv_lushr (v := lN (v4 / 65536)) hx hb dLg_bitCount_45 (lu_sh (k := 16) (by omega) (by decide) (by decide)) ?_
  refine lv_ladd hx hb dLg_bitCount_46 ?_
  refine lv_topl (fun y9 e9 => ?_)
  cases (show y9 = lN (v4 + (v4 / 65536)) from e9.trans (lN_add v4 (v4 / 65536)))
  obtain ⟨v5, hv5⟩ : ∃ q9 : Nat, q9 = v4 + v4 / 65536 := ⟨_, rfl⟩
  refine lv_topl (fun y9 e9 => ?_)
  cases (show y9 = lN v5 from e9.trans (congrArg lN hv5.symm))
  have hb5 : v5 < 2 ^ 63 := by omega
  refine lv_lstore_n hx hb dLg_bitCount_47 rfl hl (by decide) rfl (fun ls hl => ?_)
  have hl : lv_has ls 2 [(0, .long (lN v5))] := hl
  refine lv_lload_n hx hb dLg_bitCount_48 rfl (lv_at hl 0 rfl) ?_
  refine lv_lload_n hx hb dLg_bitCount_49 rfl (lv_at hl 0 rfl) ?_
  refine lv_bipush (v := 32) hx hb dLg_bitCount_50 (by decide) ?_
  refine lv_lushr (v := lN (v5 / 4294967296)) hx hb dLg_bitCount_52 (lu_sh (k := 32) (by omega) (by decide) (by decide)) ?_
  refine lv_ladd hx hb dLg_bitCount_53 ?_
  refine lv_topl (fun y9 e9 => ?_)
  cases (show y9 = lN (v5 + (v5 / 4294967296)) from e9.trans (lN_add v5 (v5 / 4294967296)))
  refine lv_lstore_n hx hb dLg_bitCount_54 rfl hl (by decide) rfl (fun ls hl => ?_)
  have hl : lv_has ls 2 [(0, .long (lN (v5 + (v5 / 4294967296))))] := hl
  refine lv_lload_n hx hb dLg_bitCount_55 rfl (lv_at hl 0 rfl) ?_
  refine lv_l2i hx hb dLg_bitCount_56 rfl ?_
  refine lv_topi (fun y9 e9 => ?_)
  cases (show y9 = nI (v5 + (v5 / 4294967296)) from e9.trans (lN_i (v5 + (v5 / 4294967296))))
  refine lv_bipush (v := 127) hx hb dLg_bitCount_57 (by decide) ?_
  refine lv_iand hx hb dLg_bitCount_59 ?_
  refine lv_topi (fun y9 e9 => ?_)
  cases (show y9 = nI (cb x) from e9.trans (by rw [ni_127, bc_all hv4 hv5, hxv]))
  exact W.iret (v := nI (cb x)) hx hb hr (fun t9 ht9 hW9 => ⟨rfl, ht9⟩) (fun q h => nomatch h) dLg_bitCount_60
set_option maxHeartbeats 4000000 in
set_option maxRecDepth 100000 in
theorem k_gclear (l : Launch) (D : va_G) (cT : Nat → ClassId) (g : Nat) (gr : Int64) (gs : Nat) (gsw : Nat) (gsn : Int32) (gsb : Int32) (gsf : Nat → Int32) (sz : Nat) : Met l yG_clear WG_clear ({ frames := 2, cells := 0, slots := 0, locals := 42 } : Room) (RW D vwCl [.ref g] [(g, .inr (5, [.long gr, .ref gs])), (gs, .inr (4, [.ref gsw, .int gsn, .int gsb])), (gsw, .inl (cT 0, 24, .inl gsf))] (TY cT) sz) (va_Qv (fun u9 : Int32 × Int32 × (Nat → Int32) => WN 24 u9.1 u9.2.1 u9.2.2 (0)) (BW D vwCl (va_A [(g, .inr (5, [.long gr, .ref gs])), (gs, .inr (4, [.ref gsw, .int gsn, .int gsb])), (gsw, .inl (cT 0, 24, .inl gsf))] sz) (fun u9 : Int32 × Int32 × (Nat → Int32) => [(g, .inr (5, [.long 0, .ref gs])), (gs, .inr (4, [.ref gsw, .int u9.1, .int u9.2.1])), (gsw, .inl (cT 0, 24, .inl u9.2.2))])) (va_A [(g, .inr (5, [.long gr, .ref gs])), (gs, .inr (4, [.ref gsw, .int gsn, .int gsb])), (gsw, .inl (cT 0, 24, .inl gsf))] sz)) 0 0 (va_A [(g, .inr (5, [.long gr, .ref gs])), (gs, .inr (4, [.ref gsw, .int gsn, .int gsb])), (gsw, .inl (cT 0, 24, .inl gsf))] sz) := by
  refine Met.ofW (cc := cG_clear) (maxL := 1) (ret := none) (by decide) rfl ?_
  intro p e s m args below meth c s₁ B hml hv
  obtain ⟨rfl, hsz, hZ, hP, hK, hD0⟩ := hv
  have hx := B.exec
  have hb := B.bytes
  have hr := B.returns
  have hts := atoms_spec (ws := WG_clear) B.pre
  have hT : ∀ w ∈ TB, w.before _ s = true := fun w h => hts w (List.mem_cons_of_mem _ h)
  have hown : s.vm.findClass R_G = some m.cls := findClass_of_methodNamed B.named
  have hlocks := B.notSynchronized
  subst hsz
  have hD := hD0.self (sz := s.heap.size)
  generalize hAe : va_A [(g, .inr (5, [.long gr, .ref gs])), (gs, .inr (4, [.ref gsw, .int gsn, .int gsb])), (gsw, .inl (cT 0, 24, .inl gsf))] s.heap.size = A at hD hZ ⊢
  have hA : ∀ q : Nat, s.heap.size ≤ q → A q := fun q h => by rw [← hAe]; exact Or.inr h
  have hS : va_S A s.heap s.heap [] := va_S.rf
  have hl := lv_entry ([.ref g]) (n := 1) (Nat.le_of_ble_eq_true rfl)
  rw [lg_entry_eq]
  generalize (lg_sl ([.ref g]) ++ List.replicate (1 - (lg_sl ([.ref g])).length) Slot.unset).toArray = ls at hl ⊢
  have hl : lv_has ls 1 [(0, .ref g)] := hl
  refine lv_aload_n hx hb dG_clear_0 rfl (lv_at hl 0 rfl) ?_
  refine lv_lconst (v := 0) hx hb dG_clear_1 (by decide) ?_
  refine va_put (D := D) (ci := 5) (v := .long 0) (ty := .long) (C := R_G) (T := T_G) (N := 2) hx hb hT in_G ty_G ty_G_ok m_G hown hK hP hD hS 0 rfl rfl 0 (by decide) (hT _ w172) (fun _ h9 => h9) rfl (by decide +kernel) rfl rfl (Nat.le_of_ble_eq_true rfl) dG_clear_2 (fun H locs hP hD hS => ?_)
  have hP : va_P D vwCl [(g, .inr (5, [.long 0, .ref gs])), (gs, .inr (4, [.ref gsw, .int gsn, .int gsb])), (gsw, .inl (cT 0, 24, .inl gsf))] _ := hP
  have hD : va_D A [(g, .inr (5, [.long 0, .ref gs])), (gs, .inr (4, [.ref gsw, .int gsn, .int gsb])), (gsw, .inl (cT 0, 24, .inl gsf))] := hD
  refine lv_aload_n hx hb dG_clear_5 rfl (lv_at hl 0 rfl) ?_
  refine va_get (D := D) (ci := 5) (v := .ref gs) (C := R_G) (T := T_G) (N := 2) hx hb hT in_G hown hK hP 0 rfl rfl 1 (by decide) (hT _ w174) (fun _ h9 => h9) rfl dG_clear_6 ?_
  refine lv_iconst (v := 0) hx hb dG_clear_9 (by decide) ?_
  refine rw_v (wc := [(gs, .inr (4, [.ref gsw, .int gsn, .int gsb])), (gsw, .inl (cT 0, 24, .inl gsf))]) (wr := [(g, .inr (5, [.long 0, .ref gs]))]) hP hD hS hA [1, 2] [0] rfl rfl (by decide) (by decide) (va_runV (As := [.int 0]) (rest := []) ⟨hx, hb, hml, hown, hT⟩ (k_setI l D cT gs gsw 24 gsn gsb gsf (0 : Int32) (by decide) (by decide) (by decide) _) ⟨callB_of 1 hT (tb_gd w393) rfl rfl rfl (hT _ w5) (hT _ w909) hW_set ⟨Nat.le_of_ble_eq_true rfl, Nat.le_of_ble_eq_true rfl⟩, (hT _ w391), (hT _ w392)⟩ (RW.preV (ci := 4) (q0 := 0) hZ hS (va_free (wc := [(gs, .inr (4, [.ref gsw, .int gsn, .int gsb])), (gsw, .inl (cT 0, 24, .inl gsf))]) hD hS hA [1, 2] rfl) (hP.sub (ws' := [(gs, .inr (4, [.ref gsw, .int gsn, .int gsb])), (gsw, .inl (cT 0, 24, .inl gsf))]) [1, 2] rfl) hK (hD.sub (ws' := [(gs, .inr (4, [.ref gsw, .int gsn, .int gsb])), (gsw, .inl (cT 0, 24, .inl gsf))]) [1, 2] (by decide) rfl) rfl rfl) rfl rfl hl.1 rfl (lv_room (Nat.le_of_ble_eq_true rfl)) dG_clear_10 ⟨Nat.le_of_ble_eq_true rfl, Nat.le_of_ble_eq_true rfl⟩) (fun u9 H locs hpu1 hP hD hS => ?_)
  obtain ⟨n1u1, b1u1, f1u1⟩ := u9
  have hpu1 : WN 24 n1u1 b1u1 f1u1 (0 : Int32).toInt := hpu1
  have hP : va_P D vwCl [(g, .inr (5, [.long 0, .ref gs])), (gs, .inr (4, [.ref gsw, .int n1u1, .int b1u1])), (gsw, .inl (cT 0, 24, .inl f1u1))] _ := hP
  have hD : va_D A [(g, .inr (5, [.long 0, .ref gs])), (gs, .inr (4, [.ref gsw, .int n1u1, .int b1u1])), (gsw, .inl (cT 0, 24, .inl f1u1))] := hD
  have hP9 := hP.sub (ws' := [(g, .inr (5, [.long 0, .ref gs])), (gs, .inr (4, [.ref gsw, .int n1u1, .int b1u1])), (gsw, .inl (cT 0, 24, .inl f1u1))]) [0, 1, 2] rfl
  have hD9 := hD.sub (ws' := [(g, .inr (5, [.long 0, .ref gs])), (gs, .inr (4, [.ref gsw, .int n1u1, .int b1u1])), (gsw, .inl (cT 0, 24, .inl f1u1))]) [0, 1, 2] (by decide) rfl
  refine W.widen (k := 0) (n := 0) (Nat.le_of_ble_eq_true rfl) (Nat.le_of_ble_eq_true rfl) ?_
  exact W.vret hx hb hr (fun t9 ht9 hW9 => ⟨⟨(n1u1, b1u1, f1u1), rfl, (show WN 24 n1u1 b1u1 f1u1 (0) from hpu1), by rw [ht9]; exact hP9, hD9⟩, hS.F ht9⟩) hS.2.2 dG_clear_13
set_option maxHeartbeats 4000000 in
set_option maxRecDepth 100000 in
theorem k_takeIn (l : Launch) (D : va_G) (cT : Nat → ClassId) (g : Nat) (gr : Int64) (gs : Nat) (gsw : Nat) (gsn : Int32) (gsb : Int32) (gsf : Nat → Int32) (x : Int64) (t : Nat) (tw : Nat) (tn : Int32) (tb : Int32) (tf : Nat → Int32) (z : Int) (z2 : Int) (hN : WN 24 gsn gsb gsf (z)) (hN2 : WN 24 tn tb tf (z2)) (hfit : z.natAbs + z2.natAbs < 1000000000 ^ 24) (sz : Nat) : Met l yG_takeIn WG_takeIn ({ frames := 2, cells := 0, slots := 0, locals := 51 } : Room) (RW D vwCl [.ref g, .long x, .ref t] [(g, .inr (5, [.long gr, .ref gs])), (gs, .inr (4, [.ref gsw, .int gsn, .int gsb])), (gsw, .inl (cT 0, 24, .inl gsf)), (t, .inr (4, [.ref tw, .int tn, .int tb])), (tw, .inl (cT 0, 24, .inl tf))] (TY cT) sz) (va_Qv (fun u9 : Int32 × Int32 × (Nat → Int32) => WN 24 u9.1 u9.2.1 u9.2.2 (z + z2)) (BW D vwCl (va_A [(g, .inr (5, [.long gr, .ref gs])), (gs, .inr (4, [.ref gsw, .int gsn, .int gsb])), (gsw, .inl (cT 0, 24, .inl gsf)), (t, .inr (4, [.ref tw, .int tn, .int tb])), (tw, .inl (cT 0, 24, .inl tf))] sz) (fun u9 : Int32 × Int32 × (Nat → Int32) => [(g, .inr (5, [.long (gr ||| x), .ref gs])), (gs, .inr (4, [.ref gsw, .int u9.1, .int u9.2.1])), (gsw, .inl (cT 0, 24, .inl u9.2.2)), (t, .inr (4, [.ref tw, .int tn, .int tb])), (tw, .inl (cT 0, 24, .inl tf))])) (va_A [(g, .inr (5, [.long gr, .ref gs])), (gs, .inr (4, [.ref gsw, .int gsn, .int gsb])), (gsw, .inl (cT 0, 24, .inl gsf)), (t, .inr (4, [.ref tw, .int tn, .int tb])), (tw, .inl (cT 0, 24, .inl tf))] sz)) 0 0 (va_A [(g, .inr (5, [.long gr, .ref gs])), (gs, .inr (4, [.ref gsw, .int gsn, .int gsb])), (gsw, .inl (cT 0, 24, .inl gsf)), (t, .inr (4, [.ref tw, .int tn, .int tb])), (tw, .inl (cT 0, 24, .inl tf))] sz) := by
  refine Met.ofW (cc := cG_takeIn) (maxL := 4) (ret := none) (by decide) rfl ?_
  intro p e s m args below meth c s₁ B hml hv
  obtain ⟨rfl, hsz, hZ, hP, hK, hD0⟩ := hv
  have hx := B.exec
  have hb := B.bytes
  have hr := B.returns
  have hts := atoms_spec (ws := WG_takeIn) B.pre
  have hT : ∀ w ∈ TB, w.before _ s = true := fun w h => hts w (List.mem_cons_of_mem _ h)
  have hown : s.vm.findClass R_G = some m.cls := findClass_of_methodNamed B.named
  have hlocks := B.notSynchronized
  subst hsz
  have hD := hD0.self (sz := s.heap.size)
  generalize hAe : va_A [(g, .inr (5, [.long gr, .ref gs])), (gs, .inr (4, [.ref gsw, .int gsn, .int gsb])), (gsw, .inl (cT 0, 24, .inl gsf)), (t, .inr (4, [.ref tw, .int tn, .int tb])), (tw, .inl (cT 0, 24, .inl tf))] s.heap.size = A at hD hZ ⊢
  have hA : ∀ q : Nat, s.heap.size ≤ q → A q := fun q h => by rw [← hAe]; exact Or.inr h
  have hS : va_S A s.heap s.heap [] := va_S.rf
  have hl := lv_entry ([.ref g, .long x, .ref t]) (n := 4) (Nat.le_of_ble_eq_true rfl)
  rw [lg_entry_eq]
  generalize (lg_sl ([.ref g, .long x, .ref t]) ++ List.replicate (4 - (lg_sl ([.ref g, .long x, .ref t])).length) Slot.unset).toArray = ls at hl ⊢
  have hl : lv_has ls 4 [(0, .ref g), (1, .long x), (3, .ref t)] := hl
  refine lv_aload_n hx hb dG_takeIn_0 rfl (lv_at hl 0 rfl) ?_
  refine lv_dup hx hb dG_takeIn_1 rfl ?_
  refine va_get (D := D) (ci := 5) (v := .long gr) (C := R_G) (T := T_G) (N := 2) hx hb hT in_G hown hK hP 0 rfl rfl 0 (by decide) (hT _ w172) (fun _ h9 => h9) rfl dG_takeIn_2 ?_
  refine lv_lload_n hx hb dG_takeIn_5 rfl (lv_at hl 1 rfl) ?_
  refine lv_lor hx hb dG_takeIn_6 ?_
  refine va_put (D := D) (ci := 5) (v := .long (gr ||| x)) (ty := .long) (C := R_G) (T := T_G) (N := 2) hx hb hT in_G ty_G ty_G_ok m_G hown hK hP hD hS 0 rfl rfl 0 (by decide) (hT _ w172) (fun _ h9 => h9) rfl (by decide +kernel) rfl rfl (Nat.le_of_ble_eq_true rfl) dG_takeIn_7 (fun H locs hP hD hS => ?_)
  have hP : va_P D vwCl [(g, .inr (5, [.long (gr ||| x), .ref gs])), (gs, .inr (4, [.ref gsw, .int gsn, .int gsb])), (gsw, .inl (cT 0, 24, .inl gsf)), (t, .inr (4, [.ref tw, .int tn, .int tb])), (tw, .inl (cT 0, 24, .inl tf))] _ := hP
  have hD : va_D A [(g, .inr (5, [.long (gr ||| x), .ref gs])), (gs, .inr (4, [.ref gsw, .int gsn, .int gsb])), (gsw, .inl (cT 0, 24, .inl gsf)), (t, .inr (4, [.ref tw, .int tn, .int tb])), (tw, .inl (cT 0, 24, .inl tf))] := hD
  refine lv_aload_n hx hb dG_takeIn_10 rfl (lv_at hl 0 rfl) ?_
  refine va_get (D := D) (ci := 5) (v := .ref gs) (C := R_G) (T := T_G) (N := 2) hx hb hT in_G hown hK hP 0 rfl rfl 1 (by decide) (hT _ w174) (fun _ h9 => h9) rfl dG_takeIn_11 ?_
  refine lv_aload_n hx hb dG_takeIn_14 rfl (lv_at hl 2 rfl) ?_
  refine lv_iconst (v := 0) hx hb dG_takeIn_15 (by decide) ?_
  refine rw_v (wc := [(gs, .inr (4, [.ref gsw, .int gsn, .int gsb])), (gsw, .inl (cT 0, 24, .inl gsf)), (t, .inr (4, [.ref tw, .int tn, .int tb])), (tw, .inl (cT 0, 24, .inl tf))]) (wr := [(g, .inr (5, [.long (gr ||| x), .ref gs]))]) hP hD hS hA [1, 2, 3, 4] [0] rfl rfl (by decide) (by decide) (va_runV (As := [.ref t, .int 0]) (rest := []) ⟨hx, hb, hml, hown, hT⟩ (k_plus0 l D cT gs gsw 24 gsn gsb gsf z t tw 24 tn tb tf z2 (by decide) hN (by decide) hN2 hfit _) ⟨callB_of 2 hT (tb_gd w461) rfl rfl rfl (hT _ w5) (hT _ w916) hW_plus ⟨Nat.le_of_ble_eq_true rfl, Nat.le_of_ble_eq_true rfl⟩, (hT _ w459), (hT _ w460)⟩ (RW.preV (ci := 4) (q0 := 0) hZ hS (va_free (wc := [(gs, .inr (4, [.ref gsw, .int gsn, .int gsb])), (gsw, .inl (cT 0, 24, .inl gsf)), (t, .inr (4, [.ref tw, .int tn, .int tb])), (tw, .inl (cT 0, 24, .inl tf))]) hD hS hA [1, 2, 3, 4] rfl) (hP.sub (ws' := [(gs, .inr (4, [.ref gsw, .int gsn, .int gsb])), (gsw, .inl (cT 0, 24, .inl gsf)), (t, .inr (4, [.ref tw, .int tn, .int tb])), (tw, .inl (cT 0, 24, .inl tf))]) [1, 2, 3, 4] rfl) hK (hD.sub (ws' := [(gs, .inr (4, [.ref gsw, .int gsn, .int gsb])), (gsw, .inl (cT 0, 24, .inl gsf)), (t, .inr (4, [.ref tw, .int tn, .int tb])), (tw, .inl (cT 0, 24, .inl tf))]) [1, 2, 3, 4] (by decide) rfl) rfl rfl) rfl rfl hl.1 rfl (lv_room (Nat.le_of_ble_eq_true rfl)) dG_takeIn_16 ⟨Nat.le_of_ble_eq_true rfl, Nat.le_of_ble_eq_true rfl⟩) (fun u9 H locs hpu1 hP hD hS => ?_)
  obtain ⟨n1u1, b1u1, f1u1⟩ := u9
  have hpu1 : WN 24 n1u1 b1u1 f1u1 (z + z2) := hpu1
  have hP : va_P D vwCl [(g, .inr (5, [.long (gr ||| x), .ref gs])), (gs, .inr (4, [.ref gsw, .int n1u1, .int b1u1])), (gsw, .inl (cT 0, 24, .inl f1u1)), (t, .inr (4, [.ref tw, .int tn, .int tb])), (tw, .inl (cT 0, 24, .inl tf))] _ := hP
  have hD : va_D A [(g, .inr (5, [.long (gr ||| x), .ref gs])), (gs, .inr (4, [.ref gsw, .int n1u1, .int b1u1])), (gsw, .inl (cT 0, 24, .inl f1u1)), (t, .inr (4, [.ref tw, .int tn, .int tb])), (tw, .inl (cT 0, 24, .inl tf))] := hD
  have hP9 := hP.sub (ws' := [(g, .inr (5, [.long (gr ||| x), .ref gs])), (gs, .inr (4, [.ref gsw, .int n1u1, .int b1u1])), (gsw, .inl (cT 0, 24, .inl f1u1)), (t, .inr (4, [.ref tw, .int tn, .int tb])), (tw, .inl (cT 0, 24, .inl tf))]) [0, 1, 2, 3, 4] rfl
  have hD9 := hD.sub (ws' := [(g, .inr (5, [.long (gr ||| x), .ref gs])), (gs, .inr (4, [.ref gsw, .int n1u1, .int b1u1])), (gsw, .inl (cT 0, 24, .inl f1u1)), (t, .inr (4, [.ref tw, .int tn, .int tb])), (tw, .inl (cT 0, 24, .inl tf))]) [0, 1, 2, 3, 4] (by decide) rfl
  refine W.widen (k := 0) (n := 0) (Nat.le_of_ble_eq_true rfl) (Nat.le_of_ble_eq_true rfl) ?_
  exact W.vret hx hb hr (fun t9 ht9 hW9 => ⟨⟨(n1u1, b1u1, f1u1), rfl, (show WN 24 n1u1 b1u1 f1u1 (z + z2) from hpu1), by rw [ht9]; exact hP9, hD9⟩, hS.F ht9⟩) hS.2.2 dG_takeIn_19
set_option maxHeartbeats 4000000 in
set_option maxRecDepth 100000 in
theorem k_gbecome (l : Launch) (D : va_G) (cT : Nat → ClassId) (g : Nat) (gr : Int64) (gs : Nat) (gsw : Nat) (gsn : Int32) (gsb : Int32) (gsf : Nat → Int32) (o : Nat) (x : Int64) (t : Nat) (tw : Nat) (tn : Int32) (tb : Int32) (tf : Nat → Int32) (z2 : Int) (hN2 : WN 24 tn tb tf (z2)) (hfit : z2.natAbs < 1000000000 ^ 24) (sz : Nat) : Met l yG_become WG_become ({ frames := 2, cells := 0, slots := 0, locals := 61 } : Room) (RW D vwCl [.ref g, .ref o] [(g, .inr (5, [.long gr, .ref gs])), (gs, .inr (4, [.ref gsw, .int gsn, .int gsb])), (gsw, .inl (cT 0, 24, .inl gsf)), (o, .inr (5, [.long x, .ref t])), (t, .inr (4, [.ref tw, .int tn, .int tb])), (tw, .inl (cT 0, 24, .inl tf))] (TY cT) sz) (va_Qv (fun u9 : (Nat → Int32) => WN 24 tn tb u9 z2) (BW D vwCl (va_A [(g, .inr (5, [.long gr, .ref gs])), (gs, .inr (4, [.ref gsw, .int gsn, .int gsb])), (gsw, .inl (cT 0, 24, .inl gsf)), (o, .inr (5, [.long x, .ref t])), (t, .inr (4, [.ref tw, .int tn, .int tb])), (tw, .inl (cT 0, 24, .inl tf))] sz) (fun u9 : (Nat → Int32) => [(g, .inr (5, [.long x, .ref gs])), (gs, .inr (4, [.ref gsw, .int tn, .int tb])), (gsw, .inl (cT 0, 24, .inl u9)), (o, .inr (5, [.long x, .ref t])), (t, .inr (4, [.ref tw, .int tn, .int tb])), (tw, .inl (cT 0, 24, .inl tf))])) (va_A [(g, .inr (5, [.long gr, .ref gs])), (gs, .inr (4, [.ref gsw, .int gsn, .int gsb])), (gsw, .inl (cT 0, 24, .inl gsf)), (o, .inr (5, [.long x, .ref t])), (t, .inr (4, [.ref tw, .int tn, .int tb])), (tw, .inl (cT 0, 24, .inl tf))] sz)) 0 0 (va_A [(g, .inr (5, [.long gr, .ref gs])), (gs, .inr (4, [.ref gsw, .int gsn, .int gsb])), (gsw, .inl (cT 0, 24, .inl gsf)), (o, .inr (5, [.long x, .ref t])), (t, .inr (4, [.ref tw, .int tn, .int tb])), (tw, .inl (cT 0, 24, .inl tf))] sz) := by
  refine Met.ofW (cc := cG_become) (maxL := 2) (ret := none) (by decide) rfl ?_
  intro p e s m args below meth c s₁ B hml hv
  obtain ⟨rfl, hsz, hZ, hP, hK, hD0⟩ := hv
  have hx := B.exec
  have hb := B.bytes
  have hr := B.returns
  have hts := atoms_spec (ws := WG_become) B.pre
  have hT : ∀ w ∈ TB, w.before _ s = true := fun w h => hts w (List.mem_cons_of_mem _ h)
  have hown : s.vm.findClass R_G = some m.cls := findClass_of_methodNamed B.named
  have hlocks := B.notSynchronized
  subst hsz
  have hD := hD0.self (sz := s.heap.size)
  generalize hAe : va_A [(g, .inr (5, [.long gr, .ref gs])), (gs, .inr (4, [.ref gsw, .int gsn, .int gsb])), (gsw, .inl (cT 0, 24, .inl gsf)), (o, .inr (5, [.long x, .ref t])), (t, .inr (4, [.ref tw, .int tn, .int tb])), (tw, .inl (cT 0, 24, .inl tf))] s.heap.size = A at hD hZ ⊢
  have hA : ∀ q : Nat, s.heap.size ≤ q → A q := fun q h => by rw [← hAe]; exact Or.inr h
  have hS : va_S A s.heap s.heap [] := va_S.rf
  have hl := lv_entry ([.ref g, .ref o]) (n := 2) (Nat.le_of_ble_eq_true rfl)
  rw [lg_entry_eq]
  generalize (lg_sl ([.ref g, .ref o]) ++ List.replicate (2 - (lg_sl ([.ref g, .ref o])).length) Slot.unset).toArray = ls at hl ⊢
  have hl : lv_has ls 2 [(0, .ref g), (1, .ref o)] := hl
  refine lv_aload_n hx hb dG_become_0 rfl (lv_at hl 0 rfl) ?_
  refine lv_aload_n hx hb dG_become_1 rfl (lv_at hl 1 rfl) ?_
  refine va_get (D := D) (ci := 5) (v := .long x) (C := R_G) (T := T_G) (N := 2) hx hb hT in_G hown hK hP 3 rfl rfl 0 (by decide) (hT _ w172) (fun _ h9 => h9) rfl dG_become_2 ?_
  refine va_put (D := D) (ci := 5) (v := .long x) (ty := .long) (C := R_G) (T := T_G) (N := 2) hx hb hT in_G ty_G ty_G_ok m_G hown hK hP hD hS 0 rfl rfl 0 (by decide) (hT _ w172) (fun _ h9 => h9) rfl (by decide +kernel) rfl rfl (Nat.le_of_ble_eq_true rfl) dG_become_5 (fun H locs hP hD hS => ?_)
  have hP : va_P D vwCl [(g, .inr (5, [.long x, .ref gs])), (gs, .inr (4, [.ref gsw, .int gsn, .int gsb])), (gsw, .inl (cT 0, 24, .inl gsf)), (o, .inr (5, [.long x, .ref t])), (t, .inr (4, [.ref tw, .int tn, .int tb])), (tw, .inl (cT 0, 24, .inl tf))] _ := hP
  have hD : va_D A [(g, .inr (5, [.long x, .ref gs])), (gs, .inr (4, [.ref gsw, .int gsn, .int gsb])), (gsw, .inl (cT 0, 24, .inl gsf)), (o, .inr (5, [.long x, .ref t])), (t, .inr (4, [.ref tw, .int tn, .int tb])), (tw, .inl (cT 0, 24, .inl tf))] := hD
  refine lv_aload_n hx hb dG_become_8 rfl (lv_at hl 0 rfl) ?_
  refine va_get (D := D) (ci := 5) (v := .ref gs) (C := R_G) (T := T_G) (N := 2) hx hb hT in_G hown hK hP 0 rfl rfl 1 (by decide) (hT _ w174) (fun _ h9 => h9) rfl dG_become_9 ?_
  refine lv_aload_n hx hb dG_become_12 rfl (lv_at hl 1 rfl) ?_
  refine va_get (D := D) (ci := 5) (v := .ref t) (C := R_G) (T := T_G) (N := 2) hx hb hT in_G hown hK hP 3 rfl rfl 1 (by decide) (hT _ w174) (fun _ h9 => h9) rfl dG_become_13 ?_
  refine rw_v (wc := [(gs, .inr (4, [.ref gsw, .int gsn, .int gsb])), (gsw, .inl (cT 0, 24, .inl gsf)), (t, .inr (4, [.ref tw, .int tn, .int tb])), (tw, .inl (cT 0, 24, .inl tf))]) (wr := [(g, .inr (5, [.long x, .ref gs])), (o, .inr (5, [.long x, .ref t]))]) hP hD hS hA [1, 2, 4, 5] [0, 3] rfl rfl (by decide) (by decide) (va_runV (As := [.ref t]) (rest := []) ⟨hx, hb, hml, hown, hT⟩ (k_setW l D cT gs gsw 24 gsn gsb gsf t tw 24 tn tb tf z2 (by decide) (by decide) hN2 hfit _) ⟨callB_of 1 hT (tb_gd w446) rfl rfl rfl (hT _ w5) (hT _ w936) hW_setb ⟨Nat.le_of_ble_eq_true rfl, Nat.le_of_ble_eq_true rfl⟩, (hT _ w444), (hT _ w445)⟩ (RW.preV (ci := 4) (q0 := 0) hZ hS (va_free (wc := [(gs, .inr (4, [.ref gsw, .int gsn, .int gsb])), (gsw, .inl (cT 0, 24, .inl gsf)), (t, .inr (4, [.ref tw, .int tn, .int tb])), (tw, .inl (cT 0, 24, .inl tf))]) hD hS hA [1, 2, 4, 5] rfl) (hP.sub (ws' := [(gs, .inr (4, [.ref gsw, .int gsn, .int gsb])), (gsw, .inl (cT 0, 24, .inl gsf)), (t, .inr (4, [.ref tw, .int tn, .int tb])), (tw, .inl (cT 0, 24, .inl tf))]) [1, 2, 4, 5] rfl) hK (hD.sub (ws' := [(gs, .inr (4, [.ref gsw, .int gsn, .int gsb])), (gsw, .inl (cT 0, 24, .inl gsf)), (t, .inr (4, [.ref tw, .int tn, .int tb])), (tw, .inl (cT 0, 24, .inl tf))]) [1, 2, 4, 5] (by decide) rfl) rfl rfl) rfl rfl hl.1 rfl (lv_room (Nat.le_of_ble_eq_true rfl)) dG_become_16 ⟨Nat.le_of_ble_eq_true rfl, Nat.le_of_ble_eq_true rfl⟩) (fun u9 H locs hpu1 hP hD hS => ?_)
  obtain ⟨f1u1, rfl⟩ : ∃ q9, q9 = u9 := ⟨_, rfl⟩
  have hpu1 : WN 24 tn tb f1u1 z2 := hpu1
  have hP : va_P D vwCl [(g, .inr (5, [.long x, .ref gs])), (o, .inr (5, [.long x, .ref t])), (gs, .inr (4, [.ref gsw, .int tn, .int tb])), (gsw, .inl (cT 0, 24, .inl f1u1)), (t, .inr (4, [.ref tw, .int tn, .int tb])), (tw, .inl (cT 0, 24, .inl tf))] _ := hP
  have hD : va_D A [(g, .inr (5, [.long x, .ref gs])), (o, .inr (5, [.long x, .ref t])), (gs, .inr (4, [.ref gsw, .int tn, .int tb])), (gsw, .inl (cT 0, 24, .inl f1u1)), (t, .inr (4, [.ref tw, .int tn, .int tb])), (tw, .inl (cT 0, 24, .inl tf))] := hD
  have hP9 := hP.sub (ws' := [(g, .inr (5, [.long x, .ref gs])), (gs, .inr (4, [.ref gsw, .int tn, .int tb])), (gsw, .inl (cT 0, 24, .inl f1u1)), (o, .inr (5, [.long x, .ref t])), (t, .inr (4, [.ref tw, .int tn, .int tb])), (tw, .inl (cT 0, 24, .inl tf))]) [0, 2, 3, 1, 4, 5] rfl
  have hD9 := hD.sub (ws' := [(g, .inr (5, [.long x, .ref gs])), (gs, .inr (4, [.ref gsw, .int tn, .int tb])), (gsw, .inl (cT 0, 24, .inl f1u1)), (o, .inr (5, [.long x, .ref t])), (t, .inr (4, [.ref tw, .int tn, .int tb])), (tw, .inl (cT 0, 24, .inl tf))]) [0, 2, 3, 1, 4, 5] (by decide) rfl
  refine W.widen (k := 0) (n := 0) (Nat.le_of_ble_eq_true rfl) (Nat.le_of_ble_eq_true rfl) ?_
  exact W.vret hx hb hr (fun t9 ht9 hW9 => ⟨⟨f1u1, rfl, (show WN 24 tn tb f1u1 z2 from hpu1), by rw [ht9]; exact hP9, hD9⟩, hS.F ht9⟩) hS.2.2 dG_become_19
set_option maxHeartbeats 4000000 in
set_option maxRecDepth 100000 in
theorem k_setSides (l : Launch) (D : va_G) (cT : Nat → ClassId) (sd : Nat) (sdw : Nat) (sdn : Int32) (sdb : Int32) (sdf : Nat → Int32) (lf : Nat) (lfw : Nat) (lfn : Int32) (lfb : Int32) (lff : Nat → Int32) (rt : Nat) (rtw : Nat) (rtn : Int32) (rtb : Int32) (rtf : Nat → Int32) (pt : Nat) (ptw : Nat) (ptn : Int32) (ptb : Int32) (ptf : Nat → Int32) (ul : Nat) (ur : Nat) (zl : Int) (zr : Int) (BB : Nat) (hNl : WN 24 lfn lfb lff (zl)) (hNr : WN 24 rtn rtb rtf (zr)) (hul : ul ≤ 68) (hur : ur ≤ 68) (hBl : zl.natAbs ≤ BB) (hBr : zr.natAbs ≤ BB) (hB : BB * BB * 68 * 2 < 1000000000 ^ 48) (sz : Nat) : Met l yR_setToSides WR_setToSides ({ frames := 3, cells := 0, slots := 0, locals := 77 } : Room) (RW D vwCl [.ref sd, .ref lf, .int (nI ul), .ref rt, .int (nI ur), .ref pt] [(sd, .inr (4, [.ref sdw, .int sdn, .int sdb])), (sdw, .inl (cT 0, 48, .inl sdf)), (lf, .inr (4, [.ref lfw, .int lfn, .int lfb])), (lfw, .inl (cT 0, 24, .inl lff)), (rt, .inr (4, [.ref rtw, .int rtn, .int rtb])), (rtw, .inl (cT 0, 24, .inl rtf)), (pt, .inr (4, [.ref ptw, .int ptn, .int ptb])), (ptw, .inl (cT 0, 48, .inl ptf))] (TY cT) sz) (va_Qv (fun u9 : Int32 × Int32 × (Nat → Int32) × Int32 × Int32 × (Nat → Int32) => WN 48 u9.1 u9.2.1 u9.2.2.1 (wZ zl zr ul ur) ∧ WN 48 u9.2.2.2.1 u9.2.2.2.2.1 u9.2.2.2.2.2 (zr * zr * (ul : Int))) (BW D vwCl (va_A [(sd, .inr (4, [.ref sdw, .int sdn, .int sdb])), (sdw, .inl (cT 0, 48, .inl sdf)), (lf, .inr (4, [.ref lfw, .int lfn, .int lfb])), (lfw, .inl (cT 0, 24, .inl lff)), (rt, .inr (4, [.ref rtw, .int rtn, .int rtb])), (rtw, .inl (cT 0, 24, .inl rtf)), (pt, .inr (4, [.ref ptw, .int ptn, .int ptb])), (ptw, .inl (cT 0, 48, .inl ptf))] sz) (fun u9 : Int32 × Int32 × (Nat → Int32) × Int32 × Int32 × (Nat → Int32) => [(sd, .inr (4, [.ref sdw, .int u9.1, .int u9.2.1])), (sdw, .inl (cT 0, 48, .inl u9.2.2.1)), (lf, .inr (4, [.ref lfw, .int lfn, .int lfb])), (lfw, .inl (cT 0, 24, .inl lff)), (rt, .inr (4, [.ref rtw, .int rtn, .int rtb])), (rtw, .inl (cT 0, 24, .inl rtf)), (pt, .inr (4, [.ref ptw, .int u9.2.2.2.1, .int u9.2.2.2.2.1])), (ptw, .inl (cT 0, 48, .inl u9.2.2.2.2.2))])) (va_A [(sd, .inr (4, [.ref sdw, .int sdn, .int sdb])), (sdw, .inl (cT 0, 48, .inl sdf)), (lf, .inr (4, [.ref lfw, .int lfn, .int lfb])), (lfw, .inl (cT 0, 24, .inl lff)), (rt, .inr (4, [.ref rtw, .int rtn, .int rtb])), (rtw, .inl (cT 0, 24, .inl rtf)), (pt, .inr (4, [.ref ptw, .int ptn, .int ptb])), (ptw, .inl (cT 0, 48, .inl ptf))] sz)) 0 0 (va_A [(sd, .inr (4, [.ref sdw, .int sdn, .int sdb])), (sdw, .inl (cT 0, 48, .inl sdf)), (lf, .inr (4, [.ref lfw, .int lfn, .int lfb])), (lfw, .inl (cT 0, 24, .inl lff)), (rt, .inr (4, [.ref rtw, .int rtn, .int rtb])), (rtw, .inl (cT 0, 24, .inl rtf)), (pt, .inr (4, [.ref ptw, .int ptn, .int ptb])), (ptw, .inl (cT 0, 48, .inl ptf))] sz) := by
  refine Met.ofW (cc := cR_setToSides) (maxL := 6) (ret := none) (by decide) rfl ?_
  intro p e s m args below meth c s₁ B hml hv
  obtain ⟨rfl, hsz, hZ, hP, hK, hD0⟩ := hv
  have hx := B.exec
  have hb := B.bytes
  have hr := B.returns
  have hts := atoms_spec (ws := WR_setToSides) B.pre
  have hT : ∀ w ∈ TB, w.before _ s = true := fun w h => hts w (List.mem_cons_of_mem _ h)
  have hown : s.vm.findClass R_R = some m.cls := findClass_of_methodNamed B.named
  have hlocks := B.notSynchronized
  subst hsz
  have hD := hD0.self (sz := s.heap.size)
  generalize hAe : va_A [(sd, .inr (4, [.ref sdw, .int sdn, .int sdb])), (sdw, .inl (cT 0, 48, .inl sdf)), (lf, .inr (4, [.ref lfw, .int lfn, .int lfb])), (lfw, .inl (cT 0, 24, .inl lff)), (rt, .inr (4, [.ref rtw, .int rtn, .int rtb])), (rtw, .inl (cT 0, 24, .inl rtf)), (pt, .inr (4, [.ref ptw, .int ptn, .int ptb])), (ptw, .inl (cT 0, 48, .inl ptf))] s.heap.size = A at hD hZ ⊢
  have hA : ∀ q : Nat, s.heap.size ≤ q → A q := fun q h => by rw [← hAe]; exact Or.inr h
  have hS : va_S A s.heap s.heap [] := va_S.rf
  have hl := lv_entry ([.ref sd, .ref lf, .int (nI ul), .ref rt, .int (nI ur), .ref pt]) (n := 6) (Nat.le_of_ble_eq_true rfl)
  rw [lg_entry_eq]
  generalize (lg_sl ([.ref sd, .ref lf, .int (nI ul), .ref rt, .int (nI ur), .ref pt]) ++ List.replicate (6 - (lg_sl ([.ref sd, .ref lf, .int (nI ul), .ref rt, .int (nI ur), .ref pt])).length) Slot.unset).toArray = ls at hl ⊢
  have hl : lv_has ls 6 [(0, .ref sd), (1, .ref lf), (2, .int (nI ul)), (3, .ref rt), (4, .int (nI ur)), (5, .ref pt)] := hl
  obtain ⟨q1, q2, q3⟩ := sd_f (u := ur) hBl hur hB
  obtain ⟨q4, q5, q6⟩ := sd_f (u := ul) hBr hul hB
  refine lv_aload_n hx hb dR_setToSides_0 rfl (lv_at hl 0 rfl) ?_
  refine lv_aload_n hx hb dR_setToSides_1 rfl (lv_at hl 1 rfl) ?_
  refine lv_aload_n hx hb dR_setToSides_2 rfl (lv_at hl 1 rfl) ?_
  refine rw_v (wc := [(sd, .inr (4, [.ref sdw, .int sdn, .int sdb])), (sdw, .inl (cT 0, 48, .inl sdf)), (lf, .inr (4, [.ref lfw, .int lfn, .int lfb])), (lfw, .inl (cT 0, 24, .inl lff))]) (wr := [(rt, .inr (4, [.ref rtw, .int rtn, .int rtb])), (rtw, .inl (cT 0, 24, .inl rtf)), (pt, .inr (4, [.ref ptw, .int ptn, .int ptb])), (ptw, .inl (cT 0, 48, .inl ptf))]) hP hD hS hA [0, 1, 2, 3] [4, 5, 6, 7] rfl rfl (by decide) (by decide) (va_runV (As := [.ref lf, .ref lf]) (rest := []) ⟨hx, hb, hml, hown, hT⟩ (k_square l D cT sd sdw 48 sdn sdb sdf lf lfw 24 lfn lfb lff zl (by decide) (by decide) hNl q1 _) ⟨callB_of 2 hT (tb_gd w474) rfl rfl rfl (hT _ w5) (hT _ w471) hW_setProduct ⟨Nat.le_of_ble_eq_true rfl, Nat.le_of_ble_eq_true rfl⟩, (hT _ w472), (hT _ w473)⟩ (RW.preV (ci := 4) (q0 := 0) hZ hS (va_free (wc := [(sd, .inr (4, [.ref sdw, .int sdn, .int sdb])), (sdw, .inl (cT 0, 48, .inl sdf)), (lf, .inr (4, [.ref lfw, .int lfn, .int lfb])), (lfw, .inl (cT 0, 24, .inl lff))]) hD hS hA [0, 1, 2, 3] rfl) (hP.sub (ws' := [(sd, .inr (4, [.ref sdw, .int sdn, .int sdb])), (sdw, .inl (cT 0, 48, .inl sdf)), (lf, .inr (4, [.ref lfw, .int lfn, .int lfb])), (lfw, .inl (cT 0, 24, .inl lff))]) [0, 1, 2, 3] rfl) hK (hD.sub (ws' := [(sd, .inr (4, [.ref sdw, .int sdn, .int sdb])), (sdw, .inl (cT 0, 48, .inl sdf)), (lf, .inr (4, [.ref lfw, .int lfn, .int lfb])), (lfw, .inl (cT 0, 24, .inl lff))]) [0, 1, 2, 3] (by decide) rfl) rfl rfl) rfl rfl hl.1 rfl (lv_room (Nat.le_of_ble_eq_true rfl)) dR_setToSides_3 ⟨Nat.le_of_ble_eq_true rfl, Nat.le_of_ble_eq_true rfl⟩) (fun u9 H locs hpu1 hP hD hS => ?_)
  obtain ⟨n1u1, b1u1, f1u1⟩ := u9
  have hpu1 : WN 48 n1u1 b1u1 f1u1 (zl * zl) := hpu1
  have hP : va_P D vwCl [(rt, .inr (4, [.ref rtw, .int rtn, .int rtb])), (rtw, .inl (cT 0, 24, .inl rtf)), (pt, .inr (4, [.ref ptw, .int ptn, .int ptb])), (ptw, .inl (cT 0, 48, .inl ptf)), (sd, .inr (4, [.ref sdw, .int n1u1, .int b1u1])), (sdw, .inl (cT 0, 48, .inl f1u1)), (lf, .inr (4, [.ref lfw, .int lfn, .int lfb])), (lfw, .inl (cT 0, 24, .inl lff))] _ := hP
  have hD : va_D A [(rt, .inr (4, [.ref rtw, .int rtn, .int rtb])), (rtw, .inl (cT 0, 24, .inl rtf)), (pt, .inr (4, [.ref ptw, .int ptn, .int ptb])), (ptw, .inl (cT 0, 48, .inl ptf)), (sd, .inr (4, [.ref sdw, .int n1u1, .int b1u1])), (sdw, .inl (cT 0, 48, .inl f1u1)), (lf, .inr (4, [.ref lfw, .int lfn, .int lfb])), (lfw, .inl (cT 0, 24, .inl lff))] := hD
  have s1N := hpu1
  refine lv_aload_n hx hb dR_setToSides_6 rfl (lv_at hl 0 rfl) ?_
  refine lv_iload hx hb dR_setToSides_7 (lv_at hl 4 rfl) ?_
  refine lv_i2l hx hb dR_setToSides_9 rfl ?_
  refine lv_topl (fun y9 e9 => ?_)
  cases (show y9 = lN ur from e9.trans (nI_l (n := ur) (by omega)))
  refine rw_v (wc := [(sd, .inr (4, [.ref sdw, .int n1u1, .int b1u1])), (sdw, .inl (cT 0, 48, .inl f1u1))]) (wr := [(rt, .inr (4, [.ref rtw, .int rtn, .int rtb])), (rtw, .inl (cT 0, 24, .inl rtf)), (pt, .inr (4, [.ref ptw, .int ptn, .int ptb])), (ptw, .inl (cT 0, 48, .inl ptf)), (lf, .inr (4, [.ref lfw, .int lfn, .int lfb])), (lfw, .inl (cT 0, 24, .inl lff))]) hP hD hS hA [4, 5] [0, 1, 2, 3, 6, 7] rfl rfl (by decide) (by decide) (va_runV (As := [.long (lN ur)]) (rest := []) ⟨hx, hb, hml, hown, hT⟩ (k_times l D cT sd sdw 48 n1u1 b1u1 f1u1 (zl * zl) ur (by decide) s1N (by omega) q2 _) ⟨callB_of 1 hT (tb_gd w420) rfl rfl rfl (hT _ w5) (hT _ w417) hW_times ⟨Nat.le_of_ble_eq_true rfl, Nat.le_of_ble_eq_true rfl⟩, (hT _ w418), (hT _ w419)⟩ (RW.preV (ci := 4) (q0 := 0) hZ hS (va_free (wc := [(sd, .inr (4, [.ref sdw, .int n1u1, .int b1u1])), (sdw, .inl (cT 0, 48, .inl f1u1))]) hD hS hA [4, 5] rfl) (hP.sub (ws' := [(sd, .inr (4, [.ref sdw, .int n1u1, .int b1u1])), (sdw, .inl (cT 0, 48, .inl f1u1))]) [4, 5] rfl) hK (hD.sub (ws' := [(sd, .inr (4, [.ref sdw, .int n1u1, .int b1u1])), (sdw, .inl (cT 0, 48, .inl f1u1))]) [4, 5] (by decide) rfl) rfl rfl) rfl rfl hl.1 rfl (lv_room (Nat.le_of_ble_eq_true rfl)) dR_setToSides_10 ⟨Nat.le_of_ble_eq_true rfl, Nat.le_of_ble_eq_true rfl⟩) (fun u9 H locs hpu2 hP hD hS => ?_)
  obtain ⟨n1u2, f1u2⟩ := u9
  have hpu2 : WN 48 n1u2 b1u1 f1u2 ((zl * zl) * ur) := hpu2
  have hP : va_P D vwCl [(rt, .inr (4, [.ref rtw, .int rtn, .int rtb])), (rtw, .inl (cT 0, 24, .inl rtf)), (pt, .inr (4, [.ref ptw, .int ptn, .int ptb])), (ptw, .inl (cT 0, 48, .inl ptf)), (lf, .inr (4, [.ref lfw, .int lfn, .int lfb])), (lfw, .inl (cT 0, 24, .inl lff)), (sd, .inr (4, [.ref sdw, .int n1u2, .int b1u1])), (sdw, .inl (cT 0, 48, .inl f1u2))] _ := hP
  have hD : va_D A [(rt, .inr (4, [.ref rtw, .int rtn, .int rtb])), (rtw, .inl (cT 0, 24, .inl rtf)), (pt, .inr (4, [.ref ptw, .int ptn, .int ptb])), (ptw, .inl (cT 0, 48, .inl ptf)), (lf, .inr (4, [.ref lfw, .int lfn, .int lfb])), (lfw, .inl (cT 0, 24, .inl lff)), (sd, .inr (4, [.ref sdw, .int n1u2, .int b1u1])), (sdw, .inl (cT 0, 48, .inl f1u2))] := hD
  have s2N := hpu2
  refine lv_aload hx hb dR_setToSides_13 (lv_at hl 5 rfl) ?_
  refine lv_aload_n hx hb dR_setToSides_15 rfl (lv_at hl 3 rfl) ?_
  refine lv_aload_n hx hb dR_setToSides_16 rfl (lv_at hl 3 rfl) ?_
  refine rw_v (wc := [(pt, .inr (4, [.ref ptw, .int ptn, .int ptb])), (ptw, .inl (cT 0, 48, .inl ptf)), (rt, .inr (4, [.ref rtw, .int rtn, .int rtb])), (rtw, .inl (cT 0, 24, .inl rtf))]) (wr := [(lf, .inr (4, [.ref lfw, .int lfn, .int lfb])), (lfw, .inl (cT 0, 24, .inl lff)), (sd, .inr (4, [.ref sdw, .int n1u2, .int b1u1])), (sdw, .inl (cT 0, 48, .inl f1u2))]) hP hD hS hA [2, 3, 0, 1] [4, 5, 6, 7] rfl rfl (by decide) (by decide) (va_runV (As := [.ref rt, .ref rt]) (rest := []) ⟨hx, hb, hml, hown, hT⟩ (k_square l D cT pt ptw 48 ptn ptb ptf rt rtw 24 rtn rtb rtf zr (by decide) (by decide) hNr q4 _) ⟨callB_of 2 hT (tb_gd w474) rfl rfl rfl (hT _ w5) (hT _ w471) hW_setProduct ⟨Nat.le_of_ble_eq_true rfl, Nat.le_of_ble_eq_true rfl⟩, (hT _ w472), (hT _ w473)⟩ (RW.preV (ci := 4) (q0 := 0) hZ hS (va_free (wc := [(pt, .inr (4, [.ref ptw, .int ptn, .int ptb])), (ptw, .inl (cT 0, 48, .inl ptf)), (rt, .inr (4, [.ref rtw, .int rtn, .int rtb])), (rtw, .inl (cT 0, 24, .inl rtf))]) hD hS hA [2, 3, 0, 1] rfl) (hP.sub (ws' := [(pt, .inr (4, [.ref ptw, .int ptn, .int ptb])), (ptw, .inl (cT 0, 48, .inl ptf)), (rt, .inr (4, [.ref rtw, .int rtn, .int rtb])), (rtw, .inl (cT 0, 24, .inl rtf))]) [2, 3, 0, 1] rfl) hK (hD.sub (ws' := [(pt, .inr (4, [.ref ptw, .int ptn, .int ptb])), (ptw, .inl (cT 0, 48, .inl ptf)), (rt, .inr (4, [.ref rtw, .int rtn, .int rtb])), (rtw, .inl (cT 0, 24, .inl rtf))]) [2, 3, 0, 1] (by decide) rfl) rfl rfl) rfl rfl hl.1 rfl (lv_room (Nat.le_of_ble_eq_true rfl)) dR_setToSides_17 ⟨Nat.le_of_ble_eq_true rfl, Nat.le_of_ble_eq_true rfl⟩) (fun u9 H locs hpu3 hP hD hS => ?_)
  obtain ⟨n1u3, b1u3, f1u3⟩ := u9
  have hpu3 : WN 48 n1u3 b1u3 f1u3 (zr * zr) := hpu3
  have hP : va_P D vwCl [(lf, .inr (4, [.ref lfw, .int lfn, .int lfb])), (lfw, .inl (cT 0, 24, .inl lff)), (sd, .inr (4, [.ref sdw, .int n1u2, .int b1u1])), (sdw, .inl (cT 0, 48, .inl f1u2)), (pt, .inr (4, [.ref ptw, .int n1u3, .int b1u3])), (ptw, .inl (cT 0, 48, .inl f1u3)), (rt, .inr (4, [.ref rtw, .int rtn, .int rtb])), (rtw, .inl (cT 0, 24, .inl rtf))] _ := hP
  have hD : va_D A [(lf, .inr (4, [.ref lfw, .int lfn, .int lfb])), (lfw, .inl (cT 0, 24, .inl lff)), (sd, .inr (4, [.ref sdw, .int n1u2, .int b1u1])), (sdw, .inl (cT 0, 48, .inl f1u2)), (pt, .inr (4, [.ref ptw, .int n1u3, .int b1u3])), (ptw, .inl (cT 0, 48, .inl f1u3)), (rt, .inr (4, [.ref rtw, .int rtn, .int rtb])), (rtw, .inl (cT 0, 24, .inl rtf))] := hD
  have s3N := hpu3
  refine lv_aload hx hb dR_setToSides_20 (lv_at hl 5 rfl) ?_
  refine lv_iload_n hx hb dR_setToSides_22 rfl (lv_at hl 2 rfl) ?_
  refine lv_i2l hx hb dR_setToSides_23 rfl ?_
  refine lv_topl (fun y9 e9 => ?_)
  cases (show y9 = lN ul from e9.trans (nI_l (n := ul) (by omega)))
  refine rw_v (wc := [(pt, .inr (4, [.ref ptw, .int n1u3, .int b1u3])), (ptw, .inl (cT 0, 48, .inl f1u3))]) (wr := [(lf, .inr (4, [.ref lfw, .int lfn, .int lfb])), (lfw, .inl (cT 0, 24, .inl lff)), (sd, .inr (4, [.ref sdw, .int n1u2, .int b1u1])), (sdw, .inl (cT 0, 48, .inl f1u2)), (rt, .inr (4, [.ref rtw, .int rtn, .int rtb])), (rtw, .inl (cT 0, 24, .inl rtf))]) hP hD hS hA [4, 5] [0, 1, 2, 3, 6, 7] rfl rfl (by decide) (by decide) (va_runV (As := [.long (lN ul)]) (rest := []) ⟨hx, hb, hml, hown, hT⟩ (k_times l D cT pt ptw 48 n1u3 b1u3 f1u3 (zr * zr) ul (by decide) s3N (by omega) q5 _) ⟨callB_of 1 hT (tb_gd w420) rfl rfl rfl (hT _ w5) (hT _ w417) hW_times ⟨Nat.le_of_ble_eq_true rfl, Nat.le_of_ble_eq_true rfl⟩, (hT _ w418), (hT _ w419)⟩ (RW.preV (ci := 4) (q0 := 0) hZ hS (va_free (wc := [(pt, .inr (4, [.ref ptw, .int n1u3, .int b1u3])), (ptw, .inl (cT 0, 48, .inl f1u3))]) hD hS hA [4, 5] rfl) (hP.sub (ws' := [(pt, .inr (4, [.ref ptw, .int n1u3, .int b1u3])), (ptw, .inl (cT 0, 48, .inl f1u3))]) [4, 5] rfl) hK (hD.sub (ws' := [(pt, .inr (4, [.ref ptw, .int n1u3, .int b1u3])), (ptw, .inl (cT 0, 48, .inl f1u3))]) [4, 5] (by decide) rfl) rfl rfl) rfl rfl hl.1 rfl (lv_room (Nat.le_of_ble_eq_true rfl)) dR_setToSides_24 ⟨Nat.le_of_ble_eq_true rfl, Nat.le_of_ble_eq_true rfl⟩) (fun u9 H locs hpu4 hP hD hS => ?_)
  obtain ⟨n1u4, f1u4⟩ := u9
  have hpu4 : WN 48 n1u4 b1u3 f1u4 ((zr * zr) * ul) := hpu4
  have hP : va_P D vwCl [(lf, .inr (4, [.ref lfw, .int lfn, .int lfb])), (lfw, .inl (cT 0, 24, .inl lff)), (sd, .inr (4, [.ref sdw, .int n1u2, .int b1u1])), (sdw, .inl (cT 0, 48, .inl f1u2)), (rt, .inr (4, [.ref rtw, .int rtn, .int rtb])), (rtw, .inl (cT 0, 24, .inl rtf)), (pt, .inr (4, [.ref ptw, .int n1u4, .int b1u3])), (ptw, .inl (cT 0, 48, .inl f1u4))] _ := hP
  have hD : va_D A [(lf, .inr (4, [.ref lfw, .int lfn, .int lfb])), (lfw, .inl (cT 0, 24, .inl lff)), (sd, .inr (4, [.ref sdw, .int n1u2, .int b1u1])), (sdw, .inl (cT 0, 48, .inl f1u2)), (rt, .inr (4, [.ref rtw, .int rtn, .int rtb])), (rtw, .inl (cT 0, 24, .inl rtf)), (pt, .inr (4, [.ref ptw, .int n1u4, .int b1u3])), (ptw, .inl (cT 0, 48, .inl f1u4))] := hD
  have s4N := hpu4
  refine lv_aload_n hx hb dR_setToSides_27 rfl (lv_at hl 0 rfl) ?_
  refine lv_aload hx hb dR_setToSides_28 (lv_at hl 5 rfl) ?_
  refine lv_iconst (v := 0) hx hb dR_setToSides_30 (by decide) ?_
  refine rw_v (wc := [(sd, .inr (4, [.ref sdw, .int n1u2, .int b1u1])), (sdw, .inl (cT 0, 48, .inl f1u2)), (pt, .inr (4, [.ref ptw, .int n1u4, .int b1u3])), (ptw, .inl (cT 0, 48, .inl f1u4))]) (wr := [(lf, .inr (4, [.ref lfw, .int lfn, .int lfb])), (lfw, .inl (cT 0, 24, .inl lff)), (rt, .inr (4, [.ref rtw, .int rtn, .int rtb])), (rtw, .inl (cT 0, 24, .inl rtf))]) hP hD hS hA [2, 3, 6, 7] [0, 1, 4, 5] rfl rfl (by decide) (by decide) (va_runV (As := [.ref pt, .int 0]) (rest := []) ⟨hx, hb, hml, hown, hT⟩ (k_plus0 l D cT sd sdw 48 n1u2 b1u1 f1u2 (zl * zl * (ur : Int)) pt ptw 48 n1u4 b1u3 f1u4 (zr * zr * (ul : Int)) (by decide) s2N (by decide) s4N (by omega) _) ⟨callB_of 2 hT (tb_gd w461) rfl rfl rfl (hT _ w5) (hT _ w458) hW_plus ⟨Nat.le_of_ble_eq_true rfl, Nat.le_of_ble_eq_true rfl⟩, (hT _ w459), (hT _ w460)⟩ (RW.preV (ci := 4) (q0 := 0) hZ hS (va_free (wc := [(sd, .inr (4, [.ref sdw, .int n1u2, .int b1u1])), (sdw, .inl (cT 0, 48, .inl f1u2)), (pt, .inr (4, [.ref ptw, .int n1u4, .int b1u3])), (ptw, .inl (cT 0, 48, .inl f1u4))]) hD hS hA [2, 3, 6, 7] rfl) (hP.sub (ws' := [(sd, .inr (4, [.ref sdw, .int n1u2, .int b1u1])), (sdw, .inl (cT 0, 48, .inl f1u2)), (pt, .inr (4, [.ref ptw, .int n1u4, .int b1u3])), (ptw, .inl (cT 0, 48, .inl f1u4))]) [2, 3, 6, 7] rfl) hK (hD.sub (ws' := [(sd, .inr (4, [.ref sdw, .int n1u2, .int b1u1])), (sdw, .inl (cT 0, 48, .inl f1u2)), (pt, .inr (4, [.ref ptw, .int n1u4, .int b1u3])), (ptw, .inl (cT 0, 48, .inl f1u4))]) [2, 3, 6, 7] (by decide) rfl) rfl rfl) rfl rfl hl.1 rfl (lv_room (Nat.le_of_ble_eq_true rfl)) dR_setToSides_31 ⟨Nat.le_of_ble_eq_true rfl, Nat.le_of_ble_eq_true rfl⟩) (fun u9 H locs hpu5 hP hD hS => ?_)
  obtain ⟨n1u5, b1u5, f1u5⟩ := u9
  have hpu5 : WN 48 n1u5 b1u5 f1u5 ((zl * zl * (ur : Int)) + (zr * zr * (ul : Int))) := hpu5
  have hP : va_P D vwCl [(lf, .inr (4, [.ref lfw, .int lfn, .int lfb])), (lfw, .inl (cT 0, 24, .inl lff)), (rt, .inr (4, [.ref rtw, .int rtn, .int rtb])), (rtw, .inl (cT 0, 24, .inl rtf)), (sd, .inr (4, [.ref sdw, .int n1u5, .int b1u5])), (sdw, .inl (cT 0, 48, .inl f1u5)), (pt, .inr (4, [.ref ptw, .int n1u4, .int b1u3])), (ptw, .inl (cT 0, 48, .inl f1u4))] _ := hP
  have hD : va_D A [(lf, .inr (4, [.ref lfw, .int lfn, .int lfb])), (lfw, .inl (cT 0, 24, .inl lff)), (rt, .inr (4, [.ref rtw, .int rtn, .int rtb])), (rtw, .inl (cT 0, 24, .inl rtf)), (sd, .inr (4, [.ref sdw, .int n1u5, .int b1u5])), (sdw, .inl (cT 0, 48, .inl f1u5)), (pt, .inr (4, [.ref ptw, .int n1u4, .int b1u3])), (ptw, .inl (cT 0, 48, .inl f1u4))] := hD
  have hP9 := hP.sub (ws' := [(sd, .inr (4, [.ref sdw, .int n1u5, .int b1u5])), (sdw, .inl (cT 0, 48, .inl f1u5)), (lf, .inr (4, [.ref lfw, .int lfn, .int lfb])), (lfw, .inl (cT 0, 24, .inl lff)), (rt, .inr (4, [.ref rtw, .int rtn, .int rtb])), (rtw, .inl (cT 0, 24, .inl rtf)), (pt, .inr (4, [.ref ptw, .int n1u4, .int b1u3])), (ptw, .inl (cT 0, 48, .inl f1u4))]) [4, 5, 0, 1, 2, 3, 6, 7] rfl
  have hD9 := hD.sub (ws' := [(sd, .inr (4, [.ref sdw, .int n1u5, .int b1u5])), (sdw, .inl (cT 0, 48, .inl f1u5)), (lf, .inr (4, [.ref lfw, .int lfn, .int lfb])), (lfw, .inl (cT 0, 24, .inl lff)), (rt, .inr (4, [.ref rtw, .int rtn, .int rtb])), (rtw, .inl (cT 0, 24, .inl rtf)), (pt, .inr (4, [.ref ptw, .int n1u4, .int b1u3])), (ptw, .inl (cT 0, 48, .inl f1u4))]) [4, 5, 0, 1, 2, 3, 6, 7] (by decide) rfl
  refine W.widen (k := 0) (n := 0) (Nat.le_of_ble_eq_true rfl) (Nat.le_of_ble_eq_true rfl) ?_
  exact W.vret hx hb hr (fun t9 ht9 hW9 => ⟨⟨(n1u5, b1u5, f1u5, n1u4, b1u3, f1u4), rfl, (show WN 48 n1u5 b1u5 f1u5 (wZ zl zr ul ur) ∧ WN 48 n1u4 b1u3 f1u4 (zr * zr * (ul : Int)) from ⟨hpu5, s4N⟩), by rw [ht9]; exact hP9, hD9⟩, hS.F ht9⟩) hS.2.2 dR_setToSides_34
