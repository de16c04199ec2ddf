set_option maxHeartbeats 4000000 in
set_option maxRecDepth 100000 in
theorem k_alAdd3N0 (l : Launch) (D : va_G) (cT : Nat → ClassId) (tE : Nat) (mE : Nat) (h : Nat) (md : Int32) (v : Nat) (v1 : Int32) (v2 : Int32) (v3 : Int32) (v4 : Int32) (v5 : Int32) (v6 : Int32) (v7 : Int32) (v8 : Int32) (v9 : Nat) (sz : Nat) : Met l yAL_add3 WAL_add3 ({ frames := 3, cells := 1, slots := 10, locals := 64 } : Room) (RWE tE mE D vwCl [.ref h, .ref v, .ref tE, .int (nI 0)] [(h, .inr (12, [.ref tE, .int (nI 0), .int md])), (v, .inr (10, [.int v1, .int v2, .int v3, .int v4, .int v5, .int v6, .int v7, .int v8, .ref v9]))] (TY cT) sz) (va_Qv (fun u9 : Nat => True) (BW D vwCl (va_A [(h, .inr (12, [.ref tE, .int (nI 0), .int md])), (v, .inr (10, [.int v1, .int v2, .int v3, .int v4, .int v5, .int v6, .int v7, .int v8, .ref v9]))] sz) (fun u9 : Nat => [(h, .inr (12, [.ref u9, .int (nI (0 + 1)), .int md])), (u9, .inl (cT 7, 10, .inr (.inr (.inr (.inr (va_up (fun _ => none) 0 (some v))))))), (v, .inr (10, [.int v1, .int v2, .int v3, .int v4, .int v5, .int v6, .int v7, .int v8, .ref v9]))])) (va_A [(h, .inr (12, [.ref tE, .int (nI 0), .int md])), (v, .inr (10, [.int v1, .int v2, .int v3, .int v4, .int v5, .int v6, .int v7, .int v8, .ref v9]))] sz)) 1 10 (va_A [(h, .inr (12, [.ref tE, .int (nI 0), .int md])), (v, .inr (10, [.int v1, .int v2, .int v3, .int v4, .int v5, .int v6, .int v7, .int v8, .ref v9]))] sz) := by
  refine Met.ofW (cc := cAL_add3) (maxL := 4) (ret := none) (by decide) rfl ?_
  intro p e s m args below meth c s₁ B hml hv
  obtain ⟨rfl, ⟨hsz, hZ, hP, hK, hD0⟩, hE0⟩ := hv
  have hx := B.exec
  have hb := B.bytes
  have hr := B.returns
  have hts := atoms_spec (ws := WAL_add3) B.pre
  have hT : ∀ w ∈ TB, w.before _ s = true := fun w h => hts w (List.mem_cons_of_mem _ h)
  have hown : s.vm.findClass R_AL = some m.cls := findClass_of_methodNamed B.named
  have hlocks := B.notSynchronized
  subst hsz
  have hD := hD0.self (sz := s.heap.size)
  generalize hAe : va_A [(h, .inr (12, [.ref tE, .int (nI 0), .int md])), (v, .inr (10, [.int v1, .int v2, .int v3, .int v4, .int v5, .int v6, .int v7, .int v8, .ref v9]))] s.heap.size = A at hD hZ hE0 ⊢
  have hA : ∀ q : Nat, s.heap.size ≤ q → A q := fun q h => by rw [← hAe]; exact Or.inr h
  have hS : va_S A s.heap s.heap [] := va_S.rf
  have hl := lv_entry ([.ref h, .ref v, .ref tE, .int (nI 0)]) (n := 4) (Nat.le_of_ble_eq_true rfl)
  rw [lg_entry_eq]
  generalize (lg_sl ([.ref h, .ref v, .ref tE, .int (nI 0)]) ++ List.replicate (4 - (lg_sl ([.ref h, .ref v, .ref tE, .int (nI 0)])).length) Slot.unset).toArray = ls at hl ⊢
  have hl : lv_has ls 4 [(0, .ref h), (1, .ref v), (2, .ref tE), (3, .int (nI 0))] := hl
  refine lv_iload_n hx hb dAL_add3_0 rfl (lv_at hl 3 rfl) ?_
  refine lv_aload_n hx hb dAL_add3_1 rfl (lv_at hl 2 rfl) ?_
  refine va_tlen (v := 0) hx hb hE0.2.1 hS rfl dAL_add3_2 ?_
  refine lv_icmp_ne (tgt := 11) hx hb dAL_add3_3 rfl (fun h1 => absurd (by decide) h1) (fun _ => ?_)
  refine lv_aload_n hx hb dAL_add3_6 rfl (lv_at hl 0 rfl) ?_
  refine rx_r (wc := [(h, .inr (12, [.ref tE, .int (nI 0), .int md]))]) (wr := [(v, .inr (10, [.int v1, .int v2, .int v3, .int v4, .int v5, .int v6, .int v7, .int v8, .ref v9]))]) hP hD hS hA [0] [1] rfl rfl (by decide) (by decide) (va_runV (As := []) (rest := []) ⟨hx, hb, hml, hown, hT⟩ (k_alGrow0 l D cT tE mE h md _) ⟨callB_of 0 hT (tb_gd w765) rfl rfl rfl (hT _ w11) (hT _ w762) hAL_grow ⟨Nat.le_of_ble_eq_true rfl, Nat.le_of_ble_eq_true rfl⟩, (hT _ w764), (hT _ wp10)⟩ (RWE.preV (ci := 12) (q0 := 0) hE0 hZ hS (va_free (wc := [(h, .inr (12, [.ref tE, .int (nI 0), .int md]))]) hD hS hA [0] rfl) (hP.sub (ws' := [(h, .inr (12, [.ref tE, .int (nI 0), .int md]))]) [0] rfl) hK (hD.sub (ws' := [(h, .inr (12, [.ref tE, .int (nI 0), .int md]))]) [0] (by decide) rfl) rfl rfl) rfl rfl hl.1 rfl (lv_room (Nat.le_of_ble_eq_true rfl)) dAL_add3_7 ⟨Nat.le_of_ble_eq_true rfl, Nat.le_of_ble_eq_true rfl⟩) (fun u9 H locs hpu2 hP hD hS => ?_)
  obtain ⟨nqu2, rfl⟩ : ∃ q9, q9 = u9 := ⟨_, rfl⟩
  have hpu2 : True := hpu2
  have hP : va_P D vwCl [(v, .inr (10, [.int v1, .int v2, .int v3, .int v4, .int v5, .int v6, .int v7, .int v8, .ref v9])), (h, .inr (12, [.ref nqu2, .int (nI 0), .int md])), (nqu2, .inl (cT 7, 10, .inr (.inr (.inr (.inr (fun _ => none))))))] _ := hP
  have hD : va_D A [(v, .inr (10, [.int v1, .int v2, .int v3, .int v4, .int v5, .int v6, .int v7, .int v8, .ref v9])), (h, .inr (12, [.ref nqu2, .int (nI 0), .int md])), (nqu2, .inl (cT 7, 10, .inr (.inr (.inr (.inr (fun _ => none))))))] := hD
  refine W.eq (g2 := F0 m 10 ls [.ref nqu2]) rfl ?_
  refine lv_astore_n hx hb dAL_add3_10 rfl hl (by decide) rfl (fun ls hl => ?_)
  have hl : lv_has ls 4 [(2, .ref nqu2), (0, .ref h), (1, .ref v), (3, .int (nI 0))] := hl
  refine lv_aload_n hx hb dAL_add3_11 rfl (lv_at hl 0 rfl) ?_
  refine lv_iload_n hx hb dAL_add3_12 rfl (lv_at hl 3 rfl) ?_
  refine lv_aload_n hx hb dAL_add3_13 rfl (lv_at hl 2 rfl) ?_
  refine va_astqO (E := "java/lang/Object") hx hb hK hP hD hS 2 7 0 10 rfl rfl (by exact hZ.1.1 ("ResidualTrees$Node", "java/lang/Object") (List.mem_of_getElem? (i := 15) rfl)) rfl rfl (vp_in_nI (n := 0) (by decide) (by decide)) dAL_add3_14 (fun H locs hP hD hS => ?_)
  rw [nI_clamp (by omega)] at hP hD
  have hP : va_P D vwCl [(v, .inr (10, [.int v1, .int v2, .int v3, .int v4, .int v5, .int v6, .int v7, .int v8, .ref v9])), (h, .inr (12, [.ref nqu2, .int (nI 0), .int md])), (nqu2, .inl (cT 7, 10, .inr (.inr (.inr (.inr (va_up (fun _ => none) 0 (some v)))))))] _ := hP
  have hD : va_D A [(v, .inr (10, [.int v1, .int v2, .int v3, .int v4, .int v5, .int v6, .int v7, .int v8, .ref v9])), (h, .inr (12, [.ref nqu2, .int (nI 0), .int md])), (nqu2, .inl (cT 7, 10, .inr (.inr (.inr (.inr (va_up (fun _ => none) 0 (some v)))))))] := hD
  refine lv_aload_n hx hb dAL_add3_15 rfl (lv_at hl 1 rfl) ?_
  refine lv_iload_n hx hb dAL_add3_16 rfl (lv_at hl 3 rfl) ?_
  refine lv_iconst (v := 1) hx hb dAL_add3_17 (by decide) ?_
  refine lv_iadd hx hb dAL_add3_18 ?_
  refine lv_topi (fun y9 e9 => ?_)
  cases (show y9 = nI (0 + 1) from e9.trans (nI_add 0 1))
  refine va_put (D := D) (ci := 12) (v := .int (nI (0 + 1))) (ty := .int) (C := R_AL) (T := T_AL) (N := 3) hx hb hT in_AL ty_AL ty_AL_ok m_AL hown hK hP hD hS 1 rfl rfl 1 (by decide) (hT _ w269) (fun _ h9 => h9) rfl (by decide +kernel) rfl rfl (Nat.le_of_ble_eq_true rfl) dAL_add3_19 (fun H locs hP hD hS => ?_)
  have hP : va_P D vwCl [(v, .inr (10, [.int v1, .int v2, .int v3, .int v4, .int v5, .int v6, .int v7, .int v8, .ref v9])), (h, .inr (12, [.ref nqu2, .int (nI (0 + 1)), .int md])), (nqu2, .inl (cT 7, 10, .inr (.inr (.inr (.inr (va_up (fun _ => none) 0 (some v)))))))] _ := hP
  have hD : va_D A [(v, .inr (10, [.int v1, .int v2, .int v3, .int v4, .int v5, .int v6, .int v7, .int v8, .ref v9])), (h, .inr (12, [.ref nqu2, .int (nI (0 + 1)), .int md])), (nqu2, .inl (cT 7, 10, .inr (.inr (.inr (.inr (va_up (fun _ => none) 0 (some v)))))))] := hD
  have hP9 := hP.sub (ws' := [(h, .inr (12, [.ref nqu2, .int (nI (0 + 1)), .int md])), (nqu2, .inl (cT 7, 10, .inr (.inr (.inr (.inr (va_up (fun _ => none) 0 (some v))))))), (v, .inr (10, [.int v1, .int v2, .int v3, .int v4, .int v5, .int v6, .int v7, .int v8, .ref v9]))]) [1, 2, 0] rfl
  have hD9 := hD.sub (ws' := [(h, .inr (12, [.ref nqu2, .int (nI (0 + 1)), .int md])), (nqu2, .inl (cT 7, 10, .inr (.inr (.inr (.inr (va_up (fun _ => none) 0 (some v))))))), (v, .inr (10, [.int v1, .int v2, .int v3, .int v4, .int v5, .int v6, .int v7, .int v8, .ref v9]))]) [1, 2, 0] (by decide) rfl
  refine W.widen (k := 1) (n := 10) (Nat.le_of_ble_eq_true rfl) (Nat.le_of_ble_eq_true rfl) ?_
  exact W.vret hx hb hr (fun t9 ht9 hW9 => ⟨⟨nqu2, rfl, (show True from trivial), by rw [ht9]; exact hP9, hD9⟩, hS.F ht9⟩) hS.2.2 dAL_add3_22
set_option maxHeartbeats 4000000 in
set_option maxRecDepth 100000 in
theorem k_alAdd3N10 (l : Launch) (D : va_G) (cT : Nat → ClassId) (cds : List Nat) (ad : Nat → Nat) (gg : Nat → Option va_E) (tE : Nat) (mE : Nat) (h : Nat) (md : Int32) (le : Nat) (lf : Nat → Option Nat) (bs : Nat) (v : Nat) (v1 : Int32) (v2 : Int32) (v3 : Int32) (v4 : Int32) (v5 : Int32) (v6 : Int32) (v7 : Int32) (v8 : Int32) (v9 : Nat) (hcd : CD cds) (hel : ∀ k8, k8 < 10 → ∃ fs8 : List Value, bs + k8 < 8192 ∧ lf k8 = some (ad (bs + k8)) ∧ gg (bs + k8) = some (.inr (10, fs8))) (sz : Nat) : Met l yAL_add3 WAL_add3 ({ frames := 5, cells := 1, slots := 15, locals := 127 } : Room) (RWE tE mE D vwCl [.ref h, .ref v, .ref le, .int (nI 10)] ([(h, .inr (12, [.ref le, .int (nI 10), .int md])), (le, .inl (cT 7, 10, .inr (.inr (.inr (.inr lf))))), (v, .inr (10, [.int v1, .int v2, .int v3, .int v4, .int v5, .int v6, .int v7, .int v8, .ref v9]))] ++ pg cds ad gg) (TY cT) sz) (va_Qv (fun u9 : Nat => True) (BW D vwCl (va_A ([(h, .inr (12, [.ref le, .int (nI 10), .int md])), (le, .inl (cT 7, 10, .inr (.inr (.inr (.inr lf))))), (v, .inr (10, [.int v1, .int v2, .int v3, .int v4, .int v5, .int v6, .int v7, .int v8, .ref v9]))] ++ pg cds ad gg) sz) (fun u9 : Nat => ([(h, .inr (12, [.ref u9, .int (nI (10 + 1)), .int md])), (u9, .inl (cT 7, 15, .inr (.inr (.inr (.inr (va_up (va_cpy lf (fun _ => none) 0 0 10) 10 (some v))))))), (v, .inr (10, [.int v1, .int v2, .int v3, .int v4, .int v5, .int v6, .int v7, .int v8, .ref v9]))] ++ pg cds ad gg))) (va_A ([(h, .inr (12, [.ref le, .int (nI 10), .int md])), (le, .inl (cT 7, 10, .inr (.inr (.inr (.inr lf))))), (v, .inr (10, [.int v1, .int v2, .int v3, .int v4, .int v5, .int v6, .int v7, .int v8, .ref v9]))] ++ pg cds ad gg) sz)) 1 15 (va_A ([(h, .inr (12, [.ref le, .int (nI 10), .int md])), (le, .inl (cT 7, 10, .inr (.inr (.inr (.inr lf))))), (v, .inr (10, [.int v1, .int v2, .int v3, .int v4, .int v5, .int v6, .int v7, .int v8, .ref v9]))] ++ pg cds ad gg) sz) := by
  refine Met.ofW (cc := cAL_add3) (maxL := 4) (ret := none) (by decide) rfl ?_
  intro p e s m args below meth c s₁ B hml hv
  obtain ⟨rfl, ⟨hsz, hZ, hP, hK, hD0⟩, hE0⟩ := hv
  have hx := B.exec
  have hb := B.bytes
  have hr := B.returns
  have hts := atoms_spec (ws := WAL_add3) B.pre
  have hT : ∀ w ∈ TB, w.before _ s = true := fun w h => hts w (List.mem_cons_of_mem _ h)
  have hown : s.vm.findClass R_AL = some m.cls := findClass_of_methodNamed B.named
  have hlocks := B.notSynchronized
  subst hsz
  have hD := hD0.self (sz := s.heap.size)
  generalize hAe : va_A ([(h, .inr (12, [.ref le, .int (nI 10), .int md])), (le, .inl (cT 7, 10, .inr (.inr (.inr (.inr lf))))), (v, .inr (10, [.int v1, .int v2, .int v3, .int v4, .int v5, .int v6, .int v7, .int v8, .ref v9]))] ++ pg cds ad gg) s.heap.size = A at hD hZ hE0 ⊢
  have hA : ∀ q : Nat, s.heap.size ≤ q → A q := fun q h => by rw [← hAe]; exact Or.inr h
  have hS : va_S A s.heap s.heap [] := va_S.rf
  have hl := lv_entry ([.ref h, .ref v, .ref le, .int (nI 10)]) (n := 4) (Nat.le_of_ble_eq_true rfl)
  rw [lg_entry_eq]
  generalize (lg_sl ([.ref h, .ref v, .ref le, .int (nI 10)]) ++ List.replicate (4 - (lg_sl ([.ref h, .ref v, .ref le, .int (nI 10)])).length) Slot.unset).toArray = ls at hl ⊢
  have hl : lv_has ls 4 [(0, .ref h), (1, .ref v), (2, .ref le), (3, .int (nI 10))] := hl
  refine lv_iload_n hx hb dAL_add3_0 rfl (lv_at hl 3 rfl) ?_
  refine lv_aload_n hx hb dAL_add3_1 rfl (lv_at hl 2 rfl) ?_
  refine va_alen (v := 10) hx hb hK hP 1 7 rfl rfl rfl dAL_add3_2 ?_
  refine lv_icmp_ne (tgt := 11) hx hb dAL_add3_3 rfl (fun h1 => absurd (by decide) h1) (fun _ => ?_)
  refine lv_aload_n hx hb dAL_add3_6 rfl (lv_at hl 0 rfl) ?_
  refine hy_rP (X := [(h, .inr (12, [.ref le, .int (nI 10), .int md])), (le, .inl (cT 7, 10, .inr (.inr (.inr (.inr lf))))), (v, .inr (10, [.int v1, .int v2, .int v3, .int v4, .int v5, .int v6, .int v7, .int v8, .ref v9]))]) (pl := pg cds ad gg) (cx := [(h, .inr (12, [.ref le, .int (nI 10), .int md])), (le, .inl (cT 7, 10, .inr (.inr (.inr (.inr lf)))))]) (wr := [(v, .inr (10, [.int v1, .int v2, .int v3, .int v4, .int v5, .int v6, .int v7, .int v8, .ref v9]))]) hP hD hS hA [0, 1] [2] rfl rfl (by decide) (by decide) (va_runV (As := []) (rest := []) ⟨hx, hb, hml, hown, hT⟩ (k_alGrowN10 l D cT cds ad gg tE mE h md le lf bs hcd hel _) ⟨callB_of 0 hT (tb_gd w765) rfl rfl rfl (hT _ w11) (hT _ w762) hAL_grow ⟨Nat.le_of_ble_eq_true rfl, Nat.le_of_ble_eq_true rfl⟩, (hT _ w764), (hT _ wp10)⟩ (RWE.preV (ci := 12) (q0 := 0) hE0 hZ hS (va_freeP (cx := [(h, .inr (12, [.ref le, .int (nI 10), .int md])), (le, .inl (cT 7, 10, .inr (.inr (.inr (.inr lf)))))]) hD hS hA [0, 1] rfl) (hP.part (cx := [(h, .inr (12, [.ref le, .int (nI 10), .int md])), (le, .inl (cT 7, 10, .inr (.inr (.inr (.inr lf)))))]) [0, 1] rfl) hK (hD.part (cx := [(h, .inr (12, [.ref le, .int (nI 10), .int md])), (le, .inl (cT 7, 10, .inr (.inr (.inr (.inr lf)))))]) [0, 1] (by decide) rfl) rfl rfl) rfl rfl hl.1 rfl (lv_room (Nat.le_of_ble_eq_true rfl)) dAL_add3_7 ⟨Nat.le_of_ble_eq_true rfl, Nat.le_of_ble_eq_true rfl⟩) (fun u9 H locs hpu2 hP hD hS => ?_)
  obtain ⟨nqu2, rfl⟩ : ∃ q9, q9 = u9 := ⟨_, rfl⟩
  have hpu2 : True := hpu2
  have hP : va_P D vwCl ([(v, .inr (10, [.int v1, .int v2, .int v3, .int v4, .int v5, .int v6, .int v7, .int v8, .ref v9])), (h, .inr (12, [.ref nqu2, .int (nI 10), .int md])), (le, .inl (cT 7, 10, .inr (.inr (.inr (.inr lf))))), (nqu2, .inl (cT 7, 15, .inr (.inr (.inr (.inr (va_cpy lf (fun _ => none) 0 0 10))))))] ++ pg cds ad gg) _ := hP
  have hD : va_D A ([(v, .inr (10, [.int v1, .int v2, .int v3, .int v4, .int v5, .int v6, .int v7, .int v8, .ref v9])), (h, .inr (12, [.ref nqu2, .int (nI 10), .int md])), (le, .inl (cT 7, 10, .inr (.inr (.inr (.inr lf))))), (nqu2, .inl (cT 7, 15, .inr (.inr (.inr (.inr (va_cpy lf (fun _ => none) 0 0 10))))))] ++ pg cds ad gg) := hD
  refine W.eq (g2 := F0 m 10 ls [.ref nqu2]) rfl ?_
  refine lv_astore_n hx hb dAL_add3_10 rfl hl (by decide) rfl (fun ls hl => ?_)
  have hl : lv_has ls 4 [(2, .ref nqu2), (0, .ref h), (1, .ref v), (3, .int (nI 10))] := hl
  refine lv_aload_n hx hb dAL_add3_11 rfl (lv_at hl 0 rfl) ?_
  refine lv_iload_n hx hb dAL_add3_12 rfl (lv_at hl 3 rfl) ?_
  refine lv_aload_n hx hb dAL_add3_13 rfl (lv_at hl 2 rfl) ?_
  refine va_astqO (E := "java/lang/Object") hx hb hK hP hD hS 3 7 0 10 rfl rfl (by exact hZ.1.1 ("ResidualTrees$Node", "java/lang/Object") (List.mem_of_getElem? (i := 15) rfl)) rfl rfl (vp_in_nI (n := 10) (by decide) (by decide)) dAL_add3_14 (fun H locs hP hD hS => ?_)
  rw [nI_clamp (by omega)] at hP hD
  have hP : va_P D vwCl ([(v, .inr (10, [.int v1, .int v2, .int v3, .int v4, .int v5, .int v6, .int v7, .int v8, .ref v9])), (h, .inr (12, [.ref nqu2, .int (nI 10), .int md])), (le, .inl (cT 7, 10, .inr (.inr (.inr (.inr lf))))), (nqu2, .inl (cT 7, 15, .inr (.inr (.inr (.inr (va_up (va_cpy lf (fun _ => none) 0 0 10) 10 (some v)))))))] ++ pg cds ad gg) _ := hP
  have hD : va_D A ([(v, .inr (10, [.int v1, .int v2, .int v3, .int v4, .int v5, .int v6, .int v7, .int v8, .ref v9])), (h, .inr (12, [.ref nqu2, .int (nI 10), .int md])), (le, .inl (cT 7, 10, .inr (.inr (.inr (.inr lf))))), (nqu2, .inl (cT 7, 15, .inr (.inr (.inr (.inr (va_up (va_cpy lf (fun _ => none) 0 0 10) 10 (some v)))))))] ++ pg cds ad gg) := hD
  refine lv_aload_n hx hb dAL_add3_15 rfl (lv_at hl 1 rfl) ?_
  refine lv_iload_n hx hb dAL_add3_16 rfl (lv_at hl 3 rfl) ?_
  refine lv_iconst (v := 1) hx hb dAL_add3_17 (by decide) ?_
  refine lv_iadd hx hb dAL_add3_18 ?_
  refine lv_topi (fun y9 e9 => ?_)
  cases (show y9 = nI (10 + 1) from e9.trans (nI_add 10 1))
  refine va_put (D := D) (ci := 12) (v := .int (nI (10 + 1))) (ty := .int) (C := R_AL) (T := T_AL) (N := 3) hx hb hT in_AL ty_AL ty_AL_ok m_AL hown hK hP hD hS 1 rfl rfl 1 (by decide) (hT _ w269) (fun _ h9 => h9) rfl (by decide +kernel) rfl rfl (Nat.le_of_ble_eq_true rfl) dAL_add3_19 (fun H locs hP hD hS => ?_)
  have hP : va_P D vwCl ([(v, .inr (10, [.int v1, .int v2, .int v3, .int v4, .int v5, .int v6, .int v7, .int v8, .ref v9])), (h, .inr (12, [.ref nqu2, .int (nI (10 + 1)), .int md])), (le, .inl (cT 7, 10, .inr (.inr (.inr (.inr lf))))), (nqu2, .inl (cT 7, 15, .inr (.inr (.inr (.inr (va_up (va_cpy lf (fun _ => none) 0 0 10) 10 (some v)))))))] ++ pg cds ad gg) _ := hP
  have hD : va_D A ([(v, .inr (10, [.int v1, .int v2, .int v3, .int v4, .int v5, .int v6, .int v7, .int v8, .ref v9])), (h, .inr (12, [.ref nqu2, .int (nI (10 + 1)), .int md])), (le, .inl (cT 7, 10, .inr (.inr (.inr (.inr lf))))), (nqu2, .inl (cT 7, 15, .inr (.inr (.inr (.inr (va_up (va_cpy lf (fun _ => none) 0 0 10) 10 (some v)))))))] ++ pg cds ad gg) := hD
  have hP9 : va_P D vwCl ([(h, .inr (12, [.ref nqu2, .int (nI (10 + 1)), .int md])), (nqu2, .inl (cT 7, 15, .inr (.inr (.inr (.inr (va_up (va_cpy lf (fun _ => none) 0 0 10) 10 (some v))))))), (v, .inr (10, [.int v1, .int v2, .int v3, .int v4, .int v5, .int v6, .int v7, .int v8, .ref v9]))] ++ pg cds ad gg) _ := hP.part (cx := [(h, .inr (12, [.ref nqu2, .int (nI (10 + 1)), .int md])), (nqu2, .inl (cT 7, 15, .inr (.inr (.inr (.inr (va_up (va_cpy lf (fun _ => none) 0 0 10) 10 (some v))))))), (v, .inr (10, [.int v1, .int v2, .int v3, .int v4, .int v5, .int v6, .int v7, .int v8, .ref v9]))]) [1, 3, 0] rfl
  have hD9 : va_D A ([(h, .inr (12, [.ref nqu2, .int (nI (10 + 1)), .int md])), (nqu2, .inl (cT 7, 15, .inr (.inr (.inr (.inr (va_up (va_cpy lf (fun _ => none) 0 0 10) 10 (some v))))))), (v, .inr (10, [.int v1, .int v2, .int v3, .int v4, .int v5, .int v6, .int v7, .int v8, .ref v9]))] ++ pg cds ad gg) := hD.part (cx := [(h, .inr (12, [.ref nqu2, .int (nI (10 + 1)), .int md])), (nqu2, .inl (cT 7, 15, .inr (.inr (.inr (.inr (va_up (va_cpy lf (fun _ => none) 0 0 10) 10 (some v))))))), (v, .inr (10, [.int v1, .int v2, .int v3, .int v4, .int v5, .int v6, .int v7, .int v8, .ref v9]))]) [1, 3, 0] (by decide) rfl
  refine W.widen (k := 1) (n := 15) (Nat.le_of_ble_eq_true rfl) (Nat.le_of_ble_eq_true rfl) ?_
  exact W.vret hx hb hr (fun t9 ht9 hW9 => ⟨⟨nqu2, rfl, (show True from trivial), by rw [ht9]; exact hP9, hD9⟩, hS.F ht9⟩) hS.2.2 dAL_add3_22
set_option maxHeartbeats 4000000 in
set_option maxRecDepth 100000 in
theorem k_alAdd3N15 (l : Launch) (D : va_G) (cT : Nat → ClassId) (cds : List Nat) (ad : Nat → Nat) (gg : Nat → Option va_E) (tE : Nat) (mE : Nat) (h : Nat) (md : Int32) (le : Nat) (lf : Nat → Option Nat) (bs : Nat) (v : Nat) (v1 : Int32) (v2 : Int32) (v3 : Int32) (v4 : Int32) (v5 : Int32) (v6 : Int32) (v7 : Int32) (v8 : Int32) (v9 : Nat) (hcd : CD cds) (hel : ∀ k8, k8 < 15 → ∃ fs8 : List Value, bs + k8 < 8192 ∧ lf k8 = some (ad (bs + k8)) ∧ gg (bs + k8) = some (.inr (10, fs8))) (sz : Nat) : Met l yAL_add3 WAL_add3 ({ frames := 5, cells := 1, slots := 22, locals := 127 } : Room) (RWE tE mE D vwCl [.ref h, .ref v, .ref le, .int (nI 15)] ([(h, .inr (12, [.ref le, .int (nI 15), .int md])), (le, .inl (cT 7, 15, .inr (.inr (.inr (.inr lf))))), (v, .inr (10, [.int v1, .int v2, .int v3, .int v4, .int v5, .int v6, .int v7, .int v8, .ref v9]))] ++ pg cds ad gg) (TY cT) sz) (va_Qv (fun u9 : Nat => True) (BW D vwCl (va_A ([(h, .inr (12, [.ref le, .int (nI 15), .int md])), (le, .inl (cT 7, 15, .inr (.inr (.inr (.inr lf))))), (v, .inr (10, [.int v1, .int v2, .int v3, .int v4, .int v5, .int v6, .int v7, .int v8, .ref v9]))] ++ pg cds ad gg) sz) (fun u9 : Nat => ([(h, .inr (12, [.ref u9, .int (nI (15 + 1)), .int md])), (u9, .inl (cT 7, 22, .inr (.inr (.inr (.inr (va_up (va_cpy lf (fun _ => none) 0 0 15) 15 (some v))))))), (v, .inr (10, [.int v1, .int v2, .int v3, .int v4, .int v5, .int v6, .int v7, .int v8, .ref v9]))] ++ pg cds ad gg))) (va_A ([(h, .inr (12, [.ref le, .int (nI 15), .int md])), (le, .inl (cT 7, 15, .inr (.inr (.inr (.inr lf))))), (v, .inr (10, [.int v1, .int v2, .int v3, .int v4, .int v5, .int v6, .int v7, .int v8, .ref v9]))] ++ pg cds ad gg) sz)) 1 22 (va_A ([(h, .inr (12, [.ref le, .int (nI 15), .int md])), (le, .inl (cT 7, 15, .inr (.inr (.inr (.inr lf))))), (v, .inr (10, [.int v1, .int v2, .int v3, .int v4, .int v5, .int v6, .int v7, .int v8, .ref v9]))] ++ pg cds ad gg) sz) := by
  refine Met.ofW (cc := cAL_add3) (maxL := 4) (ret := none) (by decide) rfl ?_
  intro p e s m args below meth c s₁ B hml hv
  obtain ⟨rfl, ⟨hsz, hZ, hP, hK, hD0⟩, hE0⟩ := hv
  have hx := B.exec
  have hb := B.bytes
  have hr := B.returns
  have hts := atoms_spec (ws := WAL_add3) B.pre
  have hT : ∀ w ∈ TB, w.before _ s = true := fun w h => hts w (List.mem_cons_of_mem _ h)
  have hown : s.vm.findClass R_AL = some m.cls := findClass_of_methodNamed B.named
  have hlocks := B.notSynchronized
  subst hsz
  have hD := hD0.self (sz := s.heap.size)
  generalize hAe : va_A ([(h, .inr (12, [.ref le, .int (nI 15), .int md])), (le, .inl (cT 7, 15, .inr (.inr (.inr (.inr lf))))), (v, .inr (10, [.int v1, .int v2, .int v3, .int v4, .int v5, .int v6, .int v7, .int v8, .ref v9]))] ++ pg cds ad gg) s.heap.size = A at hD hZ hE0 ⊢
  have hA : ∀ q : Nat, s.heap.size ≤ q → A q := fun q h => by rw [← hAe]; exact Or.inr h
  have hS : va_S A s.heap s.heap [] := va_S.rf
  have hl := lv_entry ([.ref h, .ref v, .ref le, .int (nI 15)]) (n := 4) (Nat.le_of_ble_eq_true rfl)
  rw [lg_entry_eq]
  generalize (lg_sl ([.ref h, .ref v, .ref le, .int (nI 15)]) ++ List.replicate (4 - (lg_sl ([.ref h, .ref v, .ref le, .int (nI 15)])).length) Slot.unset).toArray = ls at hl ⊢
  have hl : lv_has ls 4 [(0, .ref h), (1, .ref v), (2, .ref le), (3, .int (nI 15))] := hl
  refine lv_iload_n hx hb dAL_add3_0 rfl (lv_at hl 3 rfl) ?_
  refine lv_aload_n hx hb dAL_add3_1 rfl (lv_at hl 2 rfl) ?_
  refine va_alen (v := 15) hx hb hK hP 1 7 rfl rfl rfl dAL_add3_2 ?_
  refine lv_icmp_ne (tgt := 11) hx hb dAL_add3_3 rfl (fun h1 => absurd (by decide) h1) (fun _ => ?_)
  refine lv_aload_n hx hb dAL_add3_6 rfl (lv_at hl 0 rfl) ?_
  refine hy_rP (X := [(h, .inr (12, [.ref le, .int (nI 15), .int md])), (le, .inl (cT 7, 15, .inr (.inr (.inr (.inr lf))))), (v, .inr (10, [.int v1, .int v2, .int v3, .int v4, .int v5, .int v6, .int v7, .int v8, .ref v9]))]) (pl := pg cds ad gg) (cx := [(h, .inr (12, [.ref le, .int (nI 15), .int md])), (le, .inl (cT 7, 15, .inr (.inr (.inr (.inr lf)))))]) (wr := [(v, .inr (10, [.int v1, .int v2, .int v3, .int v4, .int v5, .int v6, .int v7, .int v8, .ref v9]))]) hP hD hS hA [0, 1] [2] rfl rfl (by decide) (by decide) (va_runV (As := []) (rest := []) ⟨hx, hb, hml, hown, hT⟩ (k_alGrowN15 l D cT cds ad gg tE mE h md le lf bs hcd hel _) ⟨callB_of 0 hT (tb_gd w765) rfl rfl rfl (hT _ w11) (hT _ w762) hAL_grow ⟨Nat.le_of_ble_eq_true rfl, Nat.le_of_ble_eq_true rfl⟩, (hT _ w764), (hT _ wp10)⟩ (RWE.preV (ci := 12) (q0 := 0) hE0 hZ hS (va_freeP (cx := [(h, .inr (12, [.ref le, .int (nI 15), .int md])), (le, .inl (cT 7, 15, .inr (.inr (.inr (.inr lf)))))]) hD hS hA [0, 1] rfl) (hP.part (cx := [(h, .inr (12, [.ref le, .int (nI 15), .int md])), (le, .inl (cT 7, 15, .inr (.inr (.inr (.inr lf)))))]) [0, 1] rfl) hK (hD.part (cx := [(h, .inr (12, [.ref le, .int (nI 15), .int md])), (le, .inl (cT 7, 15, .inr (.inr (.inr (.inr lf)))))]) [0, 1] (by decide) rfl) rfl rfl) rfl rfl hl.1 rfl (lv_room (Nat.le_of_ble_eq_true rfl)) dAL_add3_7 ⟨Nat.le_of_ble_eq_true rfl, Nat.le_of_ble_eq_true rfl⟩) (fun u9 H locs hpu2 hP hD hS => ?_)
  obtain ⟨nqu2, rfl⟩ : ∃ q9, q9 = u9 := ⟨_, rfl⟩
  have hpu2 : True := hpu2
  have hP : va_P D vwCl ([(v, .inr (10, [.int v1, .int v2, .int v3, .int v4, .int v5, .int v6, .int v7, .int v8, .ref v9])), (h, .inr (12, [.ref nqu2, .int (nI 15), .int md])), (le, .inl (cT 7, 15, .inr (.inr (.inr (.inr lf))))), (nqu2, .inl (cT 7, 22, .inr (.inr (.inr (.inr (va_cpy lf (fun _ => none) 0 0 15))))))] ++ pg cds ad gg) _ := hP
  have hD : va_D A ([(v, .inr (10, [.int v1, .int v2, .int v3, .int v4, .int v5, .int v6, .int v7, .int v8, .ref v9])), (h, .inr (12, [.ref nqu2, .int (nI 15), .int md])), (le, .inl (cT 7, 15, .inr (.inr (.inr (.inr lf))))), (nqu2, .inl (cT 7, 22, .inr (.inr (.inr (.inr (va_cpy lf (fun _ => none) 0 0 15))))))] ++ pg cds ad gg) := hD
  refine W.eq (g2 := F0 m 10 ls [.ref nqu2]) rfl ?_
  refine lv_astore_n hx hb dAL_add3_10 rfl hl (by decide) rfl (fun ls hl => ?_)
  have hl : lv_has ls 4 [(2, .ref nqu2), (0, .ref h), (1, .ref v), (3, .int (nI 15))] := hl
  refine lv_aload_n hx hb dAL_add3_11 rfl (lv_at hl 0 rfl) ?_
  refine lv_iload_n hx hb dAL_add3_12 rfl (lv_at hl 3 rfl) ?_
  refine lv_aload_n hx hb dAL_add3_13 rfl (lv_at hl 2 rfl) ?_
  refine va_astqO (E := "java/lang/Object") hx hb hK hP hD hS 3 7 0 10 rfl rfl (by exact hZ.1.1 ("ResidualTrees$Node", "java/lang/Object") (List.mem_of_getElem? (i := 15) rfl)) rfl rfl (vp_in_nI (n := 15) (by decide) (by decide)) dAL_add3_14 (fun H locs hP hD hS => ?_)
  rw [nI_clamp (by omega)] at hP hD
  have hP : va_P D vwCl ([(v, .inr (10, [.int v1, .int v2, .int v3, .int v4, .int v5, .int v6, .int v7, .int v8, .ref v9])), (h, .inr (12, [.ref nqu2, .int (nI 15), .int md])), (le, .inl (cT 7, 15, .inr (.inr (.inr (.inr lf))))), (nqu2, .inl (cT 7, 22, .inr (.inr (.inr (.inr (va_up (va_cpy lf (fun _ => none) 0 0 15) 15 (some v)))))))] ++ pg cds ad gg) _ := hP
  have hD : va_D A ([(v, .inr (10, [.int v1, .int v2, .int v3, .int v4, .int v5, .int v6, .int v7, .int v8, .ref v9])), (h, .inr (12, [.ref nqu2, .int (nI 15), .int md])), (le, .inl (cT 7, 15, .inr (.inr (.inr (.inr lf))))), (nqu2, .inl (cT 7, 22, .inr (.inr (.inr (.inr (va_up (va_cpy lf (fun _ => none) 0 0 15) 15 (some v)))))))] ++ pg cds ad gg) := hD
  refine lv_aload_n hx hb dAL_add3_15 rfl (lv_at hl 1 rfl) ?_
  refine lv_iload_n hx hb dAL_add3_16 rfl (lv_at hl 3 rfl) ?_
  refine lv_iconst (v := 1) hx hb dAL_add3_17 (by decide) ?_
  refine lv_iadd hx hb dAL_add3_18 ?_
  refine lv_topi (fun y9 e9 => ?_)
  cases (show y9 = nI (15 + 1) from e9.trans (nI_add 15 1))
  refine va_put (D := D) (ci := 12) (v := .int (nI (15 + 1))) (ty := .int) (C := R_AL) (T := T_AL) (N := 3) hx hb hT in_AL ty_AL ty_AL_ok m_AL hown hK hP hD hS 1 rfl rfl 1 (by decide) (hT _ w269) (fun _ h9 => h9) rfl (by decide +kernel) rfl rfl (Nat.le_of_ble_eq_true rfl) dAL_add3_19 (fun H locs hP hD hS => ?_)
  have hP : va_P D vwCl ([(v, .inr (10, [.int v1, .int v2, .int v3, .int v4, .int v5, .int v6, .int v7, .int v8, .ref v9])), (h, .inr (12, [.ref nqu2, .int (nI (15 + 1)), .int md])), (le, .inl (cT 7, 15, .inr (.inr (.inr (.inr lf))))), (nqu2, .inl (cT 7, 22, .inr (.inr (.inr (.inr (va_up (va_cpy lf (fun _ => none) 0 0 15) 15 (some v)))))))] ++ pg cds ad gg) _ := hP
  have hD : va_D A ([(v, .inr (10, [.int v1, .int v2, .int v3, .int v4, .int v5, .int v6, .int v7, .int v8, .ref v9])), (h, .inr (12, [.ref nqu2, .int (nI (15 + 1)), .int md])), (le, .inl (cT 7, 15, .inr (.inr (.inr (.inr lf))))), (nqu2, .inl (cT 7, 22, .inr (.inr (.inr (.inr (va_up (va_cpy lf (fun _ => none) 0 0 15) 15 (some v)))))))] ++ pg cds ad gg) := hD
  have hP9 : va_P D vwCl ([(h, .inr (12, [.ref nqu2, .int (nI (15 + 1)), .int md])), (nqu2, .inl (cT 7, 22, .inr (.inr (.inr (.inr (va_up (va_cpy lf (fun _ => none) 0 0 15) 15 (some v))))))), (v, .inr (10, [.int v1, .int v2, .int v3, .int v4, .int v5, .int v6, .int v7, .int v8, .ref v9]))] ++ pg cds ad gg) _ := hP.part (cx := [(h, .inr (12, [.ref nqu2, .int (nI (15 + 1)), .int md])), (nqu2, .inl (cT 7, 22, .inr (.inr (.inr (.inr (va_up (va_cpy lf (fun _ => none) 0 0 15) 15 (some v))))))), (v, .inr (10, [.int v1, .int v2, .int v3, .int v4, .int v5, .int v6, .int v7, .int v8, .ref v9]))]) [1, 3, 0] rfl
  have hD9 : va_D A ([(h, .inr (12, [.ref nqu2, .int (nI (15 + 1)), .int md])), (nqu2, .inl (cT 7, 22, .inr (.inr (.inr (.inr (va_up (va_cpy lf (fun _ => none) 0 0 15) 15 (some v))))))), (v, .inr (10, [.int v1, .int v2, .int v3, .int v4, .int v5, .int v6, .int v7, .int v8, .ref v9]))] ++ pg cds ad gg) := hD.part (cx := [(h, .inr (12, [.ref nqu2, .int (nI (15 + 1)), .int md])), (nqu2, .inl (cT 7, 22, .inr (.inr (.inr (.inr (va_up (va_cpy lf (fun _ => none) 0 0 15) 15 (some v))))))), (v, .inr (10, [.int v1, .int v2, .int v3, .int v4, .int v5, .int v6, .int v7, .int v8, .ref v9]))]) [1, 3, 0] (by decide) rfl
  refine W.widen (k := 1) (n := 22) (Nat.le_of_ble_eq_true rfl) (Nat.le_of_ble_eq_true rfl) ?_
  exact W.vret hx hb hr (fun t9 ht9 hW9 => ⟨⟨nqu2, rfl, (show True from trivial), by rw [ht9]; exact hP9, hD9⟩, hS.F ht9⟩) hS.2.2 dAL_add3_22
set_option maxHeartbeats 4000000 in
set_option maxRecDepth 100000 in
theorem k_alAdd3N22 (l : Launch) (D : va_G) (cT : Nat → ClassId) (cds : List Nat) (ad : Nat → Nat) (gg : Nat → Option va_E) (tE : Nat) (mE : Nat) (h : Nat) (md : Int32) (le : Nat) (lf : Nat → Option Nat) (bs : Nat) (v : Nat) (v1 : Int32) (v2 : Int32) (v3 : Int32) (v4 : Int32) (v5 : Int32) (v6 : Int32) (v7 : Int32) (v8 : Int32) (v9 : Nat) (hcd : CD cds) (hel : ∀ k8, k8 < 22 → ∃ fs8 : List Value, bs + k8 < 8192 ∧ lf k8 = some (ad (bs + k8)) ∧ gg (bs + k8) = some (.inr (10, fs8))) (sz : Nat) : Met l yAL_add3 WAL_add3 ({ frames := 5, cells := 1, slots := 33, locals := 127 } : Room) (RWE tE mE D vwCl [.ref h, .ref v, .ref le, .int (nI 22)] ([(h, .inr (12, [.ref le, .int (nI 22), .int md])), (le, .inl (cT 7, 22, .inr (.inr (.inr (.inr lf))))), (v, .inr (10, [.int v1, .int v2, .int v3, .int v4, .int v5, .int v6, .int v7, .int v8, .ref v9]))] ++ pg cds ad gg) (TY cT) sz) (va_Qv (fun u9 : Nat => True) (BW D vwCl (va_A ([(h, .inr (12, [.ref le, .int (nI 22), .int md])), (le, .inl (cT 7, 22, .inr (.inr (.inr (.inr lf))))), (v, .inr (10, [.int v1, .int v2, .int v3, .int v4, .int v5, .int v6, .int v7, .int v8, .ref v9]))] ++ pg cds ad gg) sz) (fun u9 : Nat => ([(h, .inr (12, [.ref u9, .int (nI (22 + 1)), .int md])), (u9, .inl (cT 7, 33, .inr (.inr (.inr (.inr (va_up (va_cpy lf (fun _ => none) 0 0 22) 22 (some v))))))), (v, .inr (10, [.int v1, .int v2, .int v3, .int v4, .int v5, .int v6, .int v7, .int v8, .ref v9]))] ++ pg cds ad gg))) (va_A ([(h, .inr (12, [.ref le, .int (nI 22), .int md])), (le, .inl (cT 7, 22, .inr (.inr (.inr (.inr lf))))), (v, .inr (10, [.int v1, .int v2, .int v3, .int v4, .int v5, .int v6, .int v7, .int v8, .ref v9]))] ++ pg cds ad gg) sz)) 1 33 (va_A ([(h, .inr (12, [.ref le, .int (nI 22), .int md])), (le, .inl (cT 7, 22, .inr (.inr (.inr (.inr lf))))), (v, .inr (10, [.int v1, .int v2, .int v3, .int v4, .int v5, .int v6, .int v7, .int v8, .ref v9]))] ++ pg cds ad gg) sz) := by
  refine Met.ofW (cc := cAL_add3) (maxL := 4) (ret := none) (by decide) rfl ?_
  intro p e s m args below meth c s₁ B hml hv
  obtain ⟨rfl, ⟨hsz, hZ, hP, hK, hD0⟩, hE0⟩ := hv
  have hx := B.exec
  have hb := B.bytes
  have hr := B.returns
  have hts := atoms_spec (ws := WAL_add3) B.pre
  have hT : ∀ w ∈ TB, w.before _ s = true := fun w h => hts w (List.mem_cons_of_mem _ h)
  have hown : s.vm.findClass R_AL = some m.cls := findClass_of_methodNamed B.named
  have hlocks := B.notSynchronized
  subst hsz
  have hD := hD0.self (sz := s.heap.size)
  generalize hAe : va_A ([(h, .inr (12, [.ref le, .int (nI 22), .int md])), (le, .inl (cT 7, 22, .inr (.inr (.inr (.inr lf))))), (v, .inr (10, [.int v1, .int v2, .int v3, .int v4, .int v5, .int v6, .int v7, .int v8, .ref v9]))] ++ pg cds ad gg) s.heap.size = A at hD hZ hE0 ⊢
  have hA : ∀ q : Nat, s.heap.size ≤ q → A q := fun q h => by rw [← hAe]; exact Or.inr h
  have hS : va_S A s.heap s.heap [] := va_S.rf
  have hl := lv_entry ([.ref h, .ref v, .ref le, .int (nI 22)]) (n := 4) (Nat.le_of_ble_eq_true rfl)
  rw [lg_entry_eq]
  generalize (lg_sl ([.ref h, .ref v, .ref le, .int (nI 22)]) ++ List.replicate (4 - (lg_sl ([.ref h, .ref v, .ref le, .int (nI 22)])).length) Slot.unset).toArray = ls at hl ⊢
  have hl : lv_has ls 4 [(0, .ref h), (1, .ref v), (2, .ref le), (3, .int (nI 22))] := hl
  refine lv_iload_n hx hb dAL_add3_0 rfl (lv_at hl 3 rfl) ?_
  refine lv_aload_n hx hb dAL_add3_1 rfl (lv_at hl 2 rfl) ?_
  refine va_alen (v := 22) hx hb hK hP 1 7 rfl rfl rfl dAL_add3_2 ?_
  refine lv_icmp_ne (tgt := 11) hx hb dAL_add3_3 rfl (fun h1 => absurd (by decide) h1) (fun _ => ?_)
  refine lv_aload_n hx hb dAL_add3_6 rfl (lv_at hl 0 rfl) ?_
  refine hy_rP (X := [(h, .inr (12, [.ref le, .int (nI 22), .int md])), (le, .inl (cT 7, 22, .inr (.inr (.inr (.inr lf))))), (v, .inr (10, [.int v1, .int v2, .int v3, .int v4, .int v5, .int v6, .int v7, .int v8, .ref v9]))]) (pl := pg cds ad gg) (cx := [(h, .inr (12, [.ref le, .int (nI 22), .int md])), (le, .inl (cT 7, 22, .inr (.inr (.inr (.inr lf)))))]) (wr := [(v, .inr (10, [.int v1, .int v2, .int v3, .int v4, .int v5, .int v6, .int v7, .int v8, .ref v9]))]) hP hD hS hA [0, 1] [2] rfl rfl (by decide) (by decide) (va_runV (As := []) (rest := []) ⟨hx, hb, hml, hown, hT⟩ (k_alGrowN22 l D cT cds ad gg tE mE h md le lf bs hcd hel _) ⟨callB_of 0 hT (tb_gd w765) rfl rfl rfl (hT _ w11) (hT _ w762) hAL_grow ⟨Nat.le_of_ble_eq_true rfl, Nat.le_of_ble_eq_true rfl⟩, (hT _ w764), (hT _ wp10)⟩ (RWE.preV (ci := 12) (q0 := 0) hE0 hZ hS (va_freeP (cx := [(h, .inr (12, [.ref le, .int (nI 22), .int md])), (le, .inl (cT 7, 22, .inr (.inr (.inr (.inr lf)))))]) hD hS hA [0, 1] rfl) (hP.part (cx := [(h, .inr (12, [.ref le, .int (nI 22), .int md])), (le, .inl (cT 7, 22, .inr (.inr (.inr (.inr lf)))))]) [0, 1] rfl) hK (hD.part (cx := [(h, .inr (12, [.ref le, .int (nI 22), .int md])), (le, .inl (cT 7, 22, .inr (.inr (.inr (.inr lf)))))]) [0, 1] (by decide) rfl) rfl rfl) rfl rfl hl.1 rfl (lv_room (Nat.le_of_ble_eq_true rfl)) dAL_add3_7 ⟨Nat.le_of_ble_eq_true rfl, Nat.le_of_ble_eq_true rfl⟩) (fun u9 H locs hpu2 hP hD hS => ?_)
  obtain ⟨nqu2, rfl⟩ : ∃ q9, q9 = u9 := ⟨_, rfl⟩
  have hpu2 : True := hpu2
  have hP : va_P D vwCl ([(v, .inr (10, [.int v1, .int v2, .int v3, .int v4, .int v5, .int v6, .int v7, .int v8, .ref v9])), (h, .inr (12, [.ref nqu2, .int (nI 22), .int md])), (le, .inl (cT 7, 22, .inr (.inr (.inr (.inr lf))))), (nqu2, .inl (cT 7, 33, .inr (.inr (.inr (.inr (va_cpy lf (fun _ => none) 0 0 22))))))] ++ pg cds ad gg) _ := hP
  have hD : va_D A ([(v, .inr (10, [.int v1, .int v2, .int v3, .int v4, .int v5, .int v6, .int v7, .int v8, .ref v9])), (h, .inr (12, [.ref nqu2, .int (nI 22), .int md])), (le, .inl (cT 7, 22, .inr (.inr (.inr (.inr lf))))), (nqu2, .inl (cT 7, 33, .inr (.inr (.inr (.inr (va_cpy lf (fun _ => none) 0 0 22))))))] ++ pg cds ad gg) := hD
  refine W.eq (g2 := F0 m 10 ls [.ref nqu2]) rfl ?_
  refine lv_astore_n hx hb dAL_add3_10 rfl hl (by decide) rfl (fun ls hl => ?_)
  have hl : lv_has ls 4 [(2, .ref nqu2), (0, .ref h), (1, .ref v), (3, .int (nI 22))] := hl
  refine lv_aload_n hx hb dAL_add3_11 rfl (lv_at hl 0 rfl) ?_
  refine lv_iload_n hx hb dAL_add3_12 rfl (lv_at hl 3 rfl) ?_
  refine lv_aload_n hx hb dAL_add3_13 rfl (lv_at hl 2 rfl) ?_
  refine va_astqO (E := "java/lang/Object") hx hb hK hP hD hS 3 7 0 10 rfl rfl (by exact hZ.1.1 ("ResidualTrees$Node", "java/lang/Object") (List.mem_of_getElem? (i := 15) rfl)) rfl rfl (vp_in_nI (n := 22) (by decide) (by decide)) dAL_add3_14 (fun H locs hP hD hS => ?_)
  rw [nI_clamp (by omega)] at hP hD
  have hP : va_P D vwCl ([(v, .inr (10, [.int v1, .int v2, .int v3, .int v4, .int v5, .int v6, .int v7, .int v8, .ref v9])), (h, .inr (12, [.ref nqu2, .int (nI 22), .int md])), (le, .inl (cT 7, 22, .inr (.inr (.inr (.inr lf))))), (nqu2, .inl (cT 7, 33, .inr (.inr (.inr (.inr (va_up (va_cpy lf (fun _ => none) 0 0 22) 22 (some v)))))))] ++ pg cds ad gg) _ := hP
  have hD : va_D A ([(v, .inr (10, [.int v1, .int v2, .int v3, .int v4, .int v5, .int v6, .int v7, .int v8, .ref v9])), (h, .inr (12, [.ref nqu2, .int (nI 22), .int md])), (le, .inl (cT 7, 22, .inr (.inr (.inr (.inr lf))))), (nqu2, .inl (cT 7, 33, .inr (.inr (.inr (.inr (va_up (va_cpy lf (fun _ => none) 0 0 22) 22 (some v)))))))] ++ pg cds ad gg) := hD
  refine lv_aload_n hx hb dAL_add3_15 rfl (lv_at hl 1 rfl) ?_
  refine lv_iload_n hx hb dAL_add3_16 rfl (lv_at hl 3 rfl) ?_
  refine lv_iconst (v := 1) hx hb dAL_add3_17 (by decide) ?_
  refine lv_iadd hx hb dAL_add3_18 ?_
  refine lv_topi (fun y9 e9 => ?_)
  cases (show y9 = nI (22 + 1) from e9.trans (nI_add 22 1))
  refine va_put (D := D) (ci := 12) (v := .int (nI (22 + 1))) (ty := .int) (C := R_AL) (T := T_AL) (N := 3) hx hb hT in_AL ty_AL ty_AL_ok m_AL hown hK hP hD hS 1 rfl rfl 1 (by decide) (hT _ w269) (fun _ h9 => h9) rfl (by decide +kernel) rfl rfl (Nat.le_of_ble_eq_true rfl) dAL_add3_19 (fun H locs hP hD hS => ?_)
  have hP : va_P D vwCl ([(v, .inr (10, [.int v1, .int v2, .int v3, .int v4, .int v5, .int v6, .int v7, .int v8, .ref v9])), (h, .inr (12, [.ref nqu2, .int (nI (22 + 1)), .int md])), (le, .inl (cT 7, 22, .inr (.inr (.inr (.inr lf))))), (nqu2, .inl (cT 7, 33, .inr (.inr (.inr (.inr (va_up (va_cpy lf (fun _ => none) 0 0 22) 22 (some v)))))))] ++ pg cds ad gg) _ := hP
  have hD : va_D A ([(v, .inr (10, [.int v1, .int v2, .int v3, .int v4, .int v5, .int v6, .int v7, .int v8, .ref v9])), (h, .inr (12, [.ref nqu2, .int (nI (22 + 1)), .int md])), (le, .inl (cT 7, 22, .inr (.inr (.inr (.inr lf))))), (nqu2, .inl (cT 7, 33, .inr (.inr (.inr (.inr (va_up (va_cpy lf (fun _ => none) 0 0 22) 22 (some v)))))))] ++ pg cds ad gg) := hD
  have hP9 : va_P D vwCl ([(h, .inr (12, [.ref nqu2, .int (nI (22 + 1)), .int md])), (nqu2, .inl (cT 7, 33, .inr (.inr (.inr (.inr (va_up (va_cpy lf (fun _ => none) 0 0 22) 22 (some v))))))), (v, .inr (10, [.int v1, .int v2, .int v3, .int v4, .int v5, .int v6, .int v7, .int v8, .ref v9]))] ++ pg cds ad gg) _ := hP.part (cx := [(h, .inr (12, [.ref nqu2, .int (nI (22 + 1)), .int md])), (nqu2, .inl (cT 7, 33, .inr (.inr (.inr (.inr (va_up (va_cpy lf (fun _ => none) 0 0 22) 22 (some v))))))), (v, .inr (10, [.int v1, .int v2, .int v3, .int v4, .int v5, .int v6, .int v7, .int v8, .ref v9]))]) [1, 3, 0] rfl
  have hD9 : va_D A ([(h, .inr (12, [.ref nqu2, .int (nI (22 + 1)), .int md])), (nqu2, .inl (cT 7, 33, .inr (.inr (.inr (.inr (va_up (va_cpy lf (fun _ => none) 0 0 22) 22 (some v))))))), (v, .inr (10, [.int v1, .int v2, .int v3, .int v4, .int v5, .int v6, .int v7, .int v8, .ref v9]))] ++ pg cds ad gg) := hD.part (cx := [(h, .inr (12, [.ref nqu2, .int (nI (22 + 1)), .int md])), (nqu2, .inl (cT 7, 33, .inr (.inr (.inr (.inr (va_up (va_cpy lf (fun _ => none) 0 0 22) 22 (some v))))))), (v, .inr (10, [.int v1, .int v2, .int v3, .int v4, .int v5, .int v6, .int v7, .int v8, .ref v9]))]) [1, 3, 0] (by decide) rfl
  refine W.widen (k := 1) (n := 33) (Nat.le_of_ble_eq_true rfl) (Nat.le_of_ble_eq_true rfl) ?_
  exact W.vret hx hb hr (fun t9 ht9 hW9 => ⟨⟨nqu2, rfl, (show True from trivial), by rw [ht9]; exact hP9, hD9⟩, hS.F ht9⟩) hS.2.2 dAL_add3_22
set_option maxHeartbeats 4000000 in
set_option maxRecDepth 100000 in
theorem k_alAdd3T0 (l : Launch) (D : va_G) (cT : Nat → ClassId) (tE : Nat) (mE : Nat) (h : Nat) (md : Int32) (v : Nat) (v1 : Nat) (v2 : Int32) (v3 : Int32) (v4 : Int32) (v5 : Int32) (v6 : Int64) (sz : Nat) : Met l yAL_add3 WAL_add3 ({ frames := 3, cells := 1, slots := 10, locals := 64 } : Room) (RWE tE mE D vwCl [.ref h, .ref v, .ref tE, .int (nI 0)] [(h, .inr (12, [.ref tE, .int (nI 0), .int md])), (v, .inr (9, [.ref v1, .int v2, .int v3, .int v4, .int v5, .long v6]))] (TY cT) sz) (va_Qv (fun u9 : Nat => True) (BW D vwCl (va_A [(h, .inr (12, [.ref tE, .int (nI 0), .int md])), (v, .inr (9, [.ref v1, .int v2, .int v3, .int v4, .int v5, .long v6]))] sz) (fun u9 : Nat => [(h, .inr (12, [.ref u9, .int (nI (0 + 1)), .int md])), (u9, .inl (cT 7, 10, .inr (.inr (.inr (.inr (va_up (fun _ => none) 0 (some v))))))), (v, .inr (9, [.ref v1, .int v2, .int v3, .int v4, .int v5, .long v6]))])) (va_A [(h, .inr (12, [.ref tE, .int (nI 0), .int md])), (v, .inr (9, [.ref v1, .int v2, .int v3, .int v4, .int v5, .long v6]))] sz)) 1 10 (va_A [(h, .inr (12, [.ref tE, .int (nI 0), .int md])), (v, .inr (9, [.ref v1, .int v2, .int v3, .int v4, .int v5, .long v6]))] sz) := by
  refine Met.ofW (cc := cAL_add3) (maxL := 4) (ret := none) (by decide) rfl ?_
  intro p e s m args below meth c s₁ B hml hv
  obtain ⟨rfl, ⟨hsz, hZ, hP, hK, hD0⟩, hE0⟩ := hv
  have hx := B.exec
  have hb := B.bytes
  have hr := B.returns
  have hts := atoms_spec (ws := WAL_add3) B.pre
  have hT : ∀ w ∈ TB, w.before _ s = true := fun w h => hts w (List.mem_cons_of_mem _ h)
  have hown : s.vm.findClass R_AL = some m.cls := findClass_of_methodNamed B.named
  have hlocks := B.notSynchronized
  subst hsz
  have hD := hD0.self (sz := s.heap.size)
  generalize hAe : va_A [(h, .inr (12, [.ref tE, .int (nI 0), .int md])), (v, .inr (9, [.ref v1, .int v2, .int v3, .int v4, .int v5, .long v6]))] s.heap.size = A at hD hZ hE0 ⊢
  have hA : ∀ q : Nat, s.heap.size ≤ q → A q := fun q h => by rw [← hAe]; exact Or.inr h
  have hS : va_S A s.heap s.heap [] := va_S.rf
  have hl := lv_entry ([.ref h, .ref v, .ref tE, .int (nI 0)]) (n := 4) (Nat.le_of_ble_eq_true rfl)
  rw [lg_entry_eq]
  generalize (lg_sl ([.ref h, .ref v, .ref tE, .int (nI 0)]) ++ List.replicate (4 - (lg_sl ([.ref h, .ref v, .ref tE, .int (nI 0)])).length) Slot.unset).toArray = ls at hl ⊢
  have hl : lv_has ls 4 [(0, .ref h), (1, .ref v), (2, .ref tE), (3, .int (nI 0))] := hl
  refine lv_iload_n hx hb dAL_add3_0 rfl (lv_at hl 3 rfl) ?_
  refine lv_aload_n hx hb dAL_add3_1 rfl (lv_at hl 2 rfl) ?_
  refine va_tlen (v := 0) hx hb hE0.2.1 hS rfl dAL_add3_2 ?_
  refine lv_icmp_ne (tgt := 11) hx hb dAL_add3_3 rfl (fun h1 => absurd (by decide) h1) (fun _ => ?_)
  refine lv_aload_n hx hb dAL_add3_6 rfl (lv_at hl 0 rfl) ?_
  refine rx_r (wc := [(h, .inr (12, [.ref tE, .int (nI 0), .int md]))]) (wr := [(v, .inr (9, [.ref v1, .int v2, .int v3, .int v4, .int v5, .long v6]))]) hP hD hS hA [0] [1] rfl rfl (by decide) (by decide) (va_runV (As := []) (rest := []) ⟨hx, hb, hml, hown, hT⟩ (k_alGrow0 l D cT tE mE h md _) ⟨callB_of 0 hT (tb_gd w765) rfl rfl rfl (hT _ w11) (hT _ w762) hAL_grow ⟨Nat.le_of_ble_eq_true rfl, Nat.le_of_ble_eq_true rfl⟩, (hT _ w764), (hT _ wp10)⟩ (RWE.preV (ci := 12) (q0 := 0) hE0 hZ hS (va_free (wc := [(h, .inr (12, [.ref tE, .int (nI 0), .int md]))]) hD hS hA [0] rfl) (hP.sub (ws' := [(h, .inr (12, [.ref tE, .int (nI 0), .int md]))]) [0] rfl) hK (hD.sub (ws' := [(h, .inr (12, [.ref tE, .int (nI 0), .int md]))]) [0] (by decide) rfl) rfl rfl) rfl rfl hl.1 rfl (lv_room (Nat.le_of_ble_eq_true rfl)) dAL_add3_7 ⟨Nat.le_of_ble_eq_true rfl, Nat.le_of_ble_eq_true rfl⟩) (fun u9 H locs hpu2 hP hD hS => ?_)
  obtain ⟨nqu2, rfl⟩ : ∃ q9, q9 = u9 := ⟨_, rfl⟩
  have hpu2 : True := hpu2
  have hP : va_P D vwCl [(v, .inr (9, [.ref v1, .int v2, .int v3, .int v4, .int v5, .long v6])), (h, .inr (12, [.ref nqu2, .int (nI 0), .int md])), (nqu2, .inl (cT 7, 10, .inr (.inr (.inr (.inr (fun _ => none))))))] _ := hP
  have hD : va_D A [(v, .inr (9, [.ref v1, .int v2, .int v3, .int v4, .int v5, .long v6])), (h, .inr (12, [.ref nqu2, .int (nI 0), .int md])), (nqu2, .inl (cT 7, 10, .inr (.inr (.inr (.inr (fun _ => none))))))] := hD
  refine W.eq (g2 := F0 m 10 ls [.ref nqu2]) rfl ?_
  refine lv_astore_n hx hb dAL_add3_10 rfl hl (by decide) rfl (fun ls hl => ?_)
  have hl : lv_has ls 4 [(2, .ref nqu2), (0, .ref h), (1, .ref v), (3, .int (nI 0))] := hl
  refine lv_aload_n hx hb dAL_add3_11 rfl (lv_at hl 0 rfl) ?_
  refine lv_iload_n hx hb dAL_add3_12 rfl (lv_at hl 3 rfl) ?_
  refine lv_aload_n hx hb dAL_add3_13 rfl (lv_at hl 2 rfl) ?_
  refine va_astqO (E := "java/lang/Object") hx hb hK hP hD hS 2 7 0 9 rfl rfl (by exact hZ.1.1 ("ResidualTrees$Tree", "java/lang/Object") (List.mem_of_getElem? (i := 14) rfl)) rfl rfl (vp_in_nI (n := 0) (by decide) (by decide)) dAL_add3_14 (fun H locs hP hD hS => ?_)
  rw [nI_clamp (by omega)] at hP hD
  have hP : va_P D vwCl [(v, .inr (9, [.ref v1, .int v2, .int v3, .int v4, .int v5, .long v6])), (h, .inr (12, [.ref nqu2, .int (nI 0), .int md])), (nqu2, .inl (cT 7, 10, .inr (.inr (.inr (.inr (va_up (fun _ => none) 0 (some v)))))))] _ := hP
  have hD : va_D A [(v, .inr (9, [.ref v1, .int v2, .int v3, .int v4, .int v5, .long v6])), (h, .inr (12, [.ref nqu2, .int (nI 0), .int md])), (nqu2, .inl (cT 7, 10, .inr (.inr (.inr (.inr (va_up (fun _ => none) 0 (some v)))))))] := hD
  refine lv_aload_n hx hb dAL_add3_15 rfl (lv_at hl 1 rfl) ?_
  refine lv_iload_n hx hb dAL_add3_16 rfl (lv_at hl 3 rfl) ?_
  refine lv_iconst (v := 1) hx hb dAL_add3_17 (by decide) ?_
  refine lv_iadd hx hb dAL_add3_18 ?_
  refine lv_topi (fun y9 e9 => ?_)
  cases (show y9 = nI (0 + 1) from e9.trans (nI_add 0 1))
  refine va_put (D := D) (ci := 12) (v := .int (nI (0 + 1))) (ty := .int) (C := R_AL) (T := T_AL) (N := 3) hx hb hT in_AL ty_AL ty_AL_ok m_AL hown hK hP hD hS 1 rfl rfl 1 (by decide) (hT _ w269) (fun _ h9 => h9) rfl (by decide +kernel) rfl rfl (Nat.le_of_ble_eq_true rfl) dAL_add3_19 (fun H locs hP hD hS => ?_)
  have hP : va_P D vwCl [(v, .inr (9, [.ref v1, .int v2, .int v3, .int v4, .int v5, .long v6])), (h, .inr (12, [.ref nqu2, .int (nI (0 + 1)), .int md])), (nqu2, .inl (cT 7, 10, .inr (.inr (.inr (.inr (va_up (fun _ => none) 0 (some v)))))))] _ := hP
  have hD : va_D A [(v, .inr (9, [.ref v1, .int v2, .int v3, .int v4, .int v5, .long v6])), (h, .inr (12, [.ref nqu2, .int (nI (0 + 1)), .int md])), (nqu2, .inl (cT 7, 10, .inr (.inr (.inr (.inr (va_up (fun _ => none) 0 (some v)))))))] := hD
  have hP9 := hP.sub (ws' := [(h, .inr (12, [.ref nqu2, .int (nI (0 + 1)), .int md])), (nqu2, .inl (cT 7, 10, .inr (.inr (.inr (.inr (va_up (fun _ => none) 0 (some v))))))), (v, .inr (9, [.ref v1, .int v2, .int v3, .int v4, .int v5, .long v6]))]) [1, 2, 0] rfl
  have hD9 := hD.sub (ws' := [(h, .inr (12, [.ref nqu2, .int (nI (0 + 1)), .int md])), (nqu2, .inl (cT 7, 10, .inr (.inr (.inr (.inr (va_up (fun _ => none) 0 (some v))))))), (v, .inr (9, [.ref v1, .int v2, .int v3, .int v4, .int v5, .long v6]))]) [1, 2, 0] (by decide) rfl
  refine W.widen (k := 1) (n := 10) (Nat.le_of_ble_eq_true rfl) (Nat.le_of_ble_eq_true rfl) ?_
  exact W.vret hx hb hr (fun t9 ht9 hW9 => ⟨⟨nqu2, rfl, (show True from trivial), by rw [ht9]; exact hP9, hD9⟩, hS.F ht9⟩) hS.2.2 dAL_add3_22
set_option maxHeartbeats 4000000 in
set_option maxRecDepth 100000 in
theorem k_alAdd3T10 (l : Launch) (D : va_G) (cT : Nat → ClassId) (cds : List Nat) (ad : Nat → Nat) (gg : Nat → Option va_E) (tE : Nat) (mE : Nat) (h : Nat) (md : Int32) (le : Nat) (lf : Nat → Option Nat) (bs : Nat) (v : Nat) (v1 : Nat) (v2 : Int32) (v3 : Int32) (v4 : Int32) (v5 : Int32) (v6 : Int64) (hcd : CD cds) (hel : ∀ k8, k8 < 10 → ∃ fs8 : List Value, bs + k8 < 8192 ∧ lf k8 = some (ad (bs + k8)) ∧ gg (bs + k8) = some (.inr (9, fs8))) (sz : Nat) : Met l yAL_add3 WAL_add3 ({ frames := 5, cells := 1, slots := 15, locals := 127 } : Room) (RWE tE mE D vwCl [.ref h, .ref v, .ref le, .int (nI 10)] ([(h, .inr (12, [.ref le, .int (nI 10), .int md])), (le, .inl (cT 7, 10, .inr (.inr (.inr (.inr lf))))), (v, .inr (9, [.ref v1, .int v2, .int v3, .int v4, .int v5, .long v6]))] ++ pg cds ad gg) (TY cT) sz) (va_Qv (fun u9 : Nat => True) (BW D vwCl (va_A ([(h, .inr (12, [.ref le, .int (nI 10), .int md])), (le, .inl (cT 7, 10, .inr (.inr (.inr (.inr lf))))), (v, .inr (9, [.ref v1, .int v2, .int v3, .int v4, .int v5, .long v6]))] ++ pg cds ad gg) sz) (fun u9 : Nat => ([(h, .inr (12, [.ref u9, .int (nI (10 + 1)), .int md])), (u9, .inl (cT 7, 15, .inr (.inr (.inr (.inr (va_up (va_cpy lf (fun _ => none) 0 0 10) 10 (some v))))))), (v, .inr (9, [.ref v1, .int v2, .int v3, .int v4, .int v5, .long v6]))] ++ pg cds ad gg))) (va_A ([(h, .inr (12, [.ref le, .int (nI 10), .int md])), (le, .inl (cT 7, 10, .inr (.inr (.inr (.inr lf))))), (v, .inr (9, [.ref v1, .int v2, .int v3, .int v4, .int v5, .long v6]))] ++ pg cds ad gg) sz)) 1 15 (va_A ([(h, .inr (12, [.ref le, .int (nI 10), .int md])), (le, .inl (cT 7, 10, .inr (.inr (.inr (.inr lf))))), (v, .inr (9, [.ref v1, .int v2, .int v3, .int v4, .int v5, .long v6]))] ++ pg cds ad gg) sz) := by
  refine Met.ofW (cc := cAL_add3) (maxL := 4) (ret := none) (by decide) rfl ?_
  intro p e s m args below meth c s₁ B hml hv
  obtain ⟨rfl, ⟨hsz, hZ, hP, hK, hD0⟩, hE0⟩ := hv
  have hx := B.exec
  have hb := B.bytes
  have hr := B.returns
  have hts := atoms_spec (ws := WAL_add3) B.pre
  have hT : ∀ w ∈ TB, w.before _ s = true := fun w h => hts w (List.mem_cons_of_mem _ h)
  have hown : s.vm.findClass R_AL = some m.cls := findClass_of_methodNamed B.named
  have hlocks := B.notSynchronized
  subst hsz
  have hD := hD0.self (sz := s.heap.size)
  generalize hAe : va_A ([(h, .inr (12, [.ref le, .int (nI 10), .int md])), (le, .inl (cT 7, 10, .inr (.inr (.inr (.inr lf))))), (v, .inr (9, [.ref v1, .int v2, .int v3, .int v4, .int v5, .long v6]))] ++ pg cds ad gg) s.heap.size = A at hD hZ hE0 ⊢
  have hA : ∀ q : Nat, s.heap.size ≤ q → A q := fun q h => by rw [← hAe]; exact Or.inr h
  have hS : va_S A s.heap s.heap [] := va_S.rf
  have hl := lv_entry ([.ref h, .ref v, .ref le, .int (nI 10)]) (n := 4) (Nat.le_of_ble_eq_true rfl)
  rw [lg_entry_eq]
  generalize (lg_sl ([.ref h, .ref v, .ref le, .int (nI 10)]) ++ List.replicate (4 - (lg_sl ([.ref h, .ref v, .ref le, .int (nI 10)])).length) Slot.unset).toArray = ls at hl ⊢
  have hl : lv_has ls 4 [(0, .ref h), (1, .ref v), (2, .ref le), (3, .int (nI 10))] := hl
  refine lv_iload_n hx hb dAL_add3_0 rfl (lv_at hl 3 rfl) ?_
  refine lv_aload_n hx hb dAL_add3_1 rfl (lv_at hl 2 rfl) ?_
  refine va_alen (v := 10) hx hb hK hP 1 7 rfl rfl rfl dAL_add3_2 ?_
  refine lv_icmp_ne (tgt := 11) hx hb dAL_add3_3 rfl (fun h1 => absurd (by decide) h1) (fun _ => ?_)
  refine lv_aload_n hx hb dAL_add3_6 rfl (lv_at hl 0 rfl) ?_
  refine hy_rP (X := [(h, .inr (12, [.ref le, .int (nI 10), .int md])), (le, .inl (cT 7, 10, .inr (.inr (.inr (.inr lf))))), (v, .inr (9, [.ref v1, .int v2, .int v3, .int v4, .int v5, .long v6]))]) (pl := pg cds ad gg) (cx := [(h, .inr (12, [.ref le, .int (nI 10), .int md])), (le, .inl (cT 7, 10, .inr (.inr (.inr (.inr lf)))))]) (wr := [(v, .inr (9, [.ref v1, .int v2, .int v3, .int v4, .int v5, .long v6]))]) hP hD hS hA [0, 1] [2] rfl rfl (by decide) (by decide) (va_runV (As := []) (rest := []) ⟨hx, hb, hml, hown, hT⟩ (k_alGrowT10 l D cT cds ad gg tE mE h md le lf bs hcd hel _) ⟨callB_of 0 hT (tb_gd w765) rfl rfl rfl (hT _ w11) (hT _ w762) hAL_grow ⟨Nat.le_of_ble_eq_true rfl, Nat.le_of_ble_eq_true rfl⟩, (hT _ w764), (hT _ wp10)⟩ (RWE.preV (ci := 12) (q0 := 0) hE0 hZ hS (va_freeP (cx := [(h, .inr (12, [.ref le, .int (nI 10), .int md])), (le, .inl (cT 7, 10, .inr (.inr (.inr (.inr lf)))))]) hD hS hA [0, 1] rfl) (hP.part (cx := [(h, .inr (12, [.ref le, .int (nI 10), .int md])), (le, .inl (cT 7, 10, .inr (.inr (.inr (.inr lf)))))]) [0, 1] rfl) hK (hD.part (cx := [(h, .inr (12, [.ref le, .int (nI 10), .int md])), (le, .inl (cT 7, 10, .inr (.inr (.inr (.inr lf)))))]) [0, 1] (by decide) rfl) rfl rfl) rfl rfl hl.1 rfl (lv_room (Nat.le_of_ble_eq_true rfl)) dAL_add3_7 ⟨Nat.le_of_ble_eq_true rfl, Nat.le_of_ble_eq_true rfl⟩) (fun u9 H locs hpu2 hP hD hS => ?_)
  obtain ⟨nqu2, rfl⟩ : ∃ q9, q9 = u9 := ⟨_, rfl⟩
  have hpu2 : True := hpu2
  have hP : va_P D vwCl ([(v, .inr (9, [.ref v1, .int v2, .int v3, .int v4, .int v5, .long v6])), (h, .inr (12, [.ref nqu2, .int (nI 10), .int md])), (le, .inl (cT 7, 10, .inr (.inr (.inr (.inr lf))))), (nqu2, .inl (cT 7, 15, .inr (.inr (.inr (.inr (va_cpy lf (fun _ => none) 0 0 10))))))] ++ pg cds ad gg) _ := hP
  have hD : va_D A ([(v, .inr (9, [.ref v1, .int v2, .int v3, .int v4, .int v5, .long v6])), (h, .inr (12, [.ref nqu2, .int (nI 10), .int md])), (le, .inl (cT 7, 10, .inr (.inr (.inr (.inr lf))))), (nqu2, .inl (cT 7, 15, .inr (.inr (.inr (.inr (va_cpy lf (fun _ => none) 0 0 10))))))] ++ pg cds ad gg) := hD
  refine W.eq (g2 := F0 m 10 ls [.ref nqu2]) rfl ?_
  refine lv_astore_n hx hb dAL_add3_10 rfl hl (by decide) rfl (fun ls hl => ?_)
  have hl : lv_has ls 4 [(2, .ref nqu2), (0, .ref h), (1, .ref v), (3, .int (nI 10))] := hl
  refine lv_aload_n hx hb dAL_add3_11 rfl (lv_at hl 0 rfl) ?_
  refine lv_iload_n hx hb dAL_add3_12 rfl (lv_at hl 3 rfl) ?_
  refine lv_aload_n hx hb dAL_add3_13 rfl (lv_at hl 2 rfl) ?_
  refine va_astqO (E := "java/lang/Object") hx hb hK hP hD hS 3 7 0 9 rfl rfl (by exact hZ.1.1 ("ResidualTrees$Tree", "java/lang/Object") (List.mem_of_getElem? (i := 14) rfl)) rfl rfl (vp_in_nI (n := 10) (by decide) (by decide)) dAL_add3_14 (fun H locs hP hD hS => ?_)
  rw [nI_clamp (by omega)] at hP hD
  have hP : va_P D vwCl ([(v, .inr (9, [.ref v1, .int v2, .int v3, .int v4, .int v5, .long v6])), (h, .inr (12, [.ref nqu2, .int (nI 10), .int md])), (le, .inl (cT 7, 10, .inr (.inr (.inr (.inr lf))))), (nqu2, .inl (cT 7, 15, .inr (.inr (.inr (.inr (va_up (va_cpy lf (fun _ => none) 0 0 10) 10 (some v)))))))] ++ pg cds ad gg) _ := hP
  have hD : va_D A ([(v, .inr (9, [.ref v1, .int v2, .int v3, .int v4, .int v5, .long v6])), (h, .inr (12, [.ref nqu2, .int (nI 10), .int md])), (le, .inl (cT 7, 10, .inr (.inr (.inr (.inr lf))))), (nqu2, .inl (cT 7, 15, .inr (.inr (.inr (.inr (va_up (va_cpy lf (fun _ => none) 0 0 10) 10 (some v)))))))] ++ pg cds ad gg) := hD
  refine lv_aload_n hx hb dAL_add3_15 rfl (lv_at hl 1 rfl) ?_
  refine lv_iload_n hx hb dAL_add3_16 rfl (lv_at hl 3 rfl) ?_
  refine lv_iconst (v := 1) hx hb dAL_add3_17 (by decide) ?_
  refine lv_iadd hx hb dAL_add3_18 ?_
  refine lv_topi (fun y9 e9 => ?_)
  cases (show y9 = nI (10 + 1) from e9.trans (nI_add 10 1))
  refine va_put (D := D) (ci := 12) (v := .int (nI (10 + 1))) (ty := .int) (C := R_AL) (T := T_AL) (N := 3) hx hb hT in_AL ty_AL ty_AL_ok m_AL hown hK hP hD hS 1 rfl rfl 1 (by decide) (hT _ w269) (fun _ h9 => h9) rfl (by decide +kernel) rfl rfl (Nat.le_of_ble_eq_true rfl) dAL_add3_19 (fun H locs hP hD hS => ?_)
  have hP : va_P D vwCl ([(v, .inr (9, [.ref v1, .int v2, .int v3, .int v4, .int v5, .long v6])), (h, .inr (12, [.ref nqu2, .int (nI (10 + 1)), .int md])), (le, .inl (cT 7, 10, .inr (.inr (.inr (.inr lf))))), (nqu2, .inl (cT 7, 15, .inr (.inr (.inr (.inr (va_up (va_cpy lf (fun _ => none) 0 0 10) 10 (some v)))))))] ++ pg cds ad gg) _ := hP
  have hD : va_D A ([(v, .inr (9, [.ref v1, .int v2, .int v3, .int v4, .int v5, .long v6])), (h, .inr (12, [.ref nqu2, .int (nI (10 + 1)), .int md])), (le, .inl (cT 7, 10, .inr (.inr (.inr (.inr lf))))), (nqu2, .inl (cT 7, 15, .inr (.inr (.inr (.inr (va_up (va_cpy lf (fun _ => none) 0 0 10) 10 (some v)))))))] ++ pg cds ad gg) := hD
  have hP9 : va_P D vwCl ([(h, .inr (12, [.ref nqu2, .int (nI (10 + 1)), .int md])), (nqu2, .inl (cT 7, 15, .inr (.inr (.inr (.inr (va_up (va_cpy lf (fun _ => none) 0 0 10) 10 (some v))))))), (v, .inr (9, [.ref v1, .int v2, .int v3, .int v4, .int v5, .long v6]))] ++ pg cds ad gg) _ := hP.part (cx := [(h, .inr (12, [.ref nqu2, .int (nI (10 + 1)), .int md])), (nqu2, .inl (cT 7, 15, .inr (.inr (.inr (.inr (va_up (va_cpy lf (fun _ => none) 0 0 10) 10 (some v))))))), (v, .inr (9, [.ref v1, .int v2, .int v3, .int v4, .int v5, .long v6]))]) [1, 3, 0] rfl
  have hD9 : va_D A ([(h, .inr (12, [.ref nqu2, .int (nI (10 + 1)), .int md])), (nqu2, .inl (cT 7, 15, .inr (.inr (.inr (.inr (va_up (va_cpy lf (fun _ => none) 0 0 10) 10 (some v))))))), (v, .inr (9, [.ref v1, .int v2, .int v3, .int v4, .int v5, .long v6]))] ++ pg cds ad gg) := hD.part (cx := [(h, .inr (12, [.ref nqu2, .int (nI (10 + 1)), .int md])), (nqu2, .inl (cT 7, 15, .inr (.inr (.inr (.inr (va_up (va_cpy lf (fun _ => none) 0 0 10) 10 (some v))))))), (v, .inr (9, [.ref v1, .int v2, .int v3, .int v4, .int v5, .long v6]))]) [1, 3, 0] (by decide) rfl
  refine W.widen (k := 1) (n := 15) (Nat.le_of_ble_eq_true rfl) (Nat.le_of_ble_eq_true rfl) ?_
  exact W.vret hx hb hr (fun t9 ht9 hW9 => ⟨⟨nqu2, rfl, (show True from trivial), by rw [ht9]; exact hP9, hD9⟩, hS.F ht9⟩) hS.2.2 dAL_add3_22
set_option maxHeartbeats 4000000 in
set_option maxRecDepth 100000 in
theorem k_alAdd3T15 (l : Launch) (D : va_G) (cT : Nat → ClassId) (cds : List Nat) (ad : Nat → Nat) (gg : Nat → Option va_E) (tE : Nat) (mE : Nat) (h : Nat) (md : Int32) (le : Nat) (lf : Nat → Option Nat) (bs : Nat) (v : Nat) (v1 : Nat) (v2 : Int32) (v3 : Int32) (v4 : Int32) (v5 : Int32) (v6 : Int64) (hcd : CD cds) (hel : ∀ k8, k8 < 15 → ∃ fs8 : List Value, bs + k8 < 8192 ∧ lf k8 = some (ad (bs + k8)) ∧ gg (bs + k8) = some (.inr (9, fs8))) (sz : Nat) : Met l yAL_add3 WAL_add3 ({ frames := 5, cells := 1, slots := 22, locals := 127 } : Room) (RWE tE mE D vwCl [.ref h, .ref v, .ref le, .int (nI 15)] ([(h, .inr (12, [.ref le, .int (nI 15), .int md])), (le, .inl (cT 7, 15, .inr (.inr (.inr (.inr lf))))), (v, .inr (9, [.ref v1, .int v2, .int v3, .int v4, .int v5, .long v6]))] ++ pg cds ad gg) (TY cT) sz) (va_Qv (fun u9 : Nat => True) (BW D vwCl (va_A ([(h, .inr (12, [.ref le, .int (nI 15), .int md])), (le, .inl (cT 7, 15, .inr (.inr (.inr (.inr lf))))), (v, .inr (9, [.ref v1, .int v2, .int v3, .int v4, .int v5, .long v6]))] ++ pg cds ad gg) sz) (fun u9 : Nat => ([(h, .inr (12, [.ref u9, .int (nI (15 + 1)), .int md])), (u9, .inl (cT 7, 22, .inr (.inr (.inr (.inr (va_up (va_cpy lf (fun _ => none) 0 0 15) 15 (some v))))))), (v, .inr (9, [.ref v1, .int v2, .int v3, .int v4, .int v5, .long v6]))] ++ pg cds ad gg))) (va_A ([(h, .inr (12, [.ref le, .int (nI 15), .int md])), (le, .inl (cT 7, 15, .inr (.inr (.inr (.inr lf))))), (v, .inr (9, [.ref v1, .int v2, .int v3, .int v4, .int v5, .long v6]))] ++ pg cds ad gg) sz)) 1 22 (va_A ([(h, .inr (12, [.ref le, .int (nI 15), .int md])), (le, .inl (cT 7, 15, .inr (.inr (.inr (.inr lf))))), (v, .inr (9, [.ref v1, .int v2, .int v3, .int v4, .int v5, .long v6]))] ++ pg cds ad gg) sz) := by
  refine Met.ofW (cc := cAL_add3) (maxL := 4) (ret := none) (by decide) rfl ?_
  intro p e s m args below meth c s₁ B hml hv
  obtain ⟨rfl, ⟨hsz, hZ, hP, hK, hD0⟩, hE0⟩ := hv
  have hx := B.exec
  have hb := B.bytes
  have hr := B.returns
  have hts := atoms_spec (ws := WAL_add3) B.pre
  have hT : ∀ w ∈ TB, w.before _ s = true := fun w h => hts w (List.mem_cons_of_mem _ h)
  have hown : s.vm.findClass R_AL = some m.cls := findClass_of_methodNamed B.named
  have hlocks := B.notSynchronized
  subst hsz
  have hD := hD0.self (sz := s.heap.size)
  generalize hAe : va_A ([(h, .inr (12, [.ref le, .int (nI 15), .int md])), (le, .inl (cT 7, 15, .inr (.inr (.inr (.inr lf))))), (v, .inr (9, [.ref v1, .int v2, .int v3, .int v4, .int v5, .long v6]))] ++ pg cds ad gg) s.heap.size = A at hD hZ hE0 ⊢
  have hA : ∀ q : Nat, s.heap.size ≤ q → A q := fun q h => by rw [← hAe]; exact Or.inr h
  have hS : va_S A s.heap s.heap [] := va_S.rf
  have hl := lv_entry ([.ref h, .ref v, .ref le, .int (nI 15)]) (n := 4) (Nat.le_of_ble_eq_true rfl)
  rw [lg_entry_eq]
  generalize (lg_sl ([.ref h, .ref v, .ref le, .int (nI 15)]) ++ List.replicate (4 - (lg_sl ([.ref h, .ref v, .ref le, .int (nI 15)])).length) Slot.unset).toArray = ls at hl ⊢
  have hl : lv_has ls 4 [(0, .ref h), (1, .ref v), (2, .ref le), (3, .int (nI 15))] := hl
  refine lv_iload_n hx hb dAL_add3_0 rfl (lv_at hl 3 rfl) ?_
  refine lv_aload_n hx hb dAL_add3_1 rfl (lv_at hl 2 rfl) ?_
  refine va_alen (v := 15) hx hb hK hP 1 7 rfl rfl rfl dAL_add3_2 ?_
  refine lv_icmp_ne (tgt := 11) hx hb dAL_add3_3 rfl (fun h1 => absurd (by decide) h1) (fun _ => ?_)
  refine lv_aload_n hx hb dAL_add3_6 rfl (lv_at hl 0 rfl) ?_
  refine hy_rP (X := [(h, .inr (12, [.ref le, .int (nI 15), .int md])), (le, .inl (cT 7, 15, .inr (.inr (.inr (.inr lf))))), (v, .inr (9, [.ref v1, .int v2, .int v3, .int v4, .int v5, .long v6]))]) (pl := pg cds ad gg) (cx := [(h, .inr (12, [.ref le, .int (nI 15), .int md])), (le, .inl (cT 7, 15, .inr (.inr (.inr (.inr lf)))))]) (wr := [(v, .inr (9, [.ref v1, .int v2, .int v3, .int v4, .int v5, .long v6]))]) hP hD hS hA [0, 1] [2] rfl rfl (by decide) (by decide) (va_runV (As := []) (rest := []) ⟨hx, hb, hml, hown, hT⟩ (k_alGrowT15 l D cT cds ad gg tE mE h md le lf bs hcd hel _) ⟨callB_of 0 hT (tb_gd w765) rfl rfl rfl (hT _ w11) (hT _ w762) hAL_grow ⟨Nat.le_of_ble_eq_true rfl, Nat.le_of_ble_eq_true rfl⟩, (hT _ w764), (hT _ wp10)⟩ (RWE.preV (ci := 12) (q0 := 0) hE0 hZ hS (va_freeP (cx := [(h, .inr (12, [.ref le, .int (nI 15), .int md])), (le, .inl (cT 7, 15, .inr (.inr (.inr (.inr lf)))))]) hD hS hA [0, 1] rfl) (hP.part (cx := [(h, .inr (12, [.ref le, .int (nI 15), .int md])), (le, .inl (cT 7, 15, .inr (.inr (.inr (.inr lf)))))]) [0, 1] rfl) hK (hD.part (cx := [(h, .inr (12, [.ref le, .int (nI 15), .int md])), (le, .inl (cT 7, 15, .inr (.inr (.inr (.inr lf)))))]) [0, 1] (by decide) rfl) rfl rfl) rfl rfl hl.1 rfl (lv_room (Nat.le_of_ble_eq_true rfl)) dAL_add3_7 ⟨Nat.le_of_ble_eq_true rfl, Nat.le_of_ble_eq_true rfl⟩) (fun u9 H locs hpu2 hP hD hS => ?_)
  obtain ⟨nqu2, rfl⟩ : ∃ q9, q9 = u9 := ⟨_, rfl⟩
  have hpu2 : True := hpu2
  have hP : va_P D vwCl ([(v, .inr (9, [.ref v1, .int v2, .int v3, .int v4, .int v5, .long v6])), (h, .inr (12, [.ref nqu2, .int (nI 15), .int md])), (le, .inl (cT 7, 15, .inr (.inr (.inr (.inr lf))))), (nqu2, .inl (cT 7, 22, .inr (.inr (.inr (.inr (va_cpy lf (fun _ => none) 0 0 15))))))] ++ pg cds ad gg) _ := hP
  have hD : va_D A ([(v, .inr (9, [.ref v1, .int v2, .int v3, .int v4, .int v5, .long v6])), (h, .inr (12, [.ref nqu2, .int (nI 15), .int md])), (le, .inl (cT 7, 15, .inr (.inr (.inr (.inr lf))))), (nqu2, .inl (cT 7, 22, .inr (.inr (.inr (.inr (va_cpy lf (fun _ => none) 0 0 15))))))] ++ pg cds ad gg) := hD
  refine W.eq (g2 := F0 m 10 ls [.ref nqu2]) rfl ?_
  refine lv_astore_n hx hb dAL_add3_10 rfl hl (by decide) rfl (fun ls hl => ?_)
  have hl : lv_has ls 4 [(2, .ref nqu2), (0, .ref h), (1, .ref v), (3, .int (nI 15))] := hl
  refine lv_aload_n hx hb dAL_add3_11 rfl (lv_at hl 0 rfl) ?_
  refine lv_iload_n hx hb dAL_add3_12 rfl (lv_at hl 3 rfl) ?_
  refine lv_aload_n hx hb dAL_add3_13 rfl (lv_at hl 2 rfl) ?_
  refine va_astqO (E := "java/lang/Object") hx hb hK hP hD hS 3 7 0 9 rfl rfl (by exact hZ.1.1 ("ResidualTrees$Tree", "java/lang/Object") (List.mem_of_getElem? (i := 14) rfl)) rfl rfl (vp_in_nI (n := 15) (by decide) (by decide)) dAL_add3_14 (fun H locs hP hD hS => ?_)
  rw [nI_clamp (by omega)] at hP hD
  have hP : va_P D vwCl ([(v, .inr (9, [.ref v1, .int v2, .int v3, .int v4, .int v5, .long v6])), (h, .inr (12, [.ref nqu2, .int (nI 15), .int md])), (le, .inl (cT 7, 15, .inr (.inr (.inr (.inr lf))))), (nqu2, .inl (cT 7, 22, .inr (.inr (.inr (.inr (va_up (va_cpy lf (fun _ => none) 0 0 15) 15 (some v)))))))] ++ pg cds ad gg) _ := hP
  have hD : va_D A ([(v, .inr (9, [.ref v1, .int v2, .int v3, .int v4, .int v5, .long v6])), (h, .inr (12, [.ref nqu2, .int (nI 15), .int md])), (le, .inl (cT 7, 15, .inr (.inr (.inr (.inr lf))))), (nqu2, .inl (cT 7, 22, .inr (.inr (.inr (.inr (va_up (va_cpy lf (fun _ => none) 0 0 15) 15 (some v)))))))] ++ pg cds ad gg) := hD
  refine lv_aload_n hx hb dAL_add3_15 rfl (lv_at hl 1 rfl) ?_
  refine lv_iload_n hx hb dAL_add3_16 rfl (lv_at hl 3 rfl) ?_
  refine lv_iconst (v := 1) hx hb dAL_add3_17 (by decide) ?_
  refine lv_iadd hx hb dAL_add3_18 ?_
  refine lv_topi (fun y9 e9 => ?_)
  cases (show y9 = nI (15 + 1) from e9.trans (nI_add 15 1))
  refine va_put (D := D) (ci := 12) (v := .int (nI (15 + 1))) (ty := .int) (C := R_AL) (T := T_AL) (N := 3) hx hb hT in_AL ty_AL ty_AL_ok m_AL hown hK hP hD hS 1 rfl rfl 1 (by decide) (hT _ w269) (fun _ h9 => h9) rfl (by decide +kernel) rfl rfl (Nat.le_of_ble_eq_true rfl) dAL_add3_19 (fun H locs hP hD hS => ?_)
  have hP : va_P D vwCl ([(v, .inr (9, [.ref v1, .int v2, .int v3, .int v4, .int v5, .long v6])), (h, .inr (12, [.ref nqu2, .int (nI (15 + 1)), .int md])), (le, .inl (cT 7, 15, .inr (.inr (.inr (.inr lf))))), (nqu2, .inl (cT 7, 22, .inr (.inr (.inr (.inr (va_up (va_cpy lf (fun _ => none) 0 0 15) 15 (some v)))))))] ++ pg cds ad gg) _ := hP
  have hD : va_D A ([(v, .inr (9, [.ref v1, .int v2, .int v3, .int v4, .int v5, .long v6])), (h, .inr (12, [.ref nqu2, .int (nI (15 + 1)), .int md])), (le, .inl (cT 7, 15, .inr (.inr (.inr (.inr lf))))), (nqu2, .inl (cT 7, 22, .inr (.inr (.inr (.inr (va_up (va_cpy lf (fun _ => none) 0 0 15) 15 (some v)))))))] ++ pg cds ad gg) := hD
  have hP9 : va_P D vwCl ([(h, .inr (12, [.ref nqu2, .int (nI (15 + 1)), .int md])), (nqu2, .inl (cT 7, 22, .inr (.inr (.inr (.inr (va_up (va_cpy lf (fun _ => none) 0 0 15) 15 (some v))))))), (v, .inr (9, [.ref v1, .int v2, .int v3, .int v4, .int v5, .long v6]))] ++ pg cds ad gg) _ := hP.part (cx := [(h, .inr (12, [.ref nqu2, .int (nI (15 + 1)), .int md])), (nqu2, .inl (cT 7, 22, .inr (.inr (.inr (.inr (va_up (va_cpy lf (fun _ => none) 0 0 15) 15 (some v))))))), (v, .inr (9, [.ref v1, .int v2, .int v3, .int v4, .int v5, .long v6]))]) [1, 3, 0] rfl
  have hD9 : va_D A ([(h, .inr (12, [.ref nqu2, .int (nI (15 + 1)), .int md])), (nqu2, .inl (cT 7, 22, .inr (.inr (.inr (.inr (va_up (va_cpy lf (fun _ => none) 0 0 15) 15 (some v))))))), (v, .inr (9, [.ref v1, .int v2, .int v3, .int v4, .int v5, .long v6]))] ++ pg cds ad gg) := hD.part (cx := [(h, .inr (12, [.ref nqu2, .int (nI (15 + 1)), .int md])), (nqu2, .inl (cT 7, 22, .inr (.inr (.inr (.inr (va_up (va_cpy lf (fun _ => none) 0 0 15) 15 (some v))))))), (v, .inr (9, [.ref v1, .int v2, .int v3, .int v4, .int v5, .long v6]))]) [1, 3, 0] (by decide) rfl
  refine W.widen (k := 1) (n := 22) (Nat.le_of_ble_eq_true rfl) (Nat.le_of_ble_eq_true rfl) ?_
  exact W.vret hx hb hr (fun t9 ht9 hW9 => ⟨⟨nqu2, rfl, (show True from trivial), by rw [ht9]; exact hP9, hD9⟩, hS.F ht9⟩) hS.2.2 dAL_add3_22
