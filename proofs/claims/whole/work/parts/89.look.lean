set_option maxHeartbeats 4000000 in
set_option maxRecDepth 100000 in
theorem k_alAdd3N0 (l : Launch) (D : va_G) (cT : Nat → ClassId) (tE : Nat) (mE : Nat) (h : Nat) (md : Int32) (v : Nat) (v1 : Int32) (v2 : Int32) (v3 : Int32) (v4 : Int32) (v5 : Int32) (v6 : Int32) (v7 : Int32) (v8 : Int32) (v9 : Nat) (sz : Nat) : Met l yAL_add3 WAL_add3 ({ frames := 3, cells := 1, slots := 10, locals := 64 } : Room) (RWE tE mE D vwCl [.ref h, .ref v, .ref tE, .int (nI 0)] [(h, .inr (12, [.ref tE, .int (nI 0), .int md])), (v, .inr (10, [.int v1, .int v2, .int v3, .int v4, .int v5, .int v6, .int v7, .int v8, .ref v9]))] (TY cT) sz) (va_Qv (fun u9 : Nat => True) (BW D vwCl (va_A [(h, .inr (12, [.ref tE, .int (nI 0), .int md])), (v, .inr (10, [.int v1, .int v2, .int v3, .int v4, .int v5, .int v6, .int v7, .int v8, .ref v9]))] sz) (fun u9 : Nat => [(h, .inr (12, [.ref u9, .int (nI (0 + 1)), .int md])), (u9, .inl (cT 7, 10, .inr (.inr (.inr (.inr (va_up (fun _ => none) 0 (some v))))))), (v, .inr (10, [.int v1, .int v2, .int v3, .int v4, .int v5, .int v6, .int v7, .int v8, .ref v9]))])) (va_A [(h, .inr (12, [.ref tE, .int (nI 0), .int md])), (v, .inr (10, [.int v1, .int v2, .int v3, .int v4, .int v5, .int v6, .int v7, .int v8, .ref v9]))] sz)) 1 10 (va_A [(h, .inr (12, [.ref tE, .int (nI 0), .int md])), (v, .inr (10, [.int v1, .int v2, .int v3, .int v4, .int v5, .int v6, .int v7, .int v8, .ref v9]))] sz) := by
  refine Met.ofW (cc := cAL_add3) (maxL := 4) (ret := none) (by decide) rfl ?_
  intro p e s m args below meth c s₁ B hml hv
  obtain ⟨rfl, ⟨hsz, hZ, hP, hK, hD0⟩, hE0⟩ := hv
  have hx := B.exec
  have hb := B.bytes
  have hr := B.returns
  have hts := atoms_spec (ws := WAL_add3) B.pre
  have hT : ∀ w ∈ TB, w.before _ s = true := fun w h => hts w (List.mem_cons_of_mem _ h)
  have hown : s.vm.findClass R_AL = some m.cls := findClass_of_methodNamed B.named
  have hlocks := B.notSynchronized
  subst hsz
  have hD := hD0.self (sz := s.heap.size)
  generalize hAe : va_A [(h, .inr (12, [.ref tE, .int (nI 0), .int md])), (v, .inr (10, [.int v1, .int v2, .int v3, .int v4, .int v5, .int v6, .int v7, .int v8, .ref v9]))] s.heap.size = A at hD hZ hE0 ⊢
  have hA : ∀ q : Nat, s.heap.size ≤ q → A q := fun q h => by rw [← hAe]; exact Or.inr h
  have hS : va_S A s.heap s.heap [] := va_S.rf
  have hl := lv_entry ([.ref h, .ref v, .ref tE, .int (nI 0)]) (n := 4) (Nat.le_of_ble_eq_true rfl)
  rw [lg_entry_eq]
  generalize (lg_sl ([.ref h, .ref v, .ref tE, .int (nI 0)]) ++ List.replicate (4 - (lg_sl ([.ref h, .ref v, .ref tE, .int (nI 0)])).length) Slot.unset).toArray = ls at hl ⊢
  have hl : lv_has ls 4 [(0, .ref h), (1, .ref v), (2, .ref tE), (3, .int (nI 0))] := hl
  refine lv_iload_n hx hb dAL_add3_0 rfl (lv_at hl 3 rfl) ?_
  refine lv_aload_n hx hb dAL_add3_1 rfl (lv_at hl 2 rfl) ?_
  refine va_tlen (v := 0) hx hb hE0.2.1 hS rfl dAL_add3_2 ?_
  refine lv_icmp_ne (tgt := 11) hx hb dAL_add3_3 rfl (fun h1 => absurd (by decide) h1) (fun _ => ?_)
  refine lv_aload_n hx hb dAL_add3_6 rfl (lv_at hl 0 rfl) ?_
  refine rx_r (wc := [(h, .inr (12, [.ref tE, .int (nI 0), .int md]))]) (wr := [(v, .inr (10, [.int v1, .int v2, .int v3, .int v4, .int v5, .int v6, .int v7, .int v8, .ref v9]))]) hP hD hS hA [0] [1] rfl rfl (by decide) (by decide) (va_runV (As := []) (rest := []) ⟨hx, hb, hml, hown, hT⟩ (k_alGrow0 l D cT tE mE h md _) ⟨callB_of 0 hT (tb_gd w765) rfl rfl rfl (hT _ w11) (hT _ w762) hAL_grow ⟨Nat.le_of_ble_eq_true rfl, Nat.le_of_ble_eq_true rfl⟩, (hT _ w764), (hT _ wp10)⟩ (RWE.preV (ci := 12) (q0 := 0) hE0 hZ hS (va_free (wc := [(h, .inr (12, [.ref tE, .int (nI 0), .int md]))]) hD hS hA [0] rfl) (hP.sub (ws' := [(h, .inr (12, [.ref tE, .int (nI 0), .int md]))]) [0] rfl) hK (hD.sub (ws' := [(h, .inr (12, [.ref tE, .int (nI 0), .int md]))]) [0] (by decide) rfl) rfl rfl) rfl rfl hl.1 rfl (lv_room (Nat.le_of_ble_eq_true rfl)) dAL_add3_7 ⟨Nat.le_of_ble_eq_true rfl, Nat.le_of_ble_eq_true rfl⟩) (fun u9 H locs hpu2 hP hD hS => ?_)
  obtain ⟨nqu2, rfl⟩ : ∃ q9, q9 = u9 := ⟨_, rfl⟩
  have hpu2 : True := hpu2
  have hP : va_P D vwCl [(v, .inr (10, [.int v1, .int v2, .int v3, .int v4, .int v5, .int v6, .int v7, .int v8, .ref v9])), (h, .inr (12, [.ref nqu2, .int (nI 0), .int md])), (nqu2, .inl (cT 7, 10, .inr (.inr (.inr (.inr (fun _ => none))))))] _ := hP
  have hD : va_D A [(v, .inr (10, [.int v1, .int v2, .int v3, .int v4, .int v5, .int v6, .int v7, .int v8, .ref v9])), (h, .inr (12, [.ref nqu2, .int (nI 0), .int md])), (nqu2, .inl (cT 7, 10, .inr (.inr (.inr (.inr (fun _ => none))))))] := hD
  refine W.eq (g2 := F0 m 10 ls [.ref nqu2]) rfl ?_
  refine lv_astore_n hx hb dAL_add3_10 rfl hl (by decide) rfl (fun ls hl => ?_)
  have hl : lv_has ls 4 [(2, .ref nqu2), (0, .ref h), (1, .ref v), (3, .int (nI 0))] := hl
  refine lv_aload_n hx hb dAL_add3_11 rfl (lv_at hl 0 rfl) ?_
  refine lv_iload_n hx hb dAL_add3_12 rfl (lv_at hl 3 rfl) ?_
  refine lv_aload_n hx hb dAL_add3_13 rfl (lv_at hl 2 rfl) ?_
  refine va_astqO (E := "java/lang/Object") hx hb hK hP hD hS 2 7 0 10 rfl rfl (by exact hZ.1.1 ("ResidualTrees$Node", "java/lang/Object") (List.mem_of_getElem? (i := 15) rfl)) rfl rfl (vp_in_nI (n := 0) (by decide) (by decide)) dAL_add3_14 (fun H locs hP hD hS => ?_)
  rw [nI_clamp (by omega)] at hP hD
  have hP : va_P D vwCl [(v, .inr (10, [.int v1, .int v2, .int v3, .int v4, .int v5, .int v6, .int v7, .int v8, .ref v9])), (h, .inr (12, [.ref nqu2, .int (nI 0), .int md])), (nqu2, .inl (cT 7, 10, .inr (.inr (.inr (.inr (va_up (fun _ => none) 0 (some v)))))))] _ := hP
  have hD : va_D A [(v, .inr (10, [.int v1, .int v2, .int v3, .int v4, .int v5, .int v6, .int v7, .int v8, .ref v9])), (h, .inr (12, [.ref nqu2, .int (nI 0), .int md])), (nqu2, .inl (cT 7, 10, .inr (.inr (.inr (.inr (va_up (fun _ => none) 0 (some v)))))))] := hD
  refine lv_aload_n hx hb dAL_add3_15 rfl (lv_at hl 1 rfl) ?_
  refine lv_iload_n hx hb dAL_add3_16 rfl (lv_at hl 3 rfl) ?_
  refine lv_iconst (v := 1) hx hb dAL_add3_17 (by decide) ?_
  refine lv_iadd hx hb dAL_add3_18 ?_
  refine lv_topi (fun y9 e9 => ?_)
  cases (show y9 = nI (0 + 1) from e9.trans (nI_add 0 1))
  refine va_put (D := D) (ci := 12) (v := .int (nI (0 + 1))) (ty := .int) (C := R_AL) (T := T_AL) (N := 3) hx hb hT in_AL ty_AL ty_AL_ok m_AL hown hK hP hD hS 1 rfl rfl 1 (by decide) (hT _ w269) (fun _ h9 => h9) rfl (by decide +kernel) rfl rfl (Nat.le_of_ble_eq_true rfl) dAL_add3_19 (fun H locs hP hD hS => ?_)
  have hP : va_P D vwCl [(v, .inr (10, [.int v1, .int v2, .int v3, .int v4, .int v5, .int v6, .int v7, .int v8, .ref v9])), (h, .inr (12, [.ref nqu2, .int (nI (0 + 1)), .int md])), (nqu2, .inl (cT 7, 10, .inr (.inr (.inr (.inr (va_up (fun _ => none) 0 (some v)))))))] _ := hP
  have hD : va_D A [(v, .inr (10, [.int v1, .int v2, .int v3, .int v4, .int v5, .int v6, .int v7, .int v8, .ref v9])), (h, .inr (12, [.ref nqu2, .int (nI (0 + 1)), .int md])), (nqu2, .inl (cT 7, 10, .inr (.inr (.inr (.inr (va_up (fun _ => none) 0 (some v)))))))] := hD
  have hP9 := hP.sub (ws' := [(h, .inr (12, [.ref nqu2, .int (nI (0 + 1)), .int md])), (nqu2, .inl (cT 7, 10, .inr (.inr (.inr (.inr (va_up (fun _ => none) 0 (some v))))))), (v, .inr (10, [.int v1, .int v2, .int v3, .int v4, .int v5, .int v6, .int v7, .int v8, .ref v9]))]) [1, 2, 0] rfl
  have hD9 := hD.sub (ws' := [(h, .inr (12, [.ref nqu2, .int (nI (0 + 1)), .int md])), (nqu2, .inl (cT 7, 10, .inr (.inr (.inr (.inr (va_up (fun _ => none) 0 (some v))))))), (v, .inr (10, [.int v1, .int v2, .int v3, .int v4, .int v5, .int v6, .int v7, .int v8, .ref v9]))]) [1, 2, 0] (by decide) rfl
  refine W.widen (k := 1) (n := 10) (Nat.le_of_ble_eq_true rfl) (Nat.le_of_ble_eq_true rfl) ?_
  exact W.vret hx hb hr (fun t9 ht9 hW9 => ⟨⟨nqu2, rfl, (show True from trivial), by rw [ht9]; exact hP9, hD9⟩, hS.F ht9⟩) hS.2.2 dAL_add3_22
set_option maxHeartbeats 4000000 in
set_option maxRecDepth 100000 in
theorem k_alAdd3N10 (l : Launch) (D : va_G) (cT : Nat → ClassId) (cds : List Nat) (ad : Nat → Nat) (gg : Nat → Option va_E) (tE : Nat) (mE : Nat) (h : Nat) (md : Int32) (le : Nat) (lf : Nat → Option Nat) (bs : Nat) (v : Nat) (v1 : Int32) (v2 : Int32) (v3 : Int32) (v4 : Int32) (v5 : Int32) (v6 : Int32) (v7 : Int32) (v8 : Int32) (v9 : Nat) (hcd : CD cds) (hel : ∀ k8, k8 < 10 → ∃ fs8 : List Value, bs + k8 < 8192 ∧ lf k8 = some (ad (bs + k8)) ∧ gg (bs + k8) = some (.inr (10, fs8))) (sz : Nat) : Met l yAL_add3 WAL_add3 ({ frames := 5, cells := 1, slots := 15, locals := 127 } : Room) (RWE tE mE D vwCl [.ref h, .ref v, .ref le, .int (nI 10)] ([(h, .inr (12, [.ref le, .int (nI 10), .int md])), (le, .inl (cT 7, 10, .inr (.inr (.inr (.inr lf))))), (v, .inr (10, [.int v1, .int v2, .int v3, .int v4, .int v5, .int v6, .int v7, .int v8, .ref v9]))] ++ pg cds ad gg) (TY cT) sz) (va_Qv (fun u9 : Nat => True) (BW D vwCl (va_A ([(h, .inr (12, [.ref le, .int (nI 10), .int md])), (le, .inl (cT 7, 10, .inr (.inr (.inr (.inr lf))))), (v, .inr (10, [.int v1, .int v2, .int v3, .int v4, .int v5, .int v6, .int v7, .int v8, .ref v9]))] ++ pg cds ad gg) sz) (fun u9 : Nat => ([(h, .inr (12, [.ref u9, .int (nI (10 + 1)), .int md])), (u9, .inl (cT 7, 15, .inr (.inr (.inr (.inr (va_up (va_cpy lf (fun _ => none) 0 0 10) 10 (some v))))))), (v, .inr (10, [.int v1, .int v2, .int v3, .int v4, .int v5, .int v6, .int v7, .int v8, .ref v9]))] ++ pg cds ad gg))) (va_A ([(h, .inr (12, [.ref le, .int (nI 10), .int md])), (le, .inl (cT 7, 10, .inr (.inr (.inr (.inr lf))))), (v, .inr (10, [.int v1, .int v2, .int v3, .int v4, .int v5, .int v6, .int v7, .int v8, .ref v9]))] ++ pg cds ad gg) sz)) 1 15 (va_A ([(h, .inr (12, [.ref le, .int (nI 10), .int md])), (le, .inl (cT 7, 10, .inr (.inr (.inr (.inr lf))))), (v, .inr (10, [.int v1, .int v2, .int v3, .int v4, .int v5, .int v6, .int v7, .int v8, .ref v9]))] ++ pg cds ad gg) sz) := by
  refine Met.ofW (cc := cAL_add3) (maxL := 4) (ret := none) (by decide) rfl ?_
  intro p e s m args below meth c s₁ B hml hv
  obtain ⟨rfl, ⟨hsz, hZ, hP, hK, hD0⟩, hE0⟩ := hv
  have hx := B.exec
  have hb := B.bytes
  have hr := B.returns
  have hts := atoms_spec (ws := WAL_add3) B.pre
  have hT : ∀ w ∈ TB, w.before _ s = true := fun w h => hts w (List.mem_cons_of_mem _ h)
  have hown : s.vm.findClass R_AL = some m.cls := findClass_of_methodNamed B.named
  have hlocks := B.notSynchronized
  subst hsz
  have hD := hD0.self (sz := s.heap.size)
  generalize hAe : va_A ([(h, .inr (12, [.ref le, .int (nI 10), .int md])), (le, .inl (cT 7, 10, .inr (.inr (.inr (.inr lf))))), (v, .inr (10, [.int v1, .int v2, .int v3, .int v4, .int v5, .int v6, .int v7, .int v8, .ref v9]))] ++ pg cds ad gg) s.heap.size = A at hD hZ hE0 ⊢
  have hA : ∀ q : Nat, s.heap.size ≤ q → A q := fun q h => by rw [← hAe]; exact Or.inr h
  have hS : va_S A s.heap s.heap [] := va_S.rf
  have hl := lv_entry ([.ref h, .ref v, .ref le, .int (nI 10)]) (n := 4) (Nat.le_of_ble_eq_true rfl)
  rw [lg_entry_eq]
  generalize (lg_sl ([.ref h, .ref v, .ref le, .int (nI 10)]) ++ List.replicate (4 - (lg_sl ([.ref h, .ref v, .ref le, .int (nI 10)])).length) Slot.unset).toArray = ls at hl ⊢
  have hl : lv_has ls 4 [(0, .ref h), (1, .ref v), (2, .ref le), (3, .int (nI 10))] := hl
  refine lv_iload_n hx hb dAL_add3_0 rfl (lv_at hl 3 rfl) ?_
  refine lv_aload_n hx hb dAL_add3_1 rfl (lv_at hl 2 rfl) ?_
  refine va_alen (v := 10) hx hb hK hP 1 7 rfl rfl rfl dAL_add3_2 ?_
  refine lv_icmp_ne (tgt := 11) hx hb dAL_add3_3 rfl (fun h1 => absurd (by decide) h1) (fun _ => ?_)
  refine lv_aload_n hx hb dAL_add3_6 rfl (lv_at hl 0 rfl) ?_
  refine hy_rP (X := [(h, .inr (12, [.ref le, .int (nI 10), .int md])), (le, .inl (cT 7, 10, .inr (.inr (.inr (.inr lf))))), (v, .inr (10, [.int v1, .int v2, .int v3, .int v4, .int v5, .int v6, .int v7, .int v8, .ref v9]))]) (pl := pg cds ad gg) (cx := [(h, .inr (12, [.ref le, .int (nI 10), .int md])), (le, .inl (cT 7, 10, .inr (.inr (.inr (.inr lf)))))]) (wr := [(v, .inr (10, [.int v1, .int v2, .int v3, .int v4, .int v5, .int v6, .int v7, .int v8, .ref v9]))]) hP hD hS hA [0, 1] [2] rfl rfl (by decide) (by decide) (va_runV (As := []) (rest := []) ⟨hx, hb, hml, hown, hT⟩ (k_alGrowN10 l D cT cds ad gg tE mE h md le lf bs hcd hel _) ⟨callB_of 0 hT (tb_gd w765) rfl rfl rfl (hT _ w11) (hT _ w762) hAL_grow ⟨Nat.le_of_ble_eq_true rfl, Nat.le_of_ble_eq_true rfl⟩, (hT _ w764), (hT _ wp10)⟩ (RWE.preV (ci := 12) (q0 := 0) hE0 hZ hS (va_freeP (cx := [(h, .inr (12, [.ref le, .int (nI 10), .int md])), (le, .inl (cT 7, 10, .inr (.inr (.inr (.inr lf)))))]) hD hS hA [0, 1] rfl) (hP.part (cx := [(h, .inr (12, [.ref le, .int (nI 10), .int md])), (le, .inl (cT 7, 10, .inr (.inr (.inr (.inr lf)))))]) [0, 1] rfl) hK (hD.part (cx := [(h, .inr (12, [.ref le, .int (nI 10), .int md])), (le, .inl (cT 7, 10, .inr (.inr (.inr (.inr lf)))))]) [0, 1] (by decide) rfl) rfl rfl) rfl rfl hl.1 rfl (lv_room (Nat.le_of_ble_eq_true rfl)) dAL_add3_7 ⟨Nat.le_of_ble_eq_true rfl, Nat.le_of_ble_eq_true rfl⟩) (fun u9 H locs hpu2 hP hD hS => ?_)
  obtain ⟨nqu2, rfl⟩ : ∃ q9, q9 = u9 := ⟨_, rfl⟩
  have hpu2 : True := hpu2
  have hP : va_P D vwCl ([(v, .inr (10, [.int v1, .int v2, .int v3, .int v4, .int v5, .int v6, .int v7, .int v8, .ref v9])), (h, .inr (12, [.ref nqu2, .int (nI 10), .int md])), (le, .inl (cT 7, 10, .inr (.inr (.inr (.inr lf))))), (nqu2, .inl (cT 7, 15, .inr (.inr (.inr (.inr (va_cpy lf (fun _ => none) 0 0 10))))))] ++ pg cds ad gg) _ := hP
  have hD : va_D A ([(v, .inr (10, [.int v1, .int v2, .int v3, .int v4, .int v5, .int v6, .int v7, .int v8, .ref v9])), (h, .inr (12, [.ref nqu2, .int (nI 10), .int md])), (le, .inl (cT 7, 10, .inr (.inr (.inr (.inr lf))))), (nqu2, .inl (cT 7, 15, .inr (.inr (.inr (.inr (va_cpy lf (fun _ => none) 0 0 10))))))] ++ pg cds ad gg) := hD
  refine W.eq (g2 := F0 m 10 ls [.ref nqu2]) rfl ?_
  refine lv_astore_n hx hb dAL_add3_10 rfl hl (by decide) rfl (fun ls hl => ?_)
  have hl : lv_has ls 4 [(2, .ref nqu2), (0, .ref h), (1, .ref v), (3, .int (nI 10))] := hl
  refine lv_aload_n hx hb dAL_add3_11 rfl (lv_at hl 0 rfl) ?_
  refine lv_iload_n hx hb dAL_add3_12 rfl (lv_at hl 3 rfl) ?_
  refine lv_aload_n hx hb dAL_add3_13 rfl (lv_at hl 2 rfl) ?_
  refine va_astqO (E := "java/lang/Object") hx hb hK hP hD hS 3 7 0 10 rfl rfl (by exact hZ.1.1 ("ResidualTrees$Node", "java/lang/Object") (List.mem_of_getElem? (i := 15) rfl)) rfl rfl (vp_in_nI (n := 10) (by decide) (by decide)) dAL_add3_14 (fun H locs hP hD hS => ?_)
  rw [nI_clamp (by omega)] at hP hD
  have hP : va_P D vwCl ([(v, .inr (10, [.int v1, .int v2, .int v3, .int v4, .int v5, .int v6, .int v7, .int v8, .ref v9])), (h, .inr (12, [.ref nqu2, .int (nI 10), .int md])), (le, .inl (cT 7, 10, .inr (.inr (.inr (.inr lf))))), (nqu2, .inl (cT 7, 15, .inr (.inr (.inr (.inr (va_up (va_cpy lf (fun _ => none) 0 0 10) 10 (some v)))))))] ++ pg cds ad gg) _ := hP
  have hD : va_D A ([(v, .inr (10, [.int v1, .int v2, .int v3, .int v4, .int v5, .int v6, .int v7, .int v8, .ref v9])), (h, .inr (12, [.ref nqu2, .int (nI 10), .int md])), (le, .inl (cT 7, 10, .inr (.inr (.inr (.inr lf))))), (nqu2, .inl (cT 7, 15, .inr (.inr (.inr (.inr (va_up (va_cpy lf (fun _ => none) 0 0 10) 10 (some v)))))))] ++ pg cds ad gg) := hD
  refine lv_aload_n hx hb dAL_add3_15 rfl (lv_at hl 1 rfl) ?_
  refine lv_iload_n hx hb dAL_add3_16 rfl (lv_at hl 3 rfl) ?_
  refine lv_iconst (v := 1) hx hb dAL_add3_17 (by decide) ?_
  refine lv_iadd hx hb dAL_add3_18 ?_
  refine lv_topi (fun y9 e9 => ?_)
  cases (show y9 = nI (10 + 1) from e9.trans (nI_add 10 1))
  refine va_put (D := D) (ci := 12) (v := .int (nI (10 + 1))) (ty := .int) (C := R_AL) (T := T_AL) (N := 3) hx hb hT in_AL ty_AL ty_AL_ok m_AL hown hK hP hD hS 1 rfl rfl 1 (by decide) (hT _ w269) (fun _ h9 => h9) rfl (by decide +kernel) rfl rfl (Nat.le_of_ble_eq_true rfl) dAL_add3_19 (fun H locs hP hD hS => ?_)
  have hP : va_P D vwCl ([(v, .inr (10, [.int v1, .int v2, .int v3, .int v4, .int v5, .int v6, .int v7, .int v8, .ref v9])), (h, .inr (12, [.ref nqu2, .int (nI (10 + 1)), .int md])), (le, .inl (cT 7, 10, .inr (.inr (.inr (.inr lf))))), (nqu2, .inl (cT 7, 15, .inr (.inr (.inr (.inr (va_up (va_cpy lf (fun _ => none) 0 0 10) 10 (some v)))))))] ++ pg cds ad gg) _ := hP
  have hD : va_D A ([(v, .inr (10, [.int v1, .int v2, .int v3, .int v4, .int v5, .int v6, .int v7, .int v8, .ref v9])), (h, .inr (12, [.ref nqu2, .int (nI (10 + 1)), .int md])), (le, .inl (cT 7, 10, .inr (.inr (.inr (.inr lf))))), (nqu2, .inl (cT 7, 15, .inr (.inr (.inr (.inr (va_up (va_cpy lf (fun _ => none) 0 0 10) 10 (some v)))))))] ++ pg cds ad gg) := hD
  have hP9 : va_P D vwCl ([(h, .inr (12, [.ref nqu2, .int (nI (10 + 1)), .int md])), (nqu2, .inl (cT 7, 15, .inr (.inr (.inr (.inr (va_up (va_cpy lf (fun _ => none) 0 0 10) 10 (some v))))))), (v, .inr (10, [.int v1, .int v2, .int v3, .int v4, .int v5, .int v6, .int v7, .int v8, .ref v9]))] ++ pg cds ad gg) _ := hP.part (cx := [(h, .inr (12, [.ref nqu2, .int (nI (10 + 1)), .int md])), (nqu2, .inl (cT 7, 15, .inr (.inr (.inr (.inr (va_up (va_cpy lf (fun _ => none) 0 0 10) 10 (some v))))))), (v, .inr (10, [.int v1, .int v2, .int v3, .int v4, .int v5, .int v6, .int v7, .int v8, .ref v9]))]) [1, 3, 0] rfl
  have hD9 : va_D A ([(h, .inr (12, [.ref nqu2, .int (nI (10 + 1)), .int md])), (nqu2, .inl (cT 7, 15, .inr (.inr (.inr (.inr (va_up (va_cpy lf (fun _ => none) 0 0 10) 10 (some v))))))), (v, .inr (10, [.int v1, .int v2, .int v3, .int v4, .int v5, .int v6, .int v7, .int v8, .ref v9]))] ++ pg cds ad gg) := hD.part (cx := [(h, .inr (12, [.ref nqu2, .int (nI (10 + 1)), .int md])), (nqu2, .inl (cT 7, 15, .inr (.inr (.inr (.inr (va_up (va_cpy lf (fun _ => none) 0 0 10) 10 (some v))))))), (v, .inr (10, [.int v1, .int v2, .int v3, .int v4, .int v5, .int v6, .int v7, .int v8, .ref v9]))]) [1, 3, 0] (by decide) rfl
  refine W.widen (k := 1) (n := 15) (Nat.le_of_ble_eq_true rfl) (Nat.le_of_ble_eq_true rfl) ?_
  exact W.vret hx hb hr (fun t9 ht9 hW9 => ⟨⟨nqu2, rfl, (show True from trivial), by rw [ht9]; exact hP9, hD9⟩, hS.F ht9⟩) hS.2.2 dAL_add3_22
set_option maxHeartbeats 4000000 in
set_option maxRecDepth 100000 in
theorem k_alAdd3N15 (l : Launch) (D : va_G) (cT : Nat → ClassId) (cds : List Nat) (ad : Nat → Nat) (gg : Nat → Option va_E) (tE : Nat) (mE : Nat) (h : Nat) (md : Int32) (le : Nat) (lf : Nat → Option Nat) (bs : Nat) (v : Nat) (v1 : Int32) (v2 : Int32) (v3 : Int32) (v4 : Int32) (v5 : Int32) (v6 : Int32) (v7 : Int32) (v8 : Int32) (v9 : Nat) (hcd : CD cds) (hel : ∀ k8, k8 < 15 → ∃ fs8 : List Value, bs + k8 < 8192 ∧ lf k8 = some (ad (bs + k8)) ∧ gg (bs + k8) = some (.inr (10, fs8))) (sz : Nat) : Met l yAL_add3 WAL_add3 ({ frames := 5, cells := 1, slots := 22, locals := 127 } : Room) (RWE tE mE D vwCl [.ref h, .ref v, .ref le, .int (nI 15)] ([(h, .inr (12, [.ref le, .int (nI 15), .int md])), (le, .inl (cT 7, 15, .inr (.inr (.inr (.inr lf))))), (v, .inr (10, [.int v1, .int v2, .int v3, .int v4, .int v5, .int v6, .int v7, .int v8, .ref v9]))] ++ pg cds ad gg) (TY cT) sz) (va_Qv (fun u9 : Nat => True) (BW D vwCl (va_A ([(h, .inr (12, [.ref le, .int (nI 15), .int md])), (le, .inl (cT 7, 15, .inr (.inr (.inr (.inr lf))))), (v, .inr (10, [.int v1, .int v2, .int v3, .int v4, .int v5, .int v6, .int v7, .int v8, .ref v9]))] ++ pg cds ad gg) sz) (fun u9 : Nat => ([(h, .inr (12, [.ref u9, .int (nI (15 + 1)), .int md])), (u9, .inl (cT 7, 22, .inr (.inr (.inr (.inr (va_up (va_cpy lf (fun _ => none) 0 0 15) 15 (some v))))))), (v, .inr (10, [.int v1, .int v2, .int v3, .int v4, .int v5, .int v6, .int v7, .int v8, .ref v9]))] ++ pg cds ad gg))) (va_A ([(h, .inr (12, [.ref le, .int (nI 15), .int md])), (le, .inl (cT 7, 15, .inr (.inr (.inr (.inr lf))))), (v, .inr (10, [.int v1, .int v2, .int v3, .int v4, .int v5, .int v6, .int v7, .int v8, .ref v9]))] ++ pg cds ad gg) sz)) 1 22 (va_A ([(h, .inr (12, [.ref le, .int (nI 15), .int md])), (le, .inl (cT 7, 15, .inr (.inr (.inr (.inr lf))))), (v, .inr (10, [.int v1, .int v2, .int v3, .int v4, .int v5, .int v6, .int v7, .int v8, .ref v9]))] ++ pg cds ad gg) sz) := by
  refine Met.ofW (cc := cAL_add3) (maxL := 4) (ret := none) (by decide) rfl ?_
  intro p e s m args below meth c s₁ B hml hv
  obtain ⟨rfl, ⟨hsz, hZ, hP, hK, hD0⟩, hE0⟩ := hv
  have hx := B.exec
  have hb := B.bytes
  have hr := B.returns
  have hts := atoms_spec (ws := WAL_add3) B.pre
  have hT : ∀ w ∈ TB, w.before _ s = true := fun w h => hts w (List.mem_cons_of_mem _ h)
  have hown : s.vm.findClass R_AL = some m.cls := findClass_of_methodNamed B.named
  have hlocks := B.notSynchronized
  subst hsz
  have hD := hD0.self (sz := s.heap.size)
  generalize hAe : va_A ([(h, .inr (12, [.ref le, .int (nI 15), .int md])), (le, .inl (cT 7, 15, .inr (.inr (.inr (.inr lf))))), (v, .inr (10, [.int v1, .int v2, .int v3, .int v4, .int v5, .int v6, .int v7, .int v8, .ref v9]))] ++ pg cds ad gg) s.heap.size = A at hD hZ hE0 ⊢
  have hA : ∀ q : Nat, s.heap.size ≤ q → A q := fun q h => by rw [← hAe]; exact Or.inr h
  have hS : va_S A s.heap s.heap [] := va_S.rf
  have hl := lv_entry ([.ref h, .ref v, .ref le, .int (nI 15)]) (n := 4) (Nat.le_of_ble_eq_true rfl)
  rw [lg_entry_eq]
  generalize (lg_sl ([.ref h, .ref v, .ref le, .int (nI 15)]) ++ List.replicate (4 - (lg_sl ([.ref h, .ref v, .ref le, .int (nI 15)])).length) Slot.unset).toArray = ls at hl ⊢
  have hl : lv_has ls 4 [(0, .ref h), (1, .ref v), (2, .ref le), (3, .int (nI 15))] := hl
  refine lv_iload_n hx hb dAL_add3_0 rfl (lv_at hl 3 rfl) ?_
  refine lv_aload_n hx hb dAL_add3_1 rfl (lv_at hl 2 rfl) ?_
  refine va_alen (v := 15) hx hb hK hP 1 7 rfl rfl rfl dAL_add3_2 ?_
  refine lv_icmp_ne (tgt := 11) hx hb dAL_add3_3 rfl (fun h1 => absurd (by decide) h1) (fun _ => ?_)
  refine lv_aload_n hx hb dAL_add3_6 rfl (lv_at hl 0 rfl) ?_
  refine hy_rP (X := [(h, .inr (12, [.ref le, .int (nI 15), .int md])), (le, .inl (cT 7, 15, .inr (.inr (.inr (.inr lf))))), (v, .inr (10, [.int v1, .int v2, .int v3, .int v4, .int v5, .int v6, .int v7, .int v8, .ref v9]))]) (pl := pg cds ad gg) (cx := [(h, .inr (12, [.ref le, .int (nI 15), .int md])), (le, .inl (cT 7, 15, .inr (.inr (.inr (.inr lf)))))]) (wr := [(v, .inr (10, [.int v1, .int v2, .int v3, .int v4, .int v5, .int v6, .int v7, .int v8, .ref v9]))]) hP hD hS hA [0, 1] [2] rfl rfl (by decide) (by decide) (va_runV (As := []) (rest := []) ⟨hx, hb, hml, hown, hT⟩ (k_alGrowN15 l D cT cds ad gg tE mE h md le lf bs hcd hel _) ⟨callB_of 0 hT (tb_gd w765) rfl rfl rfl (hT _ w11) (hT _ w762) hAL_grow ⟨Nat.le_of_ble_eq_true rfl, Nat.le_of_ble_eq_true rfl⟩, (hT _ w764), (hT _ wp10)⟩ (RWE.preV (ci := 12) (q0 := 0) hE0 hZ hS (va_freeP (cx := [(h, .inr (12, [.ref le, .int (nI 15), .int md])), (le, .inl (cT 7, 15, .inr (.inr (.inr (.inr lf)))))]) hD hS hA [0, 1] rfl) (hP.part (cx := [(h, .inr (12, [.ref le, .int (nI 15), .int md])), (le, .inl (cT 7, 15, .inr (.inr (.inr (.inr lf)))))]) [0, 1] rfl) hK (hD.part (cx := [(h, .inr (12, [.ref le, .int (nI 15), .int md])), (le, .inl (cT 7, 15, .inr (.inr (.inr (.inr lf)))))]) [0, 1] (by decide) rfl) rfl rfl) rfl rfl hl.1 rfl (lv_room (Nat.le_of_ble_eq_true rfl)) dAL_add3_7 ⟨Nat.le_of_ble_eq_true rfl, Nat.le_of_ble_eq_true rfl⟩) (fun u9 H locs hpu2 hP hD hS => ?_)
  obtain ⟨nqu2, rfl⟩ : ∃ q9, q9 = u9 := ⟨_, rfl⟩
  have hpu2 : True := hpu2
  have hP : va_P D vwCl ([(v, .inr (10, [.int v1, .int v2, .int v3, .int v4, .int v5, .int v6, .int v7, .int v8, .ref v9])), (h, .inr (12, [.ref nqu2, .int (nI 15), .int md])), (le, .inl (cT 7, 15, .inr (.inr (.inr (.inr lf))))), (nqu2, .inl (cT 7, 22, .inr (.inr (.inr (.inr (va_cpy lf (fun _ => none) 0 0 15))))))] ++ pg cds ad gg) _ := hP
  have hD : va_D A ([(v, .inr (10, [.int v1, .int v2, .int v3, .int v4, .int v5, .int v6, .int v7, .int v8, .ref v9])), (h, .inr (12, [.ref nqu2, .int (nI 15), .int md])), (le, .inl (cT 7, 15, .inr (.inr (.inr (.inr lf))))), (nqu2, .inl (cT 7, 22, .inr (.inr (.inr (.inr (va_cpy lf (fun _ => none) 0 0 15))))))] ++ pg cds ad gg) := hD
  refine W.eq (g2 := F0 m 10 ls [.ref nqu2]) rfl ?_
  refine lv_astore_n hx hb dAL_add3_10 rfl hl (by decide) rfl (fun ls hl => ?_)
  have hl : lv_has ls 4 [(2, .ref nqu2), (0, .ref h), (1, .ref v), (3, .int (nI 15))] := hl
  refine lv_aload_n hx hb dAL_add3_11 rfl (lv_at hl 0 rfl) ?_
  refine lv_iload_n hx hb dAL_add3_12 rfl (lv_at hl 3 rfl) ?_
  refine lv_aload_n hx hb dAL_add3_13 rfl (lv_at hl 2 rfl) ?_
  refine va_astqO (E := "java/lang/Object") hx hb hK hP hD hS 3 7 0 10 rfl rfl (by exact hZ.1.1 ("ResidualTrees$Node", "java/lang/Object") (List.mem_of_getElem? (i := 15) rfl)) rfl rfl (vp_in_nI (n := 15) (by decide) (by decide)) dAL_add3_14 (fun H locs hP hD hS => ?_)
  rw [nI_clamp (by omega)] at hP hD
  have hP : va_P D vwCl ([(v, .inr (10, [.int v1, .int v2, .int v3, .int v4, .int v5, .int v6, .int v7, .int v8, .ref v9])), (h, .inr (12, [.ref nqu2, .int (nI 15), .int md])), (le, .inl (cT 7, 15, .inr (.inr (.inr (.inr lf))))), (nqu2, .inl (cT 7, 22, .inr (.inr (.inr (.inr (va_up (va_cpy lf (fun _ => none) 0 0 15) 15 (some v)))))))] ++ pg cds ad gg) _ := hP
  have hD : va_D A ([(v, .inr (10, [.int v1, .int v2, .int v3, .int v4, .int v5, .int v6, .int v7, .int v8, .ref v9])), (h, .inr (12, [.ref nqu2, .int (nI 15), .int md])), (le, .inl (cT 7, 15, .inr (.inr (.inr (.inr lf))))), (nqu2, .inl (cT 7, 22, .inr (.inr (.inr (.inr (va_up (va_cpy lf (fun _ => none) 0 0 15) 15 (some v)))))))] ++ pg cds ad gg) := hD
  refine lv_aload_n hx hb dAL_add3_15 rfl (lv_at hl 1 rfl) ?_
  refine lv_iload_n hx hb dAL_add3_16 rfl (lv_at hl 3 rfl) ?_
  refine lv_iconst (v := 1) hx hb dAL_add3_17 (by decide) ?_
  refine lv_iadd hx hb dAL_add3_18 ?_
  refine lv_topi (fun y9 e9 => ?_)
  cases (show y9 = nI (15 + 1) from e9.trans (nI_add 15 1))
  refine va_put (D := D) (ci := 12) (v := .int (nI (15 + 1))) (ty := .int) (C := R_AL) (T := T_AL) (N := 3) hx hb hT in_AL ty_AL ty_AL_ok m_AL hown hK hP hD hS 1 rfl rfl 1 (by decide) (hT _ w269) (fun _ h9 => h9) rfl (by decide +kernel) rfl rfl (Nat.le_of_ble_eq_true rfl) dAL_add3_19 (fun H locs hP hD hS => ?_)
  have hP : va_P D vwCl ([(v, .inr (10, [.int v1, .int v2, .int v3, .int v4, .int v5, .int v6, .int v7, .int v8, .ref v9])), (h, .inr (12, [.ref nqu2, .int (nI (15 + 1)), .int md])), (le, .inl (cT 7, 15, .inr (.inr (.inr (.inr lf))))), (nqu2, .inl (cT 7, 22, .inr (.inr (.inr (.inr (va_up (va_cpy lf (fun _ => none) 0 0 15) 15 (some v)))))))] ++ pg cds ad gg) _ := hP
  have hD : va_D A ([(v, .inr (10, [.int v1, .int v2, .int v3, .int v4, .int v5, .int v6, .int v7, .int v8, .ref v9])), (h, .inr (12, [.ref nqu2, .int (nI (15 + 1)), .int md])), (le, .inl (cT 7, 15, .inr (.inr (.inr (.inr lf))))), (nqu2, .inl (cT 7, 22, .inr (.inr (.inr (.inr (va_up (va_cpy lf (fun _ => none) 0 0 15) 15 (some v)))))))] ++ pg cds ad gg) := hD
  have hP9 : va_P D vwCl ([(h, .inr (12, [.ref nqu2, .int (nI (15 + 1)), .int md])), (nqu2, .inl (cT 7, 22, .inr (.inr (.inr (.inr (va_up (va_cpy lf (fun _ => none) 0 0 15) 15 (some v))))))), (v, .inr (10, [.int v1, .int v2, .int v3, .int v4, .int v5, .int v6, .int v7, .int v8, .ref v9]))] ++ pg cds ad gg) _ := hP.part (cx := [(h, .inr (12, [.ref nqu2, .int (nI (15 + 1)), .int md])), (nqu2, .inl (cT 7, 22, .inr (.inr (.inr (.inr (va_up (va_cpy lf (fun _ => none) 0 0 15) 15 (some v))))))), (v, .inr (10, [.int v1, .int v2, .int v3, .int v4, .int v5, .int v6, .int v7, .int v8, .ref v9]))]) [1, 3, 0] rfl
  have hD9 : va_D A ([(h, .inr (12, [.ref nqu2, .int (nI (15 + 1)), .int md])), (nqu2, .inl (cT 7, 22, .inr (.inr (.inr (.inr (va_up (va_cpy lf (fun _ => none) 0 0 15) 15 (some v))))))), (v, .inr (10, [.int v1, .int v2, .int v3, .int v4, .int v5, .int v6, .int v7, .int v8, .ref v9]))] ++ pg cds ad gg) := hD.part (cx := [(h, .inr (12, [.ref nqu2, .int (nI (15 + 1)), .int md])), (nqu2, .inl (cT 7, 22, .inr (.inr (.inr (.inr (va_up (va_cpy lf (fun _ => none) 0 0 15) 15 (some v))))))), (v, .inr (10, [.int v1, .int v2, .int v3, .int v4, .int v5, .int v6, .int v7, .int v8, .ref v9]))]) [1, 3, 0] (by decide) rfl
  refine W.widen (k := 1) (n := 22) (Nat.le_of_ble_eq_true rfl) (Nat.le_of_ble_eq_true rfl) ?_
  exact W.vret hx hb hr (fun t9 ht9 hW9 => ⟨⟨nqu2, rfl, (show True from trivial), by rw [ht9]; exact hP9, hD9⟩, hS.F ht9⟩) hS.2.2 dAL_add3_22
set_option maxHeartbeats 4000000 in
set_option maxRecDepth 100000 in
theorem k_alAdd3N22 (l : Launch) (D : va_G) (cT : Nat → ClassId) (cds : List Nat) (ad : Nat → Nat) (gg : Nat → Option va_E) (tE : Nat) (mE : Nat) (h : Nat) (md : Int32) (le : Nat) (lf : Nat → Option Nat) (bs : Nat) (v : Nat) (v1 : Int32) (v2 : Int32) (v3 : Int32) (v4 : Int32) (v5 : Int32) (v6 : Int32) (v7 : Int32) (v8 : Int32) (v9 : Nat) (hcd : CD cds) (hel : ∀ k8, k8 < 22 → ∃ fs8 : List Value, bs + k8 < 8192 ∧ lf k8 = some (ad (bs + k8)) ∧ gg (bs + k8) = some (.inr (10, fs8))) (sz : Nat) : Met l yAL_add3 WAL_add3 ({ frames := 5, cells := 1, slots := 33, locals := 127 } : Room) (RWE tE mE D vwCl [.ref h, .ref v, .ref le, .int (nI 22)] ([(h, .inr (12, [.ref le, .int (nI 22), .int md])), (le, .inl (cT 7, 22, .inr (.inr (.inr (.inr lf))))), (v, .inr (10, [.int v1, .int v2, .int v3, .int v4, .int v5, .int v6, .int v7, .int v8, .ref v9]))] ++ pg cds ad gg) (TY cT) sz) (va_Qv (fun u9 : Nat => True) (BW D vwCl (va_A ([(h, .inr (12, [.ref le, .int (nI 22), .int md])), (le, .inl (cT 7, 22, .inr (.inr (.inr (.inr lf))))), (v, .inr (10, [.int v1, .int v2, .int v3, .int v4, .int v5, .int v6, .int v7, .int v8, .ref v9]))] ++ pg cds ad gg) sz) (fun u9 : Nat => ([(h, .inr (12, [.ref u9, .int (nI (22 + 1)), .int md])), (u9, .inl (cT 7, 33, .inr (.inr (.inr (.inr (va_up (va_cpy lf (fun _ => none) 0 0 22) 22 (some v))))))), (v, .inr (10, [.int v1, .int v2, .int v3, .int v4, .int v5, .int v6, .int v7, .int v8, .ref v9]))] ++ pg cds ad gg))) (va_A ([(h, .inr (12, [.ref le, .int (nI 22), .int md])), (le, .inl (cT 7, 22, .inr (.inr (.inr (.inr lf))))), (v, .inr (10, [.int v1, .int v2, .int v3, .int v4, .int v5, .int v6, .int v7, .int v8, .ref v9]))] ++ pg cds ad gg) sz)) 1 33 (va_A ([(h, .inr (12, [.ref le, .int (nI 22), .int md])), (le, .inl (cT 7, 22, .inr (.inr (.inr (.inr lf))))), (v, .inr (10, [.int v1, .int v2, .int v3, .int v4, .int v5, .int v6, .int v7, .int v8, .ref v9]))] ++ pg cds ad gg) sz) := by
  refine Met.ofW (cc := cAL_add3) (maxL := 4) (ret := none) (by decide) rfl ?_
  intro p e s m args below meth c s₁ B hml hv
  obtain ⟨rfl, ⟨hsz, hZ, hP, hK, hD0⟩, hE0⟩ := hv
  have hx := B.exec
  have hb := B.bytes
  have hr := B.returns
  have hts := atoms_spec (ws := WAL_add3) B.pre
  have hT : ∀ w ∈ TB, w.before _ s = true := fun w h => hts w (List.mem_cons_of_mem _ h)
  have hown : s.vm.findClass R_AL = some m.cls := findClass_of_methodNamed B.named
  have hlocks := B.notSynchronized
  subst hsz
  have hD := hD0.self (sz := s.heap.size)
  generalize hAe : va_A ([(h, .inr (12, [.ref le, .int (nI 22), .int md])), (le, .inl (cT 7, 22, .inr (.inr (.inr (.inr lf))))), (v, .inr (10, [.int v1, .int v2, .int v3, .int v4, .int v5, .int v6, .int v7, .int v8, .ref v9]))] ++ pg cds ad gg) s.heap.size = A at hD hZ hE0 ⊢
  have hA : ∀ q : Nat, s.heap.size ≤ q → A q := fun q h => by rw [← hAe]; exact Or.inr h
  have hS : va_S A s.heap s.heap [] := va_S.rf
  have hl := lv_entry ([.ref h, .ref v, .ref le, .int (nI 22)]) (n := 4) (Nat.le_of_ble_eq_true rfl)
  rw [lg_entry_eq]
  generalize (lg_sl ([.ref h, .ref v, .ref le, .int (nI 22)]) ++ List.replicate (4 - (lg_sl ([.ref h, .ref v, .ref le, .int (nI 22)])).length) Slot.unset).toArray = ls at hl ⊢
  have hl : lv_has ls 4 [(0, .ref h), (1, .ref v), (2, .ref le), (3, .int (nI 22))] := hl
  refine lv_iload_n hx hb dAL_add3_0 rfl (lv_at hl 3 rfl) ?_
  refine lv_aload_n hx hb dAL_add3_1 rfl (lv_at hl 2 rfl) ?_
  refine va_alen (v := 22) hx hb hK hP 1 7 rfl rfl rfl dAL_add3_2 ?_
  refine lv_icmp_ne (tgt := 11) hx hb dAL_add3_3 rfl (fun h1 => absurd (by decide) h1) (fun _ => ?_)
  refine lv_aload_n hx hb dAL_add3_6 rfl (lv_at hl 0 rfl) ?_
  refine hy_rP (X := [(h, .inr (12, [.ref le, .int (nI 22), .int md])), (le, .inl (cT 7, 22, .inr (.inr (.inr (.inr lf))))), (v, .inr (10, [.int v1, .int v2, .int v3, .int v4, .int v5, .int v6, .int v7, .int v8, .ref v9]))]) (pl := pg cds ad gg) (cx := [(h, .inr (12, [.ref le, .int (nI 22), .int md])), (le, .inl (cT 7, 22, .inr (.inr (.inr (.inr lf)))))]) (wr := [(v, .inr (10, [.int v1, .int v2, .int v3, .int v4, .int v5, .int v6, .int v7, .int v8, .ref v9]))]) hP hD hS hA [0, 1] [2] rfl rfl (by decide) (by decide) (va_runV (As := []) (rest := []) ⟨hx, hb, hml, hown, hT⟩ (k_alGrowN22 l D cT cds ad gg tE mE h md le lf bs hcd hel _) ⟨callB_of 0 hT (tb_gd w765) rfl rfl rfl (hT _ w11) (hT _ w762) hAL_grow ⟨Nat.le_of_ble_eq_true rfl, Nat.le_of_ble_eq_true rfl⟩, (hT _ w764), (hT _ wp10)⟩ (RWE.preV (ci := 12) (q0 := 0) hE0 hZ hS (va_freeP (cx := [(h, .inr (12, [.ref le, .int (nI 22), .int md])), (le, .inl (cT 7, 22, .inr (.inr (.inr (.inr lf)))))]) hD hS hA [0, 1] rfl) (hP.part (cx := [(h, .inr (12, [.ref le, .int (nI 22), .int md])), (le, .inl (cT 7, 22, .inr (.inr (.inr (.inr lf)))))]) [0, 1] rfl) hK (hD.part (cx := [(h, .inr (12, [.ref le, .int (nI 22), .int md])), (le, .inl (cT 7, 22, .inr (.inr (.inr (.inr lf)))))]) [0, 1] (by decide) rfl) rfl rfl) rfl rfl hl.1 rfl (lv_room (Nat.le_of_ble_eq_true rfl)) dAL_add3_7 ⟨Nat.le_of_ble_eq_true rfl, Nat.le_of_ble_eq_true rfl⟩) (fun u9 H locs hpu2 hP hD hS => ?_)
  obtain ⟨nqu2, rfl⟩ : ∃ q9, q9 = u9 := ⟨_, rfl⟩
  have hpu2 : True := hpu2
  have hP : va_P D vwCl ([(v, .inr (10, [.int v1, .int v2, .int v3, .int v4, .int v5, .int v6, .int v7, .int v8, .ref v9])), (h, .inr (12, [.ref nqu2, .int (nI 22), .int md])), (le, .inl (cT 7, 22, .inr (.inr (.inr (.inr lf))))), (nqu2, .inl (cT 7, 33, .inr (.inr (.inr (.inr (va_cpy lf (fun _ => none) 0 0 22))))))] ++ pg cds ad gg) _ := hP
  have hD : va_D A ([(v, .inr (10, [.int v1, .int v2, .int v3, .int v4, .int v5, .int v6, .int v7, .int v8, .ref v9])), (h, .inr (12, [.ref nqu2, .int (nI 22), .int md])), (le, .inl (cT 7, 22, .inr (.inr (.inr (.inr lf))))), (nqu2, .inl (cT 7, 33, .inr (.inr (.inr (.inr (va_cpy lf (fun _ => none) 0 0 22))))))] ++ pg cds ad gg) := hD
  refine W.eq (g2 := F0 m 10 ls [.ref nqu2]) rfl ?_
  refine lv_astore_n hx hb dAL_add3_10 rfl hl (by decide) rfl (fun ls hl => ?_)
  have hl : lv_has ls 4 [(2, .ref nqu2), (0, .ref h), (1, .ref v), (3, .int (nI 22))] := hl
  refine lv_aload_n hx hb dAL_add3_11 rfl (lv_at hl 0 rfl) ?_
  refine lv_iload_n hx hb dAL_add3_12 rfl (lv_at hl 3 rfl) ?_
  refine lv_aload_n hx hb dAL_add3_13 rfl (lv_at hl 2 rfl) ?_
  refine va_astqO (E := "java/lang/Object") hx hb hK hP hD hS 3 7 0 10 rfl rfl (by exact hZ.1.1 ("ResidualTrees$Node", "java/lang/Object") (List.mem_of_getElem? (i := 15) rfl)) rfl rfl (vp_in_nI (n := 22) (by decide) (by decide)) dAL_add3_14 (fun H locs hP hD hS => ?_)
  rw [nI_clamp (by omega)] at hP hD
  have hP : va_P D vwCl ([(v, .inr (10, [.int v1, .int v2, .int v3, .int v4, .int v5, .int v6, .int v7, .int v8, .ref v9])), (h, .inr (12, [.ref nqu2, .int (nI 22), .int md])), (le, .inl (cT 7, 22, .inr (.inr (.inr (.inr lf))))), (nqu2, .inl (cT 7, 33, .inr (.inr (.inr (.inr (va_up (va_cpy lf (fun _ => none) 0 0 22) 22 (some v)))))))] ++ pg cds ad gg) _ := hP
  have hD : va_D A ([(v, .inr (10, [.int v1, .int v2, .int v3, .int v4, .int v5, .int v6, .int v7, .int v8, .ref v9])), (h, .inr (12, [.ref nqu2, .int (nI 22), .int md])), (le, .inl (cT 7, 22, .inr (.inr (.inr (.inr lf))))), (nqu2, .inl (cT 7, 33, .inr (.inr (.inr (.inr (va_up (va_cpy lf (fun _ => none) 0 0 22) 22 (some v)))))))] ++ pg cds ad gg) := hD
  refine lv_aload_n hx hb dAL_add3_15 rfl (lv_at hl 1 rfl) ?_
  refine lv_iload_n hx hb dAL_add3_16 rfl (lv_at hl 3 rfl) ?_
  refine lv_iconst (v := 1) hx hb dAL_add3_17 (by decide) ?_
  refine lv_iadd hx hb dAL_add3_18 ?_
  refine lv_topi (fun y9 e9 => ?_)
  cases (show y9 = nI (22 + 1) from e9.trans (nI_add 22 1))
  refine va_put (D := D) (ci := 12) (v := .int (nI (22 + 1))) (ty := .int) (C := R_AL) (T := T_AL) (N := 3) hx hb hT in_AL ty_AL ty_AL_ok m_AL hown hK hP hD hS 1 rfl rfl 1 (by decide) (hT _ w269) (fun _ h9 => h9) rfl (by decide +kernel) rfl rfl (Nat.le_of_ble_eq_true rfl) dAL_add3_19 (fun H locs hP hD hS => ?_)
  have hP : va_P D vwCl ([(v, .inr (10, [.int v1, .int v2, .int v3, .int v4, .int v5, .int v6, .int v7, .int v8, .ref v9])), (h, .inr (12, [.ref nqu2, .int (nI (22 + 1)), .int md])), (le, .inl (cT 7, 22, .inr (.inr (.inr (.inr lf))))), (nqu2, .inl (cT 7, 33, .inr (.inr (.inr (.inr (va_up (va_cpy lf (fun _ => none) 0 0 22) 22 (some v)))))))] ++ pg cds ad gg) _ := hP
  have hD : va_D A ([(v, .inr (10, [.int v1, .int v2, .int v3, .int v4, .int v5, .int v6, .int v7, .int v8, .ref v9])), (h, .inr (12, [.ref nqu2, .int (nI (22 + 1)), .int md])), (le, .inl (cT 7, 22, .inr (.inr (.inr (.inr lf))))), (nqu2, .inl (cT 7, 33, .inr (.inr (.inr (.inr (va_up (va_cpy lf (fun _ => none) 0 0 22) 22 (some v)))))))] ++ pg cds ad gg) := hD
  have hP9 : va_P D vwCl ([(h, .inr (12, [.ref nqu2, .int (nI (22 + 1)), .int md])), (nqu2, .inl (cT 7, 33, .inr (.inr (.inr (.inr (va_up (va_cpy lf (fun _ => none) 0 0 22) 22 (some v))))))), (v, .inr (10, [.int v1, .int v2, .int v3, .int v4, .int v5, .int v6, .int v7, .int v8, .ref v9]))] ++ pg cds ad gg) _ := hP.part (cx := [(h, .inr (12, [.ref nqu2, .int (nI (22 + 1)), .int md])), (nqu2, .inl (cT 7, 33, .inr (.inr (.inr (.inr (va_up (va_cpy lf (fun _ => none) 0 0 22) 22 (some v))))))), (v, .inr (10, [.int v1, .int v2, .int v3, .int v4, .int v5, .int v6, .int v7, .int v8, .ref v9]))]) [1, 3, 0] rfl
  have hD9 : va_D A ([(h, .inr (12, [.ref nqu2, .int (nI (22 + 1)), .int md])), (nqu2, .inl (cT 7, 33, .inr (.inr (.inr (.inr (va_up (va_cpy lf (fun _ => none) 0 0 22) 22 (some v))))))), (v, .inr (10, [.int v1, .int v2, .int v3, .int v4, .int v5, .int v6, .int v7, .int v8, .ref v9]))] ++ pg cds ad gg) := hD.part (cx := [(h, .inr (12, [.ref nqu2, .int (nI (22 + 1)), .int md])), (nqu2, .inl (cT 7, 33, .inr (.inr (.inr (.inr (va_up (va_cpy lf (fun _ => none) 0 0 22) 22 (some v))))))), (v, .inr (10, [.int v1, .int v2, .int v3, .int v4, .int v5, .int v6, .int v7, .int v8, .ref v9]))]) [1, 3, 0] (by decide) rfl
  refine W.widen (k := 1) (n := 33) (Nat.le_of_ble_eq_true rfl) (Nat.le_of_ble_eq_true rfl) ?_
  exact W.vret hx hb hr (fun t9 ht9 hW9 => ⟨⟨nqu2, rfl, (show True from trivial), by rw [ht9]; exact hP9, hD9⟩, hS.F ht9⟩) hS.2.2 dAL_add3_22
set_option maxHeartbeats 4000000 in
set_option maxRecDepth 100000 in
theorem k_alAdd3T0 (l : Launch) (D : va_G) (cT : Nat → ClassId) (tE : Nat) (mE : Nat) (h : Nat) (md : Int32) (v : Nat) (v1 : Nat) (v2 : Int32) (v3 : Int32) (v4 : Int32) (v5 : Int32) (v6 : Int64) (sz : Nat) : Met l yAL_add3 WAL_add3 ({ frames := 3, cells := 1, slots := 10, locals := 64 } : Room) (RWE tE mE D vwCl [.ref h, .ref v, .ref tE, .int (nI 0)] [(h, .inr (12, [.ref tE, .int (nI 0), .int md])), (v, .inr (9, [.ref v1, .int v2, .int v3, .int v4, .int v5, .long v6]))] (TY cT) sz) (va_Qv (fun u9 : Nat => True) (BW D vwCl (va_A [(h, .inr (12, [.ref tE, .int (nI 0), .int md])), (v, .inr (9, [.ref v1, .int v2, .int v3, .int v4, .int v5, .long v6]))] sz) (fun u9 : Nat => [(h, .inr (12, [.ref u9, .int (nI (0 + 1)), .int md])), (u9, .inl (cT 7, 10, .inr (.inr (.inr (.inr (va_up (fun _ => none) 0 (some v))))))), (v, .inr (9, [.ref v1, .int v2, .int v3, .int v4, .int v5, .long v6]))])) (va_A [(h, .inr (12, [.ref tE, .int (nI 0), .int md])), (v, .inr (9, [.ref v1, .int v2, .int v3, .int v4, .int v5, .long v6]))] sz)) 1 10 (va_A [(h, .inr (12, [.ref tE, .int (nI 0), .int md])), (v, .inr (9, [.ref v1, .int v2, .int v3, .int v4, .int v5, .long v6]))] sz) := by
  refine Met.ofW (cc := cAL_add3) (maxL := 4) (ret := none) (by decide) rfl ?_
  intro p e s m args below meth c s₁ B hml hv
  obtain ⟨rfl, ⟨hsz, hZ, hP, hK, hD0⟩, hE0⟩ := hv
  have hx := B.exec
  have hb := B.bytes
  have hr := B.returns
  have hts := atoms_spec (ws := WAL_add3) B.pre
  have hT : ∀ w ∈ TB, w.before _ s = true := fun w h => hts w (List.mem_cons_of_mem _ h)
  have hown : s.vm.findClass R_AL = some m.cls := findClass_of_methodNamed B.named
  have hlocks := B.notSynchronized
  subst hsz
  have hD := hD0.self (sz := s.heap.size)
  generalize hAe : va_A [(h, .inr (12, [.ref tE, .int (nI 0), .int md])), (v, .inr (9, [.ref v1, .int v2, .int v3, .int v4, .int v5, .long v6]))] s.heap.size = A at hD hZ hE0 ⊢
  have hA : ∀ q : Nat, s.heap.size ≤ q → A q := fun q h => by rw [← hAe]; exact Or.inr h
  have hS : va_S A s.heap s.heap [] := va_S.rf
  have hl := lv_entry ([.ref h, .ref v, .ref tE, .int (nI 0)]) (n := 4) (Nat.le_of_ble_eq_true rfl)
  rw [lg_entry_eq]
  generalize (lg_sl ([.ref h, .ref v, .ref tE, .int (nI 0)]) ++ List.replicate (4 - (lg_sl ([.ref h, .ref v, .ref tE, .int (nI 0)])).length) Slot.unset).toArray = ls at hl ⊢
  have hl : lv_has ls 4 [(0, .ref h), (1, .ref v), (2, .ref tE), (3, .int (nI 0))] := hl
  refine lv_iload_n hx hb dAL_add3_0 rfl (lv_at hl 3 rfl) ?_
  refine lv_aload_n hx hb dAL_add3_1 rfl (lv_at hl 2 rfl) ?_
  refine va_tlen (v := 0) hx hb hE0.2.1 hS rfl dAL_add3_2 ?_
  refine lv_icmp_ne (tgt := 11) hx hb dAL_add3_3 rfl (fun h1 => absurd (by decide) h1) (fun _ => ?_)
  refine lv_aload_n hx hb dAL_add3_6 rfl (lv_at hl 0 rfl) ?_
  refine rx_r (wc := [(h, .inr (12, [.ref tE, .int (nI 0), .int md]))]) (wr := [(v, .inr (9, [.ref v1, .int v2, .int v3, .int v4, .int v5, .long v6]))]) hP hD hS hA [0] [1] rfl rfl (by decide) (by decide) (va_runV (As := []) (rest := []) ⟨hx, hb, hml, hown, hT⟩ (k_alGrow0 l D cT tE mE h md _) ⟨callB_of 0 hT (tb_gd w765) rfl rfl rfl (hT _ w11) (hT _ w762) hAL_grow ⟨Nat.le_of_ble_eq_true rfl, Nat.le_of_ble_eq_true rfl⟩, (hT _ w764), (hT _ wp10)⟩ (RWE.preV (ci := 12) (q0 := 0) hE0 hZ hS (va_free (wc := [(h, .inr (12, [.ref tE, .int (nI 0), .int md]))]) hD hS hA [0] rfl) (hP.sub (ws' := [(h, .inr (12, [.ref tE, .int (nI 0), .int md]))]) [0] rfl) hK (hD.sub (ws' := [(h, .inr (12, [.ref tE, .int (nI 0), .int md]))]) [0] (by decide) rfl) rfl rfl) rfl rfl hl.1 rfl (lv_room (Nat.le_of_ble_eq_true rfl)) dAL_add3_7 ⟨Nat.le_of_ble_eq_true rfl, Nat.le_of_ble_eq_true rfl⟩) (fun u9 H locs hpu2 hP hD hS => ?_)
  obtain ⟨nqu2, rfl⟩ : ∃ q9, q9 = u9 := ⟨_, rfl⟩
  have hpu2 : True := hpu2
  have hP : va_P D vwCl [(v, .inr (9, [.ref v1, .int v2, .int v3, .int v4, .int v5, .long v6])), (h, .inr (12, [.ref nqu2, .int (nI 0), .int md])), (nqu2, .inl (cT 7, 10, .inr (.inr (.inr (.inr (fun _ => none))))))] _ := hP
  have hD : va_D A [(v, .inr (9, [.ref v1, .int v2, .int v3, .int v4, .int v5, .long v6])), (h, .inr (12, [.ref nqu2, .int (nI 0), .int md])), (nqu2, .inl (cT 7, 10, .inr (.inr (.inr (.inr (fun _ => none))))))] := hD
  refine W.eq (g2 := F0 m 10 ls [.ref nqu2]) rfl ?_
  refine lv_astore_n hx hb dAL_add3_10 rfl hl (by decide) rfl (fun ls hl => ?_)
  have hl : lv_has ls 4 [(2, .ref nqu2), (0, .ref h), (1, .ref v), (3, .int (nI 0))] := hl
  refine lv_aload_n hx hb dAL_add3_11 rfl (lv_at hl 0 rfl) ?_
  refine lv_iload_n hx hb dAL_add3_12 rfl (lv_at hl 3 rfl) ?_
  refine lv_aload_n hx hb dAL_add3_13 rfl (lv_at hl 2 rfl) ?_
  refine va_astqO (E := "java/lang/Object") hx hb hK hP hD hS 2 7 0 9 rfl rfl (by exact hZ.1.1 ("ResidualTrees$Tree", "java/lang/Object") (List.mem_of_getElem? (i := 14) rfl)) rfl rfl (vp_in_nI (n := 0) (by decide) (by decide)) dAL_add3_14 (fun H locs hP hD hS => ?_)
  rw [nI_clamp (by omega)] at hP hD
  have hP : va_P D vwCl [(v, .inr (9, [.ref v1, .int v2, .int v3, .int v4, .int v5, .long v6])), (h, .inr (12, [.ref nqu2, .int (nI 0), .int md])), (nqu2, .inl (cT 7, 10, .inr (.inr (.inr (.inr (va_up (fun _ => none) 0 (some v)))))))] _ := hP
  have hD : va_D A [(v, .inr (9, [.ref v1, .int v2, .int v3, .int v4, .int v5, .long v6])), (h, .inr (12, [.ref nqu2, .int (nI 0), .int md])), (nqu2, .inl (cT 7, 10, .inr (.inr (.inr (.inr (va_up (fun _ => none) 0 (some v)))))))] := hD
  refine lv_aload_n hx hb dAL_add3_15 rfl (lv_at hl 1 rfl) ?_
  refine lv_iload_n hx hb dAL_add3_16 rfl (lv_at hl 3 rfl) ?_
  refine lv_iconst (v := 1) hx hb dAL_add3_17 (by decide) ?_
  refine lv_iadd hx hb dAL_add3_18 ?_
  refine lv_topi (fun y9 e9 => ?_)
  cases (show y9 = nI (0 + 1) from e9.trans (nI_add 0 1))
  refine va_put (D := D) (ci := 12) (v := .int (nI (0 + 1))) (ty := .int) (C := R_AL) (T := T_AL) (N := 3) hx hb hT in_AL ty_AL ty_AL_ok m_AL hown hK hP hD hS 1 rfl rfl 1 (by decide) (hT _ w269) (fun _ h9 => h9) rfl (by decide +kernel) rfl rfl (Nat.le_of_ble_eq_true rfl) dAL_add3_19 (fun H locs hP hD hS => ?_)
  have hP : va_P D vwCl [(v, .inr (9, [.ref v1, .int v2, .int v3, .int v4, .int v5, .long v6])), (h, .inr (12, [.ref nqu2, .int (nI (0 + 1)), .int md])), (nqu2, .inl (cT 7, 10, .inr (.inr (.inr (.inr (va_up (fun _ => none) 0 (some v)))))))] _ := hP
  have hD : va_D A [(v, .inr (9, [.ref v1, .int v2, .int v3, .int v4, .int v5, .long v6])), (h, .inr (12, [.ref nqu2, .int (nI (0 + 1)), .int md])), (nqu2, .inl (cT 7, 10, .inr (.inr (.inr (.inr (va_up (fun _ => none) 0 (some v)))))))] := hD
  have hP9 := hP.sub (ws' := [(h, .inr (12, [.ref nqu2, .int (nI (0 + 1)), .int md])), (nqu2, .inl (cT 7, 10, .inr (.inr (.inr (.inr (va_up (fun _ => none) 0 (some v))))))), (v, .inr (9, [.ref v1, .int v2, .int v3, .int v4, .int v5, .long v6]))]) [1, 2, 0] rfl
  have hD9 := hD.sub (ws' := [(h, .inr (12, [.ref nqu2, .int (nI (0 + 1)), .int md])), (nqu2, .inl (cT 7, 10, .inr (.inr (.inr (.inr (va_up (fun _ => none) 0 (some v))))))), (v, .inr (9, [.ref v1, .int v2, .int v3, .int v4, .int v5, .long v6]))]) [1, 2, 0] (by decide) rfl
  refine W.widen (k := 1) (n := 10) (Nat.le_of_ble_eq_true rfl) (Nat.le_of_ble_eq_true rfl) ?_
  exact W.vret hx hb hr (fun t9 ht9 hW9 => ⟨⟨nqu2, rfl, (show True from trivial), by rw [ht9]; exact hP9, hD9⟩, hS.F ht9⟩) hS.2.2 dAL_add3_22
set_option maxHeartbeats 4000000 in
set_option maxRecDepth 100000 in
theorem k_alAdd3T10 (l : Launch) (D : va_G) (cT : Nat → ClassId) (cds : List Nat) (ad : Nat → Nat) (gg : Nat → Option va_E) (tE : Nat) (mE : Nat) (h : Nat) (md : Int32) (le : Nat) (lf : Nat → Option Nat) (bs : Nat) (v : Nat) (v1 : Nat) (v2 : Int32) (v3 : Int32) (v4 : Int32) (v5 : Int32) (v6 : Int64) (hcd : CD cds) (hel : ∀ k8, k8 < 10 → ∃ fs8 : List Value, bs + k8 < 8192 ∧ lf k8 = some (ad (bs + k8)) ∧ gg (bs + k8) = some (.inr (9, fs8))) (sz : Nat) : Met l yAL_add3 WAL_add3 ({ frames := 5, cells := 1, slots := 15, locals := 127 } : Room) (RWE tE mE D vwCl [.ref h, .ref v, .ref le, .int (nI 10)] ([(h, .inr (12, [.ref le, .int (nI 10), .int md])), (le, .inl (cT 7, 10, .inr (.inr (.inr (.inr lf))))), (v, .inr (9, [.ref v1, .int v2, .int v3, .int v4, .int v5, .long v6]))] ++ pg cds ad gg) (TY cT) sz) (va_Qv (fun u9 : Nat => True) (BW D vwCl (va_A ([(h, .inr (12, [.ref le, .int (nI 10), .int md])), (le, .inl (cT 7, 10, .inr (.inr (.inr (.inr lf))))), (v, .inr (9, [.ref v1, .int v2, .int v3, .int v4, .int v5, .long v6]))] ++ pg cds ad gg) sz) (fun u9 : Nat => ([(h, .inr (12, [.ref u9, .int (nI (10 + 1)), .int md])), (u9, .inl (cT 7, 15, .inr (.inr (.inr (.inr (va_up (va_cpy lf (fun _ => none) 0 0 10) 10 (some v))))))), (v, .inr (9, [.ref v1, .int v2, .int v3, .int v4, .int v5, .long v6]))] ++ pg cds ad gg))) (va_A ([(h, .inr (12, [.ref le, .int (nI 10), .int md])), (le, .inl (cT 7, 10, .inr (.inr (.inr (.inr lf))))), (v, .inr (9, [.ref v1, .int v2, .int v3, .int v4, .int v5, .long v6]))] ++ pg cds ad gg) sz)) 1 15 (va_A ([(h, .inr (12, [.ref le, .int (nI 10), .int md])), (le, .inl (cT 7, 10, .inr (.inr (.inr (.inr lf))))), (v, .inr (9, [.ref v1, .int v2, .int v3, .int v4, .int v5, .long v6]))] ++ pg cds ad gg) sz) := by
  refine Met.ofW (cc := cAL_add3) (maxL := 4) (ret := none) (by decide) rfl ?_
  intro p e s m args below meth c s₁ B hml hv
  obtain ⟨rfl, ⟨hsz, hZ, hP, hK, hD0⟩, hE0⟩ := hv
  have hx := B.exec
  have hb := B.bytes
  have hr := B.returns
  have hts := atoms_spec (ws := WAL_add3) B.pre
  have hT : ∀ w ∈ TB, w.before _ s = true := fun w h => hts w (List.mem_cons_of_mem _ h)
  have hown : s.vm.findClass R_AL = some m.cls := findClass_of_methodNamed B.named
  have hlocks := B.notSynchronized
  subst hsz
  have hD := hD0.self (sz := s.heap.size)
  generalize hAe : va_A ([(h, .inr (12, [.ref le, .int (nI 10), .int md])), (le, .inl (cT 7, 10, .inr (.inr (.inr (.inr lf))))), (v, .inr (9, [.ref v1, .int v2, .int v3, .int v4, .int v5, .long v6]))] ++ pg cds ad gg) s.heap.size = A at hD hZ hE0 ⊢
  have hA : ∀ q : Nat, s.heap.size ≤ q → A q := fun q h => by rw [← hAe]; exact Or.inr h
  have hS : va_S A s.heap s.heap [] := va_S.rf
  have hl := lv_entry ([.ref h, .ref v, .ref le, .int (nI 10)]) (n := 4) (Nat.le_of_ble_eq_true rfl)
  rw [lg_entry_eq]
  generalize (lg_sl ([.ref h, .ref v, .ref le, .int (nI 10)]) ++ List.replicate (4 - (lg_sl ([.ref h, .ref v, .ref le, .int (nI 10)])).length) Slot.unset).toArray = ls at hl ⊢
  have hl : lv_has ls 4 [(0, .ref h), (1, .ref v), (2, .ref le), (3, .int (nI 10))] := hl
  refine lv_iload_n hx hb dAL_add3_0 rfl (lv_at hl 3 rfl) ?_
  refine lv_aload_n hx hb dAL_add3_1 rfl (lv_at hl 2 rfl) ?_
  refine va_alen (v := 10) hx hb hK hP 1 7 rfl rfl rfl dAL_add3_2 ?_
  refine lv_icmp_ne (tgt := 11) hx hb dAL_add3_3 rfl (fun h1 => absurd (by decide) h1) (fun _ => ?_)
  refine lv_aload_n hx hb dAL_add3_6 rfl (lv_at hl 0 rfl) ?_
  refine hy_rP (X := [(h, .inr (12, [.ref le, .int (nI 10), .int md])), (le, .inl (cT 7, 10, .inr (.inr (.inr (.inr lf))))), (v, .inr (9, [.ref v1, .int v2, .int v3, .int v4, .int v5, .long v6]))]) (pl := pg cds ad gg) (cx := [(h, .inr (12, [.ref le, .int (nI 10), .int md])), (le, .inl (cT 7, 10, .inr (.inr (.inr (.inr lf)))))]) (wr := [(v, .inr (9, [.ref v1, .int v2, .int v3, .int v4, .int v5, .long v6]))]) hP hD hS hA [0, 1] [2] rfl rfl (by decide) (by decide) (va_runV (As := []) (rest := []) ⟨hx, hb, hml, hown, hT⟩ (k_alGrowT10 l D cT cds ad gg tE mE h md le lf bs hcd hel _) ⟨callB_of 0 hT (tb_gd w765) rfl rfl rfl (hT _ w11) (hT _ w762) hAL_grow ⟨Nat.le_of_ble_eq_true rfl, Nat.le_of_ble_eq_true rfl⟩, (hT _ w764), (hT _ wp10)⟩ (RWE.preV (ci := 12) (q0 := 0) hE0 hZ hS (va_freeP (cx := [(h, .inr (12, [.ref le, .int (nI 10), .int md])), (le, .inl (cT 7, 10, .inr (.inr (.inr (.inr lf)))))]) hD hS hA [0, 1] rfl) (hP.part (cx := [(h, .inr (12, [.ref le, .int (nI 10), .int md])), (le, .inl (cT 7, 10, .inr (.inr (.inr (.inr lf)))))]) [0, 1] rfl) hK (hD.part (cx := [(h, .inr (12, [.ref le, .int (nI 10), .int md])), (le, .inl (cT 7, 10, .inr (.inr (.inr (.inr lf)))))]) [0, 1] (by decide) rfl) rfl rfl) rfl rfl hl.1 rfl (lv_room (Nat.le_of_ble_eq_true rfl)) dAL_add3_7 ⟨Nat.le_of_ble_eq_true rfl, Nat.le_of_ble_eq_true rfl⟩) (fun u9 H locs hpu2 hP hD hS => ?_)
  obtain ⟨nqu2, rfl⟩ : ∃ q9, q9 = u9 := ⟨_, rfl⟩
  have hpu2 : True := hpu2
  have hP : va_P D vwCl ([(v, .inr (9, [.ref v1, .int v2, .int v3, .int v4, .int v5, .long v6])), (h, .inr (12, [.ref nqu2, .int (nI 10), .int md])), (le, .inl (cT 7, 10, .inr (.inr (.inr (.inr lf))))), (nqu2, .inl (cT 7, 15, .inr (.inr (.inr (.inr (va_cpy lf (fun _ => none) 0 0 10))))))] ++ pg cds ad gg) _ := hP
  have hD : va_D A ([(v, .inr (9, [.ref v1, .int v2, .int v3, .int v4, .int v5, .long v6])), (h, .inr (12, [.ref nqu2, .int (nI 10), .int md])), (le, .inl (cT 7, 10, .inr (.inr (.inr (.inr lf))))), (nqu2, .inl (cT 7, 15, .inr (.inr (.inr (.inr (va_cpy lf (fun _ => none) 0 0 10))))))] ++ pg cds ad gg) := hD
  refine W.eq (g2 := F0 m 10 ls [.ref nqu2]) rfl ?_
  refine lv_astore_n hx hb dAL_add3_10 rfl hl (by decide) rfl (fun ls hl => ?_)
  have hl : lv_has ls 4 [(2, .ref nqu2), (0, .ref h), (1, .ref v), (3, .int (nI 10))] := hl
  refine lv_aload_n hx hb dAL_add3_11 rfl (lv_at hl 0 rfl) ?_
  refine lv_iload_n hx hb dAL_add3_12 rfl (lv_at hl 3 rfl) ?_
  refine lv_aload_n hx hb dAL_add3_13 rfl (lv_at hl 2 rfl) ?_
  refine va_astqO (E := "java/lang/Object") hx hb hK hP hD hS 3 7 0 9 rfl rfl (by exact hZ.1.1 ("ResidualTrees$Tree", "java/lang/Object") (List.mem_of_getElem? (i := 14) rfl)) rfl rfl (vp_in_nI (n := 10) (by decide) (by decide)) dAL_add3_14 (fun H locs hP hD hS => ?_)
  rw [nI_clamp (by omega)] at hP hD
  have hP : va_P D vwCl ([(v, .inr (9, [.ref v1, .int v2, .int v3, .int v4, .int v5, .long v6])), (h, .inr (12, [.ref nqu2, .int (nI 10), .int md])), (le, .inl (cT 7, 10, .inr (.inr (.inr (.inr lf))))), (nqu2, .inl (cT 7, 15, .inr (.inr (.inr (.inr (va_up (va_cpy lf (fun _ => none) 0 0 10) 10 (some v)))))))] ++ pg cds ad gg) _ := hP
  have hD : va_D A ([(v, .inr (9, [.ref v1, .int v2, .int v3, .int v4, .int v5, .long v6])), (h, .inr (12, [.ref nqu2, .int (nI 10), .int md])), (le, .inl (cT 7, 10, .inr (.inr (.inr (.inr lf))))), (nqu2, .inl (cT 7, 15, .inr (.inr (.inr (.inr (va_up (va_cpy lf (fun _ => none) 0 0 10) 10 (some v)))))))] ++ pg cds ad gg) := hD
  refine lv_aload_n hx hb dAL_add3_15 rfl (lv_at hl 1 rfl) ?_
  refine lv_iload_n hx hb dAL_add3_16 rfl (lv_at hl 3 rfl) ?_
  refine lv_iconst (v := 1) hx hb dAL_add3_17 (by decide) ?_
  refine lv_iadd hx hb dAL_add3_18 ?_
  refine lv_topi (fun y9 e9 => ?_)
  cases (show y9 = nI (10 + 1) from e9.trans (nI_add 10 1))
  refine va_put (D := D) (ci := 12) (v := .int (nI (10 + 1))) (ty := .int) (C := R_AL) (T := T_AL) (N := 3) hx hb hT in_AL ty_AL ty_AL_ok m_AL hown hK hP hD hS 1 rfl rfl 1 (by decide) (hT _ w269) (fun _ h9 => h9) rfl (by decide +kernel) rfl rfl (Nat.le_of_ble_eq_true rfl) dAL_add3_19 (fun H locs hP hD hS => ?_)
  have hP : va_P D vwCl ([(v, .inr (9, [.ref v1, .int v2, .int v3, .int v4, .int v5, .long v6])), (h, .inr (12, [.ref nqu2, .int (nI (10 + 1)), .int md])), (le, .inl (cT 7, 10, .inr (.inr (.inr (.inr lf))))), (nqu2, .inl (cT 7, 15, .inr (.inr (.inr (.inr (va_up (va_cpy lf (fun _ => none) 0 0 10) 10 (some v)))))))] ++ pg cds ad gg) _ := hP
  have hD : va_D A ([(v, .inr (9, [.ref v1, .int v2, .int v3, .int v4, .int v5, .long v6])), (h, .inr (12, [.ref nqu2, .int (nI (10 + 1)), .int md])), (le, .inl (cT 7, 10, .inr (.inr (.inr (.inr lf))))), (nqu2, .inl (cT 7, 15, .inr (.inr (.inr (.inr (va_up (va_cpy lf (fun _ => none) 0 0 10) 10 (some v)))))))] ++ pg cds ad gg) := hD
  have hP9 : va_P D vwCl ([(h, .inr (12, [.ref nqu2, .int (nI (10 + 1)), .int md])), (nqu2, .inl (cT 7, 15, .inr (.inr (.inr (.inr (va_up (va_cpy lf (fun _ => none) 0 0 10) 10 (some v))))))), (v, .inr (9, [.ref v1, .int v2, .int v3, .int v4, .int v5, .long v6]))] ++ pg cds ad gg) _ := hP.part (cx := [(h, .inr (12, [.ref nqu2, .int (nI (10 + 1)), .int md])), (nqu2, .inl (cT 7, 15, .inr (.inr (.inr (.inr (va_up (va_cpy lf (fun _ => none) 0 0 10) 10 (some v))))))), (v, .inr (9, [.ref v1, .int v2, .int v3, .int v4, .int v5, .long v6]))]) [1, 3, 0] rfl
  have hD9 : va_D A ([(h, .inr (12, [.ref nqu2, .int (nI (10 + 1)), .int md])), (nqu2, .inl (cT 7, 15, .inr (.inr (.inr (.inr (va_up (va_cpy lf (fun _ => none) 0 0 10) 10 (some v))))))), (v, .inr (9, [.ref v1, .int v2, .int v3, .int v4, .int v5, .long v6]))] ++ pg cds ad gg) := hD.part (cx := [(h, .inr (12, [.ref nqu2, .int (nI (10 + 1)), .int md])), (nqu2, .inl (cT 7, 15, .inr (.inr (.inr (.inr (va_up (va_cpy lf (fun _ => none) 0 0 10) 10 (some v))))))), (v, .inr (9, [.ref v1, .int v2, .int v3, .int v4, .int v5, .long v6]))]) [1, 3, 0] (by decide) rfl
  refine W.widen (k := 1) (n := 15) (Nat.le_of_ble_eq_true rfl) (Nat.le_of_ble_eq_true rfl) ?_
  exact W.vret hx hb hr (fun t9 ht9 hW9 => ⟨⟨nqu2, rfl, (show True from trivial), by rw [ht9]; exact hP9, hD9⟩, hS.F ht9⟩) hS.2.2 dAL_add3_22
set_option maxHeartbeats 4000000 in
set_option maxRecDepth 100000 in
theorem k_alAdd3T15 (l : Launch) (D : va_G) (cT : Nat → ClassId) (cds : List Nat) (ad : Nat → Nat) (gg : Nat → Option va_E) (tE : Nat) (mE : Nat) (h : Nat) (md : Int32) (le : Nat) (lf : Nat → Option Nat) (bs : Nat) (v : Nat) (v1 : Nat) (v2 : Int32) (v3 : Int32) (v4 : Int32) (v5 : Int32) (v6 : Int64) (hcd : CD cds) (hel : ∀ k8, k8 < 15 → ∃ fs8 : List Value, bs + k8 < 8192 ∧ lf k8 = some (ad (bs + k8)) ∧ gg (bs + k8) = some (.inr (9, fs8))) (sz : Nat) : Met l yAL_add3 WAL_add3 ({ frames := 5, cells := 1, slots := 22, locals := 127 } : Room) (RWE tE mE D vwCl [.ref h, .ref v, .ref le, .int (nI 15)] ([(h, .inr (12, [.ref le, .int (nI 15), .int md])), (le, .inl (cT 7, 15, .inr (.inr (.inr (.inr lf))))), (v, .inr (9, [.ref v1, .int v2, .int v3, .int v4, .int v5, .long v6]))] ++ pg cds ad gg) (TY cT) sz) (va_Qv (fun u9 : Nat => True) (BW D vwCl (va_A ([(h, .inr (12, [.ref le, .int (nI 15), .int md])), (le, .inl (cT 7, 15, .inr (.inr (.inr (.inr lf))))), (v, .inr (9, [.ref v1, .int v2, .int v3, .int v4, .int v5, .long v6]))] ++ pg cds ad gg) sz) (fun u9 : Nat => ([(h, .inr (12, [.ref u9, .int (nI (15 + 1)), .int md])), (u9, .inl (cT 7, 22, .inr (.inr (.inr (.inr (va_up (va_cpy lf (fun _ => none) 0 0 15) 15 (some v))))))), (v, .inr (9, [.ref v1, .int v2, .int v3, .int v4, .int v5, .long v6]))] ++ pg cds ad gg))) (va_A ([(h, .inr (12, [.ref le, .int (nI 15), .int md])), (le, .inl (cT 7, 15, .inr (.inr (.inr (.inr lf))))), (v, .inr (9, [.ref v1, .int v2, .int v3, .int v4, .int v5, .long v6]))] ++ pg cds ad gg) sz)) 1 22 (va_A ([(h, .inr (12, [.ref le, .int (nI 15), .int md])), (le, .inl (cT 7, 15, .inr (.inr (.inr (.inr lf))))), (v, .inr (9, [.ref v1, .int v2, .int v3, .int v4, .int v5, .long v6]))] ++ pg cds ad gg) sz) := by
  refine Met.ofW (cc := cAL_add3) (maxL := 4) (ret := none) (by decide) rfl ?_
  intro p e s m args below meth c s₁ B hml hv
  obtain ⟨rfl, ⟨hsz, hZ, hP, hK, hD0⟩, hE0⟩ := hv
  have hx := B.exec
  have hb := B.bytes
  have hr := B.returns
  have hts := atoms_spec (ws := WAL_add3) B.pre
  have hT : ∀ w ∈ TB, w.before _ s = true := fun w h => hts w (List.mem_cons_of_mem _ h)
  have hown : s.vm.findClass R_AL = some m.cls := findClass_of_methodNamed B.named
  have hlocks := B.notSynchronized
  subst hsz
  have hD := hD0.self (sz := s.heap.size)
  generalize hAe : va_A ([(h, .inr (12, [.ref le, .int (nI 15), .int md])), (le, .inl (cT 7, 15, .inr (.inr (.inr (.inr lf))))), (v, .inr (9, [.ref v1, .int v2, .int v3, .int v4, .int v5, .long v6]))] ++ pg cds ad gg) s.heap.size = A at hD hZ hE0 ⊢
  have hA : ∀ q : Nat, s.heap.size ≤ q → A q := fun q h => by rw [← hAe]; exact Or.inr h
  have hS : va_S A s.heap s.heap [] := va_S.rf
  have hl := lv_entry ([.ref h, .ref v, .ref le, .int (nI 15)]) (n := 4) (Nat.le_of_ble_eq_true rfl)
  rw [lg_entry_eq]
  generalize (lg_sl ([.ref h, .ref v, .ref le, .int (nI 15)]) ++ List.replicate (4 - (lg_sl ([.ref h, .ref v, .ref le, .int (nI 15)])).length) Slot.unset).toArray = ls at hl ⊢
  have hl : lv_has ls 4 [(0, .ref h), (1, .ref v), (2, .ref le), (3, .int (nI 15))] := hl
  refine lv_iload_n hx hb dAL_add3_0 rfl (lv_at hl 3 rfl) ?_
  refine lv_aload_n hx hb dAL_add3_1 rfl (lv_at hl 2 rfl) ?_
  refine va_alen (v := 15) hx hb hK hP 1 7 rfl rfl rfl dAL_add3_2 ?_
  refine lv_icmp_ne (tgt := 11) hx hb dAL_add3_3 rfl (fun h1 => absurd (by decide) h1) (fun _ => ?_)
  refine lv_aload_n hx hb dAL_add3_6 rfl (lv_at hl 0 rfl) ?_
  refine hy_rP (X := [(h, .inr (12, [.ref le, .int (nI 15), .int md])), (le, .inl (cT 7, 15, .inr (.inr (.inr (.inr lf))))), (v, .inr (9, [.ref v1, .int v2, .int v3, .int v4, .int v5, .long v6]))]) (pl := pg cds ad gg) (cx := [(h, .inr (12, [.ref le, .int (nI 15), .int md])), (le, .inl (cT 7, 15, .inr (.inr (.inr (.inr lf)))))]) (wr := [(v, .inr (9, [.ref v1, .int v2, .int v3, .int v4, .int v5, .long v6]))]) hP hD hS hA [0, 1] [2] rfl rfl (by decide) (by decide) (va_runV (As := []) (rest := []) ⟨hx, hb, hml, hown, hT⟩ (k_alGrowT15 l D cT cds ad gg tE mE h md le lf bs hcd hel _) ⟨callB_of 0 hT (tb_gd w765) rfl rfl rfl (hT _ w11) (hT _ w762) hAL_grow ⟨Nat.le_of_ble_eq_true rfl, Nat.le_of_ble_eq_true rfl⟩, (hT _ w764), (hT _ wp10)⟩ (RWE.preV (ci := 12) (q0 := 0) hE0 hZ hS (va_freeP (cx := [(h, .inr (12, [.ref le, .int (nI 15), .int md])), (le, .inl (cT 7, 15, .inr (.inr (.inr (.inr lf)))))]) hD hS hA [0, 1] rfl) (hP.part (cx := [(h, .inr (12, [.ref le, .int (nI 15), .int md])), (le, .inl (cT 7, 15, .inr (.inr (.inr (.inr lf)))))]) [0, 1] rfl) hK (hD.part (cx := [(h, .inr (12, [.ref le, .int (nI 15), .int md])), (le, .inl (cT 7, 15, .inr (.inr (.inr (.inr lf)))))]) [0, 1] (by decide) rfl) rfl rfl) rfl rfl hl.1 rfl (lv_room (Nat.le_of_ble_eq_true rfl)) dAL_add3_7 ⟨Nat.le_of_ble_eq_true rfl, Nat.le_of_ble_eq_true rfl⟩) (fun u9 H locs hpu2 hP hD hS => ?_)
  obtain ⟨nqu2, rfl⟩ : ∃ q9, q9 = u9 := ⟨_, rfl⟩
  have hpu2 : True := hpu2
  have hP : va_P D vwCl ([(v, .inr (9, [.ref v1, .int v2, .int v3, .int v4, .int v5, .long v6])), (h, .inr (12, [.ref nqu2, .int (nI 15), .int md])), (le, .inl (cT 7, 15, .inr (.inr (.inr (.inr lf))))), (nqu2, .inl (cT 7, 22, .inr (.inr (.inr (.inr (va_cpy lf (fun _ => none) 0 0 15))))))] ++ pg cds ad gg) _ := hP
  have hD : va_D A ([(v, .inr (9, [.ref v1, .int v2, .int v3, .int v4, .int v5, .long v6])), (h, .inr (12, [.ref nqu2, .int (nI 15), .int md])), (le, .inl (cT 7, 15, .inr (.inr (.inr (.inr lf))))), (nqu2, .inl (cT 7, 22, .inr (.inr (.inr (.inr (va_cpy lf (fun _ => none) 0 0 15))))))] ++ pg cds ad gg) := hD
  refine W.eq (g2 := F0 m 10 ls [.ref nqu2]) rfl ?_
  refine lv_astore_n hx hb dAL_add3_10 rfl hl (by decide) rfl (fun ls hl => ?_)
  have hl : lv_has ls 4 [(2, .ref nqu2), (0, .ref h), (1, .ref v), (3, .int (nI 15))] := hl
  refine lv_aload_n hx hb dAL_add3_11 rfl (lv_at hl 0 rfl) ?_
  refine lv_iload_n hx hb dAL_add3_12 rfl (lv_at hl 3 rfl) ?_
  refine lv_aload_n hx hb dAL_add3_13 rfl (lv_at hl 2 rfl) ?_
  refine va_astqO (E := "java/lang/Object") hx hb hK hP hD hS 3 7 0 9 rfl rfl (by exact hZ.1.1 ("ResidualTrees$Tree", "java/lang/Object") (List.mem_of_getElem? (i := 14) rfl)) rfl rfl (vp_in_nI (n := 15) (by decide) (by decide)) dAL_add3_14 (fun H locs hP hD hS => ?_)
  rw [nI_clamp (by omega)] at hP hD
  have hP : va_P D vwCl ([(v, .inr (9, [.ref v1, .int v2, .int v3, .int v4, .int v5, .long v6])), (h, .inr (12, [.ref nqu2, .int (nI 15), .int md])), (le, .inl (cT 7, 15, .inr (.inr (.inr (.inr lf))))), (nqu2, .inl (cT 7, 22, .inr (.inr (.inr (.inr (va_up (va_cpy lf (fun _ => none) 0 0 15) 15 (some v)))))))] ++ pg cds ad gg) _ := hP
  have hD : va_D A ([(v, .inr (9, [.ref v1, .int v2, .int v3, .int v4, .int v5, .long v6])), (h, .inr (12, [.ref nqu2, .int (nI 15), .int md])), (le, .inl (cT 7, 15, .inr (.inr (.inr (.inr lf))))), (nqu2, .inl (cT 7, 22, .inr (.inr (.inr (.inr (va_up (va_cpy lf (fun _ => none) 0 0 15) 15 (some v)))))))] ++ pg cds ad gg) := hD
  refine lv_aload_n hx hb dAL_add3_15 rfl (lv_at hl 1 rfl) ?_
  refine lv_iload_n hx hb dAL_add3_16 rfl (lv_at hl 3 rfl) ?_
  refine lv_iconst (v := 1) hx hb dAL_add3_17 (by decide) ?_
  refine lv_iadd hx hb dAL_add3_18 ?_
  refine lv_topi (fun y9 e9 => ?_)
  cases (show y9 = nI (15 + 1) from e9.trans (nI_add 15 1))
  refine va_put (D := D) (ci := 12) (v := .int (nI (15 + 1))) (ty := .int) (C := R_AL) (T := T_AL) (N := 3) hx hb hT in_AL ty_AL ty_AL_ok m_AL hown hK hP hD hS 1 rfl rfl 1 (by decide) (hT _ w269) (fun _ h9 => h9) rfl (by decide +kernel) rfl rfl (Nat.le_of_ble_eq_true rfl) dAL_add3_19 (fun H locs hP hD hS => ?_)
  have hP : va_P D vwCl ([(v, .inr (9, [.ref v1, .int v2, .int v3, .int v4, .int v5, .long v6])), (h, .inr (12, [.ref nqu2, .int (nI (15 + 1)), .int md])), (le, .inl (cT 7, 15, .inr (.inr (.inr (.inr lf))))), (nqu2, .inl (cT 7, 22, .inr (.inr (.inr (.inr (va_up (va_cpy lf (fun _ => none) 0 0 15) 15 (some v)))))))] ++ pg cds ad gg) _ := hP
  have hD : va_D A ([(v, .inr (9, [.ref v1, .int v2, .int v3, .int v4, .int v5, .long v6])), (h, .inr (12, [.ref nqu2, .int (nI (15 + 1)), .int md])), (le, .inl (cT 7, 15, .inr (.inr (.inr (.inr lf))))), (nqu2, .inl (cT 7, 22, .inr (.inr (.inr (.inr (va_up (va_cpy lf (fun _ => none) 0 0 15) 15 (some v)))))))] ++ pg cds ad gg) := hD
  have hP9 : va_P D vwCl ([(h, .inr (12, [.ref nqu2, .int (nI (15 + 1)), .int md])), (nqu2, .inl (cT 7, 22, .inr (.inr (.inr (.inr (va_up (va_cpy lf (fun _ => none) 0 0 15) 15 (some v))))))), (v, .inr (9, [.ref v1, .int v2, .int v3, .int v4, .int v5, .long v6]))] ++ pg cds ad gg) _ := hP.part (cx := [(h, .inr (12, [.ref nqu2, .int (nI (15 + 1)), .int md])), (nqu2, .inl (cT 7, 22, .inr (.inr (.inr (.inr (va_up (va_cpy lf (fun _ => none) 0 0 15) 15 (some v))))))), (v, .inr (9, [.ref v1, .int v2, .int v3, .int v4, .int v5, .long v6]))]) [1, 3, 0] rfl
  have hD9 : va_D A ([(h, .inr (12, [.ref nqu2, .int (nI (15 + 1)), .int md])), (nqu2, .inl (cT 7, 22, .inr (.inr (.inr (.inr (va_up (va_cpy lf (fun _ => none) 0 0 15) 15 (some v))))))), (v, .inr (9, [.ref v1, .int v2, .int v3, .int v4, .int v5, .long v6]))] ++ pg cds ad gg) := hD.part (cx := [(h, .inr (12, [.ref nqu2, .int (nI (15 + 1)), .int md])), (nqu2, .inl (cT 7, 22, .inr (.inr (.inr (.inr (va_up (va_cpy lf (fun _ => none) 0 0 15) 15 (some v))))))), (v, .inr (9, [.ref v1, .int v2, .int v3, .int v4, .int v5, .long v6]))]) [1, 3, 0] (by decide) rfl
  refine W.widen (k := 1) (n := 22) (Nat.le_of_ble_eq_true rfl) (Nat.le_of_ble_eq_true rfl) ?_
  exact W.vret hx hb hr (fun t9 ht9 hW9 => ⟨⟨nqu2, rfl, (show True from trivial), by rw [ht9]; exact hP9, hD9⟩, hS.F ht9⟩) hS.2.2 dAL_add3_22
/-! Addresses that change: lists that grow, nodes and trees that are made. -/
theorem na_nn : ∀ {L : List Nat} {x : Nat}, ¬ x ∈ L → NA x L
  | [], _, _ => na_0
  | y :: L, x, h => na_c (fun q => h (by rw [q]; exact List.mem_cons_self)) (na_nn (fun q => h (List.mem_cons_of_mem _ q)))
theorem upo_nn {g : Nat → Option va_E} {L : List Nat} (h : ∀ c, c ∈ L → g c = none) : upo g L = g := by
  funext x
  by_cases q : x ∈ L
  · rw [upo_i q, h x q]
  · exact upo_o (na_nn q)
theorem vP_eq {D : va_G} {cl : List vw_C} {w w2 : va_W} {H : Heap} (h : w2 = w) (hP : va_P D cl w H) : va_P D cl w2 H := by rw [h]; exact hP
theorem vD_eq {A : Nat → Prop} {w w2 : va_W} (h : w2 = w) (hD : va_D A w) : va_D A w2 := by rw [h]; exact hD
theorem nn_0 {g : Nat → Option va_E} : ∀ c, c ∈ ([] : List Nat) → g c = none := fun _ h => nomatch h
theorem nn_c {g : Nat → Option va_E} {x : Nat} {L : List Nat} (h : g x = none) (h2 : ∀ c, c ∈ L → g c = none) : ∀ c, c ∈ x :: L → g c = none := fun c hc => by
  rcases List.mem_cons.mp hc with q | q
  · rw [q]; exact h
  · exact h2 c q
section CAs
variable {cT : Nat → ClassId} {ad ad2 : Nat → Nat} {g g2 : Nat → Option va_E}
theorem WHO.ca {x w R : Nat} {z : Int} (h : WHO cT ad g x w R z) (hw : ad2 w = ad w) : WHO cT ad2 g x w R z := by
  obtain ⟨n, b, f, h1, h2, h3⟩ := h
  exact ⟨n, b, f, by rw [hw]; exact h1, h2, h3⟩
theorem CAp.ca (h : CAp cT ad g) (ha : ∀ x, x < 40 → ad2 x = ad x) : CAp cT ad2 g := by
  obtain ⟨qf, h1, h2⟩ := h
  exact ⟨qf, h1, fun c hc => by rw [ha _ (by omega)]; exact h2 c hc⟩
theorem COLF.ca {n : Nat} {vv vq eg ik : Nat → Int32} {ne : Nat → Nat} (h : COLF cT ad g n vv vq eg ik ne) (ha : ∀ x, x < 40 → ad2 x = ad x) : COLF cT ad2 g n vv vq eg ik ne := fun c hc => by
  obtain ⟨fv, fe, ⟨e1, e2, e3⟩, e4⟩ := h c hc
  exact ⟨fv, fe, ⟨by rw [ha _ (by omega), ha _ (by omega)]; exact e1, e2, e3⟩, e4⟩
theorem RSp.ca {n : Nat} {zs : Nat → Int} (h : RSp cT ad g n zs) (ha : ∀ x, 100 ≤ x → x < 200 → ad2 x = ad x) : RSp cT ad2 g n zs := by
  obtain ⟨⟨qf, a1, a2⟩, a3⟩ := h
  refine ⟨⟨qf, a1, fun i hi => by rw [ha _ (by omega) (by omega)]; exact a2 i hi⟩, fun i hi => ?_⟩
  obtain ⟨z, b1, b2⟩ := a3 i hi
  exact ⟨z, b1.ca (ha _ (by omega) (by omega)), b2⟩
theorem GPp.ca {x : Nat} {rows : Int64} {z : Int} (h : GPp cT ad g x rows z) (h1 : ad2 (220 + x) = ad (220 + x)) (h2 : ad2 (240 + x) = ad (240 + x)) : GPp cT ad2 g x rows z := ⟨by rw [h1]; exact h.1, h.2.ca h2⟩
theorem GAp.ca (h : GAp cT ad g) (ha : ∀ x, 200 ≤ x → x < 300 → ad2 x = ad x) : GAp cT ad2 g := by
  obtain ⟨qf, h1, h2⟩ := h
  exact ⟨qf, h1, fun i hi => by rw [ha _ (by omega) (by omega)]; exact h2 i hi⟩
theorem SCG.ca (h : SCG cT ad g) (ha : ∀ x, 60 ≤ x → x < 73 → ad2 x = ad x) : SCG cT ad2 g := by
  obtain ⟨⟨z1, h1⟩, ⟨z2, h2⟩, ⟨z3, h3⟩⟩ := h
  exact ⟨⟨z1, h1.ca (ha _ (by omega) (by omega))⟩, ⟨z2, h2.ca (ha _ (by omega) (by omega))⟩, ⟨z3, h3.ca (ha _ (by omega) (by omega))⟩⟩
theorem SPL.ca {b t : Nat} {ik : Nat → Int32} {b9 : CST} {BB : Nat} (h : SPL cT ad g b t ik b9 BB) (hbt : BTK b t) (ha : ∀ x, 60 ≤ x → x < 73 → ad2 x = ad x) : SPL cT ad2 g b t ik b9 BB := by
  obtain ⟨bc, bm, bo, bl, br, bu, zb, tc, tm, tq, tl, tr, tu, zt, h1, h2, h3, h4, h5, h6, h7⟩ := h
  have hb : (66 ≤ b ∧ b ≤ 70) ∧ 66 ≤ t ∧ t ≤ 70 := by rcases hbt with ⟨e1, e2⟩ | ⟨e1, e2⟩ <;> omega
  exact ⟨bc, bm, bo, bl, br, bu, zb, tc, tm, tq, tl, tr, tu, zt, by rw [ha _ (by omega) (by omega)]; exact h1, h2.ca (ha _ (by omega) (by omega)), h3, h4, by rw [ha _ (by omega) (by omega)]; exact h5, h6.ca (ha _ (by omega) (by omega)), h7⟩
theorem eGR_ca {b t : Nat} (hbt : BTK b t) (ha : ∀ x, x ≠ 40 → x < 1000 → ad2 x = ad x) : eGR ad2 b t = eGR ad b t := by
  have hb : (66 ≤ b ∧ b ≤ 70) ∧ 66 ≤ t ∧ t ≤ 70 := by rcases hbt with ⟨e1, e2⟩ | ⟨e1, e2⟩ <;> omega
  unfold eGR
  rw [ha 1 (by decide) (by decide), ha 4 (by decide) (by decide), ha 5 (by decide) (by decide), ha 7 (by decide) (by decide), ha 8 (by decide) (by decide), ha 212 (by decide) (by decide), ha 213 (by decide) (by decide), ha 214 (by decide) (by decide), ha 60 (by decide) (by decide), ha 62 (by decide) (by decide), ha 64 (by decide) (by decide), ha b (by omega) (by omega), ha t (by omega) (by omega)]
theorem eTB_ca {wd rw : Int32} (ha : ∀ x, x ≠ 40 → x < 1000 → ad2 x = ad x) : eTB ad2 wd rw = eTB ad wd rw := by
  unfold eTB
  rw [ha 2 (by decide) (by decide), ha 3 (by decide) (by decide)]
theorem eOB_ca {tc : Int32} (ha : ∀ x, x ≠ 40 → x < 1000 → ad2 x = ad x) : eOB ad2 tc = eOB ad tc := by
  unfold eOB
  rw [ha 1 (by decide) (by decide), ha 4 (by decide) (by decide), ha 5 (by decide) (by decide), ha 6 (by decide) (by decide), ha 9 (by decide) (by decide), ha 41 (by decide) (by decide), ha 48 (by decide) (by decide), ha 50 (by decide) (by decide), ha 52 (by decide) (by decide), ha 54 (by decide) (by decide), ha 56 (by decide) (by decide), ha 58 (by decide) (by decide)]
end CAs
/-- the room that a list's array has -/
def CAPo (c : Nat) : Prop := c = 10 ∨ c = 15 ∨ c = 22 ∨ c = 33
/-- a list (its cell at cL, its array at cA); its first m places hold the cells of bs, bs + 1, ..; one that was never put into has the static empty array -/
def LQ (cT : Nat → ClassId) (ad : Nat → Nat) (g : Nat → Option va_E) (tE cL cA bs m : Nat) : Prop :=
  (m = 0 ∧ (∃ md : Int32, g cL = some (eLI tE (nI 0) md)) ∧ g cA = none) ∨ ∃ (cap : Nat) (md : Int32) (lf : Nat → Option Nat), g cL = some (eLI (ad cA) (nI m) md) ∧ g cA = some (eQ (cT 7) cap lf) ∧ m ≤ cap ∧ CAPo cap ∧ ∀ k, k < m → lf k = some (ad (bs + k))
/-- a list behind an add -/
def LQv (cT : Nat → ClassId) (ad ad7 : Nat → Nat) (g : Nat → Option va_E) (cL cA bs m v : Nat) : Prop :=
  ∃ (cap : Nat) (md : Int32) (lf : Nat → Option Nat), g cL = some (eLI (ad7 cA) (nI (m + 1)) md) ∧ g cA = some (eQ (cT 7) cap lf) ∧ m + 1 ≤ cap ∧ CAPo cap ∧ (∀ k, k < m → lf k = some (ad (bs + k))) ∧ lf m = some v
def NDX (cT : Nat → ClassId) (ad : Nat → Nat) (g : Nat → Option va_E) (t k : Nat) : Prop := (∃ q0 q1 q2 q3 q4 q5 q6 q7 : Int32, g (2000 + 32 * t + k) = some (eND q0 q1 q2 q3 q4 q5 q6 q7 (ad (3000 + 32 * t + k)))) ∧ ∃ z, WHO cT ad g (3000 + 32 * t + k) (4000 + 32 * t + k) 24 z
/-- a tree's list and the nodes that are made -/
def TMD (cT : Nat → ClassId) (ad : Nat → Nat) (g : Nat → Option va_E) (tE t mk : Nat) : Prop := LQ cT ad g tE (1020 + t) (1040 + t) (2000 + 32 * t) mk ∧ mk ≤ 31 ∧ (∀ k, k < mk → NDX cT ad g t k) ∧ ∀ k, mk ≤ k → k < 32 → g (2000 + 32 * t + k) = none ∧ g (3000 + 32 * t + k) = none ∧ g (4000 + 32 * t + k) = none
theorem LQ.cg {cT : Nat → ClassId} {ad ad2 : Nat → Nat} {g g2 : Nat → Option va_E} {tE cL cA bs m : Nat} (h : LQ cT ad g tE cL cA bs m) (h1 : g2 cL = g cL) (h2 : g2 cA = g cA) (ha : ad2 cA = ad cA) (hb : ∀ k, k < m → ad2 (bs + k) = ad (bs + k)) : LQ cT ad2 g2 tE cL cA bs m := by
  rcases h with ⟨e1, ⟨md, e2⟩, e3⟩ | ⟨cap, md, lf, e1, e2, e3, e4, e5⟩
  · exact Or.inl ⟨e1, ⟨md, h1.trans e2⟩, h2.trans e3⟩
  · exact Or.inr ⟨cap, md, lf, by rw [ha]; exact h1.trans e1, h2.trans e2, e3, e4, fun k hk => by rw [hb k hk]; exact e5 k hk⟩
theorem NDX.cg {cT : Nat → ClassId} {ad ad2 : Nat → Nat} {g g2 : Nat → Option va_E} {t k : Nat} (h : NDX cT ad g t k) (h1 : g2 (2000 + 32 * t + k) = g (2000 + 32 * t + k)) (h2 : g2 (3000 + 32 * t + k) = g (3000 + 32 * t + k)) (h3 : g2 (4000 + 32 * t + k) = g (4000 + 32 * t + k)) (ha : ad2 (3000 + 32 * t + k) = ad (3000 + 32 * t + k)) (hb : ad2 (4000 + 32 * t + k) = ad (4000 + 32 * t + k)) : NDX cT ad2 g2 t k := by
  obtain ⟨⟨q0, q1, q2, q3, q4, q5, q6, q7, e⟩, z, hz⟩ := h
  exact ⟨⟨q0, q1, q2, q3, q4, q5, q6, q7, by rw [ha]; exact h1.trans e⟩, z, (hz.cg h2 h3).ca hb⟩
theorem TMD.cg {cT : Nat → ClassId} {ad ad2 : Nat → Nat} {g g2 : Nat → Option va_E} {tE t mk : Nat} (h : TMD cT ad g tE t mk) (h1 : g2 (1020 + t) = g (1020 + t)) (h2 : g2 (1040 + t) = g (1040 + t)) (ha : ad2 (1040 + t) = ad (1040 + t)) (h3 : ∀ k, k < 32 → g2 (2000 + 32 * t + k) = g (2000 + 32 * t + k) ∧ g2 (3000 + 32 * t + k) = g (3000 + 32 * t + k) ∧ g2 (4000 + 32 * t + k) = g (4000 + 32 * t + k) ∧ ad2 (2000 + 32 * t + k) = ad (2000 + 32 * t + k) ∧ ad2 (3000 + 32 * t + k) = ad (3000 + 32 * t + k) ∧ ad2 (4000 + 32 * t + k) = ad (4000 + 32 * t + k)) : TMD cT ad2 g2 tE t mk := by
  obtain ⟨e1, e2, e3, e4⟩ := h
  refine ⟨e1.cg h1 h2 ha (fun k hk => (h3 k (by omega)).2.2.2.1), e2, fun k hk => ?_, fun k hk hk2 => ?_⟩
  · obtain ⟨a1, a2, a3, a4, a5, a6⟩ := h3 k (by omega)
    exact (e3 k hk).cg a1 a2 a3 a5 a6
  · obtain ⟨a1, a2, a3, a4, a5, a6⟩ := h3 k hk2
    obtain ⟨b1, b2, b3⟩ := e4 k hk hk2
    exact ⟨a1.trans b1, a2.trans b2, a3.trans b3⟩
/-- what a method may change that makes a node of the tree: codes of its list's array and of the node -/
theorem tmd_el {cT : Nat → ClassId} {ad : Nat → Nat} {g : Nat → Option va_E} {t mk : Nat} (ht : t < 16) (hm : mk ≤ 31) {cap : Nat} {lf : Nat → Option Nat} (hl : ∀ k, k < mk → lf k = some (ad (2000 + 32 * t + k))) (h : ∀ k, k < mk → NDX cT ad g t k) {L : List Nat} (hL : ∀ c, c ∈ L → c < 2000) (he : mk = cap) : ∀ k, k < cap → ∃ fs : List Value, 2000 + 32 * t + k < 8192 ∧ lf k = some (ad (2000 + 32 * t + k)) ∧ upo g L (2000 + 32 * t + k) = some (.inr (10, fs)) := fun k hk => by
  obtain ⟨⟨q0, q1, q2, q3, q4, q5, q6, q7, e⟩, _⟩ := h k (by omega)
  exact ⟨_, by omega, hl k (by omega), (upo_o (na_nn (fun q => by have := hL _ q; omega))).trans e⟩
set_option maxHeartbeats 4000000 in
set_option maxRecDepth 100000 in
theorem k_alAddPN (l : Launch) (D : va_G) (cT : Nat → ClassId) (cds : List Nat) (ad : Nat → Nat) (gg : Nat → Option va_E) (tE : Nat) (mE : Nat) (cL : Nat) (cA : Nat) (bs : Nat) (mq : Nat) (v : Nat) (v1 : Int32) (v2 : Int32) (v3 : Int32) (v4 : Int32) (v5 : Int32) (v6 : Int32) (v7 : Int32) (v8 : Int32) (v9 : Nat) (hcd : CD cds) (hcs : cL < 8192 ∧ cA < 8192 ∧ cL ≠ cA ∧ (cL < bs ∨ bs + mq ≤ cL) ∧ (cA < bs ∨ bs + mq ≤ cA)) (hmx : mq < 31) (hLQ : LQ cT ad gg tE cL cA bs mq) (hel : ∀ k8, k8 < mq → ∃ fs8 : List Value, bs + k8 < 8192 ∧ gg (bs + k8) = some (.inr (10, fs8))) (sz : Nat) : Met l yAL_add WAL_add ({ frames := 6, cells := 1, slots := 33, locals := 150 } : Room) (RWE tE mE D vwCl [.ref (ad cL), .ref v] ([(v, .inr (10, [.int v1, .int v2, .int v3, .int v4, .int v5, .int v6, .int v7, .int v8, .ref v9]))] ++ pg cds ad gg) (TY cT) sz) (va_Qi (fun (r9 : Int32) (u9 : (Nat → Nat) × (Nat → Option va_E)) => r9 = 1 ∧ (∀ z8, z8 ≠ cL → z8 ≠ cA → u9.2 z8 = gg z8) ∧ (∀ z8, z8 ≠ cA → u9.1 z8 = ad z8) ∧ LQv cT ad u9.1 u9.2 cL cA bs mq v) (BW D vwCl (va_A ([(v, .inr (10, [.int v1, .int v2, .int v3, .int v4, .int v5, .int v6, .int v7, .int v8, .ref v9]))] ++ pg cds ad gg) sz) (fun u9 : (Nat → Nat) × (Nat → Option va_E) => ([(v, .inr (10, [.int v1, .int v2, .int v3, .int v4, .int v5, .int v6, .int v7, .int v8, .ref v9]))] ++ pg cds u9.1 u9.2))) (va_A ([(v, .inr (10, [.int v1, .int v2, .int v3, .int v4, .int v5, .int v6, .int v7, .int v8, .ref v9]))] ++ pg cds ad gg) sz)) 1 33 (va_A ([(v, .inr (10, [.int v1, .int v2, .int v3, .int v4, .int v5, .int v6, .int v7, .int v8, .ref v9]))] ++ pg cds ad gg) sz) := by
  refine Met.ofW (cc := cAL_add) (maxL := 2) (ret := (some .boolean)) (by decide) rfl ?_
  intro p e s m args below meth c s₁ B hml hv
  obtain ⟨rfl, ⟨hsz, hZ, hP, hK, hD0⟩, hE0⟩ := hv
  have hx := B.exec
  have hb := B.bytes
  have hr := B.returns
  have hts := atoms_spec (ws := WAL_add) B.pre
  have hT : ∀ w ∈ TB, w.before _ s = true := fun w h => hts w (List.mem_cons_of_mem _ h)
  have hown : s.vm.findClass R_AL = some m.cls := findClass_of_methodNamed B.named
  have hlocks := B.notSynchronized
  subst hsz
  have hD := hD0.self (sz := s.heap.size)
  generalize hAe : va_A ([(v, .inr (10, [.int v1, .int v2, .int v3, .int v4, .int v5, .int v6, .int v7, .int v8, .ref v9]))] ++ pg cds ad gg) s.heap.size = A at hD hZ hE0 ⊢
  have hA : ∀ q : Nat, s.heap.size ≤ q → A q := fun q h => by rw [← hAe]; exact Or.inr h
  have hS : va_S A s.heap s.heap [] := va_S.rf
  have hl := lv_entry ([.ref (ad cL), .ref v]) (n := 2) (Nat.le_of_ble_eq_true rfl)
  rw [lg_entry_eq]
  generalize (lg_sl ([.ref (ad cL), .ref v]) ++ List.replicate (2 - (lg_sl ([.ref (ad cL), .ref v])).length) Slot.unset).toArray = ls at hl ⊢
  have hl : lv_has ls 2 [(0, .ref (ad cL)), (1, .ref v)] := hl
  rcases hLQ with ⟨hm0, ⟨md, hL1⟩, hL2⟩ | ⟨cap, md, lf, hL1, hL2, hL3, hL4, hL5⟩
  · have hB9 : QI gg [(cL, .inr (12, [.ref tE, .int (nI 0), .int md]))] := (qi_c (by omega) hL1 qi_0)
    have hN9 := (show NDc [cL] from (nd_c na_0 nd_0))
    have hP := bo_P (wc := [(cL, .inr (12, [.ref tE, .int (nI 0), .int md]))]) (X := [(v, .inr (10, [.int v1, .int v2, .int v3, .int v4, .int v5, .int v6, .int v7, .int v8, .ref v9]))]) hcd hN9 hB9 hP
    have hD := bo_D (wc := [(cL, .inr (12, [.ref tE, .int (nI 0), .int md]))]) (X := [(v, .inr (10, [.int v1, .int v2, .int v3, .int v4, .int v5, .int v6, .int v7, .int v8, .ref v9]))]) hcd hN9 hB9 hD
    have hP : va_P D vwCl ([(v, .inr (10, [.int v1, .int v2, .int v3, .int v4, .int v5, .int v6, .int v7, .int v8, .ref v9])), (ad cL, .inr (12, [.ref tE, .int (nI 0), .int md]))] ++ pg cds ad (upo gg [cL])) _ := hP
    have hD : va_D A ([(v, .inr (10, [.int v1, .int v2, .int v3, .int v4, .int v5, .int v6, .int v7, .int v8, .ref v9])), (ad cL, .inr (12, [.ref tE, .int (nI 0), .int md]))] ++ pg cds ad (upo gg [cL])) := hD
    refine lv_aload_n hx hb dAL_add_0 rfl (lv_at hl 0 rfl) ?_
    refine lv_dup hx hb dAL_add_1 rfl ?_
    refine va_get (D := D) (ci := 12) (v := .int md) (C := R_AL) (T := T_AL) (N := 3) hx hb hT in_AL hown hK hP 1 rfl rfl 2 (by decide) (hT _ w271) (u_same (hT _ w272)) rfl dAL_add_2 ?_
    refine lv_iconst (v := 1) hx hb dAL_add_5 (by decide) ?_
    refine lv_iadd hx hb dAL_add_6 ?_
    refine va_put (D := D) (ci := 12) (v := .int (md + 1)) (ty := .int) (C := R_AL) (T := T_AL) (N := 3) hx hb hT in_AL ty_AL ty_AL_ok m_AL hown hK hP hD hS 1 rfl rfl 2 (by decide) (hT _ w271) (u_same (hT _ w272)) rfl (by decide +kernel) rfl rfl (Nat.le_of_ble_eq_true rfl) dAL_add_7 (fun H locs hP hD hS => ?_)
    have hP : va_P D vwCl ([(v, .inr (10, [.int v1, .int v2, .int v3, .int v4, .int v5, .int v6, .int v7, .int v8, .ref v9])), (ad cL, .inr (12, [.ref tE, .int (nI 0), .int (md + 1)]))] ++ pg cds ad (upo gg [cL])) _ := hP
    have hD : va_D A ([(v, .inr (10, [.int v1, .int v2, .int v3, .int v4, .int v5, .int v6, .int v7, .int v8, .ref v9])), (ad cL, .inr (12, [.ref tE, .int (nI 0), .int (md + 1)]))] ++ pg cds ad (upo gg [cL])) := hD
    refine lv_aload_n hx hb dAL_add_10 rfl (lv_at hl 0 rfl) ?_
    refine lv_aload_n hx hb dAL_add_11 rfl (lv_at hl 1 rfl) ?_
    refine lv_aload_n hx hb dAL_add_12 rfl (lv_at hl 0 rfl) ?_
    refine va_get (D := D) (ci := 12) (v := .ref tE) (C := R_AL) (T := T_AL) (N := 3) hx hb hT in_AL hown hK hP 1 rfl rfl 0 (by decide) (hT _ w268) (fun _ h9 => h9) rfl dAL_add_13 ?_
    refine lv_aload_n hx hb dAL_add_16 rfl (lv_at hl 0 rfl) ?_
    refine va_get (D := D) (ci := 12) (v := .int (nI 0)) (C := R_AL) (T := T_AL) (N := 3) hx hb hT in_AL hown hK hP 1 rfl rfl 1 (by decide) (hT _ w269) (fun _ h9 => h9) rfl dAL_add_17 ?_
    refine hy_vQ (X := [(v, .inr (10, [.int v1, .int v2, .int v3, .int v4, .int v5, .int v6, .int v7, .int v8, .ref v9])), (ad cL, .inr (12, [.ref tE, .int (nI 0), .int (md + 1)]))]) (pl := pg cds ad (upo gg [cL])) (cx := [(ad cL, .inr (12, [.ref tE, .int (nI 0), .int (md + 1)])), (v, .inr (10, [.int v1, .int v2, .int v3, .int v4, .int v5, .int v6, .int v7, .int v8, .ref v9]))]) (wr := []) hP hD hS hA [1, 0] [] rfl rfl (by decide) (by decide) (va_runV (As := [.ref v, .ref tE, .int (nI 0)]) (rest := []) ⟨hx, hb, hml, hown, hT⟩ (k_alAdd3N0 l D cT tE mE (ad cL) (md + 1) v v1 v2 v3 v4 v5 v6 v7 v8 v9 _) ⟨callB_of 3 hT (tb_gd w761) rfl rfl rfl (hT _ w11) (hT _ w758) hAL_add3 ⟨Nat.le_of_ble_eq_true rfl, Nat.le_of_ble_eq_true rfl⟩, (hT _ w760), (hT _ wp9)⟩ (RWE.preV (ci := 12) (q0 := 0) hE0 hZ hS (hy_free (cx := [(ad cL, .inr (12, [.ref tE, .int (nI 0), .int (md + 1)])), (v, .inr (10, [.int v1, .int v2, .int v3, .int v4, .int v5, .int v6, .int v7, .int v8, .ref v9]))]) hD hS hA [1, 0] rfl) (hP.sub (ws' := [(ad cL, .inr (12, [.ref tE, .int (nI 0), .int (md + 1)])), (v, .inr (10, [.int v1, .int v2, .int v3, .int v4, .int v5, .int v6, .int v7, .int v8, .ref v9]))]) [1, 0] rfl) hK (hD.sub (ws' := [(ad cL, .inr (12, [.ref tE, .int (nI 0), .int (md + 1)])), (v, .inr (10, [.int v1, .int v2, .int v3, .int v4, .int v5, .int v6, .int v7, .int v8, .ref v9]))]) [1, 0] (by decide) rfl) rfl rfl) rfl rfl hl.1 rfl (lv_room (Nat.le_of_ble_eq_true rfl)) dAL_add_20 ⟨Nat.le_of_ble_eq_true rfl, Nat.le_of_ble_eq_true rfl⟩) (fun u9 H locs hpu1 hP hD hS => ?_)
    obtain ⟨nqu1, rfl⟩ : ∃ q9, q9 = u9 := ⟨_, rfl⟩
    have hpu1 : True := hpu1
    have hP : va_P D vwCl ([(ad cL, .inr (12, [.ref nqu1, .int (nI (0 + 1)), .int (md + 1)])), (nqu1, .inl (cT 7, 10, .inr (.inr (.inr (.inr (va_up (fun _ => none) 0 (some v))))))), (v, .inr (10, [.int v1, .int v2, .int v3, .int v4, .int v5, .int v6, .int v7, .int v8, .ref v9]))] ++ pg cds ad (upo gg [cL])) _ := hP
    have hD : va_D A ([(ad cL, .inr (12, [.ref nqu1, .int (nI (0 + 1)), .int (md + 1)])), (nqu1, .inl (cT 7, 10, .inr (.inr (.inr (.inr (va_up (fun _ => none) 0 (some v))))))), (v, .inr (10, [.int v1, .int v2, .int v3, .int v4, .int v5, .int v6, .int v7, .int v8, .ref v9]))] ++ pg cds ad (upo gg [cL])) := hD
    obtain ⟨ad1, had1⟩ : ∃ f9 : Nat → Nat, f9 = va_up ad cA nqu1 := ⟨_, rfl⟩
    have ead1_0 : ad1 cA = nqu1 := by rw [had1]; exact va_up_self _ _ _
    have aad1 : ∀ z8, z8 ≠ cA → ad1 z8 = ad z8 := fun z8 n0 => by rw [had1]; exact (va_up_ne _ _ n0).trans (rfl)
    have pad1 : pg cds ad1 (upo gg [cL]) = pg cds ad (upo gg [cL]) := by rw [had1]; exact (pg_ad ((upo_o (na_c (by omega) na_0)).trans hL2)).trans (rfl)
    have hw9 : ([(ad1 cL, .inr (12, [.ref (ad1 cA), .int (nI (0 + 1)), .int (md + 1)])), (ad1 cA, .inl (cT 7, 10, .inr (.inr (.inr (.inr (va_up (fun _ => none) 0 (some v))))))), (v, .inr (10, [.int v1, .int v2, .int v3, .int v4, .int v5, .int v6, .int v7, .int v8, .ref v9]))] ++ pg cds ad1 (upo gg [cL])) = ([(ad cL, .inr (12, [.ref nqu1, .int (nI (0 + 1)), .int (md + 1)])), (nqu1, .inl (cT 7, 10, .inr (.inr (.inr (.inr (va_up (fun _ => none) 0 (some v))))))), (v, .inr (10, [.int v1, .int v2, .int v3, .int v4, .int v5, .int v6, .int v7, .int v8, .ref v9]))] ++ pg cds ad (upo gg [cL])) := by rw [pad1, aad1 cL (by omega), ead1_0]
    have hP := vP_eq hw9 hP
    have hD := vD_eq hw9 hD
    have hP : va_P D vwCl ([(ad1 cL, .inr (12, [.ref (ad1 cA), .int (nI (0 + 1)), .int (md + 1)])), (ad1 cA, .inl (cT 7, 10, .inr (.inr (.inr (.inr (va_up (fun _ => none) 0 (some v))))))), (v, .inr (10, [.int v1, .int v2, .int v3, .int v4, .int v5, .int v6, .int v7, .int v8, .ref v9]))] ++ pg cds ad1 (upo gg [cL])) _ := hP
    have hD : va_D A ([(ad1 cL, .inr (12, [.ref (ad1 cA), .int (nI (0 + 1)), .int (md + 1)])), (ad1 cA, .inl (cT 7, 10, .inr (.inr (.inr (.inr (va_up (fun _ => none) 0 (some v))))))), (v, .inr (10, [.int v1, .int v2, .int v3, .int v4, .int v5, .int v6, .int v7, .int v8, .ref v9]))] ++ pg cds ad1 (upo gg [cL])) := hD
    have hl : lv_has ls 2 [(0, .ref (ad1 cL)), (1, .ref v)] := by rw [aad1 cL (by omega)]; exact hl
    have hup : upo gg [cL, cA] = upo gg [cL] := by show va_up (upo gg [cA]) cL none = va_up gg cL none; rw [upo_nn (nn_c hL2 nn_0)]
    have hw9 : ([(ad1 cL, .inr (12, [.ref (ad1 cA), .int (nI (0 + 1)), .int (md + 1)])), (ad1 cA, .inl (cT 7, 10, .inr (.inr (.inr (.inr (va_up (fun _ => none) 0 (some v))))))), (v, .inr (10, [.int v1, .int v2, .int v3, .int v4, .int v5, .int v6, .int v7, .int v8, .ref v9]))] ++ pg cds ad1 (upo gg [cL, cA])) = ([(ad1 cL, .inr (12, [.ref (ad1 cA), .int (nI (0 + 1)), .int (md + 1)])), (ad1 cA, .inl (cT 7, 10, .inr (.inr (.inr (.inr (va_up (fun _ => none) 0 (some v))))))), (v, .inr (10, [.int v1, .int v2, .int v3, .int v4, .int v5, .int v6, .int v7, .int v8, .ref v9]))] ++ pg cds ad1 (upo gg [cL])) := by rw [hup]
    have hP := vP_eq hw9 hP
    have hD := vD_eq hw9 hD
    have hN9 := (show NDc [cL, cA] from (nd_c (na_c (by omega) na_0) (nd_c na_0 nd_0)))
    have hP := gb_P (w9 := [(cL, .inr (12, [.ref (ad1 cA), .int (nI (0 + 1)), .int (md + 1)])), (cA, .inl (cT 7, 10, .inr (.inr (.inr (.inr (va_up (fun _ => none) 0 (some v)))))))]) (X := [(v, .inr (10, [.int v1, .int v2, .int v3, .int v4, .int v5, .int v6, .int v7, .int v8, .ref v9]))]) (g := gg) hcd hN9 (show QB [(cL, .inr (12, [.ref (ad1 cA), .int (nI (0 + 1)), .int (md + 1)])), (cA, .inl (cT 7, 10, .inr (.inr (.inr (.inr (va_up (fun _ => none) 0 (some v)))))))] from (qb_c (by omega) (qb_c (by omega) qb_0))) (hP.part (cx := [(v, .inr (10, [.int v1, .int v2, .int v3, .int v4, .int v5, .int v6, .int v7, .int v8, .ref v9])), (ad1 cL, .inr (12, [.ref (ad1 cA), .int (nI (0 + 1)), .int (md + 1)])), (ad1 cA, .inl (cT 7, 10, .inr (.inr (.inr (.inr (va_up (fun _ => none) 0 (some v)))))))]) [2, 0, 1] rfl)
    have hD := gb_D (w9 := [(cL, .inr (12, [.ref (ad1 cA), .int (nI (0 + 1)), .int (md + 1)])), (cA, .inl (cT 7, 10, .inr (.inr (.inr (.inr (va_up (fun _ => none) 0 (some v)))))))]) (X := [(v, .inr (10, [.int v1, .int v2, .int v3, .int v4, .int v5, .int v6, .int v7, .int v8, .ref v9]))]) (g := gg) hcd hN9 (show QB [(cL, .inr (12, [.ref (ad1 cA), .int (nI (0 + 1)), .int (md + 1)])), (cA, .inl (cT 7, 10, .inr (.inr (.inr (.inr (va_up (fun _ => none) 0 (some v)))))))] from (qb_c (by omega) (qb_c (by omega) qb_0))) (hD.part (cx := [(v, .inr (10, [.int v1, .int v2, .int v3, .int v4, .int v5, .int v6, .int v7, .int v8, .ref v9])), (ad1 cL, .inr (12, [.ref (ad1 cA), .int (nI (0 + 1)), .int (md + 1)])), (ad1 cA, .inl (cT 7, 10, .inr (.inr (.inr (.inr (va_up (fun _ => none) 0 (some v)))))))]) [2, 0, 1] (by decide) rfl)
    obtain ⟨g1, hg1⟩ : ∃ q9, q9 = ups gg [(cL, .inr (12, [.ref (ad1 cA), .int (nI (0 + 1)), .int (md + 1)])), (cA, .inl (cT 7, 10, .inr (.inr (.inr (.inr (va_up (fun _ => none) 0 (some v)))))))] := ⟨_, rfl⟩
    rw [← hg1] at hP hD
    have hP : va_P D vwCl ([(v, .inr (10, [.int v1, .int v2, .int v3, .int v4, .int v5, .int v6, .int v7, .int v8, .ref v9]))] ++ pg cds ad1 g1) _ := hP
    have hD : va_D A ([(v, .inr (10, [.int v1, .int v2, .int v3, .int v4, .int v5, .int v6, .int v7, .int v8, .ref v9]))] ++ pg cds ad1 g1) := hD
    have fg1 : ∀ z8, z8 ≠ cL → z8 ≠ cA → g1 z8 = gg z8 := fun z8 z1 z2 => by rw [hg1]; exact ups_k (kp_n z1 (kp_n z2 kp_0))
    have g1_0 : g1 cL = some (.inr (12, [.ref (ad1 cA), .int (nI (0 + 1)), .int (md + 1)])) := by rw [hg1]; exact ups_1
    have g1_1 : g1 cA = some (.inl (cT 7, 10, .inr (.inr (.inr (.inr (va_up (fun _ => none) 0 (some v))))))) := by rw [hg1]; exact ups_2 (by omega)
    refine lv_iconst (v := 1) hx hb dAL_add_23 (by decide) ?_
    have hP9 : va_P D vwCl ([(v, .inr (10, [.int v1, .int v2, .int v3, .int v4, .int v5, .int v6, .int v7, .int v8, .ref v9]))] ++ pg cds ad1 g1) _ := hP.part (cx := [(v, .inr (10, [.int v1, .int v2, .int v3, .int v4, .int v5, .int v6, .int v7, .int v8, .ref v9]))]) [0] rfl
    have hD9 : va_D A ([(v, .inr (10, [.int v1, .int v2, .int v3, .int v4, .int v5, .int v6, .int v7, .int v8, .ref v9]))] ++ pg cds ad1 g1) := hD.part (cx := [(v, .inr (10, [.int v1, .int v2, .int v3, .int v4, .int v5, .int v6, .int v7, .int v8, .ref v9]))]) [0] (by decide) rfl
    refine W.widen (k := 1) (n := 33) (Nat.le_of_ble_eq_true rfl) (Nat.le_of_ble_eq_true rfl) ?_
    exact W.zret (v := 1) hx hb hr rfl (fun t9 ht9 hW9 => ⟨⟨1, (ad1, g1), rfl, (show 1 = 1 ∧ (∀ z8, z8 ≠ cL → z8 ≠ cA → g1 z8 = gg z8) ∧ (∀ z8, z8 ≠ cA → ad1 z8 = ad z8) ∧ LQv cT ad ad1 g1 cL cA bs mq v from ⟨rfl, (fun z8 n1 n2 => fg1 z8 n1 n2), aad1, ⟨10, md + 1, va_up (fun _ => none) 0 (some v), by rw [hm0]; exact g1_0, g1_1, by omega, Or.inl rfl, fun k hk => absurd hk (by omega), by rw [hm0]; exact va_up_self _ _ _⟩⟩), by rw [ht9]; exact hP9, hD9⟩, hS.F ht9⟩) hS.2.2 dAL_add_24
  · by_cases hrm : mq < cap
    · have hB9 : QI gg [(cL, .inr (12, [.ref (ad cA), .int (nI mq), .int md])), (cA, .inl (cT 7, cap, .inr (.inr (.inr (.inr lf)))))] := (qi_c (by omega) hL1 (qi_c (by omega) hL2 qi_0))
      have hN9 := (show NDc [cL, cA] from (nd_c (na_c (by omega) na_0) (nd_c na_0 nd_0)))
      have hP := bo_P (wc := [(cL, .inr (12, [.ref (ad cA), .int (nI mq), .int md])), (cA, .inl (cT 7, cap, .inr (.inr (.inr (.inr lf)))))]) (X := [(v, .inr (10, [.int v1, .int v2, .int v3, .int v4, .int v5, .int v6, .int v7, .int v8, .ref v9]))]) hcd hN9 hB9 hP
      have hD := bo_D (wc := [(cL, .inr (12, [.ref (ad cA), .int (nI mq), .int md])), (cA, .inl (cT 7, cap, .inr (.inr (.inr (.inr lf)))))]) (X := [(v, .inr (10, [.int v1, .int v2, .int v3, .int v4, .int v5, .int v6, .int v7, .int v8, .ref v9]))]) hcd hN9 hB9 hD
      have hP : va_P D vwCl ([(v, .inr (10, [.int v1, .int v2, .int v3, .int v4, .int v5, .int v6, .int v7, .int v8, .ref v9])), (ad cL, .inr (12, [.ref (ad cA), .int (nI mq), .int md])), (ad cA, .inl (cT 7, cap, .inr (.inr (.inr (.inr lf)))))] ++ pg cds ad (upo gg [cL, cA])) _ := hP
      have hD : va_D A ([(v, .inr (10, [.int v1, .int v2, .int v3, .int v4, .int v5, .int v6, .int v7, .int v8, .ref v9])), (ad cL, .inr (12, [.ref (ad cA), .int (nI mq), .int md])), (ad cA, .inl (cT 7, cap, .inr (.inr (.inr (.inr lf)))))] ++ pg cds ad (upo gg [cL, cA])) := hD
      refine lv_aload_n hx hb dAL_add_0 rfl (lv_at hl 0 rfl) ?_
      refine lv_dup hx hb dAL_add_1 rfl ?_
      refine va_get (D := D) (ci := 12) (v := .int md) (C := R_AL) (T := T_AL) (N := 3) hx hb hT in_AL hown hK hP 1 rfl rfl 2 (by decide) (hT _ w271) (u_same (hT _ w272)) rfl dAL_add_2 ?_
      refine lv_iconst (v := 1) hx hb dAL_add_5 (by decide) ?_
      refine lv_iadd hx hb dAL_add_6 ?_
      refine va_put (D := D) (ci := 12) (v := .int (md + 1)) (ty := .int) (C := R_AL) (T := T_AL) (N := 3) hx hb hT in_AL ty_AL ty_AL_ok m_AL hown hK hP hD hS 1 rfl rfl 2 (by decide) (hT _ w271) (u_same (hT _ w272)) rfl (by decide +kernel) rfl rfl (Nat.le_of_ble_eq_true rfl) dAL_add_7 (fun H locs hP hD hS => ?_)
      have hP : va_P D vwCl ([(v, .inr (10, [.int v1, .int v2, .int v3, .int v4, .int v5, .int v6, .int v7, .int v8, .ref v9])), (ad cL, .inr (12, [.ref (ad cA), .int (nI mq), .int (md + 1)])), (ad cA, .inl (cT 7, cap, .inr (.inr (.inr (.inr lf)))))] ++ pg cds ad (upo gg [cL, cA])) _ := hP
      have hD : va_D A ([(v, .inr (10, [.int v1, .int v2, .int v3, .int v4, .int v5, .int v6, .int v7, .int v8, .ref v9])), (ad cL, .inr (12, [.ref (ad cA), .int (nI mq), .int (md + 1)])), (ad cA, .inl (cT 7, cap, .inr (.inr (.inr (.inr lf)))))] ++ pg cds ad (upo gg [cL, cA])) := hD
      refine lv_aload_n hx hb dAL_add_10 rfl (lv_at hl 0 rfl) ?_
      refine lv_aload_n hx hb dAL_add_11 rfl (lv_at hl 1 rfl) ?_
      refine lv_aload_n hx hb dAL_add_12 rfl (lv_at hl 0 rfl) ?_
      refine va_get (D := D) (ci := 12) (v := .ref (ad cA)) (C := R_AL) (T := T_AL) (N := 3) hx hb hT in_AL hown hK hP 1 rfl rfl 0 (by decide) (hT _ w268) (fun _ h9 => h9) rfl dAL_add_13 ?_
      refine lv_aload_n hx hb dAL_add_16 rfl (lv_at hl 0 rfl) ?_
      refine va_get (D := D) (ci := 12) (v := .int (nI mq)) (C := R_AL) (T := T_AL) (N := 3) hx hb hT in_AL hown hK hP 1 rfl rfl 1 (by decide) (hT _ w269) (fun _ h9 => h9) rfl dAL_add_17 ?_
      refine hy_vQ (X := [(v, .inr (10, [.int v1, .int v2, .int v3, .int v4, .int v5, .int v6, .int v7, .int v8, .ref v9])), (ad cL, .inr (12, [.ref (ad cA), .int (nI mq), .int (md + 1)])), (ad cA, .inl (cT 7, cap, .inr (.inr (.inr (.inr lf)))))]) (pl := pg cds ad (upo gg [cL, cA])) (cx := [(ad cL, .inr (12, [.ref (ad cA), .int (nI mq), .int (md + 1)])), (ad cA, .inl (cT 7, cap, .inr (.inr (.inr (.inr lf))))), (v, .inr (10, [.int v1, .int v2, .int v3, .int v4, .int v5, .int v6, .int v7, .int v8, .ref v9]))]) (wr := []) hP hD hS hA [1, 2, 0] [] rfl rfl (by decide) (by decide) (va_runV (As := [.ref v, .ref (ad cA), .int (nI mq)]) (rest := []) ⟨hx, hb, hml, hown, hT⟩ (k_alAdd3N l D cT (ad cL) (ad cA) mq (md + 1) cap lf v v1 v2 v3 v4 v5 v6 v7 v8 v9 (by omega) (by rcases hL4 with q | q | q | q <;> omega) _) ⟨callB_of 3 hT (tb_gd w761) rfl rfl rfl (hT _ w11) (hT _ w758) hAL_add3 ⟨Nat.le_of_ble_eq_true rfl, Nat.le_of_ble_eq_true rfl⟩, (hT _ w760), (hT _ wp9)⟩ (RW.preV (ci := 12) (q0 := 0) hZ hS (hy_free (cx := [(ad cL, .inr (12, [.ref (ad cA), .int (nI mq), .int (md + 1)])), (ad cA, .inl (cT 7, cap, .inr (.inr (.inr (.inr lf))))), (v, .inr (10, [.int v1, .int v2, .int v3, .int v4, .int v5, .int v6, .int v7, .int v8, .ref v9]))]) hD hS hA [1, 2, 0] rfl) (hP.sub (ws' := [(ad cL, .inr (12, [.ref (ad cA), .int (nI mq), .int (md + 1)])), (ad cA, .inl (cT 7, cap, .inr (.inr (.inr (.inr lf))))), (v, .inr (10, [.int v1, .int v2, .int v3, .int v4, .int v5, .int v6, .int v7, .int v8, .ref v9]))]) [1, 2, 0] rfl) hK (hD.sub (ws' := [(ad cL, .inr (12, [.ref (ad cA), .int (nI mq), .int (md + 1)])), (ad cA, .inl (cT 7, cap, .inr (.inr (.inr (.inr lf))))), (v, .inr (10, [.int v1, .int v2, .int v3, .int v4, .int v5, .int v6, .int v7, .int v8, .ref v9]))]) [1, 2, 0] (by decide) rfl) rfl rfl) rfl rfl hl.1 rfl (lv_room (Nat.le_of_ble_eq_true rfl)) dAL_add_20 ⟨Nat.le_of_ble_eq_true rfl, Nat.le_of_ble_eq_true rfl⟩) (fun u9 H locs hpu2 hP hD hS => ?_)
      have hpu2 : True := hpu2
      have hP : va_P D vwCl ([(ad cL, .inr (12, [.ref (ad cA), .int (nI (mq + 1)), .int (md + 1)])), (ad cA, .inl (cT 7, cap, .inr (.inr (.inr (.inr (va_up lf mq (some v))))))), (v, .inr (10, [.int v1, .int v2, .int v3, .int v4, .int v5, .int v6, .int v7, .int v8, .ref v9]))] ++ pg cds ad (upo gg [cL, cA])) _ := hP
      have hD : va_D A ([(ad cL, .inr (12, [.ref (ad cA), .int (nI (mq + 1)), .int (md + 1)])), (ad cA, .inl (cT 7, cap, .inr (.inr (.inr (.inr (va_up lf mq (some v))))))), (v, .inr (10, [.int v1, .int v2, .int v3, .int v4, .int v5, .int v6, .int v7, .int v8, .ref v9]))] ++ pg cds ad (upo gg [cL, cA])) := hD
      have hN9 := (show NDc [cL, cA] from (nd_c (na_c (by omega) na_0) (nd_c na_0 nd_0)))
      have hP := gb_P (w9 := [(cL, .inr (12, [.ref (ad cA), .int (nI (mq + 1)), .int (md + 1)])), (cA, .inl (cT 7, cap, .inr (.inr (.inr (.inr (va_up lf mq (some v)))))))]) (X := [(v, .inr (10, [.int v1, .int v2, .int v3, .int v4, .int v5, .int v6, .int v7, .int v8, .ref v9]))]) (g := gg) hcd hN9 (show QB [(cL, .inr (12, [.ref (ad cA), .int (nI (mq + 1)), .int (md + 1)])), (cA, .inl (cT 7, cap, .inr (.inr (.inr (.inr (va_up lf mq (some v)))))))] from (qb_c (by omega) (qb_c (by omega) qb_0))) (hP.part (cx := [(v, .inr (10, [.int v1, .int v2, .int v3, .int v4, .int v5, .int v6, .int v7, .int v8, .ref v9])), (ad cL, .inr (12, [.ref (ad cA), .int (nI (mq + 1)), .int (md + 1)])), (ad cA, .inl (cT 7, cap, .inr (.inr (.inr (.inr (va_up lf mq (some v)))))))]) [2, 0, 1] rfl)
      have hD := gb_D (w9 := [(cL, .inr (12, [.ref (ad cA), .int (nI (mq + 1)), .int (md + 1)])), (cA, .inl (cT 7, cap, .inr (.inr (.inr (.inr (va_up lf mq (some v)))))))]) (X := [(v, .inr (10, [.int v1, .int v2, .int v3, .int v4, .int v5, .int v6, .int v7, .int v8, .ref v9]))]) (g := gg) hcd hN9 (show QB [(cL, .inr (12, [.ref (ad cA), .int (nI (mq + 1)), .int (md + 1)])), (cA, .inl (cT 7, cap, .inr (.inr (.inr (.inr (va_up lf mq (some v)))))))] from (qb_c (by omega) (qb_c (by omega) qb_0))) (hD.part (cx := [(v, .inr (10, [.int v1, .int v2, .int v3, .int v4, .int v5, .int v6, .int v7, .int v8, .ref v9])), (ad cL, .inr (12, [.ref (ad cA), .int (nI (mq + 1)), .int (md + 1)])), (ad cA, .inl (cT 7, cap, .inr (.inr (.inr (.inr (va_up lf mq (some v)))))))]) [2, 0, 1] (by decide) rfl)
      obtain ⟨g1, hg1⟩ : ∃ q9, q9 = ups gg [(cL, .inr (12, [.ref (ad cA), .int (nI (mq + 1)), .int (md + 1)])), (cA, .inl (cT 7, cap, .inr (.inr (.inr (.inr (va_up lf mq (some v)))))))] := ⟨_, rfl⟩
      rw [← hg1] at hP hD
      have hP : va_P D vwCl ([(v, .inr (10, [.int v1, .int v2, .int v3, .int v4, .int v5, .int v6, .int v7, .int v8, .ref v9]))] ++ pg cds ad g1) _ := hP
      have hD : va_D A ([(v, .inr (10, [.int v1, .int v2, .int v3, .int v4, .int v5, .int v6, .int v7, .int v8, .ref v9]))] ++ pg cds ad g1) := hD
      have fg1 : ∀ z8, z8 ≠ cL → z8 ≠ cA → g1 z8 = gg z8 := fun z8 z1 z2 => by rw [hg1]; exact ups_k (kp_n z1 (kp_n z2 kp_0))
      have g1_0 : g1 cL = some (.inr (12, [.ref (ad cA), .int (nI (mq + 1)), .int (md + 1)])) := by rw [hg1]; exact ups_1
      have g1_1 : g1 cA = some (.inl (cT 7, cap, .inr (.inr (.inr (.inr (va_up lf mq (some v))))))) := by rw [hg1]; exact ups_2 (by omega)
      refine lv_iconst (v := 1) hx hb dAL_add_23 (by decide) ?_
      have hP9 : va_P D vwCl ([(v, .inr (10, [.int v1, .int v2, .int v3, .int v4, .int v5, .int v6, .int v7, .int v8, .ref v9]))] ++ pg cds ad g1) _ := hP.part (cx := [(v, .inr (10, [.int v1, .int v2, .int v3, .int v4, .int v5, .int v6, .int v7, .int v8, .ref v9]))]) [0] rfl
      have hD9 : va_D A ([(v, .inr (10, [.int v1, .int v2, .int v3, .int v4, .int v5, .int v6, .int v7, .int v8, .ref v9]))] ++ pg cds ad g1) := hD.part (cx := [(v, .inr (10, [.int v1, .int v2, .int v3, .int v4, .int v5, .int v6, .int v7, .int v8, .ref v9]))]) [0] (by decide) rfl
      refine W.widen (k := 1) (n := 33) (Nat.le_of_ble_eq_true rfl) (Nat.le_of_ble_eq_true rfl) ?_
      exact W.zret (v := 1) hx hb hr rfl (fun t9 ht9 hW9 => ⟨⟨1, (ad, g1), rfl, (show 1 = 1 ∧ (∀ z8, z8 ≠ cL → z8 ≠ cA → g1 z8 = gg z8) ∧ (∀ z8, z8 ≠ cA → ad z8 = ad z8) ∧ LQv cT ad ad g1 cL cA bs mq v from ⟨rfl, (fun z8 n1 n2 => fg1 z8 n1 n2), (fun z8 n1 => rfl), ⟨cap, md + 1, va_up lf mq (some v), g1_0, g1_1, by omega, hL4, fun k hk => (va_up_ne _ _ (by omega)).trans (hL5 k hk), va_up_self _ _ _⟩⟩), by rw [ht9]; exact hP9, hD9⟩, hS.F ht9⟩) hS.2.2 dAL_add_24
    · rcases hL4 with rfl | rfl | rfl | rfl
      · have hmc : mq = 10 := by omega
        rw [hmc] at hL1
        have hB9 : QI gg [(cL, .inr (12, [.ref (ad cA), .int (nI 10), .int md])), (cA, .inl (cT 7, 10, .inr (.inr (.inr (.inr lf)))))] := (qi_c (by omega) hL1 (qi_c (by omega) hL2 qi_0))
        have hN9 := (show NDc [cL, cA] from (nd_c (na_c (by omega) na_0) (nd_c na_0 nd_0)))
        have hP := bo_P (wc := [(cL, .inr (12, [.ref (ad cA), .int (nI 10), .int md])), (cA, .inl (cT 7, 10, .inr (.inr (.inr (.inr lf)))))]) (X := [(v, .inr (10, [.int v1, .int v2, .int v3, .int v4, .int v5, .int v6, .int v7, .int v8, .ref v9]))]) hcd hN9 hB9 hP
        have hD := bo_D (wc := [(cL, .inr (12, [.ref (ad cA), .int (nI 10), .int md])), (cA, .inl (cT 7, 10, .inr (.inr (.inr (.inr lf)))))]) (X := [(v, .inr (10, [.int v1, .int v2, .int v3, .int v4, .int v5, .int v6, .int v7, .int v8, .ref v9]))]) hcd hN9 hB9 hD
        have hP : va_P D vwCl ([(v, .inr (10, [.int v1, .int v2, .int v3, .int v4, .int v5, .int v6, .int v7, .int v8, .ref v9])), (ad cL, .inr (12, [.ref (ad cA), .int (nI 10), .int md])), (ad cA, .inl (cT 7, 10, .inr (.inr (.inr (.inr lf)))))] ++ pg cds ad (upo gg [cL, cA])) _ := hP
        have hD : va_D A ([(v, .inr (10, [.int v1, .int v2, .int v3, .int v4, .int v5, .int v6, .int v7, .int v8, .ref v9])), (ad cL, .inr (12, [.ref (ad cA), .int (nI 10), .int md])), (ad cA, .inl (cT 7, 10, .inr (.inr (.inr (.inr lf)))))] ++ pg cds ad (upo gg [cL, cA])) := hD
        refine lv_aload_n hx hb dAL_add_0 rfl (lv_at hl 0 rfl) ?_
        refine lv_dup hx hb dAL_add_1 rfl ?_
        refine va_get (D := D) (ci := 12) (v := .int md) (C := R_AL) (T := T_AL) (N := 3) hx hb hT in_AL hown hK hP 1 rfl rfl 2 (by decide) (hT _ w271) (u_same (hT _ w272)) rfl dAL_add_2 ?_
        refine lv_iconst (v := 1) hx hb dAL_add_5 (by decide) ?_
        refine lv_iadd hx hb dAL_add_6 ?_
        refine va_put (D := D) (ci := 12) (v := .int (md + 1)) (ty := .int) (C := R_AL) (T := T_AL) (N := 3) hx hb hT in_AL ty_AL ty_AL_ok m_AL hown hK hP hD hS 1 rfl rfl 2 (by decide) (hT _ w271) (u_same (hT _ w272)) rfl (by decide +kernel) rfl rfl (Nat.le_of_ble_eq_true rfl) dAL_add_7 (fun H locs hP hD hS => ?_)
        have hP : va_P D vwCl ([(v, .inr (10, [.int v1, .int v2, .int v3, .int v4, .int v5, .int v6, .int v7, .int v8, .ref v9])), (ad cL, .inr (12, [.ref (ad cA), .int (nI 10), .int (md + 1)])), (ad cA, .inl (cT 7, 10, .inr (.inr (.inr (.inr lf)))))] ++ pg cds ad (upo gg [cL, cA])) _ := hP
        have hD : va_D A ([(v, .inr (10, [.int v1, .int v2, .int v3, .int v4, .int v5, .int v6, .int v7, .int v8, .ref v9])), (ad cL, .inr (12, [.ref (ad cA), .int (nI 10), .int (md + 1)])), (ad cA, .inl (cT 7, 10, .inr (.inr (.inr (.inr lf)))))] ++ pg cds ad (upo gg [cL, cA])) := hD
        refine lv_aload_n hx hb dAL_add_10 rfl (lv_at hl 0 rfl) ?_
        refine lv_aload_n hx hb dAL_add_11 rfl (lv_at hl 1 rfl) ?_
        refine lv_aload_n hx hb dAL_add_12 rfl (lv_at hl 0 rfl) ?_
        refine va_get (D := D) (ci := 12) (v := .ref (ad cA)) (C := R_AL) (T := T_AL) (N := 3) hx hb hT in_AL hown hK hP 1 rfl rfl 0 (by decide) (hT _ w268) (fun _ h9 => h9) rfl dAL_add_13 ?_
        refine lv_aload_n hx hb dAL_add_16 rfl (lv_at hl 0 rfl) ?_
        refine va_get (D := D) (ci := 12) (v := .int (nI 10)) (C := R_AL) (T := T_AL) (N := 3) hx hb hT in_AL hown hK hP 1 rfl rfl 1 (by decide) (hT _ w269) (fun _ h9 => h9) rfl dAL_add_17 ?_
        refine hy_vP (X := [(v, .inr (10, [.int v1, .int v2, .int v3, .int v4, .int v5, .int v6, .int v7, .int v8, .ref v9])), (ad cL, .inr (12, [.ref (ad cA), .int (nI 10), .int (md + 1)])), (ad cA, .inl (cT 7, 10, .inr (.inr (.inr (.inr lf)))))]) (pl := pg cds ad (upo gg [cL, cA])) (cx := [(ad cL, .inr (12, [.ref (ad cA), .int (nI 10), .int (md + 1)])), (ad cA, .inl (cT 7, 10, .inr (.inr (.inr (.inr lf))))), (v, .inr (10, [.int v1, .int v2, .int v3, .int v4, .int v5, .int v6, .int v7, .int v8, .ref v9]))]) (wr := []) hP hD hS hA [1, 2, 0] [] rfl rfl (by decide) (by decide) (va_runV (As := [.ref v, .ref (ad cA), .int (nI 10)]) (rest := []) ⟨hx, hb, hml, hown, hT⟩ (k_alAdd3N10 l D cT cds ad (upo gg [cL, cA]) tE mE (ad cL) (md + 1) (ad cA) lf bs v v1 v2 v3 v4 v5 v6 v7 v8 v9 hcd (fun k8 hk8 => (by obtain ⟨fs8, q1, q2⟩ := hel k8 (by omega); exact ⟨fs8, q1, hL5 k8 (by omega), (upo_o (na_c (by omega) (na_c (by omega) na_0))).trans q2⟩)) _) ⟨callB_of 3 hT (tb_gd w761) rfl rfl rfl (hT _ w11) (hT _ w758) hAL_add3 ⟨Nat.le_of_ble_eq_true rfl, Nat.le_of_ble_eq_true rfl⟩, (hT _ w760), (hT _ wp9)⟩ (RWE.preV (ci := 12) (q0 := 0) hE0 hZ hS (va_freeP (cx := [(ad cL, .inr (12, [.ref (ad cA), .int (nI 10), .int (md + 1)])), (ad cA, .inl (cT 7, 10, .inr (.inr (.inr (.inr lf))))), (v, .inr (10, [.int v1, .int v2, .int v3, .int v4, .int v5, .int v6, .int v7, .int v8, .ref v9]))]) hD hS hA [1, 2, 0] rfl) (hP.part (cx := [(ad cL, .inr (12, [.ref (ad cA), .int (nI 10), .int (md + 1)])), (ad cA, .inl (cT 7, 10, .inr (.inr (.inr (.inr lf))))), (v, .inr (10, [.int v1, .int v2, .int v3, .int v4, .int v5, .int v6, .int v7, .int v8, .ref v9]))]) [1, 2, 0] rfl) hK (hD.part (cx := [(ad cL, .inr (12, [.ref (ad cA), .int (nI 10), .int (md + 1)])), (ad cA, .inl (cT 7, 10, .inr (.inr (.inr (.inr lf))))), (v, .inr (10, [.int v1, .int v2, .int v3, .int v4, .int v5, .int v6, .int v7, .int v8, .ref v9]))]) [1, 2, 0] (by decide) rfl) rfl rfl) rfl rfl hl.1 rfl (lv_room (Nat.le_of_ble_eq_true rfl)) dAL_add_20 ⟨Nat.le_of_ble_eq_true rfl, Nat.le_of_ble_eq_true rfl⟩) (fun u9 H locs hpu3 hP hD hS => ?_)
        obtain ⟨nqu3, rfl⟩ : ∃ q9, q9 = u9 := ⟨_, rfl⟩
        have hpu3 : True := hpu3
        have hP : va_P D vwCl ([(ad cL, .inr (12, [.ref nqu3, .int (nI (10 + 1)), .int (md + 1)])), (nqu3, .inl (cT 7, 15, .inr (.inr (.inr (.inr (va_up (va_cpy lf (fun _ => none) 0 0 10) 10 (some v))))))), (v, .inr (10, [.int v1, .int v2, .int v3, .int v4, .int v5, .int v6, .int v7, .int v8, .ref v9]))] ++ pg cds ad (upo gg [cL, cA])) _ := hP
        have hD : va_D A ([(ad cL, .inr (12, [.ref nqu3, .int (nI (10 + 1)), .int (md + 1)])), (nqu3, .inl (cT 7, 15, .inr (.inr (.inr (.inr (va_up (va_cpy lf (fun _ => none) 0 0 10) 10 (some v))))))), (v, .inr (10, [.int v1, .int v2, .int v3, .int v4, .int v5, .int v6, .int v7, .int v8, .ref v9]))] ++ pg cds ad (upo gg [cL, cA])) := hD
        obtain ⟨ad1, had1⟩ : ∃ f9 : Nat → Nat, f9 = va_up ad cA nqu3 := ⟨_, rfl⟩
        have ead1_0 : ad1 cA = nqu3 := by rw [had1]; exact va_up_self _ _ _
        have aad1 : ∀ z8, z8 ≠ cA → ad1 z8 = ad z8 := fun z8 n0 => by rw [had1]; exact (va_up_ne _ _ n0).trans (rfl)
        have pad1 : pg cds ad1 (upo gg [cL, cA]) = pg cds ad (upo gg [cL, cA]) := by rw [had1]; exact (pg_ad (upo_i (.tail _ (.head _)))).trans (rfl)
        have hw9 : ([(ad1 cL, .inr (12, [.ref (ad1 cA), .int (nI (10 + 1)), .int (md + 1)])), (ad1 cA, .inl (cT 7, 15, .inr (.inr (.inr (.inr (va_up (va_cpy lf (fun _ => none) 0 0 10) 10 (some v))))))), (v, .inr (10, [.int v1, .int v2, .int v3, .int v4, .int v5, .int v6, .int v7, .int v8, .ref v9]))] ++ pg cds ad1 (upo gg [cL, cA])) = ([(ad cL, .inr (12, [.ref nqu3, .int (nI (10 + 1)), .int (md + 1)])), (nqu3, .inl (cT 7, 15, .inr (.inr (.inr (.inr (va_up (va_cpy lf (fun _ => none) 0 0 10) 10 (some v))))))), (v, .inr (10, [.int v1, .int v2, .int v3, .int v4, .int v5, .int v6, .int v7, .int v8, .ref v9]))] ++ pg cds ad (upo gg [cL, cA])) := by rw [pad1, aad1 cL (by omega), ead1_0]
        have hP := vP_eq hw9 hP
        have hD := vD_eq hw9 hD
        have hP : va_P D vwCl ([(ad1 cL, .inr (12, [.ref (ad1 cA), .int (nI (10 + 1)), .int (md + 1)])), (ad1 cA, .inl (cT 7, 15, .inr (.inr (.inr (.inr (va_up (va_cpy lf (fun _ => none) 0 0 10) 10 (some v))))))), (v, .inr (10, [.int v1, .int v2, .int v3, .int v4, .int v5, .int v6, .int v7, .int v8, .ref v9]))] ++ pg cds ad1 (upo gg [cL, cA])) _ := hP
        have hD : va_D A ([(ad1 cL, .inr (12, [.ref (ad1 cA), .int (nI (10 + 1)), .int (md + 1)])), (ad1 cA, .inl (cT 7, 15, .inr (.inr (.inr (.inr (va_up (va_cpy lf (fun _ => none) 0 0 10) 10 (some v))))))), (v, .inr (10, [.int v1, .int v2, .int v3, .int v4, .int v5, .int v6, .int v7, .int v8, .ref v9]))] ++ pg cds ad1 (upo gg [cL, cA])) := hD
        have hl : lv_has ls 2 [(0, .ref (ad1 cL)), (1, .ref v)] := by rw [aad1 cL (by omega)]; exact hl
        have hN9 := (show NDc [cL, cA] from (nd_c (na_c (by omega) na_0) (nd_c na_0 nd_0)))
        have hP := gb_P (w9 := [(cL, .inr (12, [.ref (ad1 cA), .int (nI (10 + 1)), .int (md + 1)])), (cA, .inl (cT 7, 15, .inr (.inr (.inr (.inr (va_up (va_cpy lf (fun _ => none) 0 0 10) 10 (some v)))))))]) (X := [(v, .inr (10, [.int v1, .int v2, .int v3, .int v4, .int v5, .int v6, .int v7, .int v8, .ref v9]))]) (g := gg) hcd hN9 (show QB [(cL, .inr (12, [.ref (ad1 cA), .int (nI (10 + 1)), .int (md + 1)])), (cA, .inl (cT 7, 15, .inr (.inr (.inr (.inr (va_up (va_cpy lf (fun _ => none) 0 0 10) 10 (some v)))))))] from (qb_c (by omega) (qb_c (by omega) qb_0))) (hP.part (cx := [(v, .inr (10, [.int v1, .int v2, .int v3, .int v4, .int v5, .int v6, .int v7, .int v8, .ref v9])), (ad1 cL, .inr (12, [.ref (ad1 cA), .int (nI (10 + 1)), .int (md + 1)])), (ad1 cA, .inl (cT 7, 15, .inr (.inr (.inr (.inr (va_up (va_cpy lf (fun _ => none) 0 0 10) 10 (some v)))))))]) [2, 0, 1] rfl)
        have hD := gb_D (w9 := [(cL, .inr (12, [.ref (ad1 cA), .int (nI (10 + 1)), .int (md + 1)])), (cA, .inl (cT 7, 15, .inr (.inr (.inr (.inr (va_up (va_cpy lf (fun _ => none) 0 0 10) 10 (some v)))))))]) (X := [(v, .inr (10, [.int v1, .int v2, .int v3, .int v4, .int v5, .int v6, .int v7, .int v8, .ref v9]))]) (g := gg) hcd hN9 (show QB [(cL, .inr (12, [.ref (ad1 cA), .int (nI (10 + 1)), .int (md + 1)])), (cA, .inl (cT 7, 15, .inr (.inr (.inr (.inr (va_up (va_cpy lf (fun _ => none) 0 0 10) 10 (some v)))))))] from (qb_c (by omega) (qb_c (by omega) qb_0))) (hD.part (cx := [(v, .inr (10, [.int v1, .int v2, .int v3, .int v4, .int v5, .int v6, .int v7, .int v8, .ref v9])), (ad1 cL, .inr (12, [.ref (ad1 cA), .int (nI (10 + 1)), .int (md + 1)])), (ad1 cA, .inl (cT 7, 15, .inr (.inr (.inr (.inr (va_up (va_cpy lf (fun _ => none) 0 0 10) 10 (some v)))))))]) [2, 0, 1] (by decide) rfl)
        obtain ⟨g1, hg1⟩ : ∃ q9, q9 = ups gg [(cL, .inr (12, [.ref (ad1 cA), .int (nI (10 + 1)), .int (md + 1)])), (cA, .inl (cT 7, 15, .inr (.inr (.inr (.inr (va_up (va_cpy lf (fun _ => none) 0 0 10) 10 (some v)))))))] := ⟨_, rfl⟩
        rw [← hg1] at hP hD
        have hP : va_P D vwCl ([(v, .inr (10, [.int v1, .int v2, .int v3, .int v4, .int v5, .int v6, .int v7, .int v8, .ref v9]))] ++ pg cds ad1 g1) _ := hP
        have hD : va_D A ([(v, .inr (10, [.int v1, .int v2, .int v3, .int v4, .int v5, .int v6, .int v7, .int v8, .ref v9]))] ++ pg cds ad1 g1) := hD
        have fg1 : ∀ z8, z8 ≠ cL → z8 ≠ cA → g1 z8 = gg z8 := fun z8 z1 z2 => by rw [hg1]; exact ups_k (kp_n z1 (kp_n z2 kp_0))
        have g1_0 : g1 cL = some (.inr (12, [.ref (ad1 cA), .int (nI (10 + 1)), .int (md + 1)])) := by rw [hg1]; exact ups_1
        have g1_1 : g1 cA = some (.inl (cT 7, 15, .inr (.inr (.inr (.inr (va_up (va_cpy lf (fun _ => none) 0 0 10) 10 (some v))))))) := by rw [hg1]; exact ups_2 (by omega)
        refine lv_iconst (v := 1) hx hb dAL_add_23 (by decide) ?_
        have hP9 : va_P D vwCl ([(v, .inr (10, [.int v1, .int v2, .int v3, .int v4, .int v5, .int v6, .int v7, .int v8, .ref v9]))] ++ pg cds ad1 g1) _ := hP.part (cx := [(v, .inr (10, [.int v1, .int v2, .int v3, .int v4, .int v5, .int v6, .int v7, .int v8, .ref v9]))]) [0] rfl
        have hD9 : va_D A ([(v, .inr (10, [.int v1, .int v2, .int v3, .int v4, .int v5, .int v6, .int v7, .int v8, .ref v9]))] ++ pg cds ad1 g1) := hD.part (cx := [(v, .inr (10, [.int v1, .int v2, .int v3, .int v4, .int v5, .int v6, .int v7, .int v8, .ref v9]))]) [0] (by decide) rfl
        refine W.widen (k := 1) (n := 33) (Nat.le_of_ble_eq_true rfl) (Nat.le_of_ble_eq_true rfl) ?_
        exact W.zret (v := 1) hx hb hr rfl (fun t9 ht9 hW9 => ⟨⟨1, (ad1, g1), rfl, (show 1 = 1 ∧ (∀ z8, z8 ≠ cL → z8 ≠ cA → g1 z8 = gg z8) ∧ (∀ z8, z8 ≠ cA → ad1 z8 = ad z8) ∧ LQv cT ad ad1 g1 cL cA bs mq v from ⟨rfl, (fun z8 n1 n2 => fg1 z8 n1 n2), aad1, ⟨15, md + 1, va_up (va_cpy lf (fun _ => none) 0 0 10) 10 (some v), by rw [hmc]; exact g1_0, g1_1, by omega, by unfold CAPo; omega, fun k hk => (va_up_ne _ _ (by omega)).trans ((cpq_lt (by omega)).trans (hL5 k hk)), by rw [hmc]; exact va_up_self _ _ _⟩⟩), by rw [ht9]; exact hP9, hD9⟩, hS.F ht9⟩) hS.2.2 dAL_add_24
      · have hmc : mq = 15 := by omega
        rw [hmc] at hL1
        have hB9 : QI gg [(cL, .inr (12, [.ref (ad cA), .int (nI 15), .int md])), (cA, .inl (cT 7, 15, .inr (.inr (.inr (.inr lf)))))] := (qi_c (by omega) hL1 (qi_c (by omega) hL2 qi_0))
        have hN9 := (show NDc [cL, cA] from (nd_c (na_c (by omega) na_0) (nd_c na_0 nd_0)))
        have hP := bo_P (wc := [(cL, .inr (12, [.ref (ad cA), .int (nI 15), .int md])), (cA, .inl (cT 7, 15, .inr (.inr (.inr (.inr lf)))))]) (X := [(v, .inr (10, [.int v1, .int v2, .int v3, .int v4, .int v5, .int v6, .int v7, .int v8, .ref v9]))]) hcd hN9 hB9 hP
        have hD := bo_D (wc := [(cL, .inr (12, [.ref (ad cA), .int (nI 15), .int md])), (cA, .inl (cT 7, 15, .inr (.inr (.inr (.inr lf)))))]) (X := [(v, .inr (10, [.int v1, .int v2, .int v3, .int v4, .int v5, .int v6, .int v7, .int v8, .ref v9]))]) hcd hN9 hB9 hD
        have hP : va_P D vwCl ([(v, .inr (10, [.int v1, .int v2, .int v3, .int v4, .int v5, .int v6, .int v7, .int v8, .ref v9])), (ad cL, .inr (12, [.ref (ad cA), .int (nI 15), .int md])), (ad cA, .inl (cT 7, 15, .inr (.inr (.inr (.inr lf)))))] ++ pg cds ad (upo gg [cL, cA])) _ := hP
        have hD : va_D A ([(v, .inr (10, [.int v1, .int v2, .int v3, .int v4, .int v5, .int v6, .int v7, .int v8, .ref v9])), (ad cL, .inr (12, [.ref (ad cA), .int (nI 15), .int md])), (ad cA, .inl (cT 7, 15, .inr (.inr (.inr (.inr lf)))))] ++ pg cds ad (upo gg [cL, cA])) := hD
        refine lv_aload_n hx hb dAL_add_0 rfl (lv_at hl 0 rfl) ?_
        refine lv_dup hx hb dAL_add_1 rfl ?_
        refine va_get (D := D) (ci := 12) (v := .int md) (C := R_AL) (T := T_AL) (N := 3) hx hb hT in_AL hown hK hP 1 rfl rfl 2 (by decide) (hT _ w271) (u_same (hT _ w272)) rfl dAL_add_2 ?_
        refine lv_iconst (v := 1) hx hb dAL_add_5 (by decide) ?_
        refine lv_iadd hx hb dAL_add_6 ?_
        refine va_put (D := D) (ci := 12) (v := .int (md + 1)) (ty := .int) (C := R_AL) (T := T_AL) (N := 3) hx hb hT in_AL ty_AL ty_AL_ok m_AL hown hK hP hD hS 1 rfl rfl 2 (by decide) (hT _ w271) (u_same (hT _ w272)) rfl (by decide +kernel) rfl rfl (Nat.le_of_ble_eq_true rfl) dAL_add_7 (fun H locs hP hD hS => ?_)
        have hP : va_P D vwCl ([(v, .inr (10, [.int v1, .int v2, .int v3, .int v4, .int v5, .int v6, .int v7, .int v8, .ref v9])), (ad cL, .inr (12, [.ref (ad cA), .int (nI 15), .int (md + 1)])), (ad cA, .inl (cT 7, 15, .inr (.inr (.inr (.inr lf)))))] ++ pg cds ad (upo gg [cL, cA])) _ := hP
        have hD : va_D A ([(v, .inr (10, [.int v1, .int v2, .int v3, .int v4, .int v5, .int v6, .int v7, .int v8, .ref v9])), (ad cL, .inr (12, [.ref (ad cA), .int (nI 15), .int (md + 1)])), (ad cA, .inl (cT 7, 15, .inr (.inr (.inr (.inr lf)))))] ++ pg cds ad (upo gg [cL, cA])) := hD
        refine lv_aload_n hx hb dAL_add_10 rfl (lv_at hl 0 rfl) ?_
        refine lv_aload_n hx hb dAL_add_11 rfl (lv_at hl 1 rfl) ?_
        refine lv_aload_n hx hb dAL_add_12 rfl (lv_at hl 0 rfl) ?_
        refine va_get (D := D) (ci := 12) (v := .ref (ad cA)) (C := R_AL) (T := T_AL) (N := 3) hx hb hT in_AL hown hK hP 1 rfl rfl 0 (by decide) (hT _ w268) (fun _ h9 => h9) rfl dAL_add_13 ?_
        refine lv_aload_n hx hb dAL_add_16 rfl (lv_at hl 0 rfl) ?_
        refine va_get (D := D) (ci := 12) (v := .int (nI 15)) (C := R_AL) (T := T_AL) (N := 3) hx hb hT in_AL hown hK hP 1 rfl rfl 1 (by decide) (hT _ w269) (fun _ h9 => h9) rfl dAL_add_17 ?_
        refine hy_vP (X := [(v, .inr (10, [.int v1, .int v2, .int v3, .int v4, .int v5, .int v6, .int v7, .int v8, .ref v9])), (ad cL, .inr (12, [.ref (ad cA), .int (nI 15), .int (md + 1)])), (ad cA, .inl (cT 7, 15, .inr (.inr (.inr (.inr lf)))))]) (pl := pg cds ad (upo gg [cL, cA])) (cx := [(ad cL, .inr (12, [.ref (ad cA), .int (nI 15), .int (md + 1)])), (ad cA, .inl (cT 7, 15, .inr (.inr (.inr (.inr lf))))), (v, .inr (10, [.int v1, .int v2, .int v3, .int v4, .int v5, .int v6, .int v7, .int v8, .ref v9]))]) (wr := []) hP hD hS hA [1, 2, 0] [] rfl rfl (by decide) (by decide) (va_runV (As := [.ref v, .ref (ad cA), .int (nI 15)]) (rest := []) ⟨hx, hb, hml, hown, hT⟩ (k_alAdd3N15 l D cT cds ad (upo gg [cL, cA]) tE mE (ad cL) (md + 1) (ad cA) lf bs v v1 v2 v3 v4 v5 v6 v7 v8 v9 hcd (fun k8 hk8 => (by obtain ⟨fs8, q1, q2⟩ := hel k8 (by omega); exact ⟨fs8, q1, hL5 k8 (by omega), (upo_o (na_c (by omega) (na_c (by omega) na_0))).trans q2⟩)) _) ⟨callB_of 3 hT (tb_gd w761) rfl rfl rfl (hT _ w11) (hT _ w758) hAL_add3 ⟨Nat.le_of_ble_eq_true rfl, Nat.le_of_ble_eq_true rfl⟩, (hT _ w760), (hT _ wp9)⟩ (RWE.preV (ci := 12) (q0 := 0) hE0 hZ hS (va_freeP (cx := [(ad cL, .inr (12, [.ref (ad cA), .int (nI 15), .int (md + 1)])), (ad cA, .inl (cT 7, 15, .inr (.inr (.inr (.inr lf))))), (v, .inr (10, [.int v1, .int v2, .int v3, .int v4, .int v5, .int v6, .int v7, .int v8, .ref v9]))]) hD hS hA [1, 2, 0] rfl) (hP.part (cx := [(ad cL, .inr (12, [.ref (ad cA), .int (nI 15), .int (md + 1)])), (ad cA, .inl (cT 7, 15, .inr (.inr (.inr (.inr lf))))), (v, .inr (10, [.int v1, .int v2, .int v3, .int v4, .int v5, .int v6, .int v7, .int v8, .ref v9]))]) [1, 2, 0] rfl) hK (hD.part (cx := [(ad cL, .inr (12, [.ref (ad cA), .int (nI 15), .int (md + 1)])), (ad cA, .inl (cT 7, 15, .inr (.inr (.inr (.inr lf))))), (v, .inr (10, [.int v1, .int v2, .int v3, .int v4, .int v5, .int v6, .int v7, .int v8, .ref v9]))]) [1, 2, 0] (by decide) rfl) rfl rfl) rfl rfl hl.1 rfl (lv_room (Nat.le_of_ble_eq_true rfl)) dAL_add_20 ⟨Nat.le_of_ble_eq_true rfl, Nat.le_of_ble_eq_true rfl⟩) (fun u9 H locs hpu4 hP hD hS => ?_)
        obtain ⟨nqu4, rfl⟩ : ∃ q9, q9 = u9 := ⟨_, rfl⟩
        have hpu4 : True := hpu4
        have hP : va_P D vwCl ([(ad cL, .inr (12, [.ref nqu4, .int (nI (15 + 1)), .int (md + 1)])), (nqu4, .inl (cT 7, 22, .inr (.inr (.inr (.inr (va_up (va_cpy lf (fun _ => none) 0 0 15) 15 (some v))))))), (v, .inr (10, [.int v1, .int v2, .int v3, .int v4, .int v5, .int v6, .int v7, .int v8, .ref v9]))] ++ pg cds ad (upo gg [cL, cA])) _ := hP
        have hD : va_D A ([(ad cL, .inr (12, [.ref nqu4, .int (nI (15 + 1)), .int (md + 1)])), (nqu4, .inl (cT 7, 22, .inr (.inr (.inr (.inr (va_up (va_cpy lf (fun _ => none) 0 0 15) 15 (some v))))))), (v, .inr (10, [.int v1, .int v2, .int v3, .int v4, .int v5, .int v6, .int v7, .int v8, .ref v9]))] ++ pg cds ad (upo gg [cL, cA])) := hD
        obtain ⟨ad1, had1⟩ : ∃ f9 : Nat → Nat, f9 = va_up ad cA nqu4 := ⟨_, rfl⟩
        have ead1_0 : ad1 cA = nqu4 := by rw [had1]; exact va_up_self _ _ _
        have aad1 : ∀ z8, z8 ≠ cA → ad1 z8 = ad z8 := fun z8 n0 => by rw [had1]; exact (va_up_ne _ _ n0).trans (rfl)
        have pad1 : pg cds ad1 (upo gg [cL, cA]) = pg cds ad (upo gg [cL, cA]) := by rw [had1]; exact (pg_ad (upo_i (.tail _ (.head _)))).trans (rfl)
        have hw9 : ([(ad1 cL, .inr (12, [.ref (ad1 cA), .int (nI (15 + 1)), .int (md + 1)])), (ad1 cA, .inl (cT 7, 22, .inr (.inr (.inr (.inr (va_up (va_cpy lf (fun _ => none) 0 0 15) 15 (some v))))))), (v, .inr (10, [.int v1, .int v2, .int v3, .int v4, .int v5, .int v6, .int v7, .int v8, .ref v9]))] ++ pg cds ad1 (upo gg [cL, cA])) = ([(ad cL, .inr (12, [.ref nqu4, .int (nI (15 + 1)), .int (md + 1)])), (nqu4, .inl (cT 7, 22, .inr (.inr (.inr (.inr (va_up (va_cpy lf (fun _ => none) 0 0 15) 15 (some v))))))), (v, .inr (10, [.int v1, .int v2, .int v3, .int v4, .int v5, .int v6, .int v7, .int v8, .ref v9]))] ++ pg cds ad (upo gg [cL, cA])) := by rw [pad1, aad1 cL (by omega), ead1_0]
        have hP := vP_eq hw9 hP
        have hD := vD_eq hw9 hD
        have hP : va_P D vwCl ([(ad1 cL, .inr (12, [.ref (ad1 cA), .int (nI (15 + 1)), .int (md + 1)])), (ad1 cA, .inl (cT 7, 22, .inr (.inr (.inr (.inr (va_up (va_cpy lf (fun _ => none) 0 0 15) 15 (some v))))))), (v, .inr (10, [.int v1, .int v2, .int v3, .int v4, .int v5, .int v6, .int v7, .int v8, .ref v9]))] ++ pg cds ad1 (upo gg [cL, cA])) _ := hP
        have hD : va_D A ([(ad1 cL, .inr (12, [.ref (ad1 cA), .int (nI (15 + 1)), .int (md + 1)])), (ad1 cA, .inl (cT 7, 22, .inr (.inr (.inr (.inr (va_up (va_cpy lf (fun _ => none) 0 0 15) 15 (some v))))))), (v, .inr (10, [.int v1, .int v2, .int v3, .int v4, .int v5, .int v6, .int v7, .int v8, .ref v9]))] ++ pg cds ad1 (upo gg [cL, cA])) := hD
        have hl : lv_has ls 2 [(0, .ref (ad1 cL)), (1, .ref v)] := by rw [aad1 cL (by omega)]; exact hl
        have hN9 := (show NDc [cL, cA] from (nd_c (na_c (by omega) na_0) (nd_c na_0 nd_0)))
        have hP := gb_P (w9 := [(cL, .inr (12, [.ref (ad1 cA), .int (nI (15 + 1)), .int (md + 1)])), (cA, .inl (cT 7, 22, .inr (.inr (.inr (.inr (va_up (va_cpy lf (fun _ => none) 0 0 15) 15 (some v)))))))]) (X := [(v, .inr (10, [.int v1, .int v2, .int v3, .int v4, .int v5, .int v6, .int v7, .int v8, .ref v9]))]) (g := gg) hcd hN9 (show QB [(cL, .inr (12, [.ref (ad1 cA), .int (nI (15 + 1)), .int (md + 1)])), (cA, .inl (cT 7, 22, .inr (.inr (.inr (.inr (va_up (va_cpy lf (fun _ => none) 0 0 15) 15 (some v)))))))] from (qb_c (by omega) (qb_c (by omega) qb_0))) (hP.part (cx := [(v, .inr (10, [.int v1, .int v2, .int v3, .int v4, .int v5, .int v6, .int v7, .int v8, .ref v9])), (ad1 cL, .inr (12, [.ref (ad1 cA), .int (nI (15 + 1)), .int (md + 1)])), (ad1 cA, .inl (cT 7, 22, .inr (.inr (.inr (.inr (va_up (va_cpy lf (fun _ => none) 0 0 15) 15 (some v)))))))]) [2, 0, 1] rfl)
        have hD := gb_D (w9 := [(cL, .inr (12, [.ref (ad1 cA), .int (nI (15 + 1)), .int (md + 1)])), (cA, .inl (cT 7, 22, .inr (.inr (.inr (.inr (va_up (va_cpy lf (fun _ => none) 0 0 15) 15 (some v)))))))]) (X := [(v, .inr (10, [.int v1, .int v2, .int v3, .int v4, .int v5, .int v6, .int v7, .int v8, .ref v9]))]) (g := gg) hcd hN9 (show QB [(cL, .inr (12, [.ref (ad1 cA), .int (nI (15 + 1)), .int (md + 1)])), (cA, .inl (cT 7, 22, .inr (.inr (.inr (.inr (va_up (va_cpy lf (fun _ => none) 0 0 15) 15 (some v)))))))] from (qb_c (by omega) (qb_c (by omega) qb_0))) (hD.part (cx := [(v, .inr (10, [.int v1, .int v2, .int v3, .int v4, .int v5, .int v6, .int v7, .int v8, .ref v9])), (ad1 cL, .inr (12, [.ref (ad1 cA), .int (nI (15 + 1)), .int (md + 1)])), (ad1 cA, .inl (cT 7, 22, .inr (.inr (.inr (.inr (va_up (va_cpy lf (fun _ => none) 0 0 15) 15 (some v)))))))]) [2, 0, 1] (by decide) rfl)
        obtain ⟨g1, hg1⟩ : ∃ q9, q9 = ups gg [(cL, .inr (12, [.ref (ad1 cA), .int (nI (15 + 1)), .int (md + 1)])), (cA, .inl (cT 7, 22, .inr (.inr (.inr (.inr (va_up (va_cpy lf (fun _ => none) 0 0 15) 15 (some v)))))))] := ⟨_, rfl⟩
        rw [← hg1] at hP hD
        have hP : va_P D vwCl ([(v, .inr (10, [.int v1, .int v2, .int v3, .int v4, .int v5, .int v6, .int v7, .int v8, .ref v9]))] ++ pg cds ad1 g1) _ := hP
        have hD : va_D A ([(v, .inr (10, [.int v1, .int v2, .int v3, .int v4, .int v5, .int v6, .int v7, .int v8, .ref v9]))] ++ pg cds ad1 g1) := hD
        have fg1 : ∀ z8, z8 ≠ cL → z8 ≠ cA → g1 z8 = gg z8 := fun z8 z1 z2 => by rw [hg1]; exact ups_k (kp_n z1 (kp_n z2 kp_0))
        have g1_0 : g1 cL = some (.inr (12, [.ref (ad1 cA), .int (nI (15 + 1)), .int (md + 1)])) := by rw [hg1]; exact ups_1
        have g1_1 : g1 cA = some (.inl (cT 7, 22, .inr (.inr (.inr (.inr (va_up (va_cpy lf (fun _ => none) 0 0 15) 15 (some v))))))) := by rw [hg1]; exact ups_2 (by omega)
        refine lv_iconst (v := 1) hx hb dAL_add_23 (by decide) ?_
        have hP9 : va_P D vwCl ([(v, .inr (10, [.int v1, .int v2, .int v3, .int v4, .int v5, .int v6, .int v7, .int v8, .ref v9]))] ++ pg cds ad1 g1) _ := hP.part (cx := [(v, .inr (10, [.int v1, .int v2, .int v3, .int v4, .int v5, .int v6, .int v7, .int v8, .ref v9]))]) [0] rfl
        have hD9 : va_D A ([(v, .inr (10, [.int v1, .int v2, .int v3, .int v4, .int v5, .int v6, .int v7, .int v8, .ref v9]))] ++ pg cds ad1 g1) := hD.part (cx := [(v, .inr (10, [.int v1, .int v2, .int v3, .int v4, .int v5, .int v6, .int v7, .int v8, .ref v9]))]) [0] (by decide) rfl
        refine W.widen (k := 1) (n := 33) (Nat.le_of_ble_eq_true rfl) (Nat.le_of_ble_eq_true rfl) ?_
        exact W.zret (v := 1) hx hb hr rfl (fun t9 ht9 hW9 => ⟨⟨1, (ad1, g1), rfl, (show 1 = 1 ∧ (∀ z8, z8 ≠ cL → z8 ≠ cA → g1 z8 = gg z8) ∧ (∀ z8, z8 ≠ cA → ad1 z8 = ad z8) ∧ LQv cT ad ad1 g1 cL cA bs mq v from ⟨rfl, (fun z8 n1 n2 => fg1 z8 n1 n2), aad1, ⟨22, md + 1, va_up (va_cpy lf (fun _ => none) 0 0 15) 15 (some v), by rw [hmc]; exact g1_0, g1_1, by omega, by unfold CAPo; omega, fun k hk => (va_up_ne _ _ (by omega)).trans ((cpq_lt (by omega)).trans (hL5 k hk)), by rw [hmc]; exact va_up_self _ _ _⟩⟩), by rw [ht9]; exact hP9, hD9⟩, hS.F ht9⟩) hS.2.2 dAL_add_24
      · have hmc : mq = 22 := by omega
        rw [hmc] at hL1
        have hB9 : QI gg [(cL, .inr (12, [.ref (ad cA), .int (nI 22), .int md])), (cA, .inl (cT 7, 22, .inr (.inr (.inr (.inr lf)))))] := (qi_c (by omega) hL1 (qi_c (by omega) hL2 qi_0))
        have hN9 := (show NDc [cL, cA] from (nd_c (na_c (by omega) na_0) (nd_c na_0 nd_0)))
        have hP := bo_P (wc := [(cL, .inr (12, [.ref (ad cA), .int (nI 22), .int md])), (cA, .inl (cT 7, 22, .inr (.inr (.inr (.inr lf)))))]) (X := [(v, .inr (10, [.int v1, .int v2, .int v3, .int v4, .int v5, .int v6, .int v7, .int v8, .ref v9]))]) hcd hN9 hB9 hP
        have hD := bo_D (wc := [(cL, .inr (12, [.ref (ad cA), .int (nI 22), .int md])), (cA, .inl (cT 7, 22, .inr (.inr (.inr (.inr lf)))))]) (X := [(v, .inr (10, [.int v1, .int v2, .int v3, .int v4, .int v5, .int v6, .int v7, .int v8, .ref v9]))]) hcd hN9 hB9 hD
        have hP : va_P D vwCl ([(v, .inr (10, [.int v1, .int v2, .int v3, .int v4, .int v5, .int v6, .int v7, .int v8, .ref v9])), (ad cL, .inr (12, [.ref (ad cA), .int (nI 22), .int md])), (ad cA, .inl (cT 7, 22, .inr (.inr (.inr (.inr lf)))))] ++ pg cds ad (upo gg [cL, cA])) _ := hP
        have hD : va_D A ([(v, .inr (10, [.int v1, .int v2, .int v3, .int v4, .int v5, .int v6, .int v7, .int v8, .ref v9])), (ad cL, .inr (12, [.ref (ad cA), .int (nI 22), .int md])), (ad cA, .inl (cT 7, 22, .inr (.inr (.inr (.inr lf)))))] ++ pg cds ad (upo gg [cL, cA])) := hD
        refine lv_aload_n hx hb dAL_add_0 rfl (lv_at hl 0 rfl) ?_
        refine lv_dup hx hb dAL_add_1 rfl ?_
        refine va_get (D := D) (ci := 12) (v := .int md) (C := R_AL) (T := T_AL) (N := 3) hx hb hT in_AL hown hK hP 1 rfl rfl 2 (by decide) (hT _ w271) (u_same (hT _ w272)) rfl dAL_add_2 ?_
        refine lv_iconst (v := 1) hx hb dAL_add_5 (by decide) ?_
        refine lv_iadd hx hb dAL_add_6 ?_
        refine va_put (D := D) (ci := 12) (v := .int (md + 1)) (ty := .int) (C := R_AL) (T := T_AL) (N := 3) hx hb hT in_AL ty_AL ty_AL_ok m_AL hown hK hP hD hS 1 rfl rfl 2 (by decide) (hT _ w271) (u_same (hT _ w272)) rfl (by decide +kernel) rfl rfl (Nat.le_of_ble_eq_true rfl) dAL_add_7 (fun H locs hP hD hS => ?_)
        have hP : va_P D vwCl ([(v, .inr (10, [.int v1, .int v2, .int v3, .int v4, .int v5, .int v6, .int v7, .int v8, .ref v9])), (ad cL, .inr (12, [.ref (ad cA), .int (nI 22), .int (md + 1)])), (ad cA, .inl (cT 7, 22, .inr (.inr (.inr (.inr lf)))))] ++ pg cds ad (upo gg [cL, cA])) _ := hP
        have hD : va_D A ([(v, .inr (10, [.int v1, .int v2, .int v3, .int v4, .int v5, .int v6, .int v7, .int v8, .ref v9])), (ad cL, .inr (12, [.ref (ad cA), .int (nI 22), .int (md + 1)])), (ad cA, .inl (cT 7, 22, .inr (.inr (.inr (.inr lf)))))] ++ pg cds ad (upo gg [cL, cA])) := hD
        refine lv_aload_n hx hb dAL_add_10 rfl (lv_at hl 0 rfl) ?_
        refine lv_aload_n hx hb dAL_add_11 rfl (lv_at hl 1 rfl) ?_
        refine lv_aload_n hx hb dAL_add_12 rfl (lv_at hl 0 rfl) ?_
        refine va_get (D := D) (ci := 12) (v := .ref (ad cA)) (C := R_AL) (T := T_AL) (N := 3) hx hb hT in_AL hown hK hP 1 rfl rfl 0 (by decide) (hT _ w268) (fun _ h9 => h9) rfl dAL_add_13 ?_
        refine lv_aload_n hx hb dAL_add_16 rfl (lv_at hl 0 rfl) ?_
        refine va_get (D := D) (ci := 12) (v := .int (nI 22)) (C := R_AL) (T := T_AL) (N := 3) hx hb hT in_AL hown hK hP 1 rfl rfl 1 (by decide) (hT _ w269) (fun _ h9 => h9) rfl dAL_add_17 ?_
        refine hy_vP (X := [(v, .inr (10, [.int v1, .int v2, .int v3, .int v4, .int v5, .int v6, .int v7, .int v8, .ref v9])), (ad cL, .inr (12, [.ref (ad cA), .int (nI 22), .int (md + 1)])), (ad cA, .inl (cT 7, 22, .inr (.inr (.inr (.inr lf)))))]) (pl := pg cds ad (upo gg [cL, cA])) (cx := [(ad cL, .inr (12, [.ref (ad cA), .int (nI 22), .int (md + 1)])), (ad cA, .inl (cT 7, 22, .inr (.inr (.inr (.inr lf))))), (v, .inr (10, [.int v1, .int v2, .int v3, .int v4, .int v5, .int v6, .int v7, .int v8, .ref v9]))]) (wr := []) hP hD hS hA [1, 2, 0] [] rfl rfl (by decide) (by decide) (va_runV (As := [.ref v, .ref (ad cA), .int (nI 22)]) (rest := []) ⟨hx, hb, hml, hown, hT⟩ (k_alAdd3N22 l D cT cds ad (upo gg [cL, cA]) tE mE (ad cL) (md + 1) (ad cA) lf bs v v1 v2 v3 v4 v5 v6 v7 v8 v9 hcd (fun k8 hk8 => (by obtain ⟨fs8, q1, q2⟩ := hel k8 (by omega); exact ⟨fs8, q1, hL5 k8 (by omega), (upo_o (na_c (by omega) (na_c (by omega) na_0))).trans q2⟩)) _) ⟨callB_of 3 hT (tb_gd w761) rfl rfl rfl (hT _ w11) (hT _ w758) hAL_add3 ⟨Nat.le_of_ble_eq_true rfl, Nat.le_of_ble_eq_true rfl⟩, (hT _ w760), (hT _ wp9)⟩ (RWE.preV (ci := 12) (q0 := 0) hE0 hZ hS (va_freeP (cx := [(ad cL, .inr (12, [.ref (ad cA), .int (nI 22), .int (md + 1)])), (ad cA, .inl (cT 7, 22, .inr (.inr (.inr (.inr lf))))), (v, .inr (10, [.int v1, .int v2, .int v3, .int v4, .int v5, .int v6, .int v7, .int v8, .ref v9]))]) hD hS hA [1, 2, 0] rfl) (hP.part (cx := [(ad cL, .inr (12, [.ref (ad cA), .int (nI 22), .int (md + 1)])), (ad cA, .inl (cT 7, 22, .inr (.inr (.inr (.inr lf))))), (v, .inr (10, [.int v1, .int v2, .int v3, .int v4, .int v5, .int v6, .int v7, .int v8, .ref v9]))]) [1, 2, 0] rfl) hK (hD.part (cx := [(ad cL, .inr (12, [.ref (ad cA), .int (nI 22), .int (md + 1)])), (ad cA, .inl (cT 7, 22, .inr (.inr (.inr (.inr lf))))), (v, .inr (10, [.int v1, .int v2, .int v3, .int v4, .int v5, .int v6, .int v7, .int v8, .ref v9]))]) [1, 2, 0] (by decide) rfl) rfl rfl) rfl rfl hl.1 rfl (lv_room (Nat.le_of_ble_eq_true rfl)) dAL_add_20 ⟨Nat.le_of_ble_eq_true rfl, Nat.le_of_ble_eq_true rfl⟩) (fun u9 H locs hpu5 hP hD hS => ?_)
        obtain ⟨nqu5, rfl⟩ : ∃ q9, q9 = u9 := ⟨_, rfl⟩
        have hpu5 : True := hpu5
        have hP : va_P D vwCl ([(ad cL, .inr (12, [.ref nqu5, .int (nI (22 + 1)), .int (md + 1)])), (nqu5, .inl (cT 7, 33, .inr (.inr (.inr (.inr (va_up (va_cpy lf (fun _ => none) 0 0 22) 22 (some v))))))), (v, .inr (10, [.int v1, .int v2, .int v3, .int v4, .int v5, .int v6, .int v7, .int v8, .ref v9]))] ++ pg cds ad (upo gg [cL, cA])) _ := hP
        have hD : va_D A ([(ad cL, .inr (12, [.ref nqu5, .int (nI (22 + 1)), .int (md + 1)])), (nqu5, .inl (cT 7, 33, .inr (.inr (.inr (.inr (va_up (va_cpy lf (fun _ => none) 0 0 22) 22 (some v))))))), (v, .inr (10, [.int v1, .int v2, .int v3, .int v4, .int v5, .int v6, .int v7, .int v8, .ref v9]))] ++ pg cds ad (upo gg [cL, cA])) := hD
        obtain ⟨ad1, had1⟩ : ∃ f9 : Nat → Nat, f9 = va_up ad cA nqu5 := ⟨_, rfl⟩
        have ead1_0 : ad1 cA = nqu5 := by rw [had1]; exact va_up_self _ _ _
        have aad1 : ∀ z8, z8 ≠ cA → ad1 z8 = ad z8 := fun z8 n0 => by rw [had1]; exact (va_up_ne _ _ n0).trans (rfl)
        have pad1 : pg cds ad1 (upo gg [cL, cA]) = pg cds ad (upo gg [cL, cA]) := by rw [had1]; exact (pg_ad (upo_i (.tail _ (.head _)))).trans (rfl)
        have hw9 : ([(ad1 cL, .inr (12, [.ref (ad1 cA), .int (nI (22 + 1)), .int (md + 1)])), (ad1 cA, .inl (cT 7, 33, .inr (.inr (.inr (.inr (va_up (va_cpy lf (fun _ => none) 0 0 22) 22 (some v))))))), (v, .inr (10, [.int v1, .int v2, .int v3, .int v4, .int v5, .int v6, .int v7, .int v8, .ref v9]))] ++ pg cds ad1 (upo gg [cL, cA])) = ([(ad cL, .inr (12, [.ref nqu5, .int (nI (22 + 1)), .int (md + 1)])), (nqu5, .inl (cT 7, 33, .inr (.inr (.inr (.inr (va_up (va_cpy lf (fun _ => none) 0 0 22) 22 (some v))))))), (v, .inr (10, [.int v1, .int v2, .int v3, .int v4, .int v5, .int v6, .int v7, .int v8, .ref v9]))] ++ pg cds ad (upo gg [cL, cA])) := by rw [pad1, aad1 cL (by omega), ead1_0]
        have hP := vP_eq hw9 hP
        have hD := vD_eq hw9 hD
        have hP : va_P D vwCl ([(ad1 cL, .inr (12, [.ref (ad1 cA), .int (nI (22 + 1)), .int (md + 1)])), (ad1 cA, .inl (cT 7, 33, .inr (.inr (.inr (.inr (va_up (va_cpy lf (fun _ => none) 0 0 22) 22 (some v))))))), (v, .inr (10, [.int v1, .int v2, .int v3, .int v4, .int v5, .int v6, .int v7, .int v8, .ref v9]))] ++ pg cds ad1 (upo gg [cL, cA])) _ := hP
        have hD : va_D A ([(ad1 cL, .inr (12, [.ref (ad1 cA), .int (nI (22 + 1)), .int (md + 1)])), (ad1 cA, .inl (cT 7, 33, .inr (.inr (.inr (.inr (va_up (va_cpy lf (fun _ => none) 0 0 22) 22 (some v))))))), (v, .inr (10, [.int v1, .int v2, .int v3, .int v4, .int v5, .int v6, .int v7, .int v8, .ref v9]))] ++ pg cds ad1 (upo gg [cL, cA])) := hD
        have hl : lv_has ls 2 [(0, .ref (ad1 cL)), (1, .ref v)] := by rw [aad1 cL (by omega)]; exact hl
        have hN9 := (show NDc [cL, cA] from (nd_c (na_c (by omega) na_0) (nd_c na_0 nd_0)))
        have hP := gb_P (w9 := [(cL, .inr (12, [.ref (ad1 cA), .int (nI (22 + 1)), .int (md + 1)])), (cA, .inl (cT 7, 33, .inr (.inr (.inr (.inr (va_up (va_cpy lf (fun _ => none) 0 0 22) 22 (some v)))))))]) (X := [(v, .inr (10, [.int v1, .int v2, .int v3, .int v4, .int v5, .int v6, .int v7, .int v8, .ref v9]))]) (g := gg) hcd hN9 (show QB [(cL, .inr (12, [.ref (ad1 cA), .int (nI (22 + 1)), .int (md + 1)])), (cA, .inl (cT 7, 33, .inr (.inr (.inr (.inr (va_up (va_cpy lf (fun _ => none) 0 0 22) 22 (some v)))))))] from (qb_c (by omega) (qb_c (by omega) qb_0))) (hP.part (cx := [(v, .inr (10, [.int v1, .int v2, .int v3, .int v4, .int v5, .int v6, .int v7, .int v8, .ref v9])), (ad1 cL, .inr (12, [.ref (ad1 cA), .int (nI (22 + 1)), .int (md + 1)])), (ad1 cA, .inl (cT 7, 33, .inr (.inr (.inr (.inr (va_up (va_cpy lf (fun _ => none) 0 0 22) 22 (some v)))))))]) [2, 0, 1] rfl)
        have hD := gb_D (w9 := [(cL, .inr (12, [.ref (ad1 cA), .int (nI (22 + 1)), .int (md + 1)])), (cA, .inl (cT 7, 33, .inr (.inr (.inr (.inr (va_up (va_cpy lf (fun _ => none) 0 0 22) 22 (some v)))))))]) (X := [(v, .inr (10, [.int v1, .int v2, .int v3, .int v4, .int v5, .int v6, .int v7, .int v8, .ref v9]))]) (g := gg) hcd hN9 (show QB [(cL, .inr (12, [.ref (ad1 cA), .int (nI (22 + 1)), .int (md + 1)])), (cA, .inl (cT 7, 33, .inr (.inr (.inr (.inr (va_up (va_cpy lf (fun _ => none) 0 0 22) 22 (some v)))))))] from (qb_c (by omega) (qb_c (by omega) qb_0))) (hD.part (cx := [(v, .inr (10, [.int v1, .int v2, .int v3, .int v4, .int v5, .int v6, .int v7, .int v8, .ref v9])), (ad1 cL, .inr (12, [.ref (ad1 cA), .int (nI (22 + 1)), .int (md + 1)])), (ad1 cA, .inl (cT 7, 33, .inr (.inr (.inr (.inr (va_up (va_cpy lf (fun _ => none) 0 0 22) 22 (some v)))))))]) [2, 0, 1] (by decide) rfl)
        obtain ⟨g1, hg1⟩ : ∃ q9, q9 = ups gg [(cL, .inr (12, [.ref (ad1 cA), .int (nI (22 + 1)), .int (md + 1)])), (cA, .inl (cT 7, 33, .inr (.inr (.inr (.inr (va_up (va_cpy lf (fun _ => none) 0 0 22) 22 (some v)))))))] := ⟨_, rfl⟩
        rw [← hg1] at hP hD
        have hP : va_P D vwCl ([(v, .inr (10, [.int v1, .int v2, .int v3, .int v4, .int v5, .int v6, .int v7, .int v8, .ref v9]))] ++ pg cds ad1 g1) _ := hP
        have hD : va_D A ([(v, .inr (10, [.int v1, .int v2, .int v3, .int v4, .int v5, .int v6, .int v7, .int v8, .ref v9]))] ++ pg cds ad1 g1) := hD
        have fg1 : ∀ z8, z8 ≠ cL → z8 ≠ cA → g1 z8 = gg z8 := fun z8 z1 z2 => by rw [hg1]; exact ups_k (kp_n z1 (kp_n z2 kp_0))
        have g1_0 : g1 cL = some (.inr (12, [.ref (ad1 cA), .int (nI (22 + 1)), .int (md + 1)])) := by rw [hg1]; exact ups_1
        have g1_1 : g1 cA = some (.inl (cT 7, 33, .inr (.inr (.inr (.inr (va_up (va_cpy lf (fun _ => none) 0 0 22) 22 (some v))))))) := by rw [hg1]; exact ups_2 (by omega)
        refine lv_iconst (v := 1) hx hb dAL_add_23 (by decide) ?_
        have hP9 : va_P D vwCl ([(v, .inr (10, [.int v1, .int v2, .int v3, .int v4, .int v5, .int v6, .int v7, .int v8, .ref v9]))] ++ pg cds ad1 g1) _ := hP.part (cx := [(v, .inr (10, [.int v1, .int v2, .int v3, .int v4, .int v5, .int v6, .int v7, .int v8, .ref v9]))]) [0] rfl
        have hD9 : va_D A ([(v, .inr (10, [.int v1, .int v2, .int v3, .int v4, .int v5, .int v6, .int v7, .int v8, .ref v9]))] ++ pg cds ad1 g1) := hD.part (cx := [(v, .inr (10, [.int v1, .int v2, .int v3, .int v4, .int v5, .int v6, .int v7, .int v8, .ref v9]))]) [0] (by decide) rfl
        refine W.widen (k := 1) (n := 33) (Nat.le_of_ble_eq_true rfl) (Nat.le_of_ble_eq_true rfl) ?_
        exact W.zret (v := 1) hx hb hr rfl (fun t9 ht9 hW9 => ⟨⟨1, (ad1, g1), rfl, (show 1 = 1 ∧ (∀ z8, z8 ≠ cL → z8 ≠ cA → g1 z8 = gg z8) ∧ (∀ z8, z8 ≠ cA → ad1 z8 = ad z8) ∧ LQv cT ad ad1 g1 cL cA bs mq v from ⟨rfl, (fun z8 n1 n2 => fg1 z8 n1 n2), aad1, ⟨33, md + 1, va_up (va_cpy lf (fun _ => none) 0 0 22) 22 (some v), by rw [hmc]; exact g1_0, g1_1, by omega, by unfold CAPo; omega, fun k hk => (va_up_ne _ _ (by omega)).trans ((cpq_lt (by omega)).trans (hL5 k hk)), by rw [hmc]; exact va_up_self _ _ _⟩⟩), by rw [ht9]; exact hP9, hD9⟩, hS.F ht9⟩) hS.2.2 dAL_add_24
      · exact absurd hrm (by omega)
set_option maxHeartbeats 4000000 in
set_option maxRecDepth 100000 in
theorem k_alAddPT (l : Launch) (D : va_G) (cT : Nat → ClassId) (cds : List Nat) (ad : Nat → Nat) (gg : Nat → Option va_E) (tE : Nat) (mE : Nat) (cL : Nat) (cA : Nat) (bs : Nat) (mq : Nat) (v : Nat) (v1 : Nat) (v2 : Int32) (v3 : Int32) (v4 : Int32) (v5 : Int32) (v6 : Int64) (hcd : CD cds) (hcs : cL < 8192 ∧ cA < 8192 ∧ cL ≠ cA ∧ (cL < bs ∨ bs + mq ≤ cL) ∧ (cA < bs ∨ bs + mq ≤ cA)) (hmx : mq < 16) (hLQ : LQ cT ad gg tE cL cA bs mq) (hel : ∀ k8, k8 < mq → ∃ fs8 : List Value, bs + k8 < 8192 ∧ gg (bs + k8) = some (.inr (9, fs8))) (sz : Nat) : Met l yAL_add WAL_add ({ frames := 6, cells := 1, slots := 33, locals := 150 } : Room) (RWE tE mE D vwCl [.ref (ad cL), .ref v] ([(v, .inr (9, [.ref v1, .int v2, .int v3, .int v4, .int v5, .long v6]))] ++ pg cds ad gg) (TY cT) sz) (va_Qi (fun (r9 : Int32) (u9 : (Nat → Nat) × (Nat → Option va_E)) => r9 = 1 ∧ (∀ z8, z8 ≠ cL → z8 ≠ cA → u9.2 z8 = gg z8) ∧ (∀ z8, z8 ≠ cA → u9.1 z8 = ad z8) ∧ LQv cT ad u9.1 u9.2 cL cA bs mq v) (BW D vwCl (va_A ([(v, .inr (9, [.ref v1, .int v2, .int v3, .int v4, .int v5, .long v6]))] ++ pg cds ad gg) sz) (fun u9 : (Nat → Nat) × (Nat → Option va_E) => ([(v, .inr (9, [.ref v1, .int v2, .int v3, .int v4, .int v5, .long v6]))] ++ pg cds u9.1 u9.2))) (va_A ([(v, .inr (9, [.ref v1, .int v2, .int v3, .int v4, .int v5, .long v6]))] ++ pg cds ad gg) sz)) 1 33 (va_A ([(v, .inr (9, [.ref v1, .int v2, .int v3, .int v4, .int v5, .long v6]))] ++ pg cds ad gg) sz) := by
  refine Met.ofW (cc := cAL_add) (maxL := 2) (ret := (some .boolean)) (by decide) rfl ?_
  intro p e s m args below meth c s₁ B hml hv
  obtain ⟨rfl, ⟨hsz, hZ, hP, hK, hD0⟩, hE0⟩ := hv
  have hx := B.exec
  have hb := B.bytes
  have hr := B.returns
  have hts := atoms_spec (ws := WAL_add) B.pre
  have hT : ∀ w ∈ TB, w.before _ s = true := fun w h => hts w (List.mem_cons_of_mem _ h)
  have hown : s.vm.findClass R_AL = some m.cls := findClass_of_methodNamed B.named
  have hlocks := B.notSynchronized
  subst hsz
  have hD := hD0.self (sz := s.heap.size)
  generalize hAe : va_A ([(v, .inr (9, [.ref v1, .int v2, .int v3, .int v4, .int v5, .long v6]))] ++ pg cds ad gg) s.heap.size = A at hD hZ hE0 ⊢
  have hA : ∀ q : Nat, s.heap.size ≤ q → A q := fun q h => by rw [← hAe]; exact Or.inr h
  have hS : va_S A s.heap s.heap [] := va_S.rf
  have hl := lv_entry ([.ref (ad cL), .ref v]) (n := 2) (Nat.le_of_ble_eq_true rfl)
  rw [lg_entry_eq]
  generalize (lg_sl ([.ref (ad cL), .ref v]) ++ List.replicate (2 - (lg_sl ([.ref (ad cL), .ref v])).length) Slot.unset).toArray = ls at hl ⊢
  have hl : lv_has ls 2 [(0, .ref (ad cL)), (1, .ref v)] := hl
  rcases hLQ with ⟨hm0, ⟨md, hL1⟩, hL2⟩ | ⟨cap, md, lf, hL1, hL2, hL3, hL4, hL5⟩
  · have hB9 : QI gg [(cL, .inr (12, [.ref tE, .int (nI 0), .int md]))] := (qi_c (by omega) hL1 qi_0)
    have hN9 := (show NDc [cL] from (nd_c na_0 nd_0))
    have hP := bo_P (wc := [(cL, .inr (12, [.ref tE, .int (nI 0), .int md]))]) (X := [(v, .inr (9, [.ref v1, .int v2, .int v3, .int v4, .int v5, .long v6]))]) hcd hN9 hB9 hP
    have hD := bo_D (wc := [(cL, .inr (12, [.ref tE, .int (nI 0), .int md]))]) (X := [(v, .inr (9, [.ref v1, .int v2, .int v3, .int v4, .int v5, .long v6]))]) hcd hN9 hB9 hD
    have hP : va_P D vwCl ([(v, .inr (9, [.ref v1, .int v2, .int v3, .int v4, .int v5, .long v6])), (ad cL, .inr (12, [.ref tE, .int (nI 0), .int md]))] ++ pg cds ad (upo gg [cL])) _ := hP
    have hD : va_D A ([(v, .inr (9, [.ref v1, .int v2, .int v3, .int v4, .int v5, .long v6])), (ad cL, .inr (12, [.ref tE, .int (nI 0), .int md]))] ++ pg cds ad (upo gg [cL])) := hD
    refine lv_aload_n hx hb dAL_add_0 rfl (lv_at hl 0 rfl) ?_
    refine lv_dup hx hb dAL_add_1 rfl ?_
    refine va_get (D := D) (ci := 12) (v := .int md) (C := R_AL) (T := T_AL) (N := 3) hx hb hT in_AL hown hK hP 1 rfl rfl 2 (by decide) (hT _ w271) (u_same (hT _ w272)) rfl dAL_add_2 ?_
    refine lv_iconst (v := 1) hx hb dAL_add_5 (by decide) ?_
    refine lv_iadd hx hb dAL_add_6 ?_
    refine va_put (D := D) (ci := 12) (v := .int (md + 1)) (ty := .int) (C := R_AL) (T := T_AL) (N := 3) hx hb hT in_AL ty_AL ty_AL_ok m_AL hown hK hP hD hS 1 rfl rfl 2 (by decide) (hT _ w271) (u_same (hT _ w272)) rfl (by decide +kernel) rfl rfl (Nat.le_of_ble_eq_true rfl) dAL_add_7 (fun H locs hP hD hS => ?_)
    have hP : va_P D vwCl ([(v, .inr (9, [.ref v1, .int v2, .int v3, .int v4, .int v5, .long v6])), (ad cL, .inr (12, [.ref tE, .int (nI 0), .int (md + 1)]))] ++ pg cds ad (upo gg [cL])) _ := hP
    have hD : va_D A ([(v, .inr (9, [.ref v1, .int v2, .int v3, .int v4, .int v5, .long v6])), (ad cL, .inr (12, [.ref tE, .int (nI 0), .int (md + 1)]))] ++ pg cds ad (upo gg [cL])) := hD
    refine lv_aload_n hx hb dAL_add_10 rfl (lv_at hl 0 rfl) ?_
    refine lv_aload_n hx hb dAL_add_11 rfl (lv_at hl 1 rfl) ?_
    refine lv_aload_n hx hb dAL_add_12 rfl (lv_at hl 0 rfl) ?_
    refine va_get (D := D) (ci := 12) (v := .ref tE) (C := R_AL) (T := T_AL) (N := 3) hx hb hT in_AL hown hK hP 1 rfl rfl 0 (by decide) (hT _ w268) (fun _ h9 => h9) rfl dAL_add_13 ?_
    refine lv_aload_n hx hb dAL_add_16 rfl (lv_at hl 0 rfl) ?_
    refine va_get (D := D) (ci := 12) (v := .int (nI 0)) (C := R_AL) (T := T_AL) (N := 3) hx hb hT in_AL hown hK hP 1 rfl rfl 1 (by decide) (hT _ w269) (fun _ h9 => h9) rfl dAL_add_17 ?_
    refine hy_vQ (X := [(v, .inr (9, [.ref v1, .int v2, .int v3, .int v4, .int v5, .long v6])), (ad cL, .inr (12, [.ref tE, .int (nI 0), .int (md + 1)]))]) (pl := pg cds ad (upo gg [cL])) (cx := [(ad cL, .inr (12, [.ref tE, .int (nI 0), .int (md + 1)])), (v, .inr (9, [.ref v1, .int v2, .int v3, .int v4, .int v5, .long v6]))]) (wr := []) hP hD hS hA [1, 0] [] rfl rfl (by decide) (by decide) (va_runV (As := [.ref v, .ref tE, .int (nI 0)]) (rest := []) ⟨hx, hb, hml, hown, hT⟩ (k_alAdd3T0 l D cT tE mE (ad cL) (md + 1) v v1 v2 v3 v4 v5 v6 _) ⟨callB_of 3 hT (tb_gd w761) rfl rfl rfl (hT _ w11) (hT _ w758) hAL_add3 ⟨Nat.le_of_ble_eq_true rfl, Nat.le_of_ble_eq_true rfl⟩, (hT _ w760), (hT _ wp9)⟩ (RWE.preV (ci := 12) (q0 := 0) hE0 hZ hS (hy_free (cx := [(ad cL, .inr (12, [.ref tE, .int (nI 0), .int (md + 1)])), (v, .inr (9, [.ref v1, .int v2, .int v3, .int v4, .int v5, .long v6]))]) hD hS hA [1, 0] rfl) (hP.sub (ws' := [(ad cL, .inr (12, [.ref tE, .int (nI 0), .int (md + 1)])), (v, .inr (9, [.ref v1, .int v2, .int v3, .int v4, .int v5, .long v6]))]) [1, 0] rfl) hK (hD.sub (ws' := [(ad cL, .inr (12, [.ref tE, .int (nI 0), .int (md + 1)])), (v, .inr (9, [.ref v1, .int v2, .int v3, .int v4, .int v5, .long v6]))]) [1, 0] (by decide) rfl) rfl rfl) rfl rfl hl.1 rfl (lv_room (Nat.le_of_ble_eq_true rfl)) dAL_add_20 ⟨Nat.le_of_ble_eq_true rfl, Nat.le_of_ble_eq_true rfl⟩) (fun u9 H locs hpu1 hP hD hS => ?_)
    obtain ⟨nqu1, rfl⟩ : ∃ q9, q9 = u9 := ⟨_, rfl⟩
    have hpu1 : True := hpu1
    have hP : va_P D vwCl ([(ad cL, .inr (12, [.ref nqu1, .int (nI (0 + 1)), .int (md + 1)])), (nqu1, .inl (cT 7, 10, .inr (.inr (.inr (.inr (va_up (fun _ => none) 0 (some v))))))), (v, .inr (9, [.ref v1, .int v2, .int v3, .int v4, .int v5, .long v6]))] ++ pg cds ad (upo gg [cL])) _ := hP
    have hD : va_D A ([(ad cL, .inr (12, [.ref nqu1, .int (nI (0 + 1)), .int (md + 1)])), (nqu1, .inl (cT 7, 10, .inr (.inr (.inr (.inr (va_up (fun _ => none) 0 (some v))))))), (v, .inr (9, [.ref v1, .int v2, .int v3, .int v4, .int v5, .long v6]))] ++ pg cds ad (upo gg [cL])) := hD
    obtain ⟨ad1, had1⟩ : ∃ f9 : Nat → Nat, f9 = va_up ad cA nqu1 := ⟨_, rfl⟩
    have ead1_0 : ad1 cA = nqu1 := by rw [had1]; exact va_up_self _ _ _
    have aad1 : ∀ z8, z8 ≠ cA → ad1 z8 = ad z8 := fun z8 n0 => by rw [had1]; exact (va_up_ne _ _ n0).trans (rfl)
    have pad1 : pg cds ad1 (upo gg [cL]) = pg cds ad (upo gg [cL]) := by rw [had1]; exact (pg_ad ((upo_o (na_c (by omega) na_0)).trans hL2)).trans (rfl)
    have hw9 : ([(ad1 cL, .inr (12, [.ref (ad1 cA), .int (nI (0 + 1)), .int (md + 1)])), (ad1 cA, .inl (cT 7, 10, .inr (.inr (.inr (.inr (va_up (fun _ => none) 0 (some v))))))), (v, .inr (9, [.ref v1, .int v2, .int v3, .int v4, .int v5, .long v6]))] ++ pg cds ad1 (upo gg [cL])) = ([(ad cL, .inr (12, [.ref nqu1, .int (nI (0 + 1)), .int (md + 1)])), (nqu1, .inl (cT 7, 10, .inr (.inr (.inr (.inr (va_up (fun _ => none) 0 (some v))))))), (v, .inr (9, [.ref v1, .int v2, .int v3, .int v4, .int v5, .long v6]))] ++ pg cds ad (upo gg [cL])) := by rw [pad1, aad1 cL (by omega), ead1_0]
    have hP := vP_eq hw9 hP
    have hD := vD_eq hw9 hD
    have hP : va_P D vwCl ([(ad1 cL, .inr (12, [.ref (ad1 cA), .int (nI (0 + 1)), .int (md + 1)])), (ad1 cA, .inl (cT 7, 10, .inr (.inr (.inr (.inr (va_up (fun _ => none) 0 (some v))))))), (v, .inr (9, [.ref v1, .int v2, .int v3, .int v4, .int v5, .long v6]))] ++ pg cds ad1 (upo gg [cL])) _ := hP
    have hD : va_D A ([(ad1 cL, .inr (12, [.ref (ad1 cA), .int (nI (0 + 1)), .int (md + 1)])), (ad1 cA, .inl (cT 7, 10, .inr (.inr (.inr (.inr (va_up (fun _ => none) 0 (some v))))))), (v, .inr (9, [.ref v1, .int v2, .int v3, .int v4, .int v5, .long v6]))] ++ pg cds ad1 (upo gg [cL])) := hD
    have hl : lv_has ls 2 [(0, .ref (ad1 cL)), (1, .ref v)] := by rw [aad1 cL (by omega)]; exact hl
    have hup : upo gg [cL, cA] = upo gg [cL] := by show va_up (upo gg [cA]) cL none = va_up gg cL none; rw [upo_nn (nn_c hL2 nn_0)]
    have hw9 : ([(ad1 cL, .inr (12, [.ref (ad1 cA), .int (nI (0 + 1)), .int (md + 1)])), (ad1 cA, .inl (cT 7, 10, .inr (.inr (.inr (.inr (va_up (fun _ => none) 0 (some v))))))), (v, .inr (9, [.ref v1, .int v2, .int v3, .int v4, .int v5, .long v6]))] ++ pg cds ad1 (upo gg [cL, cA])) = ([(ad1 cL, .inr (12, [.ref (ad1 cA), .int (nI (0 + 1)), .int (md + 1)])), (ad1 cA, .inl (cT 7, 10, .inr (.inr (.inr (.inr (va_up (fun _ => none) 0 (some v))))))), (v, .inr (9, [.ref v1, .int v2, .int v3, .int v4, .int v5, .long v6]))] ++ pg cds ad1 (upo gg [cL])) := by rw [hup]
    have hP := vP_eq hw9 hP
    have hD := vD_eq hw9 hD
    have hN9 := (show NDc [cL, cA] from (nd_c (na_c (by omega) na_0) (nd_c na_0 nd_0)))
    have hP := gb_P (w9 := [(cL, .inr (12, [.ref (ad1 cA), .int (nI (0 + 1)), .int (md + 1)])), (cA, .inl (cT 7, 10, .inr (.inr (.inr (.inr (va_up (fun _ => none) 0 (some v)))))))]) (X := [(v, .inr (9, [.ref v1, .int v2, .int v3, .int v4, .int v5, .long v6]))]) (g := gg) hcd hN9 (show QB [(cL, .inr (12, [.ref (ad1 cA), .int (nI (0 + 1)), .int (md + 1)])), (cA, .inl (cT 7, 10, .inr (.inr (.inr (.inr (va_up (fun _ => none) 0 (some v)))))))] from (qb_c (by omega) (qb_c (by omega) qb_0))) (hP.part (cx := [(v, .inr (9, [.ref v1, .int v2, .int v3, .int v4, .int v5, .long v6])), (ad1 cL, .inr (12, [.ref (ad1 cA), .int (nI (0 + 1)), .int (md + 1)])), (ad1 cA, .inl (cT 7, 10, .inr (.inr (.inr (.inr (va_up (fun _ => none) 0 (some v)))))))]) [2, 0, 1] rfl)
    have hD := gb_D (w9 := [(cL, .inr (12, [.ref (ad1 cA), .int (nI (0 + 1)), .int (md + 1)])), (cA, .inl (cT 7, 10, .inr (.inr (.inr (.inr (va_up (fun _ => none) 0 (some v)))))))]) (X := [(v, .inr (9, [.ref v1, .int v2, .int v3, .int v4, .int v5, .long v6]))]) (g := gg) hcd hN9 (show QB [(cL, .inr (12, [.ref (ad1 cA), .int (nI (0 + 1)), .int (md + 1)])), (cA, .inl (cT 7, 10, .inr (.inr (.inr (.inr (va_up (fun _ => none) 0 (some v)))))))] from (qb_c (by omega) (qb_c (by omega) qb_0))) (hD.part (cx := [(v, .inr (9, [.ref v1, .int v2, .int v3, .int v4, .int v5, .long v6])), (ad1 cL, .inr (12, [.ref (ad1 cA), .int (nI (0 + 1)), .int (md + 1)])), (ad1 cA, .inl (cT 7, 10, .inr (.inr (.inr (.inr (va_up (fun _ => none) 0 (some v)))))))]) [2, 0, 1] (by decide) rfl)
    obtain ⟨g1, hg1⟩ : ∃ q9, q9 = ups gg [(cL, .inr (12, [.ref (ad1 cA), .int (nI (0 + 1)), .int (md + 1)])), (cA, .inl (cT 7, 10, .inr (.inr (.inr (.inr (va_up (fun _ => none) 0 (some v)))))))] := ⟨_, rfl⟩
    rw [← hg1] at hP hD
    have hP : va_P D vwCl ([(v, .inr (9, [.ref v1, .int v2, .int v3, .int v4, .int v5, .long v6]))] ++ pg cds ad1 g1) _ := hP
    have hD : va_D A ([(v, .inr (9, [.ref v1, .int v2, .int v3, .int v4, .int v5, .long v6]))] ++ pg cds ad1 g1) := hD
    have fg1 : ∀ z8, z8 ≠ cL → z8 ≠ cA → g1 z8 = gg z8 := fun z8 z1 z2 => by rw [hg1]; exact ups_k (kp_n z1 (kp_n z2 kp_0))
    have g1_0 : g1 cL = some (.inr (12, [.ref (ad1 cA), .int (nI (0 + 1)), .int (md + 1)])) := by rw [hg1]; exact ups_1
    have g1_1 : g1 cA = some (.inl (cT 7, 10, .inr (.inr (.inr (.inr (va_up (fun _ => none) 0 (some v))))))) := by rw [hg1]; exact ups_2 (by omega)
    refine lv_iconst (v := 1) hx hb dAL_add_23 (by decide) ?_
    have hP9 : va_P D vwCl ([(v, .inr (9, [.ref v1, .int v2, .int v3, .int v4, .int v5, .long v6]))] ++ pg cds ad1 g1) _ := hP.part (cx := [(v, .inr (9, [.ref v1, .int v2, .int v3, .int v4, .int v5, .long v6]))]) [0] rfl
    have hD9 : va_D A ([(v, .inr (9, [.ref v1, .int v2, .int v3, .int v4, .int v5, .long v6]))] ++ pg cds ad1 g1) := hD.part (cx := [(v, .inr (9, [.ref v1, .int v2, .int v3, .int v4, .int v5, .long v6]))]) [0] (by decide) rfl
    refine W.widen (k := 1) (n := 33) (Nat.le_of_ble_eq_true rfl) (Nat.le_of_ble_eq_true rfl) ?_
    exact W.zret (v := 1) hx hb hr rfl (fun t9 ht9 hW9 => ⟨⟨1, (ad1, g1), rfl, (show 1 = 1 ∧ (∀ z8, z8 ≠ cL → z8 ≠ cA → g1 z8 = gg z8) ∧ (∀ z8, z8 ≠ cA → ad1 z8 = ad z8) ∧ LQv cT ad ad1 g1 cL cA bs mq v from ⟨rfl, (fun z8 n1 n2 => fg1 z8 n1 n2), aad1, ⟨10, md + 1, va_up (fun _ => none) 0 (some v), by rw [hm0]; exact g1_0, g1_1, by omega, Or.inl rfl, fun k hk => absurd hk (by omega), by rw [hm0]; exact va_up_self _ _ _⟩⟩), by rw [ht9]; exact hP9, hD9⟩, hS.F ht9⟩) hS.2.2 dAL_add_24
  · by_cases hrm : mq < cap
    · have hB9 : QI gg [(cL, .inr (12, [.ref (ad cA), .int (nI mq), .int md])), (cA, .inl (cT 7, cap, .inr (.inr (.inr (.inr lf)))))] := (qi_c (by omega) hL1 (qi_c (by omega) hL2 qi_0))
      have hN9 := (show NDc [cL, cA] from (nd_c (na_c (by omega) na_0) (nd_c na_0 nd_0)))
      have hP := bo_P (wc := [(cL, .inr (12, [.ref (ad cA), .int (nI mq), .int md])), (cA, .inl (cT 7, cap, .inr (.inr (.inr (.inr lf)))))]) (X := [(v, .inr (9, [.ref v1, .int v2, .int v3, .int v4, .int v5, .long v6]))]) hcd hN9 hB9 hP
      have hD := bo_D (wc := [(cL, .inr (12, [.ref (ad cA), .int (nI mq), .int md])), (cA, .inl (cT 7, cap, .inr (.inr (.inr (.inr lf)))))]) (X := [(v, .inr (9, [.ref v1, .int v2, .int v3, .int v4, .int v5, .long v6]))]) hcd hN9 hB9 hD
      have hP : va_P D vwCl ([(v, .inr (9, [.ref v1, .int v2, .int v3, .int v4, .int v5, .long v6])), (ad cL, .inr (12, [.ref (ad cA), .int (nI mq), .int md])), (ad cA, .inl (cT 7, cap, .inr (.inr (.inr (.inr lf)))))] ++ pg cds ad (upo gg [cL, cA])) _ := hP
      have hD : va_D A ([(v, .inr (9, [.ref v1, .int v2, .int v3, .int v4, .int v5, .long v6])), (ad cL, .inr (12, [.ref (ad cA), .int (nI mq), .int md])), (ad cA, .inl (cT 7, cap, .inr (.inr (.inr (.inr lf)))))] ++ pg cds ad (upo gg [cL, cA])) := hD
      refine lv_aload_n hx hb dAL_add_0 rfl (lv_at hl 0 rfl) ?_
      refine lv_dup hx hb dAL_add_1 rfl ?_
      refine va_get (D := D) (ci := 12) (v := .int md) (C := R_AL) (T := T_AL) (N := 3) hx hb hT in_AL hown hK hP 1 rfl rfl 2 (by decide) (hT _ w271) (u_same (hT _ w272)) rfl dAL_add_2 ?_
      refine lv_iconst (v := 1) hx hb dAL_add_5 (by decide) ?_
      refine lv_iadd hx hb dAL_add_6 ?_
      refine va_put (D := D) (ci := 12) (v := .int (md + 1)) (ty := .int) (C := R_AL) (T := T_AL) (N := 3) hx hb hT in_AL ty_AL ty_AL_ok m_AL hown hK hP hD hS 1 rfl rfl 2 (by decide) (hT _ w271) (u_same (hT _ w272)) rfl (by decide +kernel) rfl rfl (Nat.le_of_ble_eq_true rfl) dAL_add_7 (fun H locs hP hD hS => ?_)
      have hP : va_P D vwCl ([(v, .inr (9, [.ref v1, .int v2, .int v3, .int v4, .int v5, .long v6])), (ad cL, .inr (12, [.ref (ad cA), .int (nI mq), .int (md + 1)])), (ad cA, .inl (cT 7, cap, .inr (.inr (.inr (.inr lf)))))] ++ pg cds ad (upo gg [cL, cA])) _ := hP
      have hD : va_D A ([(v, .inr (9, [.ref v1, .int v2, .int v3, .int v4, .int v5, .long v6])), (ad cL, .inr (12, [.ref (ad cA), .int (nI mq), .int (md + 1)])), (ad cA, .inl (cT 7, cap, .inr (.inr (.inr (.inr lf)))))] ++ pg cds ad (upo gg [cL, cA])) := hD
      refine lv_aload_n hx hb dAL_add_10 rfl (lv_at hl 0 rfl) ?_
      refine lv_aload_n hx hb dAL_add_11 rfl (lv_at hl 1 rfl) ?_
      refine lv_aload_n hx hb dAL_add_12 rfl (lv_at hl 0 rfl) ?_
      refine va_get (D := D) (ci := 12) (v := .ref (ad cA)) (C := R_AL) (T := T_AL) (N := 3) hx hb hT in_AL hown hK hP 1 rfl rfl 0 (by decide) (hT _ w268) (fun _ h9 => h9) rfl dAL_add_13 ?_
      refine lv_aload_n hx hb dAL_add_16 rfl (lv_at hl 0 rfl) ?_
      refine va_get (D := D) (ci := 12) (v := .int (nI mq)) (C := R_AL) (T := T_AL) (N := 3) hx hb hT in_AL hown hK hP 1 rfl rfl 1 (by decide) (hT _ w269) (fun _ h9 => h9) rfl dAL_add_17 ?_
      refine hy_vQ (X := [(v, .inr (9, [.ref v1, .int v2, .int v3, .int v4, .int v5, .long v6])), (ad cL, .inr (12, [.ref (ad cA), .int (nI mq), .int (md + 1)])), (ad cA, .inl (cT 7, cap, .inr (.inr (.inr (.inr lf)))))]) (pl := pg cds ad (upo gg [cL, cA])) (cx := [(ad cL, .inr (12, [.ref (ad cA), .int (nI mq), .int (md + 1)])), (ad cA, .inl (cT 7, cap, .inr (.inr (.inr (.inr lf))))), (v, .inr (9, [.ref v1, .int v2, .int v3, .int v4, .int v5, .long v6]))]) (wr := []) hP hD hS hA [1, 2, 0] [] rfl rfl (by decide) (by decide) (va_runV (As := [.ref v, .ref (ad cA), .int (nI mq)]) (rest := []) ⟨hx, hb, hml, hown, hT⟩ (k_alAdd3T l D cT (ad cL) (ad cA) mq (md + 1) cap lf v v1 v2 v3 v4 v5 v6 (by omega) (by rcases hL4 with q | q | q | q <;> omega) _) ⟨callB_of 3 hT (tb_gd w761) rfl rfl rfl (hT _ w11) (hT _ w758) hAL_add3 ⟨Nat.le_of_ble_eq_true rfl, Nat.le_of_ble_eq_true rfl⟩, (hT _ w760), (hT _ wp9)⟩ (RW.preV (ci := 12) (q0 := 0) hZ hS (hy_free (cx := [(ad cL, .inr (12, [.ref (ad cA), .int (nI mq), .int (md + 1)])), (ad cA, .inl (cT 7, cap, .inr (.inr (.inr (.inr lf))))), (v, .inr (9, [.ref v1, .int v2, .int v3, .int v4, .int v5, .long v6]))]) hD hS hA [1, 2, 0] rfl) (hP.sub (ws' := [(ad cL, .inr (12, [.ref (ad cA), .int (nI mq), .int (md + 1)])), (ad cA, .inl (cT 7, cap, .inr (.inr (.inr (.inr lf))))), (v, .inr (9, [.ref v1, .int v2, .int v3, .int v4, .int v5, .long v6]))]) [1, 2, 0] rfl) hK (hD.sub (ws' := [(ad cL, .inr (12, [.ref (ad cA), .int (nI mq), .int (md + 1)])), (ad cA, .inl (cT 7, cap, .inr (.inr (.inr (.inr lf))))), (v, .inr (9, [.ref v1, .int v2, .int v3, .int v4, .int v5, .long v6]))]) [1, 2, 0] (by decide) rfl) rfl rfl) rfl rfl hl.1 rfl (lv_room (Nat.le_of_ble_eq_true rfl)) dAL_add_20 ⟨Nat.le_of_ble_eq_true rfl, Nat.le_of_ble_eq_true rfl⟩) (fun u9 H locs hpu2 hP hD hS => ?_)
      have hpu2 : True := hpu2
      have hP : va_P D vwCl ([(ad cL, .inr (12, [.ref (ad cA), .int (nI (mq + 1)), .int (md + 1)])), (ad cA, .inl (cT 7, cap, .inr (.inr (.inr (.inr (va_up lf mq (some v))))))), (v, .inr (9, [.ref v1, .int v2, .int v3, .int v4, .int v5, .long v6]))] ++ pg cds ad (upo gg [cL, cA])) _ := hP
      have hD : va_D A ([(ad cL, .inr (12, [.ref (ad cA), .int (nI (mq + 1)), .int (md + 1)])), (ad cA, .inl (cT 7, cap, .inr (.inr (.inr (.inr (va_up lf mq (some v))))))), (v, .inr (9, [.ref v1, .int v2, .int v3, .int v4, .int v5, .long v6]))] ++ pg cds ad (upo gg [cL, cA])) := hD
      have hN9 := (show NDc [cL, cA] from (nd_c (na_c (by omega) na_0) (nd_c na_0 nd_0)))
      have hP := gb_P (w9 := [(cL, .inr (12, [.ref (ad cA), .int (nI (mq + 1)), .int (md + 1)])), (cA, .inl (cT 7, cap, .inr (.inr (.inr (.inr (va_up lf mq (some v)))))))]) (X := [(v, .inr (9, [.ref v1, .int v2, .int v3, .int v4, .int v5, .long v6]))]) (g := gg) hcd hN9 (show QB [(cL, .inr (12, [.ref (ad cA), .int (nI (mq + 1)), .int (md + 1)])), (cA, .inl (cT 7, cap, .inr (.inr (.inr (.inr (va_up lf mq (some v)))))))] from (qb_c (by omega) (qb_c (by omega) qb_0))) (hP.part (cx := [(v, .inr (9, [.ref v1, .int v2, .int v3, .int v4, .int v5, .long v6])), (ad cL, .inr (12, [.ref (ad cA), .int (nI (mq + 1)), .int (md + 1)])), (ad cA, .inl (cT 7, cap, .inr (.inr (.inr (.inr (va_up lf mq (some v)))))))]) [2, 0, 1] rfl)
      have hD := gb_D (w9 := [(cL, .inr (12, [.ref (ad cA), .int (nI (mq + 1)), .int (md + 1)])), (cA, .inl (cT 7, cap, .inr (.inr (.inr (.inr (va_up lf mq (some v)))))))]) (X := [(v, .inr (9, [.ref v1, .int v2, .int v3, .int v4, .int v5, .long v6]))]) (g := gg) hcd hN9 (show QB [(cL, .inr (12, [.ref (ad cA), .int (nI (mq + 1)), .int (md + 1)])), (cA, .inl (cT 7, cap, .inr (.inr (.inr (.inr (va_up lf mq (some v)))))))] from (qb_c (by omega) (qb_c (by omega) qb_0))) (hD.part (cx := [(v, .inr (9, [.ref v1, .int v2, .int v3, .int v4, .int v5, .long v6])), (ad cL, .inr (12, [.ref (ad cA), .int (nI (mq + 1)), .int (md + 1)])), (ad cA, .inl (cT 7, cap, .inr (.inr (.inr (.inr (va_up lf mq (some v)))))))]) [2, 0, 1] (by decide) rfl)
      obtain ⟨g1, hg1⟩ : ∃ q9, q9 = ups gg [(cL, .inr (12, [.ref (ad cA), .int (nI (mq + 1)), .int (md + 1)])), (cA, .inl (cT 7, cap, .inr (.inr (.inr (.inr (va_up lf mq (some v)))))))] := ⟨_, rfl⟩
      rw [← hg1] at hP hD
      have hP : va_P D vwCl ([(v, .inr (9, [.ref v1, .int v2, .int v3, .int v4, .int v5, .long v6]))] ++ pg cds ad g1) _ := hP
      have hD : va_D A ([(v, .inr (9, [.ref v1, .int v2, .int v3, .int v4, .int v5, .long v6]))] ++ pg cds ad g1) := hD
      have fg1 : ∀ z8, z8 ≠ cL → z8 ≠ cA → g1 z8 = gg z8 := fun z8 z1 z2 => by rw [hg1]; exact ups_k (kp_n z1 (kp_n z2 kp_0))
      have g1_0 : g1 cL = some (.inr (12, [.ref (ad cA), .int (nI (mq + 1)), .int (md + 1)])) := by rw [hg1]; exact ups_1
      have g1_1 : g1 cA = some (.inl (cT 7, cap, .inr (.inr (.inr (.inr (va_up lf mq (some v))))))) := by rw [hg1]; exact ups_2 (by omega)
      refine lv_iconst (v := 1) hx hb dAL_add_23 (by decide) ?_
      have hP9 : va_P D vwCl ([(v, .inr (9, [.ref v1, .int v2, .int v3, .int v4, .int v5, .long v6]))] ++ pg cds ad g1) _ := hP.part (cx := [(v, .inr (9, [.ref v1, .int v2, .int v3, .int v4, .int v5, .long v6]))]) [0] rfl
      have hD9 : va_D A ([(v, .inr (9, [.ref v1, .int v2, .int v3, .int v4, .int v5, .long v6]))] ++ pg cds ad g1) := hD.part (cx := [(v, .inr (9, [.ref v1, .int v2, .int v3, .int v4, .int v5, .long v6]))]) [0] (by decide) rfl
      refine W.widen (k := 1) (n := 33) (Nat.le_of_ble_eq_true rfl) (Nat.le_of_ble_eq_true rfl) ?_
      exact W.zret (v := 1) hx hb hr rfl (fun t9 ht9 hW9 => ⟨⟨1, (ad, g1), rfl, (show 1 = 1 ∧ (∀ z8, z8 ≠ cL → z8 ≠ cA → g1 z8 = gg z8) ∧ (∀ z8, z8 ≠ cA → ad z8 = ad z8) ∧ LQv cT ad ad g1 cL cA bs mq v from ⟨rfl, (fun z8 n1 n2 => fg1 z8 n1 n2), (fun z8 n1 => rfl), ⟨cap, md + 1, va_up lf mq (some v), g1_0, g1_1, by omega, hL4, fun k hk => (va_up_ne _ _ (by omega)).trans (hL5 k hk), va_up_self _ _ _⟩⟩), by rw [ht9]; exact hP9, hD9⟩, hS.F ht9⟩) hS.2.2 dAL_add_24
    · rcases hL4 with rfl | rfl | rfl | rfl
      · have hmc : mq = 10 := by omega
        rw [hmc] at hL1
        have hB9 : QI gg [(cL, .inr (12, [.ref (ad cA), .int (nI 10), .int md])), (cA, .inl (cT 7, 10, .inr (.inr (.inr (.inr lf)))))] := (qi_c (by omega) hL1 (qi_c (by omega) hL2 qi_0))
        have hN9 := (show NDc [cL, cA] from (nd_c (na_c (by omega) na_0) (nd_c na_0 nd_0)))
        have hP := bo_P (wc := [(cL, .inr (12, [.ref (ad cA), .int (nI 10), .int md])), (cA, .inl (cT 7, 10, .inr (.inr (.inr (.inr lf)))))]) (X := [(v, .inr (9, [.ref v1, .int v2, .int v3, .int v4, .int v5, .long v6]))]) hcd hN9 hB9 hP
        have hD := bo_D (wc := [(cL, .inr (12, [.ref (ad cA), .int (nI 10), .int md])), (cA, .inl (cT 7, 10, .inr (.inr (.inr (.inr lf)))))]) (X := [(v, .inr (9, [.ref v1, .int v2, .int v3, .int v4, .int v5, .long v6]))]) hcd hN9 hB9 hD
        have hP : va_P D vwCl ([(v, .inr (9, [.ref v1, .int v2, .int v3, .int v4, .int v5, .long v6])), (ad cL, .inr (12, [.ref (ad cA), .int (nI 10), .int md])), (ad cA, .inl (cT 7, 10, .inr (.inr (.inr (.inr lf)))))] ++ pg cds ad (upo gg [cL, cA])) _ := hP
        have hD : va_D A ([(v, .inr (9, [.ref v1, .int v2, .int v3, .int v4, .int v5, .long v6])), (ad cL, .inr (12, [.ref (ad cA), .int (nI 10), .int md])), (ad cA, .inl (cT 7, 10, .inr (.inr (.inr (.inr lf)))))] ++ pg cds ad (upo gg [cL, cA])) := hD
        refine lv_aload_n hx hb dAL_add_0 rfl (lv_at hl 0 rfl) ?_
        refine lv_dup hx hb dAL_add_1 rfl ?_
        refine va_get (D := D) (ci := 12) (v := .int md) (C := R_AL) (T := T_AL) (N := 3) hx hb hT in_AL hown hK hP 1 rfl rfl 2 (by decide) (hT _ w271) (u_same (hT _ w272)) rfl dAL_add_2 ?_
        refine lv_iconst (v := 1) hx hb dAL_add_5 (by decide) ?_
        refine lv_iadd hx hb dAL_add_6 ?_
        refine va_put (D := D) (ci := 12) (v := .int (md + 1)) (ty := .int) (C := R_AL) (T := T_AL) (N := 3) hx hb hT in_AL ty_AL ty_AL_ok m_AL hown hK hP hD hS 1 rfl rfl 2 (by decide) (hT _ w271) (u_same (hT _ w272)) rfl (by decide +kernel) rfl rfl (Nat.le_of_ble_eq_true rfl) dAL_add_7 (fun H locs hP hD hS => ?_)
        have hP : va_P D vwCl ([(v, .inr (9, [.ref v1, .int v2, .int v3, .int v4, .int v5, .long v6])), (ad cL, .inr (12, [.ref (ad cA), .int (nI 10), .int (md + 1)])), (ad cA, .inl (cT 7, 10, .inr (.inr (.inr (.inr lf)))))] ++ pg cds ad (upo gg [cL, cA])) _ := hP
        have hD : va_D A ([(v, .inr (9, [.ref v1, .int v2, .int v3, .int v4, .int v5, .long v6])), (ad cL, .inr (12, [.ref (ad cA), .int (nI 10), .int (md + 1)])), (ad cA, .inl (cT 7, 10, .inr (.inr (.inr (.inr lf)))))] ++ pg cds ad (upo gg [cL, cA])) := hD
        refine lv_aload_n hx hb dAL_add_10 rfl (lv_at hl 0 rfl) ?_
        refine lv_aload_n hx hb dAL_add_11 rfl (lv_at hl 1 rfl) ?_
        refine lv_aload_n hx hb dAL_add_12 rfl (lv_at hl 0 rfl) ?_
        refine va_get (D := D) (ci := 12) (v := .ref (ad cA)) (C := R_AL) (T := T_AL) (N := 3) hx hb hT in_AL hown hK hP 1 rfl rfl 0 (by decide) (hT _ w268) (fun _ h9 => h9) rfl dAL_add_13 ?_
        refine lv_aload_n hx hb dAL_add_16 rfl (lv_at hl 0 rfl) ?_
        refine va_get (D := D) (ci := 12) (v := .int (nI 10)) (C := R_AL) (T := T_AL) (N := 3) hx hb hT in_AL hown hK hP 1 rfl rfl 1 (by decide) (hT _ w269) (fun _ h9 => h9) rfl dAL_add_17 ?_
        refine hy_vP (X := [(v, .inr (9, [.ref v1, .int v2, .int v3, .int v4, .int v5, .long v6])), (ad cL, .inr (12, [.ref (ad cA), .int (nI 10), .int (md + 1)])), (ad cA, .inl (cT 7, 10, .inr (.inr (.inr (.inr lf)))))]) (pl := pg cds ad (upo gg [cL, cA])) (cx := [(ad cL, .inr (12, [.ref (ad cA), .int (nI 10), .int (md + 1)])), (ad cA, .inl (cT 7, 10, .inr (.inr (.inr (.inr lf))))), (v, .inr (9, [.ref v1, .int v2, .int v3, .int v4, .int v5, .long v6]))]) (wr := []) hP hD hS hA [1, 2, 0] [] rfl rfl (by decide) (by decide) (va_runV (As := [.ref v, .ref (ad cA), .int (nI 10)]) (rest := []) ⟨hx, hb, hml, hown, hT⟩ (k_alAdd3T10 l D cT cds ad (upo gg [cL, cA]) tE mE (ad cL) (md + 1) (ad cA) lf bs v v1 v2 v3 v4 v5 v6 hcd (fun k8 hk8 => (by obtain ⟨fs8, q1, q2⟩ := hel k8 (by omega); exact ⟨fs8, q1, hL5 k8 (by omega), (upo_o (na_c (by omega) (na_c (by omega) na_0))).trans q2⟩)) _) ⟨callB_of 3 hT (tb_gd w761) rfl rfl rfl (hT _ w11) (hT _ w758) hAL_add3 ⟨Nat.le_of_ble_eq_true rfl, Nat.le_of_ble_eq_true rfl⟩, (hT _ w760), (hT _ wp9)⟩ (RWE.preV (ci := 12) (q0 := 0) hE0 hZ hS (va_freeP (cx := [(ad cL, .inr (12, [.ref (ad cA), .int (nI 10), .int (md + 1)])), (ad cA, .inl (cT 7, 10, .inr (.inr (.inr (.inr lf))))), (v, .inr (9, [.ref v1, .int v2, .int v3, .int v4, .int v5, .long v6]))]) hD hS hA [1, 2, 0] rfl) (hP.part (cx := [(ad cL, .inr (12, [.ref (ad cA), .int (nI 10), .int (md + 1)])), (ad cA, .inl (cT 7, 10, .inr (.inr (.inr (.inr lf))))), (v, .inr (9, [.ref v1, .int v2, .int v3, .int v4, .int v5, .long v6]))]) [1, 2, 0] rfl) hK (hD.part (cx := [(ad cL, .inr (12, [.ref (ad cA), .int (nI 10), .int (md + 1)])), (ad cA, .inl (cT 7, 10, .inr (.inr (.inr (.inr lf))))), (v, .inr (9, [.ref v1, .int v2, .int v3, .int v4, .int v5, .long v6]))]) [1, 2, 0] (by decide) rfl) rfl rfl) rfl rfl hl.1 rfl (lv_room (Nat.le_of_ble_eq_true rfl)) dAL_add_20 ⟨Nat.le_of_ble_eq_true rfl, Nat.le_of_ble_eq_true rfl⟩) (fun u9 H locs hpu3 hP hD hS => ?_)
        obtain ⟨nqu3, rfl⟩ : ∃ q9, q9 = u9 := ⟨_, rfl⟩
        have hpu3 : True := hpu3
        have hP : va_P D vwCl ([(ad cL, .inr (12, [.ref nqu3, .int (nI (10 + 1)), .int (md + 1)])), (nqu3, .inl (cT 7, 15, .inr (.inr (.inr (.inr (va_up (va_cpy lf (fun _ => none) 0 0 10) 10 (some v))))))), (v, .inr (9, [.ref v1, .int v2, .int v3, .int v4, .int v5, .long v6]))] ++ pg cds ad (upo gg [cL, cA])) _ := hP
        have hD : va_D A ([(ad cL, .inr (12, [.ref nqu3, .int (nI (10 + 1)), .int (md + 1)])), (nqu3, .inl (cT 7, 15, .inr (.inr (.inr (.inr (va_up (va_cpy lf (fun _ => none) 0 0 10) 10 (some v))))))), (v, .inr (9, [.ref v1, .int v2, .int v3, .int v4, .int v5, .long v6]))] ++ pg cds ad (upo gg [cL, cA])) := hD
        obtain ⟨ad1, had1⟩ : ∃ f9 : Nat → Nat, f9 = va_up ad cA nqu3 := ⟨_, rfl⟩
        have ead1_0 : ad1 cA = nqu3 := by rw [had1]; exact va_up_self _ _ _
        have aad1 : ∀ z8, z8 ≠ cA → ad1 z8 = ad z8 := fun z8 n0 => by rw [had1]; exact (va_up_ne _ _ n0).trans (rfl)
        have pad1 : pg cds ad1 (upo gg [cL, cA]) = pg cds ad (upo gg [cL, cA]) := by rw [had1]; exact (pg_ad (upo_i (.tail _ (.head _)))).trans (rfl)
        have hw9 : ([(ad1 cL, .inr (12, [.ref (ad1 cA), .int (nI (10 + 1)), .int (md + 1)])), (ad1 cA, .inl (cT 7, 15, .inr (.inr (.inr (.inr (va_up (va_cpy lf (fun _ => none) 0 0 10) 10 (some v))))))), (v, .inr (9, [.ref v1, .int v2, .int v3, .int v4, .int v5, .long v6]))] ++ pg cds ad1 (upo gg [cL, cA])) = ([(ad cL, .inr (12, [.ref nqu3, .int (nI (10 + 1)), .int (md + 1)])), (nqu3, .inl (cT 7, 15, .inr (.inr (.inr (.inr (va_up (va_cpy lf (fun _ => none) 0 0 10) 10 (some v))))))), (v, .inr (9, [.ref v1, .int v2, .int v3, .int v4, .int v5, .long v6]))] ++ pg cds ad (upo gg [cL, cA])) := by rw [pad1, aad1 cL (by omega), ead1_0]
        have hP := vP_eq hw9 hP
        have hD := vD_eq hw9 hD
        have hP : va_P D vwCl ([(ad1 cL, .inr (12, [.ref (ad1 cA), .int (nI (10 + 1)), .int (md + 1)])), (ad1 cA, .inl (cT 7, 15, .inr (.inr (.inr (.inr (va_up (va_cpy lf (fun _ => none) 0 0 10) 10 (some v))))))), (v, .inr (9, [.ref v1, .int v2, .int v3, .int v4, .int v5, .long v6]))] ++ pg cds ad1 (upo gg [cL, cA])) _ := hP
        have hD : va_D A ([(ad1 cL, .inr (12, [.ref (ad1 cA), .int (nI (10 + 1)), .int (md + 1)])), (ad1 cA, .inl (cT 7, 15, .inr (.inr (.inr (.inr (va_up (va_cpy lf (fun _ => none) 0 0 10) 10 (some v))))))), (v, .inr (9, [.ref v1, .int v2, .int v3, .int v4, .int v5, .long v6]))] ++ pg cds ad1 (upo gg [cL, cA])) := hD
        have hl : lv_has ls 2 [(0, .ref (ad1 cL)), (1, .ref v)] := by rw [aad1 cL (by omega)]; exact hl
        have hN9 := (show NDc [cL, cA] from (nd_c (na_c (by omega) na_0) (nd_c na_0 nd_0)))
        have hP := gb_P (w9 := [(cL, .inr (12, [.ref (ad1 cA), .int (nI (10 + 1)), .int (md + 1)])), (cA, .inl (cT 7, 15, .inr (.inr (.inr (.inr (va_up (va_cpy lf (fun _ => none) 0 0 10) 10 (some v)))))))]) (X := [(v, .inr (9, [.ref v1, .int v2, .int v3, .int v4, .int v5, .long v6]))]) (g := gg) hcd hN9 (show QB [(cL, .inr (12, [.ref (ad1 cA), .int (nI (10 + 1)), .int (md + 1)])), (cA, .inl (cT 7, 15, .inr (.inr (.inr (.inr (va_up (va_cpy lf (fun _ => none) 0 0 10) 10 (some v)))))))] from (qb_c (by omega) (qb_c (by omega) qb_0))) (hP.part (cx := [(v, .inr (9, [.ref v1, .int v2, .int v3, .int v4, .int v5, .long v6])), (ad1 cL, .inr (12, [.ref (ad1 cA), .int (nI (10 + 1)), .int (md + 1)])), (ad1 cA, .inl (cT 7, 15, .inr (.inr (.inr (.inr (va_up (va_cpy lf (fun _ => none) 0 0 10) 10 (some v)))))))]) [2, 0, 1] rfl)
        have hD := gb_D (w9 := [(cL, .inr (12, [.ref (ad1 cA), .int (nI (10 + 1)), .int (md + 1)])), (cA, .inl (cT 7, 15, .inr (.inr (.inr (.inr (va_up (va_cpy lf (fun _ => none) 0 0 10) 10 (some v)))))))]) (X := [(v, .inr (9, [.ref v1, .int v2, .int v3, .int v4, .int v5, .long v6]))]) (g := gg) hcd hN9 (show QB [(cL, .inr (12, [.ref (ad1 cA), .int (nI (10 + 1)), .int (md + 1)])), (cA, .inl (cT 7, 15, .inr (.inr (.inr (.inr (va_up (va_cpy lf (fun _ => none) 0 0 10) 10 (some v)))))))] from (qb_c (by omega) (qb_c (by omega) qb_0))) (hD.part (cx := [(v, .inr (9, [.ref v1, .int v2, .int v3, .int v4, .int v5, .long v6])), (ad1 cL, .inr (12, [.ref (ad1 cA), .int (nI (10 + 1)), .int (md + 1)])), (ad1 cA, .inl (cT 7, 15, .inr (.inr (.inr (.inr (va_up (va_cpy lf (fun _ => none) 0 0 10) 10 (some v)))))))]) [2, 0, 1] (by decide) rfl)
        obtain ⟨g1, hg1⟩ : ∃ q9, q9 = ups gg [(cL, .inr (12, [.ref (ad1 cA), .int (nI (10 + 1)), .int (md + 1)])), (cA, .inl (cT 7, 15, .inr (.inr (.inr (.inr (va_up (va_cpy lf (fun _ => none) 0 0 10) 10 (some v)))))))] := ⟨_, rfl⟩
        rw [← hg1] at hP hD
        have hP : va_P D vwCl ([(v, .inr (9, [.ref v1, .int v2, .int v3, .int v4, .int v5, .long v6]))] ++ pg cds ad1 g1) _ := hP
        have hD : va_D A ([(v, .inr (9, [.ref v1, .int v2, .int v3, .int v4, .int v5, .long v6]))] ++ pg cds ad1 g1) := hD
        have fg1 : ∀ z8, z8 ≠ cL → z8 ≠ cA → g1 z8 = gg z8 := fun z8 z1 z2 => by rw [hg1]; exact ups_k (kp_n z1 (kp_n z2 kp_0))
        have g1_0 : g1 cL = some (.inr (12, [.ref (ad1 cA), .int (nI (10 + 1)), .int (md + 1)])) := by rw [hg1]; exact ups_1
        have g1_1 : g1 cA = some (.inl (cT 7, 15, .inr (.inr (.inr (.inr (va_up (va_cpy lf (fun _ => none) 0 0 10) 10 (some v))))))) := by rw [hg1]; exact ups_2 (by omega)
        refine lv_iconst (v := 1) hx hb dAL_add_23 (by decide) ?_
        have hP9 : va_P D vwCl ([(v, .inr (9, [.ref v1, .int v2, .int v3, .int v4, .int v5, .long v6]))] ++ pg cds ad1 g1) _ := hP.part (cx := [(v, .inr (9, [.ref v1, .int v2, .int v3, .int v4, .int v5, .long v6]))]) [0] rfl
        have hD9 : va_D A ([(v, .inr (9, [.ref v1, .int v2, .int v3, .int v4, .int v5, .long v6]))] ++ pg cds ad1 g1) := hD.part (cx := [(v, .inr (9, [.ref v1, .int v2, .int v3, .int v4, .int v5, .long v6]))]) [0] (by decide) rfl
        refine W.widen (k := 1) (n := 33) (Nat.le_of_ble_eq_true rfl) (Nat.le_of_ble_eq_true rfl) ?_
        exact W.zret (v := 1) hx hb hr rfl (fun t9 ht9 hW9 => ⟨⟨1, (ad1, g1), rfl, (show 1 = 1 ∧ (∀ z8, z8 ≠ cL → z8 ≠ cA → g1 z8 = gg z8) ∧ (∀ z8, z8 ≠ cA → ad1 z8 = ad z8) ∧ LQv cT ad ad1 g1 cL cA bs mq v from ⟨rfl, (fun z8 n1 n2 => fg1 z8 n1 n2), aad1, ⟨15, md + 1, va_up (va_cpy lf (fun _ => none) 0 0 10) 10 (some v), by rw [hmc]; exact g1_0, g1_1, by omega, by unfold CAPo; omega, fun k hk => (va_up_ne _ _ (by omega)).trans ((cpq_lt (by omega)).trans (hL5 k hk)), by rw [hmc]; exact va_up_self _ _ _⟩⟩), by rw [ht9]; exact hP9, hD9⟩, hS.F ht9⟩) hS.2.2 dAL_add_24
      · have hmc : mq = 15 := by omega
        rw [hmc] at hL1
        have hB9 : QI gg [(cL, .inr (12, [.ref (ad cA), .int (nI 15), .int md])), (cA, .inl (cT 7, 15, .inr (.inr (.inr (.inr lf)))))] := (qi_c (by omega) hL1 (qi_c (by omega) hL2 qi_0))
        have hN9 := (show NDc [cL, cA] from (nd_c (na_c (by omega) na_0) (nd_c na_0 nd_0)))
        have hP := bo_P (wc := [(cL, .inr (12, [.ref (ad cA), .int (nI 15), .int md])), (cA, .inl (cT 7, 15, .inr (.inr (.inr (.inr lf)))))]) (X := [(v, .inr (9, [.ref v1, .int v2, .int v3, .int v4, .int v5, .long v6]))]) hcd hN9 hB9 hP
        have hD := bo_D (wc := [(cL, .inr (12, [.ref (ad cA), .int (nI 15), .int md])), (cA, .inl (cT 7, 15, .inr (.inr (.inr (.inr lf)))))]) (X := [(v, .inr (9, [.ref v1, .int v2, .int v3, .int v4, .int v5, .long v6]))]) hcd hN9 hB9 hD
        have hP : va_P D vwCl ([(v, .inr (9, [.ref v1, .int v2, .int v3, .int v4, .int v5, .long v6])), (ad cL, .inr (12, [.ref (ad cA), .int (nI 15), .int md])), (ad cA, .inl (cT 7, 15, .inr (.inr (.inr (.inr lf)))))] ++ pg cds ad (upo gg [cL, cA])) _ := hP
        have hD : va_D A ([(v, .inr (9, [.ref v1, .int v2, .int v3, .int v4, .int v5, .long v6])), (ad cL, .inr (12, [.ref (ad cA), .int (nI 15), .int md])), (ad cA, .inl (cT 7, 15, .inr (.inr (.inr (.inr lf)))))] ++ pg cds ad (upo gg [cL, cA])) := hD
        refine lv_aload_n hx hb dAL_add_0 rfl (lv_at hl 0 rfl) ?_
        refine lv_dup hx hb dAL_add_1 rfl ?_
        refine va_get (D := D) (ci := 12) (v := .int md) (C := R_AL) (T := T_AL) (N := 3) hx hb hT in_AL hown hK hP 1 rfl rfl 2 (by decide) (hT _ w271) (u_same (hT _ w272)) rfl dAL_add_2 ?_
        refine lv_iconst (v := 1) hx hb dAL_add_5 (by decide) ?_
        refine lv_iadd hx hb dAL_add_6 ?_
        refine va_put (D := D) (ci := 12) (v := .int (md + 1)) (ty := .int) (C := R_AL) (T := T_AL) (N := 3) hx hb hT in_AL ty_AL ty_AL_ok m_AL hown hK hP hD hS 1 rfl rfl 2 (by decide) (hT _ w271) (u_same (hT _ w272)) rfl (by decide +kernel) rfl rfl (Nat.le_of_ble_eq_true rfl) dAL_add_7 (fun H locs hP hD hS => ?_)
        have hP : va_P D vwCl ([(v, .inr (9, [.ref v1, .int v2, .int v3, .int v4, .int v5, .long v6])), (ad cL, .inr (12, [.ref (ad cA), .int (nI 15), .int (md + 1)])), (ad cA, .inl (cT 7, 15, .inr (.inr (.inr (.inr lf)))))] ++ pg cds ad (upo gg [cL, cA])) _ := hP
        have hD : va_D A ([(v, .inr (9, [.ref v1, .int v2, .int v3, .int v4, .int v5, .long v6])), (ad cL, .inr (12, [.ref (ad cA), .int (nI 15), .int (md + 1)])), (ad cA, .inl (cT 7, 15, .inr (.inr (.inr (.inr lf)))))] ++ pg cds ad (upo gg [cL, cA])) := hD
        refine lv_aload_n hx hb dAL_add_10 rfl (lv_at hl 0 rfl) ?_
        refine lv_aload_n hx hb dAL_add_11 rfl (lv_at hl 1 rfl) ?_
        refine lv_aload_n hx hb dAL_add_12 rfl (lv_at hl 0 rfl) ?_
        refine va_get (D := D) (ci := 12) (v := .ref (ad cA)) (C := R_AL) (T := T_AL) (N := 3) hx hb hT in_AL hown hK hP 1 rfl rfl 0 (by decide) (hT _ w268) (fun _ h9 => h9) rfl dAL_add_13 ?_
        refine lv_aload_n hx hb dAL_add_16 rfl (lv_at hl 0 rfl) ?_
        refine va_get (D := D) (ci := 12) (v := .int (nI 15)) (C := R_AL) (T := T_AL) (N := 3) hx hb hT in_AL hown hK hP 1 rfl rfl 1 (by decide) (hT _ w269) (fun _ h9 => h9) rfl dAL_add_17 ?_
        refine hy_vP (X := [(v, .inr (9, [.ref v1, .int v2, .int v3, .int v4, .int v5, .long v6])), (ad cL, .inr (12, [.ref (ad cA), .int (nI 15), .int (md + 1)])), (ad cA, .inl (cT 7, 15, .inr (.inr (.inr (.inr lf)))))]) (pl := pg cds ad (upo gg [cL, cA])) (cx := [(ad cL, .inr (12, [.ref (ad cA), .int (nI 15), .int (md + 1)])), (ad cA, .inl (cT 7, 15, .inr (.inr (.inr (.inr lf))))), (v, .inr (9, [.ref v1, .int v2, .int v3, .int v4, .int v5, .long v6]))]) (wr := []) hP hD hS hA [1, 2, 0] [] rfl rfl (by decide) (by decide) (va_runV (As := [.ref v, .ref (ad cA), .int (nI 15)]) (rest := []) ⟨hx, hb, hml, hown, hT⟩ (k_alAdd3T15 l D cT cds ad (upo gg [cL, cA]) tE mE (ad cL) (md + 1) (ad cA) lf bs v v1 v2 v3 v4 v5 v6 hcd (fun k8 hk8 => (by obtain ⟨fs8, q1, q2⟩ := hel k8 (by omega); exact ⟨fs8, q1, hL5 k8 (by omega), (upo_o (na_c (by omega) (na_c (by omega) na_0))).trans q2⟩)) _) ⟨callB_of 3 hT (tb_gd w761) rfl rfl rfl (hT _ w11) (hT _ w758) hAL_add3 ⟨Nat.le_of_ble_eq_true rfl, Nat.le_of_ble_eq_true rfl⟩, (hT _ w760), (hT _ wp9)⟩ (RWE.preV (ci := 12) (q0 := 0) hE0 hZ hS (va_freeP (cx := [(ad cL, .inr (12, [.ref (ad cA), .int (nI 15), .int (md + 1)])), (ad cA, .inl (cT 7, 15, .inr (.inr (.inr (.inr lf))))), (v, .inr (9, [.ref v1, .int v2, .int v3, .int v4, .int v5, .long v6]))]) hD hS hA [1, 2, 0] rfl) (hP.part (cx := [(ad cL, .inr (12, [.ref (ad cA), .int (nI 15), .int (md + 1)])), (ad cA, .inl (cT 7, 15, .inr (.inr (.inr (.inr lf))))), (v, .inr (9, [.ref v1, .int v2, .int v3, .int v4, .int v5, .long v6]))]) [1, 2, 0] rfl) hK (hD.part (cx := [(ad cL, .inr (12, [.ref (ad cA), .int (nI 15), .int (md + 1)])), (ad cA, .inl (cT 7, 15, .inr (.inr (.inr (.inr lf))))), (v, .inr (9, [.ref v1, .int v2, .int v3, .int v4, .int v5, .long v6]))]) [1, 2, 0] (by decide) rfl) rfl rfl) rfl rfl hl.1 rfl (lv_room (Nat.le_of_ble_eq_true rfl)) dAL_add_20 ⟨Nat.le_of_ble_eq_true rfl, Nat.le_of_ble_eq_true rfl⟩) (fun u9 H locs hpu4 hP hD hS => ?_)
        obtain ⟨nqu4, rfl⟩ : ∃ q9, q9 = u9 := ⟨_, rfl⟩
        have hpu4 : True := hpu4
        have hP : va_P D vwCl ([(ad cL, .inr (12, [.ref nqu4, .int (nI (15 + 1)), .int (md + 1)])), (nqu4, .inl (cT 7, 22, .inr (.inr (.inr (.inr (va_up (va_cpy lf (fun _ => none) 0 0 15) 15 (some v))))))), (v, .inr (9, [.ref v1, .int v2, .int v3, .int v4, .int v5, .long v6]))] ++ pg cds ad (upo gg [cL, cA])) _ := hP
        have hD : va_D A ([(ad cL, .inr (12, [.ref nqu4, .int (nI (15 + 1)), .int (md + 1)])), (nqu4, .inl (cT 7, 22, .inr (.inr (.inr (.inr (va_up (va_cpy lf (fun _ => none) 0 0 15) 15 (some v))))))), (v, .inr (9, [.ref v1, .int v2, .int v3, .int v4, .int v5, .long v6]))] ++ pg cds ad (upo gg [cL, cA])) := hD
        obtain ⟨ad1, had1⟩ : ∃ f9 : Nat → Nat, f9 = va_up ad cA nqu4 := ⟨_, rfl⟩
        have ead1_0 : ad1 cA = nqu4 := by rw [had1]; exact va_up_self _ _ _
        have aad1 : ∀ z8, z8 ≠ cA → ad1 z8 = ad z8 := fun z8 n0 => by rw [had1]; exact (va_up_ne _ _ n0).trans (rfl)
        have pad1 : pg cds ad1 (upo gg [cL, cA]) = pg cds ad (upo gg [cL, cA]) := by rw [had1]; exact (pg_ad (upo_i (.tail _ (.head _)))).trans (rfl)
        have hw9 : ([(ad1 cL, .inr (12, [.ref (ad1 cA), .int (nI (15 + 1)), .int (md + 1)])), (ad1 cA, .inl (cT 7, 22, .inr (.inr (.inr (.inr (va_up (va_cpy lf (fun _ => none) 0 0 15) 15 (some v))))))), (v, .inr (9, [.ref v1, .int v2, .int v3, .int v4, .int v5, .long v6]))] ++ pg cds ad1 (upo gg [cL, cA])) = ([(ad cL, .inr (12, [.ref nqu4, .int (nI (15 + 1)), .int (md + 1)])), (nqu4, .inl (cT 7, 22, .inr (.inr (.inr (.inr (va_up (va_cpy lf (fun _ => none) 0 0 15) 15 (some v))))))), (v, .inr (9, [.ref v1, .int v2, .int v3, .int v4, .int v5, .long v6]))] ++ pg cds ad (upo gg [cL, cA])) := by rw [pad1, aad1 cL (by omega), ead1_0]
        have hP := vP_eq hw9 hP
        have hD := vD_eq hw9 hD
        have hP : va_P D vwCl ([(ad1 cL, .inr (12, [.ref (ad1 cA), .int (nI (15 + 1)), .int (md + 1)])), (ad1 cA, .inl (cT 7, 22, .inr (.inr (.inr (.inr (va_up (va_cpy lf (fun _ => none) 0 0 15) 15 (some v))))))), (v, .inr (9, [.ref v1, .int v2, .int v3, .int v4, .int v5, .long v6]))] ++ pg cds ad1 (upo gg [cL, cA])) _ := hP
        have hD : va_D A ([(ad1 cL, .inr (12, [.ref (ad1 cA), .int (nI (15 + 1)), .int (md + 1)])), (ad1 cA, .inl (cT 7, 22, .inr (.inr (.inr (.inr (va_up (va_cpy lf (fun _ => none) 0 0 15) 15 (some v))))))), (v, .inr (9, [.ref v1, .int v2, .int v3, .int v4, .int v5, .long v6]))] ++ pg cds ad1 (upo gg [cL, cA])) := hD
        have hl : lv_has ls 2 [(0, .ref (ad1 cL)), (1, .ref v)] := by rw [aad1 cL (by omega)]; exact hl
        have hN9 := (show NDc [cL, cA] from (nd_c (na_c (by omega) na_0) (nd_c na_0 nd_0)))
        have hP := gb_P (w9 := [(cL, .inr (12, [.ref (ad1 cA), .int (nI (15 + 1)), .int (md + 1)])), (cA, .inl (cT 7, 22, .inr (.inr (.inr (.inr (va_up (va_cpy lf (fun _ => none) 0 0 15) 15 (some v)))))))]) (X := [(v, .inr (9, [.ref v1, .int v2, .int v3, .int v4, .int v5, .long v6]))]) (g := gg) hcd hN9 (show QB [(cL, .inr (12, [.ref (ad1 cA), .int (nI (15 + 1)), .int (md + 1)])), (cA, .inl (cT 7, 22, .inr (.inr (.inr (.inr (va_up (va_cpy lf (fun _ => none) 0 0 15) 15 (some v)))))))] from (qb_c (by omega) (qb_c (by omega) qb_0))) (hP.part (cx := [(v, .inr (9, [.ref v1, .int v2, .int v3, .int v4, .int v5, .long v6])), (ad1 cL, .inr (12, [.ref (ad1 cA), .int (nI (15 + 1)), .int (md + 1)])), (ad1 cA, .inl (cT 7, 22, .inr (.inr (.inr (.inr (va_up (va_cpy lf (fun _ => none) 0 0 15) 15 (some v)))))))]) [2, 0, 1] rfl)
        have hD := gb_D (w9 := [(cL, .inr (12, [.ref (ad1 cA), .int (nI (15 + 1)), .int (md + 1)])), (cA, .inl (cT 7, 22, .inr (.inr (.inr (.inr (va_up (va_cpy lf (fun _ => none) 0 0 15) 15 (some v)))))))]) (X := [(v, .inr (9, [.ref v1, .int v2, .int v3, .int v4, .int v5, .long v6]))]) (g := gg) hcd hN9 (show QB [(cL, .inr (12, [.ref (ad1 cA), .int (nI (15 + 1)), .int (md + 1)])), (cA, .inl (cT 7, 22, .inr (.inr (.inr (.inr (va_up (va_cpy lf (fun _ => none) 0 0 15) 15 (some v)))))))] from (qb_c (by omega) (qb_c (by omega) qb_0))) (hD.part (cx := [(v, .inr (9, [.ref v1, .int v2, .int v3, .int v4, .int v5, .long v6])), (ad1 cL, .inr (12, [.ref (ad1 cA), .int (nI (15 + 1)), .int (md + 1)])), (ad1 cA, .inl (cT 7, 22, .inr (.inr (.inr (.inr (va_up (va_cpy lf (fun _ => none) 0 0 15) 15 (some v)))))))]) [2, 0, 1] (by decide) rfl)
        obtain ⟨g1, hg1⟩ : ∃ q9, q9 = ups gg [(cL, .inr (12, [.ref (ad1 cA), .int (nI (15 + 1)), .int (md + 1)])), (cA, .inl (cT 7, 22, .inr (.inr (.inr (.inr (va_up (va_cpy lf (fun _ => none) 0 0 15) 15 (some v)))))))] := ⟨_, rfl⟩
        rw [← hg1] at hP hD
        have hP : va_P D vwCl ([(v, .inr (9, [.ref v1, .int v2, .int v3, .int v4, .int v5, .long v6]))] ++ pg cds ad1 g1) _ := hP
        have hD : va_D A ([(v, .inr (9, [.ref v1, .int v2, .int v3, .int v4, .int v5, .long v6]))] ++ pg cds ad1 g1) := hD
        have fg1 : ∀ z8, z8 ≠ cL → z8 ≠ cA → g1 z8 = gg z8 := fun z8 z1 z2 => by rw [hg1]; exact ups_k (kp_n z1 (kp_n z2 kp_0))
        have g1_0 : g1 cL = some (.inr (12, [.ref (ad1 cA), .int (nI (15 + 1)), .int (md + 1)])) := by rw [hg1]; exact ups_1
        have g1_1 : g1 cA = some (.inl (cT 7, 22, .inr (.inr (.inr (.inr (va_up (va_cpy lf (fun _ => none) 0 0 15) 15 (some v))))))) := by rw [hg1]; exact ups_2 (by omega)
        refine lv_iconst (v := 1) hx hb dAL_add_23 (by decide) ?_
        have hP9 : va_P D vwCl ([(v, .inr (9, [.ref v1, .int v2, .int v3, .int v4, .int v5, .long v6]))] ++ pg cds ad1 g1) _ := hP.part (cx := [(v, .inr (9, [.ref v1, .int v2, .int v3, .int v4, .int v5, .long v6]))]) [0] rfl
        have hD9 : va_D A ([(v, .inr (9, [.ref v1, .int v2, .int v3, .int v4, .int v5, .long v6]))] ++ pg cds ad1 g1) := hD.part (cx := [(v, .inr (9, [.ref v1, .int v2, .int v3, .int v4, .int v5, .long v6]))]) [0] (by decide) rfl
        refine W.widen (k := 1) (n := 33) (Nat.le_of_ble_eq_true rfl) (Nat.le_of_ble_eq_true rfl) ?_
        exact W.zret (v := 1) hx hb hr rfl (fun t9 ht9 hW9 => ⟨⟨1, (ad1, g1), rfl, (show 1 = 1 ∧ (∀ z8, z8 ≠ cL → z8 ≠ cA → g1 z8 = gg z8) ∧ (∀ z8, z8 ≠ cA → ad1 z8 = ad z8) ∧ LQv cT ad ad1 g1 cL cA bs mq v from ⟨rfl, (fun z8 n1 n2 => fg1 z8 n1 n2), aad1, ⟨22, md + 1, va_up (va_cpy lf (fun _ => none) 0 0 15) 15 (some v), by rw [hmc]; exact g1_0, g1_1, by omega, by unfold CAPo; omega, fun k hk => (va_up_ne _ _ (by omega)).trans ((cpq_lt (by omega)).trans (hL5 k hk)), by rw [hmc]; exact va_up_self _ _ _⟩⟩), by rw [ht9]; exact hP9, hD9⟩, hS.F ht9⟩) hS.2.2 dAL_add_24
      · exact absurd hrm (by omega)
      · exact absurd hrm (by omega)
/-! A tree's nodes: one more is made; one is written anew. -/
section TMs
variable {cT : Nat → ClassId} {ad ad2 ad7 : Nat → Nat} {g g2 g7 : Nat → Option va_E} {tE : Nat}
theorem LQ.li {cL cA bs m : Nat} (h : LQ cT ad g tE cL cA bs m) : ∃ (a : Nat) (md : Int32), g cL = some (eLI a (nI m) md) := by
  rcases h with ⟨e1, ⟨md, e2⟩, _⟩ | ⟨cap, md, lf, e1, _⟩
  · exact ⟨tE, md, by rw [e1]; exact e2⟩
  · exact ⟨_, md, e1⟩
theorem LQ.full {cL cA bs m : Nat} (h : LQ cT ad g tE cL cA bs m) (hm : 0 < m) : ∃ (cap : Nat) (md : Int32) (lf : Nat → Option Nat), g cL = some (eLI (ad cA) (nI m) md) ∧ g cA = some (eQ (cT 7) cap lf) ∧ m ≤ cap ∧ cap ≤ 33 ∧ ∀ k, k < m → lf k = some (ad (bs + k)) := by
  rcases h with ⟨e1, _⟩ | ⟨cap, md, lf, e1, e2, e3, e4, e5⟩
  · omega
  · exact ⟨cap, md, lf, e1, e2, e3, by unfold CAPo at e4; omega, e5⟩
theorem tmd_add {t mk v : Nat} {q0 q1 q2 q3 q4 q5 q6 q7 : Int32} {z : Int} (ht : t < 16) (h : TMD cT ad g tE t mk) (hm : mk < 31) (fr : ∀ z8, z8 ≠ 1020 + t → z8 ≠ 1040 + t → g7 z8 = g z8) (fa : ∀ z8, z8 ≠ 1040 + t → ad7 z8 = ad z8) (hv : LQv cT ad ad7 g7 (1020 + t) (1040 + t) (2000 + 32 * t) mk v)
    (f2 : ∀ z8, z8 ≠ 2000 + 32 * t + mk → z8 ≠ 3000 + 32 * t + mk → z8 ≠ 4000 + 32 * t + mk → g2 z8 = g7 z8) (a2 : ∀ z8, z8 ≠ 2000 + 32 * t + mk → z8 ≠ 3000 + 32 * t + mk → z8 ≠ 4000 + 32 * t + mk → ad2 z8 = ad7 z8) (e0 : ad2 (2000 + 32 * t + mk) = v)
    (c0 : g2 (2000 + 32 * t + mk) = some (eND q0 q1 q2 q3 q4 q5 q6 q7 (ad2 (3000 + 32 * t + mk)))) (c1 : WHO cT ad2 g2 (3000 + 32 * t + mk) (4000 + 32 * t + mk) 24 z) : TMD cT ad2 g2 tE t (mk + 1) := by
  obtain ⟨_, h2, h3, h4⟩ := h
  obtain ⟨cap, md, lf, l1, l2, l3, l4, l5, l6⟩ := hv
  refine ⟨Or.inr ⟨cap, md, lf, ?_, (f2 _ (by omega) (by omega) (by omega)).trans l2, l3, l4, fun k hk => ?_⟩, by omega, fun k hk => ?_, fun k hk hk2 => ?_⟩
  · rw [a2 _ (by omega) (by omega) (by omega)]; exact (f2 _ (by omega) (by omega) (by omega)).trans l1
  · rcases (show k = mk ∨ k < mk by omega) with q | q
    · rw [q, l6, e0]
    · rw [l5 k q, a2 _ (by omega) (by omega) (by omega), fa _ (by omega)]
  · rcases (show k = mk ∨ k < mk by omega) with q | q
    · rw [q]; exact ⟨⟨q0, q1, q2, q3, q4, q5, q6, q7, c0⟩, z, c1⟩
    · exact (h3 k q).cg ((f2 _ (by omega) (by omega) (by omega)).trans (fr _ (by omega) (by omega))) ((f2 _ (by omega) (by omega) (by omega)).trans (fr _ (by omega) (by omega))) ((f2 _ (by omega) (by omega) (by omega)).trans (fr _ (by omega) (by omega))) ((a2 _ (by omega) (by omega) (by omega)).trans (fa _ (by omega))) ((a2 _ (by omega) (by omega) (by omega)).trans (fa _ (by omega)))
  · obtain ⟨b1, b2, b3⟩ := h4 k (by omega) hk2
    exact ⟨(f2 _ (by omega) (by omega) (by omega)).trans ((fr _ (by omega) (by omega)).trans b1), (f2 _ (by omega) (by omega) (by omega)).trans ((fr _ (by omega) (by omega)).trans b2), (f2 _ (by omega) (by omega) (by omega)).trans ((fr _ (by omega) (by omega)).trans b3)⟩
theorem tmd_nd {t k m : Nat} {q0 q1 q2 q3 q4 q5 q6 q7 : Int32} (ht : t < 16) (h : TMD cT ad g tE t m) (hk : k < m) (f : ∀ z8, z8 ≠ 1000 + t → z8 ≠ 2000 + 32 * t + k → g2 z8 = g z8) (c0 : g2 (2000 + 32 * t + k) = some (eND q0 q1 q2 q3 q4 q5 q6 q7 (ad (3000 + 32 * t + k)))) : TMD cT ad g2 tE t m := by
  obtain ⟨h1, h2, h3, h4⟩ := h
  refine ⟨h1.cg (f _ (by omega) (by omega)) (f _ (by omega) (by omega)) rfl (fun _ _ => rfl), h2, fun j hj => ?_, fun j hj hj2 => ?_⟩
  · rcases (show j = k ∨ j ≠ k by omega) with q | q
    · rw [q]
      obtain ⟨_, z, hz⟩ := h3 k hk
      exact ⟨⟨q0, q1, q2, q3, q4, q5, q6, q7, c0⟩, z, hz.cg (f _ (by omega) (by omega)) (f _ (by omega) (by omega))⟩
    · exact (h3 j hj).cg (f _ (by omega) (by omega)) (f _ (by omega) (by omega)) (f _ (by omega) (by omega)) rfl rfl
  · obtain ⟨b1, b2, b3⟩ := h4 j hj hj2
    exact ⟨(f _ (by omega) (by omega)).trans b1, (f _ (by omega) (by omega)).trans b2, (f _ (by omega) (by omega)).trans b3⟩
end TMs
/-- a number that was just made -/
theorem wn_0 : WN 24 0 0 (fun _ => 0) 0 := ⟨0, rfl, by decide, fun _ h => absurd h (by omega), fun h => absurd h (by omega), Or.inl rfl, rfl⟩
/-- a node's sum is written anew -/
theorem tmd_sm {cT : Nat → ClassId} {ad : Nat → Nat} {g g2 : Nat → Option va_E} {tE t k m : Nat} {z : Int} (ht : t < 16) (h : TMD cT ad g tE t m) (hk : k < m) (f : ∀ z8, z8 ≠ 3000 + 32 * t + k → z8 ≠ 4000 + 32 * t + k → g2 z8 = g z8) (c1 : WHO cT ad g2 (3000 + 32 * t + k) (4000 + 32 * t + k) 24 z) : TMD cT ad g2 tE t m := by
  obtain ⟨h1, h2, h3, h4⟩ := h
  refine ⟨h1.cg (f _ (by omega) (by omega)) (f _ (by omega) (by omega)) rfl (fun _ _ => rfl), h2, fun j hj => ?_, fun j hj hj2 => ?_⟩
  · rcases (show j = k ∨ j ≠ k by omega) with q | q
    · rw [q]
      obtain ⟨⟨q0, q1, q2, q3, q4, q5, q6, q7, e⟩, _⟩ := h3 k hk
      exact ⟨⟨q0, q1, q2, q3, q4, q5, q6, q7, (f _ (by omega) (by omega)).trans e⟩, z, c1⟩
    · exact (h3 j hj).cg (f _ (by omega) (by omega)) (f _ (by omega) (by omega)) (f _ (by omega) (by omega)) rfl rfl
  · obtain ⟨b1, b2, b3⟩ := h4 j hj hj2
    exact ⟨(f _ (by omega) (by omega)).trans b1, (f _ (by omega) (by omega)).trans b2, (f _ (by omega) (by omega)).trans b3⟩
theorem vpn_z {v : Int32} (h : v = 0 ∨ v = 1) : vp_nar .boolean v = v := by rcases h with e | e <;> rw [e] <;> rfl
set_option maxHeartbeats 4000000 in
set_option maxRecDepth 100000 in
theorem k_WholeX (l : Launch) (D : va_G) (cT : Nat → ClassId) (h : Nat) (sz : Nat) : Met l yW_init WW_init ({ frames := 1, cells := 1, slots := 24, locals := 12 } : Room) (RW D vwCl [.ref h, .int 24] [(h, .inr (4, [.null, .int 0, .int 0]))] (TY cT) sz) (va_Qv (fun u9 : Nat => True) (BW D vwCl (va_A [(h, .inr (4, [.null, .int 0, .int 0]))] sz) (fun u9 : Nat => [(h, .inr (4, [.ref u9, .int 0, .int 0])), (u9, .inl (cT 0, 24, .inl (fun _ => 0)))])) (va_A [(h, .inr (4, [.null, .int 0, .int 0]))] sz)) 1 24 (va_A [(h, .inr (4, [.null, .int 0, .int 0]))] sz) := by
  refine Met.ofW (cc := cW_init) (maxL := 2) (ret := none) (by decide) rfl ?_
  intro p e s m args below meth c s₁ B hml hv
  obtain ⟨rfl, hsz, hZ, hP, hK, hD0⟩ := hv
  have hx := B.exec
  have hb := B.bytes
  have hr := B.returns
  have hts := atoms_spec (ws := WW_init) B.pre
  have hT : ∀ w ∈ TB, w.before _ s = true := fun w h => hts w (List.mem_cons_of_mem _ h)
  have hown : s.vm.findClass R_W = some m.cls := findClass_of_methodNamed B.named
  have hlocks := B.notSynchronized
  have hin : meth.name = "<init>" := (name_of_methodNamed B.named B.method).1
  subst hsz
  have hD := hD0.self (sz := s.heap.size)
  generalize hAe : va_A [(h, .inr (4, [.null, .int 0, .int 0]))] s.heap.size = A at hD hZ ⊢
  have hA : ∀ q : Nat, s.heap.size ≤ q → A q := fun q h => by rw [← hAe]; exact Or.inr h
  have hS : va_S A s.heap s.heap [] := va_S.rf
  have hl := lv_entry ([.ref h, .int 24]) (n := 2) (Nat.le_of_ble_eq_true rfl)
  rw [lg_entry_eq]
  generalize (lg_sl ([.ref h, .int 24]) ++ List.replicate (2 - (lg_sl ([.ref h, .int 24])).length) Slot.unset).toArray = ls at hl ⊢
  have hl : lv_has ls 2 [(0, .ref h), (1, .int 24)] := hl
  refine lv_aload_n hx hb dW_init_0 rfl (lv_at hl 0 rfl) ?_
  refine W.objInit hx hb hown (hT _ w144) (hT _ w35) (hT _ w36) rfl (by rw [hml]; exact hl.1) rfl dW_init_1 (Nat.le_of_ble_eq_true rfl) (Nat.le_of_ble_eq_true rfl) ?_
  refine W.eq (g2 := F0 m 4 ls []) rfl ?_
  refine lv_aload_n hx hb dW_init_4 rfl (lv_at hl 0 rfl) ?_
  refine lv_iload_n hx hb dW_init_5 rfl (lv_at hl 1 rfl) ?_
  refine nw_a (atype := .int) (ty := .int) (a0 := (24, .inl (fun _ => 0))) (N' := 24) hx hb (hT _ w72) rfl hK hP hD hS hA 0 rfl (fun _ => rfl) (by decide +kernel) (by decide +kernel) (by decide +kernel) (Nat.le_of_ble_eq_true rfl) (Nat.le_of_ble_eq_true rfl) dW_init_6 (fun q6 H hP hD hS => ?_)
  have hP : va_P D vwCl [(h, .inr (4, [.null, .int 0, .int 0])), (q6, .inl (cT 0, 24, .inl (fun _ => 0)))] _ := hP
  have hD : va_D A [(h, .inr (4, [.null, .int 0, .int 0])), (q6, .inl (cT 0, 24, .inl (fun _ => 0)))] := hD
  refine va_putF (D := D) (ci := 4) (v := .ref q6) (ty := .array .int) (C := R_W) (T := T_W) (N := 3) hx hb hT in_W ty_W ty_W_ok m_W hown hK hP hD hS 0 rfl rfl 0 (by decide) (hT _ w145) (fun _ h9 => h9) rfl hin rfl (by decide +kernel) rfl rfl (Nat.le_of_ble_eq_true rfl) dW_init_8 (fun H locs hP hD hS => ?_)
  have hP : va_P D vwCl [(h, .inr (4, [.ref q6, .int 0, .int 0])), (q6, .inl (cT 0, 24, .inl (fun _ => 0)))] _ := hP
  have hD : va_D A [(h, .inr (4, [.ref q6, .int 0, .int 0])), (q6, .inl (cT 0, 24, .inl (fun _ => 0)))] := hD
  have hP9 := hP.sub (ws' := [(h, .inr (4, [.ref q6, .int 0, .int 0])), (q6, .inl (cT 0, 24, .inl (fun _ => 0)))]) [0, 1] rfl
  have hD9 := hD.sub (ws' := [(h, .inr (4, [.ref q6, .int 0, .int 0])), (q6, .inl (cT 0, 24, .inl (fun _ => 0)))]) [0, 1] (by decide) rfl
  refine W.widen (k := 1) (n := 24) (Nat.le_of_ble_eq_true rfl) (Nat.le_of_ble_eq_true rfl) ?_
  exact W.vret hx hb hr (fun t9 ht9 hW9 => ⟨⟨q6, rfl, (show True from trivial), by rw [ht9]; exact hP9, hD9⟩, hS.F ht9⟩) hS.2.2 dW_init_11
set_option maxHeartbeats 4000000 in
set_option maxRecDepth 100000 in
theorem k_NodeX (l : Launch) (D : va_G) (cT : Nat → ClassId) (h : Nat) (sz : Nat) : Met l yN_init WN_init ({ frames := 2, cells := 2, slots := 27, locals := 33 } : Room) (RW D vwCl [.ref h] [(h, .inr (10, [.int 0, .int 0, .int 0, .int 0, .int 0, .int 0, .int 0, .int 0, .null]))] (TY cT) sz) (va_Qv (fun u9 : Nat × Nat => True) (BW D vwCl (va_A [(h, .inr (10, [.int 0, .int 0, .int 0, .int 0, .int 0, .int 0, .int 0, .int 0, .null]))] sz) (fun u9 : Nat × Nat => [(h, .inr (10, [.int 0, .int 0, .int 0, .int 0, .int 0, .int 0, .int 0, .int 0, .ref u9.1])), (u9.1, .inr (4, [.ref u9.2, .int 0, .int 0])), (u9.2, .inl (cT 0, 24, .inl (fun _ => 0)))])) (va_A [(h, .inr (10, [.int 0, .int 0, .int 0, .int 0, .int 0, .int 0, .int 0, .int 0, .null]))] sz)) 2 27 (va_A [(h, .inr (10, [.int 0, .int 0, .int 0, .int 0, .int 0, .int 0, .int 0, .int 0, .null]))] sz) := by
  refine Met.ofW (cc := cN_init) (maxL := 1) (ret := none) (by decide) rfl ?_
  intro p e s m args below meth c s₁ B hml hv
  obtain ⟨rfl, hsz, hZ, hP, hK, hD0⟩ := hv
  have hx := B.exec
  have hb := B.bytes
  have hr := B.returns
  have hts := atoms_spec (ws := WN_init) B.pre
  have hT : ∀ w ∈ TB, w.before _ s = true := fun w h => hts w (List.mem_cons_of_mem _ h)
  have hown : s.vm.findClass R_N = some m.cls := findClass_of_methodNamed B.named
  have hlocks := B.notSynchronized
  have hin : meth.name = "<init>" := (name_of_methodNamed B.named B.method).1
  subst hsz
  have hD := hD0.self (sz := s.heap.size)
  generalize hAe : va_A [(h, .inr (10, [.int 0, .int 0, .int 0, .int 0, .int 0, .int 0, .int 0, .int 0, .null]))] s.heap.size = A at hD hZ ⊢
  have hA : ∀ q : Nat, s.heap.size ≤ q → A q := fun q h => by rw [← hAe]; exact Or.inr h
  have hS : va_S A s.heap s.heap [] := va_S.rf
  have hl := lv_entry ([.ref h]) (n := 1) (Nat.le_of_ble_eq_true rfl)
  rw [lg_entry_eq]
  generalize (lg_sl ([.ref h]) ++ List.replicate (1 - (lg_sl ([.ref h])).length) Slot.unset).toArray = ls at hl ⊢
  have hl : lv_has ls 1 [(0, .ref h)] := hl
  refine lv_aload_n hx hb dN_init_0 rfl (lv_at hl 0 rfl) ?_
  refine W.objInit hx hb hown (hT _ w826) (hT _ w35) (hT _ w36) rfl (by rw [hml]; exact hl.1) rfl dN_init_1 (Nat.le_of_ble_eq_true rfl) (Nat.le_of_ble_eq_true rfl) ?_
  refine W.eq (g2 := F0 m 4 ls []) rfl ?_
  refine lv_aload_n hx hb dN_init_4 rfl (lv_at hl 0 rfl) ?_
  refine va_new (ci := 4) (fs := [.null, .int 0, .int 0]) (C := R_W) (T := T_W) (N := 3) hx hb hT in_W ty_W ty_W_ok hown (hT _ w827) (hT _ w140) (hT _ w5) hK hP hD hS hA rfl (fun j hj => match j, hj with | 0, _ => rfl | 1, _ => rfl | 2, _ => rfl | _ + 3, hj => absurd hj (by omega)) (Nat.le_of_ble_eq_true rfl) (Nat.le_of_ble_eq_true rfl) dN_init_5 (fun q5 H hP hD hS => ?_)
  have hP : va_P D vwCl [(h, .inr (10, [.int 0, .int 0, .int 0, .int 0, .int 0, .int 0, .int 0, .int 0, .null])), (q5, .inr (4, [.null, .int 0, .int 0]))] _ := hP
  have hD : va_D A [(h, .inr (10, [.int 0, .int 0, .int 0, .int 0, .int 0, .int 0, .int 0, .int 0, .null])), (q5, .inr (4, [.null, .int 0, .int 0]))] := hD
  refine lv_dup hx hb dN_init_8 rfl ?_
  refine lv_bipush (v := 24) hx hb dN_init_9 (by decide) ?_
  refine rw_v (wc := [(q5, .inr (4, [.null, .int 0, .int 0]))]) (wr := [(h, .inr (10, [.int 0, .int 0, .int 0, .int 0, .int 0, .int 0, .int 0, .int 0, .null]))]) hP hD hS hA [1] [0] rfl rfl (by decide) (by decide) (va_runI (As := [.int 24]) (rest := [.ref q5, .ref h]) ⟨hx, hb, hml, hown, hT⟩ (k_WholeX l D cT q5 _) ⟨callB_of 1 hT (tb_gd w143) rfl rfl rfl (hT _ w5) (hT _ w828) hW_init ⟨Nat.le_of_ble_eq_true rfl, Nat.le_of_ble_eq_true rfl⟩, rfl, (hT _ w142)⟩ (RW.preS hZ hS (va_free (wc := [(q5, .inr (4, [.null, .int 0, .int 0]))]) hD hS hA [1] rfl) (hP.sub (ws' := [(q5, .inr (4, [.null, .int 0, .int 0]))]) [1] rfl) hK (hD.sub (ws' := [(q5, .inr (4, [.null, .int 0, .int 0]))]) [1] (by decide) rfl)) rfl rfl hl.1 rfl (lv_room (Nat.le_of_ble_eq_true rfl)) dN_init_11 ⟨Nat.le_of_ble_eq_true rfl, Nat.le_of_ble_eq_true rfl⟩) (fun u9 H locs hpu1 hP hD hS => ?_)
  obtain ⟨nwu1, rfl⟩ : ∃ q9, q9 = u9 := ⟨_, rfl⟩
  have hpu1 : True := hpu1
  have hP : va_P D vwCl [(h, .inr (10, [.int 0, .int 0, .int 0, .int 0, .int 0, .int 0, .int 0, .int 0, .null])), (q5, .inr (4, [.ref nwu1, .int 0, .int 0])), (nwu1, .inl (cT 0, 24, .inl (fun _ => 0)))] _ := hP
  have hD : va_D A [(h, .inr (10, [.int 0, .int 0, .int 0, .int 0, .int 0, .int 0, .int 0, .int 0, .null])), (q5, .inr (4, [.ref nwu1, .int 0, .int 0])), (nwu1, .inl (cT 0, 24, .inl (fun _ => 0)))] := hD
  refine va_putF (D := D) (ci := 10) (v := .ref q5) (ty := .object "ResidualTrees$Whole") (C := R_N) (T := T_N) (N := 9) hx hb hT in_N ty_N ty_N_ok m_N hown hK hP hD hS 0 rfl rfl 8 (by decide) (hT _ w855) (fun _ h9 => h9) rfl hin rfl (by decide +kernel) rfl rfl (Nat.le_of_ble_eq_true rfl) dN_init_14 (fun H locs hP hD hS => ?_)
  have hP : va_P D vwCl [(h, .inr (10, [.int 0, .int 0, .int 0, .int 0, .int 0, .int 0, .int 0, .int 0, .ref q5])), (q5, .inr (4, [.ref nwu1, .int 0, .int 0])), (nwu1, .inl (cT 0, 24, .inl (fun _ => 0)))] _ := hP
  have hD : va_D A [(h, .inr (10, [.int 0, .int 0, .int 0, .int 0, .int 0, .int 0, .int 0, .int 0, .ref q5])), (q5, .inr (4, [.ref nwu1, .int 0, .int 0])), (nwu1, .inl (cT 0, 24, .inl (fun _ => 0)))] := hD
  have hP9 := hP.sub (ws' := [(h, .inr (10, [.int 0, .int 0, .int 0, .int 0, .int 0, .int 0, .int 0, .int 0, .ref q5])), (q5, .inr (4, [.ref nwu1, .int 0, .int 0])), (nwu1, .inl (cT 0, 24, .inl (fun _ => 0)))]) [0, 1, 2] rfl
  have hD9 := hD.sub (ws' := [(h, .inr (10, [.int 0, .int 0, .int 0, .int 0, .int 0, .int 0, .int 0, .int 0, .ref q5])), (q5, .inr (4, [.ref nwu1, .int 0, .int 0])), (nwu1, .inl (cT 0, 24, .inl (fun _ => 0)))]) [0, 1, 2] (by decide) rfl
  refine W.widen (k := 2) (n := 27) (Nat.le_of_ble_eq_true rfl) (Nat.le_of_ble_eq_true rfl) ?_
  exact W.vret hx hb hr (fun t9 ht9 hW9 => ⟨⟨(q5, nwu1), rfl, (show True from trivial), by rw [ht9]; exact hP9, hD9⟩, hS.F ht9⟩) hS.2.2 dN_init_17
set_option maxHeartbeats 4000000 in
set_option maxRecDepth 100000 in
theorem k_treeAtX (l : Launch) (D : va_G) (cT : Nat → ClassId) (cds : List Nat) (ad : Nat → Nat) (gg : Nat → Option va_E) (tE : Nat) (mk : Nat) (kc : Nat) (t : Nat) (k : Nat) (tw : Int32) (tu : Int32) (tl : Int32) (tsc : Int64) (hcd : CD cds) (ht16 : t < 16) (hTc : gg (1000 + t) = some (eTR (ad (1020 + t)) (nI kc) tw tu tl tsc)) (hTm : TMD cT ad gg tE t mk) (hkm : k < mk) : Met l yTr_at WTr_at ({ frames := 3, cells := 0, slots := 0, locals := 64 } : Room) (RO D vwCl [.ref (ad (1000 + t)), .int (nI k)] ([] ++ pg cds ad gg) (TY cT)) (QcReadR (ad (2000 + 32 * t + k))) 0 0 (fun _ => False) := by
  refine Met.ofW (cc := cTr_at) (maxL := 2) (ret := (some (.object "ResidualTrees$Node"))) (by decide) rfl ?_
  intro p e s m args below meth c s₁ B hml hv
  obtain ⟨rfl, hZ, hP, hK⟩ := hv
  have hx := B.exec
  have hb := B.bytes
  have hr := B.returns
  have hts := atoms_spec (ws := WTr_at) B.pre
  have hT : ∀ w ∈ TB, w.before _ s = true := fun w h => hts w (List.mem_cons_of_mem _ h)
  have hown : s.vm.findClass R_Tr = some m.cls := findClass_of_methodNamed B.named
  have hlocks := B.notSynchronized
  have hS : va_S (fun _ => False) s.heap s.heap [] := va_S.rf
  have hl := lv_entry ([.ref (ad (1000 + t)), .int (nI k)]) (n := 2) (Nat.le_of_ble_eq_true rfl)
  rw [lg_entry_eq]
  generalize (lg_sl ([.ref (ad (1000 + t)), .int (nI k)]) ++ List.replicate (2 - (lg_sl ([.ref (ad (1000 + t)), .int (nI k)])).length) Slot.unset).toArray = ls at hl ⊢
  have hl : lv_has ls 2 [(0, .ref (ad (1000 + t))), (1, .int (nI k))] := hl
  obtain ⟨hLQ9, hm9, hNX9, hNN9⟩ := hTm
  obtain ⟨cap9, md9, lf9, l1, l2, l3, l4, l5⟩ := hLQ9.full (by omega)
  obtain ⟨⟨q0, q1, q2, q3, q4, q5, q6, q7, hnd9⟩, z9, hwz9⟩ := hNX9 k (by omega)
  refine lv_aload_n hx hb dTr_at_0 rfl (lv_at hl 0 rfl) ?_
  refine va_get (D := D) (ci := 9) (v := .ref (ad (1020 + t))) (C := R_Tr) (T := T_Tr) (N := 6) hx hb hT in_Tr hown hK (pg_1 (x := 1000 + t) hcd hP (by omega) hTc) 0 rfl rfl 0 (by decide) (hT _ w730) (fun _ h9 => h9) rfl dTr_at_1 ?_
  refine lv_iload_n hx hb dTr_at_4 rfl (lv_at hl 1 rfl) ?_
  refine ro_r (va_Run.run (va_runV (As := [.int (nI k)]) (rest := []) ⟨hx, hb, hml, hown, hT⟩ (k_alGet l D cT (ad (1020 + t)) (ad (1040 + t)) mk md9 cap9 lf9 k (ad (2000 + 32 * t + k)) (by omega) l3 (by omega) (l5 _ (by omega))) ⟨callB_of 1 hT (tb_gd w401) rfl rfl rfl (hT _ w11) (hT _ w426) hAL_get ⟨Nat.le_of_ble_eq_true rfl, Nat.le_of_ble_eq_true rfl⟩, (hT _ w399), (hT _ w400)⟩ (RO.preV (ci := 12) (q0 := 0) hZ hS ((show va_P D vwCl [(ad (1020 + t), .inr (12, [.ref (ad (1040 + t)), .int (nI mk), .int md9])), (ad (1040 + t), .inl (cT 7, cap9, .inr (.inr (.inr (.inr lf9)))))] _ from (pv_c (pg_1 (x := 1020 + t) hcd hP (by omega) l1) (pv_c (pg_1 (x := 1040 + t) hcd hP (by omega) l2) pv_0)))) hK rfl rfl) rfl rfl hl.1 rfl (lv_room (Nat.le_of_ble_eq_true rfl)) dTr_at_5 ⟨Nat.le_of_ble_eq_true rfl, Nat.le_of_ble_eq_true rfl⟩)) ?_
  refine va_castY (C := "ResidualTrees$Node") hx hb hown (hT _ w427) (hZ.1.1 ("ResidualTrees$Node", "ResidualTrees$Node") (List.mem_of_getElem? (i := 3) rfl)) (va_recv (ci := 10) (q0 := 0) hK (pg_1 (x := 2000 + 32 * t + k) hcd hP (by omega) hnd9) rfl rfl) dTr_at_8 ?_
  exact W.aret (v := .ref (ad (2000 + 32 * t + k))) hx hb hr (Or.inl ⟨_, rfl⟩) (Or.inr ⟨_, rfl⟩) (fun t9 ht9 hW9 => ⟨rfl, ht9⟩) (fun q h => nomatch h) dTr_at_11
set_option maxHeartbeats 4000000 in
set_option maxRecDepth 100000 in
theorem k_newLeaf (l : Launch) (D : va_G) (cT : Nat → ClassId) (cds : List Nat) (ad : Nat → Nat) (gg : Nat → Option va_E) (tE : Nat) (mE : Nat) (mk : Nat) (t : Nat) (k : Nat) (tw : Int32) (tu : Int32) (tl : Int32) (tsc : Int64) (rws : Int32) (dd : Int32) (hcd : CD cds) (ht16 : t < 16) (hTc : gg (1000 + t) = some (eTR (ad (1020 + t)) (nI k) tw tu tl tsc)) (hTm : TMD cT ad gg tE t mk) (hkm : k ≤ mk) (hk31 : k < 31) (sz : Nat) : Met l yTr_newLeaf WTr_newLeaf ({ frames := 7, cells := 4 * (max mk (k + 1) - mk), slots := 69 * (max mk (k + 1) - mk), locals := 171 } : Room) (RWE tE mE D vwCl [.ref (ad (1000 + t)), .int rws, .int dd] ([] ++ pg cds ad gg) (TY cT) sz) (va_Qi (fun (r9 : Int32) (u9 : (Nat → Nat) × (Nat → Option va_E)) => r9 = nI k ∧ (∀ z8, z8 ≠ 1000 + t → z8 ≠ 1020 + t → z8 ≠ 1040 + t → z8 ≠ 2000 + 32 * t + k → z8 ≠ 3000 + 32 * t + k → z8 ≠ 4000 + 32 * t + k → u9.2 z8 = gg z8) ∧ (∀ z8, z8 ≠ 1040 + t → z8 ≠ 2000 + 32 * t + k → z8 ≠ 3000 + 32 * t + k → z8 ≠ 4000 + 32 * t + k → u9.1 z8 = ad z8) ∧ u9.2 (1000 + t) = some (eTR (u9.1 (1020 + t)) (nI (k + 1)) tw tu tl tsc) ∧ TMD cT u9.1 u9.2 tE t (max mk (k + 1)) ∧ u9.2 (2000 + 32 * t + k) = some (eND (-1) 0 0 0 (-1) (-1) rws dd (u9.1 (3000 + 32 * t + k)))) (BW D vwCl (va_A ([] ++ pg cds ad gg) sz) (fun u9 : (Nat → Nat) × (Nat → Option va_E) => ([] ++ pg cds u9.1 u9.2))) (va_A ([] ++ pg cds ad gg) sz)) (4 * (max mk (k + 1) - mk)) (69 * (max mk (k + 1) - mk)) (va_A ([] ++ pg cds ad gg) sz) := by
  refine Met.ofW (cc := cTr_newLeaf) (maxL := 4) (ret := (some .int)) (by decide) rfl ?_
  intro p e s m args below meth c s₁ B hml hv
  obtain ⟨rfl, ⟨hsz, hZ, hP, hK, hD0⟩, hE0⟩ := hv
  have hx := B.exec
  have hb := B.bytes
  have hr := B.returns
  have hts := atoms_spec (ws := WTr_newLeaf) B.pre
  have hT : ∀ w ∈ TB, w.before _ s = true := fun w h => hts w (List.mem_cons_of_mem _ h)
  have hown : s.vm.findClass R_Tr = some m.cls := findClass_of_methodNamed B.named
  have hlocks := B.notSynchronized
  subst hsz
  have hD := hD0.self (sz := s.heap.size)
  generalize hAe : va_A ([] ++ pg cds ad gg) s.heap.size = A at hD hZ hE0 ⊢
  have hA : ∀ q : Nat, s.heap.size ≤ q → A q := fun q h => by rw [← hAe]; exact Or.inr h
  have hS : va_S A s.heap s.heap [] := va_S.rf
  have hl := lv_entry ([.ref (ad (1000 + t)), .int rws, .int dd]) (n := 4) (Nat.le_of_ble_eq_true rfl)
  rw [lg_entry_eq]
  generalize (lg_sl ([.ref (ad (1000 + t)), .int rws, .int dd]) ++ List.replicate (4 - (lg_sl ([.ref (ad (1000 + t)), .int rws, .int dd])).length) Slot.unset).toArray = ls at hl ⊢
  have hl : lv_has ls 4 [(0, .ref (ad (1000 + t))), (1, .int rws), (2, .int dd)] := hl
  obtain ⟨hLQ0, hm0, hNX0, hNN0⟩ := id hTm
  obtain ⟨la0, md0, hli⟩ := hLQ0.li
  refine lv_aload_n hx hb dTr_newLeaf_0 rfl (lv_at hl 0 rfl) ?_
  refine va_get (D := D) (ci := 9) (v := .int (nI k)) (C := R_Tr) (T := T_Tr) (N := 6) hx hb hT in_Tr hown hK (pg_1 (x := 1000 + t) hcd hP (by omega) hTc) 0 rfl rfl 1 (by decide) (hT _ w731) (fun _ h9 => h9) rfl dTr_newLeaf_1 ?_
  refine lv_aload_n hx hb dTr_newLeaf_4 rfl (lv_at hl 0 rfl) ?_
  refine va_get (D := D) (ci := 9) (v := .ref (ad (1020 + t))) (C := R_Tr) (T := T_Tr) (N := 6) hx hb hT in_Tr hown hK (pg_1 (x := 1000 + t) hcd hP (by omega) hTc) 0 rfl rfl 0 (by decide) (hT _ w730) (fun _ h9 => h9) rfl dTr_newLeaf_5 ?_
  refine ro_i (va_Run.run (va_runV (As := []) (rest := [.int (nI k)]) ⟨hx, hb, hml, hown, hT⟩ (k_alSize l D cT (ad (1020 + t)) la0 mk md0) ⟨callB_of 0 hT (tb_gd w722) rfl rfl rfl (hT _ w11) (hT _ w821) hAL_size ⟨Nat.le_of_ble_eq_true rfl, Nat.le_of_ble_eq_true rfl⟩, (hT _ w720), (hT _ w721)⟩ (RO.preV (ci := 12) (q0 := 0) hZ hS ((show va_P D vwCl [(ad (1020 + t), .inr (12, [.ref la0, .int (nI mk), .int md0]))] _ from (pv_c (pg_1 (x := 1020 + t) hcd hP (by omega) hli) pv_0))) hK rfl rfl) rfl rfl hl.1 rfl (lv_room (Nat.le_of_ble_eq_true rfl)) dTr_newLeaf_8 ⟨(by show 0 + 0 ≤ (4 * (max mk (k + 1) - mk)); omega), (by show 0 + 0 ≤ (69 * (max mk (k + 1) - mk)); omega)⟩)) ?_
  refine lv_icmp_ne (tgt := 29) hx hb dTr_newLeaf_11 rfl (fun h1 => ?_) (fun h1 => ?_)
  · have gh1 : ¬ (k = mk) := fun q => h1 (congrArg nI q)
    have hTm2 := hTm
    have hTc2 := hTc
    obtain ⟨hLQ9, hm9, hNX9, hNN9⟩ := id hTm2
    obtain ⟨cap9, md9, lf9, l1, l2, l3, l4, l5⟩ := hLQ9.full (by omega)
    obtain ⟨⟨q0, q1, q2, q3, q4, q5, q6, q7, hnd9⟩, z9, hwz9⟩ := hNX9 k (by omega)
    refine lv_aload_n hx hb dTr_newLeaf_29 rfl (lv_at hl 0 rfl) ?_
    refine va_get (D := D) (ci := 9) (v := .ref (ad (1020 + t))) (C := R_Tr) (T := T_Tr) (N := 6) hx hb hT in_Tr hown hK (pg_1 (x := 1000 + t) hcd hP (by omega) hTc2) 0 rfl rfl 0 (by decide) (hT _ w730) (fun _ h9 => h9) rfl dTr_newLeaf_30 ?_
    refine lv_aload_n hx hb dTr_newLeaf_33 rfl (lv_at hl 0 rfl) ?_
    refine va_get (D := D) (ci := 9) (v := .int (nI k)) (C := R_Tr) (T := T_Tr) (N := 6) hx hb hT in_Tr hown hK (pg_1 (x := 1000 + t) hcd hP (by omega) hTc2) 0 rfl rfl 1 (by decide) (hT _ w731) (fun _ h9 => h9) rfl dTr_newLeaf_34 ?_
    refine ro_r (va_Run.run (va_runV (As := [.int (nI k)]) (rest := []) ⟨hx, hb, hml, hown, hT⟩ (k_alGet l D cT (ad (1020 + t)) (ad (1040 + t)) mk md9 cap9 lf9 k (ad (2000 + 32 * t + k)) (by omega) l3 (by omega) (l5 _ (by omega))) ⟨callB_of 1 hT (tb_gd w401) rfl rfl rfl (hT _ w11) (hT _ w426) hAL_get ⟨Nat.le_of_ble_eq_true rfl, Nat.le_of_ble_eq_true rfl⟩, (hT _ w399), (hT _ w400)⟩ (RO.preV (ci := 12) (q0 := 0) hZ hS ((show va_P D vwCl [(ad (1020 + t), .inr (12, [.ref (ad (1040 + t)), .int (nI mk), .int md9])), (ad (1040 + t), .inl (cT 7, cap9, .inr (.inr (.inr (.inr lf9)))))] _ from (pv_c (pg_1 (x := 1020 + t) hcd hP (by omega) l1) (pv_c (pg_1 (x := 1040 + t) hcd hP (by omega) l2) pv_0)))) hK rfl rfl) rfl rfl hl.1 rfl (lv_room (Nat.le_of_ble_eq_true rfl)) dTr_newLeaf_37 ⟨(by show 0 + 0 ≤ (4 * (max mk (k + 1) - mk)); omega), (by show 0 + 0 ≤ (69 * (max mk (k + 1) - mk)); omega)⟩)) ?_
    refine va_castY (C := "ResidualTrees$Node") hx hb hown (hT _ w427) (hZ.1.1 ("ResidualTrees$Node", "ResidualTrees$Node") (List.mem_of_getElem? (i := 3) rfl)) (va_recv (ci := 10) (q0 := 0) hK (pg_1 (x := 2000 + 32 * t + k) hcd hP (by omega) hnd9) rfl rfl) dTr_newLeaf_40 ?_
    refine lv_astore_n hx hb dTr_newLeaf_43 rfl hl (by decide) rfl (fun ls hl => ?_)
    have hl : lv_has ls 4 [(3, .ref (ad (2000 + 32 * t + k))), (0, .ref (ad (1000 + t))), (1, .int rws), (2, .int dd)] := hl
    have hB9 : QI gg [(2000 + 32 * t + k, .inr (10, [.int q0, .int q1, .int q2, .int q3, .int q4, .int q5, .int q6, .int q7, .ref (ad (3000 + 32 * t + k))]))] := (qi_c (by omega) hnd9 qi_0)
    have hN9 := (show NDc [2000 + 32 * t + k] from (nd_c na_0 nd_0))
    have hP := bo_P (wc := [(2000 + 32 * t + k, .inr (10, [.int q0, .int q1, .int q2, .int q3, .int q4, .int q5, .int q6, .int q7, .ref (ad (3000 + 32 * t + k))]))]) (X := []) hcd hN9 hB9 hP
    have hD := bo_D (wc := [(2000 + 32 * t + k, .inr (10, [.int q0, .int q1, .int q2, .int q3, .int q4, .int q5, .int q6, .int q7, .ref (ad (3000 + 32 * t + k))]))]) (X := []) hcd hN9 hB9 hD
    have hP : va_P D vwCl ([(ad (2000 + 32 * t + k), .inr (10, [.int q0, .int q1, .int q2, .int q3, .int q4, .int q5, .int q6, .int q7, .ref (ad (3000 + 32 * t + k))]))] ++ pg cds ad (upo gg [2000 + 32 * t + k])) _ := hP
    have hD : va_D A ([(ad (2000 + 32 * t + k), .inr (10, [.int q0, .int q1, .int q2, .int q3, .int q4, .int q5, .int q6, .int q7, .ref (ad (3000 + 32 * t + k))]))] ++ pg cds ad (upo gg [2000 + 32 * t + k])) := hD
    refine lv_aload_n hx hb dTr_newLeaf_44 rfl (lv_at hl 0 rfl) ?_
    refine hy_vQ (X := [(ad (2000 + 32 * t + k), .inr (10, [.int q0, .int q1, .int q2, .int q3, .int q4, .int q5, .int q6, .int q7, .ref (ad (3000 + 32 * t + k))]))]) (pl := pg cds ad (upo gg [2000 + 32 * t + k])) (cx := [(ad (2000 + 32 * t + k), .inr (10, [.int q0, .int q1, .int q2, .int q3, .int q4, .int q5, .int q6, .int q7, .ref (ad (3000 + 32 * t + k))]))]) (wr := []) hP hD hS hA [0] [] rfl rfl (by decide) (by decide) (va_runV (As := []) (rest := []) ⟨hx, hb, hml, hown, hT⟩ (k_becomeLeaf l D cT (ad (2000 + 32 * t + k)) (ad (3000 + 32 * t + k)) q0 q1 q2 q3 q4 q5 q6 q7 _) ⟨callB_of 0 hT (tb_gd w882) rfl rfl rfl (hT _ w27) (hT _ w879) hN_becomeLeaf ⟨Nat.le_of_ble_eq_true rfl, Nat.le_of_ble_eq_true rfl⟩, (hT _ w880), (hT _ w881)⟩ (RW.preV (ci := 10) (q0 := 0) hZ hS (hy_free (cx := [(ad (2000 + 32 * t + k), .inr (10, [.int q0, .int q1, .int q2, .int q3, .int q4, .int q5, .int q6, .int q7, .ref (ad (3000 + 32 * t + k))]))]) hD hS hA [0] rfl) (hP.sub (ws' := [(ad (2000 + 32 * t + k), .inr (10, [.int q0, .int q1, .int q2, .int q3, .int q4, .int q5, .int q6, .int q7, .ref (ad (3000 + 32 * t + k))]))]) [0] rfl) hK (hD.sub (ws' := [(ad (2000 + 32 * t + k), .inr (10, [.int q0, .int q1, .int q2, .int q3, .int q4, .int q5, .int q6, .int q7, .ref (ad (3000 + 32 * t + k))]))]) [0] (by decide) rfl) rfl rfl) rfl rfl hl.1 rfl (lv_room (Nat.le_of_ble_eq_true rfl)) dTr_newLeaf_45 ⟨(by show 0 + 0 ≤ (4 * (max mk (k + 1) - mk)); omega), (by show 0 + 0 ≤ (69 * (max mk (k + 1) - mk)); omega)⟩) (fun u9 H locs hpu2 hP hD hS => ?_)
    have hpu2 : True := hpu2
    have hP : va_P D vwCl ([(ad (2000 + 32 * t + k), .inr (10, [.int (-1), .int 0, .int 0, .int 0, .int (-1), .int (-1), .int q6, .int q7, .ref (ad (3000 + 32 * t + k))]))] ++ pg cds ad (upo gg [2000 + 32 * t + k])) _ := hP
    have hD : va_D A ([(ad (2000 + 32 * t + k), .inr (10, [.int (-1), .int 0, .int 0, .int 0, .int (-1), .int (-1), .int q6, .int q7, .ref (ad (3000 + 32 * t + k))]))] ++ pg cds ad (upo gg [2000 + 32 * t + k])) := hD
    refine lv_aload_n hx hb dTr_newLeaf_48 rfl (lv_at hl 0 rfl) ?_
    refine lv_iload_n hx hb dTr_newLeaf_49 rfl (lv_at hl 2 rfl) ?_
    refine va_put (D := D) (ci := 10) (v := .int rws) (ty := .int) (C := R_N) (T := T_N) (N := 9) hx hb hT in_N ty_N ty_N_ok m_N hown hK hP hD hS 0 rfl rfl 6 (by decide) (hT _ w850) (fun _ h9 => h9) rfl (by decide +kernel) rfl rfl (Nat.le_of_ble_eq_true rfl) dTr_newLeaf_50 (fun H locs hP hD hS => ?_)
    have hP : va_P D vwCl ([(ad (2000 + 32 * t + k), .inr (10, [.int (-1), .int 0, .int 0, .int 0, .int (-1), .int (-1), .int rws, .int q7, .ref (ad (3000 + 32 * t + k))]))] ++ pg cds ad (upo gg [2000 + 32 * t + k])) _ := hP
    have hD : va_D A ([(ad (2000 + 32 * t + k), .inr (10, [.int (-1), .int 0, .int 0, .int 0, .int (-1), .int (-1), .int rws, .int q7, .ref (ad (3000 + 32 * t + k))]))] ++ pg cds ad (upo gg [2000 + 32 * t + k])) := hD
    refine lv_aload_n hx hb dTr_newLeaf_53 rfl (lv_at hl 0 rfl) ?_
    refine lv_iload_n hx hb dTr_newLeaf_54 rfl (lv_at hl 3 rfl) ?_
    refine va_put (D := D) (ci := 10) (v := .int dd) (ty := .int) (C := R_N) (T := T_N) (N := 9) hx hb hT in_N ty_N ty_N_ok m_N hown hK hP hD hS 0 rfl rfl 7 (by decide) (hT _ w853) (fun _ h9 => h9) rfl (by decide +kernel) rfl rfl (Nat.le_of_ble_eq_true rfl) dTr_newLeaf_55 (fun H locs hP hD hS => ?_)
    have hP : va_P D vwCl ([(ad (2000 + 32 * t + k), .inr (10, [.int (-1), .int 0, .int 0, .int 0, .int (-1), .int (-1), .int rws, .int dd, .ref (ad (3000 + 32 * t + k))]))] ++ pg cds ad (upo gg [2000 + 32 * t + k])) _ := hP
    have hD : va_D A ([(ad (2000 + 32 * t + k), .inr (10, [.int (-1), .int 0, .int 0, .int 0, .int (-1), .int (-1), .int rws, .int dd, .ref (ad (3000 + 32 * t + k))]))] ++ pg cds ad (upo gg [2000 + 32 * t + k])) := hD
    have hN9 := (show NDc [2000 + 32 * t + k] from (nd_c na_0 nd_0))
    have hP := gb_P (w9 := [(2000 + 32 * t + k, .inr (10, [.int (-1), .int 0, .int 0, .int 0, .int (-1), .int (-1), .int rws, .int dd, .ref (ad (3000 + 32 * t + k))]))]) (X := []) (g := gg) hcd hN9 (show QB [(2000 + 32 * t + k, .inr (10, [.int (-1), .int 0, .int 0, .int 0, .int (-1), .int (-1), .int rws, .int dd, .ref (ad (3000 + 32 * t + k))]))] from (qb_c (by omega) qb_0)) (hP.part (cx := [(ad (2000 + 32 * t + k), .inr (10, [.int (-1), .int 0, .int 0, .int 0, .int (-1), .int (-1), .int rws, .int dd, .ref (ad (3000 + 32 * t + k))]))]) [0] rfl)
    have hD := gb_D (w9 := [(2000 + 32 * t + k, .inr (10, [.int (-1), .int 0, .int 0, .int 0, .int (-1), .int (-1), .int rws, .int dd, .ref (ad (3000 + 32 * t + k))]))]) (X := []) (g := gg) hcd hN9 (show QB [(2000 + 32 * t + k, .inr (10, [.int (-1), .int 0, .int 0, .int 0, .int (-1), .int (-1), .int rws, .int dd, .ref (ad (3000 + 32 * t + k))]))] from (qb_c (by omega) qb_0)) (hD.part (cx := [(ad (2000 + 32 * t + k), .inr (10, [.int (-1), .int 0, .int 0, .int 0, .int (-1), .int (-1), .int rws, .int dd, .ref (ad (3000 + 32 * t + k))]))]) [0] (by decide) rfl)
    obtain ⟨g3, hg3⟩ : ∃ q9, q9 = ups gg [(2000 + 32 * t + k, .inr (10, [.int (-1), .int 0, .int 0, .int 0, .int (-1), .int (-1), .int rws, .int dd, .ref (ad (3000 + 32 * t + k))]))] := ⟨_, rfl⟩
    rw [← hg3] at hP hD
    have hP : va_P D vwCl ([] ++ pg cds ad g3) _ := hP
    have hD : va_D A ([] ++ pg cds ad g3) := hD
    have fg3 : ∀ z8, z8 ≠ 2000 + 32 * t + k → g3 z8 = gg z8 := fun z8 z1 => by rw [hg3]; exact ups_k (kp_n z1 kp_0)
    have g3_0 : g3 (2000 + 32 * t + k) = some (.inr (10, [.int (-1), .int 0, .int 0, .int 0, .int (-1), .int (-1), .int rws, .int dd, .ref (ad (3000 + 32 * t + k))])) := by rw [hg3]; exact ups_1
    refine lv_aload_n hx hb dTr_newLeaf_58 rfl (lv_at hl 1 rfl) ?_
    refine lv_dup hx hb dTr_newLeaf_59 rfl ?_
    refine va_get (D := D) (ci := 9) (v := .int (nI k)) (C := R_Tr) (T := T_Tr) (N := 6) hx hb hT in_Tr hown hK (pg_1 (x := 1000 + t) hcd hP (by omega) ((fg3 _ (by omega)).trans hTc2)) 0 rfl rfl 1 (by decide) (hT _ w731) (fun _ h9 => h9) rfl dTr_newLeaf_60 ?_
    refine lv_dup_x1 hx hb dTr_newLeaf_63 rfl rfl ?_
    refine lv_iconst (v := 1) hx hb dTr_newLeaf_64 (by decide) ?_
    refine lv_iadd hx hb dTr_newLeaf_65 ?_
    refine lv_topi (fun y9 e9 => ?_)
    cases (show y9 = nI (k + 1) from e9.trans (nI_add k 1))
    have hB9 : QI g3 [(1000 + t, .inr (9, [.ref (ad (1020 + t)), .int (nI k), .int tw, .int tu, .int tl, .long tsc]))] := (qi_c (by omega) ((fg3 _ (by omega)).trans hTc2) qi_0)
    have hN9 := (show NDc [1000 + t] from (nd_c na_0 nd_0))
    have hP := bo_P (wc := [(1000 + t, .inr (9, [.ref (ad (1020 + t)), .int (nI k), .int tw, .int tu, .int tl, .long tsc]))]) (X := []) hcd hN9 hB9 hP
    have hD := bo_D (wc := [(1000 + t, .inr (9, [.ref (ad (1020 + t)), .int (nI k), .int tw, .int tu, .int tl, .long tsc]))]) (X := []) hcd hN9 hB9 hD
    have hP : va_P D vwCl ([(ad (1000 + t), .inr (9, [.ref (ad (1020 + t)), .int (nI k), .int tw, .int tu, .int tl, .long tsc]))] ++ pg cds ad (upo g3 [1000 + t])) _ := hP
    have hD : va_D A ([(ad (1000 + t), .inr (9, [.ref (ad (1020 + t)), .int (nI k), .int tw, .int tu, .int tl, .long tsc]))] ++ pg cds ad (upo g3 [1000 + t])) := hD
    refine va_put (D := D) (ci := 9) (v := .int (nI (k + 1))) (ty := .int) (C := R_Tr) (T := T_Tr) (N := 6) hx hb hT in_Tr ty_Tr ty_Tr_ok m_Tr hown hK hP hD hS 0 rfl rfl 1 (by decide) (hT _ w731) (fun _ h9 => h9) rfl (by decide +kernel) rfl rfl (Nat.le_of_ble_eq_true rfl) dTr_newLeaf_66 (fun H locs hP hD hS => ?_)
    have hP : va_P D vwCl ([(ad (1000 + t), .inr (9, [.ref (ad (1020 + t)), .int (nI (k + 1)), .int tw, .int tu, .int tl, .long tsc]))] ++ pg cds ad (upo g3 [1000 + t])) _ := hP
    have hD : va_D A ([(ad (1000 + t), .inr (9, [.ref (ad (1020 + t)), .int (nI (k + 1)), .int tw, .int tu, .int tl, .long tsc]))] ++ pg cds ad (upo g3 [1000 + t])) := hD
    have hN9 := (show NDc [1000 + t] from (nd_c na_0 nd_0))
    have hP := gb_P (w9 := [(1000 + t, .inr (9, [.ref (ad (1020 + t)), .int (nI (k + 1)), .int tw, .int tu, .int tl, .long tsc]))]) (X := []) (g := g3) hcd hN9 (show QB [(1000 + t, .inr (9, [.ref (ad (1020 + t)), .int (nI (k + 1)), .int tw, .int tu, .int tl, .long tsc]))] from (qb_c (by omega) qb_0)) (hP.part (cx := [(ad (1000 + t), .inr (9, [.ref (ad (1020 + t)), .int (nI (k + 1)), .int tw, .int tu, .int tl, .long tsc]))]) [0] rfl)
    have hD := gb_D (w9 := [(1000 + t, .inr (9, [.ref (ad (1020 + t)), .int (nI (k + 1)), .int tw, .int tu, .int tl, .long tsc]))]) (X := []) (g := g3) hcd hN9 (show QB [(1000 + t, .inr (9, [.ref (ad (1020 + t)), .int (nI (k + 1)), .int tw, .int tu, .int tl, .long tsc]))] from (qb_c (by omega) qb_0)) (hD.part (cx := [(ad (1000 + t), .inr (9, [.ref (ad (1020 + t)), .int (nI (k + 1)), .int tw, .int tu, .int tl, .long tsc]))]) [0] (by decide) rfl)
    obtain ⟨g4, hg4⟩ : ∃ q9, q9 = ups g3 [(1000 + t, .inr (9, [.ref (ad (1020 + t)), .int (nI (k + 1)), .int tw, .int tu, .int tl, .long tsc]))] := ⟨_, rfl⟩
    rw [← hg4] at hP hD
    have hP : va_P D vwCl ([] ++ pg cds ad g4) _ := hP
    have hD : va_D A ([] ++ pg cds ad g4) := hD
    have fg4 : ∀ z8, z8 ≠ 1000 + t → g4 z8 = g3 z8 := fun z8 z1 => by rw [hg4]; exact ups_k (kp_n z1 kp_0)
    have g4_0 : g4 (1000 + t) = some (.inr (9, [.ref (ad (1020 + t)), .int (nI (k + 1)), .int tw, .int tu, .int tl, .long tsc])) := by rw [hg4]; exact ups_1
    have hP9 : va_P D vwCl ([] ++ pg cds ad g4) _ := hP.part (cx := []) [] rfl
    have hD9 : va_D A ([] ++ pg cds ad g4) := hD.part (cx := []) [] (by decide) rfl
    refine W.widen (k := 4 * (max mk (k + 1) - mk)) (n := 69 * (max mk (k + 1) - mk)) ((by show 0 ≤ 4 * (max mk (k + 1) - mk); omega)) ((by show 0 ≤ 69 * (max mk (k + 1) - mk); omega)) ?_
    exact W.iret (v := nI k) hx hb hr (fun t9 ht9 hW9 => ⟨⟨nI k, (ad, g4), rfl, (show (nI k) = nI k ∧ (∀ z8, z8 ≠ 1000 + t → z8 ≠ 1020 + t → z8 ≠ 1040 + t → z8 ≠ 2000 + 32 * t + k → z8 ≠ 3000 + 32 * t + k → z8 ≠ 4000 + 32 * t + k → g4 z8 = gg z8) ∧ (∀ z8, z8 ≠ 1040 + t → z8 ≠ 2000 + 32 * t + k → z8 ≠ 3000 + 32 * t + k → z8 ≠ 4000 + 32 * t + k → ad z8 = ad z8) ∧ g4 (1000 + t) = some (eTR (ad (1020 + t)) (nI (k + 1)) tw tu tl tsc) ∧ TMD cT ad g4 tE t (max mk (k + 1)) ∧ g4 (2000 + 32 * t + k) = some (eND (-1) 0 0 0 (-1) (-1) rws dd (ad (3000 + 32 * t + k))) from ⟨rfl, (fun z8 n1 n2 n3 n4 n5 n6 => (fg4 z8 n1).trans (fg3 z8 n4)), (fun _ _ _ _ _ => rfl), g4_0, (by rw [show max mk (k + 1) = mk by omega]; exact tmd_nd ht16 hTm2 (k := k) (by omega) (fun z8 n1 n2 => (fg4 z8 n1).trans (fg3 z8 n2)) ((fg4 _ (by omega)).trans g3_0)), (fg4 _ (by omega)).trans g3_0⟩), by rw [ht9]; exact hP9, hD9⟩, hS.F ht9⟩) hS.2.2 dTr_newLeaf_69
  · have gh1 : k = mk := (nI_eq (a := k) (b := mk) (by omega) (by omega)).mp h1
    refine lv_aload_n hx hb dTr_newLeaf_14 rfl (lv_at hl 0 rfl) ?_
    refine va_get (D := D) (ci := 9) (v := .ref (ad (1020 + t))) (C := R_Tr) (T := T_Tr) (N := 6) hx hb hT in_Tr hown hK (pg_1 (x := 1000 + t) hcd hP (by omega) hTc) 0 rfl rfl 0 (by decide) (hT _ w730) (fun _ h9 => h9) rfl dTr_newLeaf_15 ?_
    refine va_new (ci := 10) (fs := [.int 0, .int 0, .int 0, .int 0, .int 0, .int 0, .int 0, .int 0, .null]) (C := R_N) (T := T_N) (N := 9) hx hb hT in_N ty_N ty_N_ok hown (hT _ w427) (hT _ w822) (hT _ w27) hK hP hD hS hA rfl (fun j hj => match j, hj with | 0, _ => rfl | 1, _ => rfl | 2, _ => rfl | 3, _ => rfl | 4, _ => rfl | 5, _ => rfl | 6, _ => rfl | 7, _ => rfl | 8, _ => rfl | _ + 9, hj => absurd hj (by omega)) ((by show 0 + 1 ≤ (4 * (max mk (k + 1) - mk)); omega)) ((by show 0 + 9 ≤ (69 * (max mk (k + 1) - mk)); omega)) dTr_newLeaf_18 (fun q18 H hP hD hS => ?_)
    have hP := hy_push hP
    have hD := hy_pushD hD
    have hP : va_P D vwCl ([(q18, .inr (10, [.int 0, .int 0, .int 0, .int 0, .int 0, .int 0, .int 0, .int 0, .null]))] ++ pg cds ad gg) _ := hP
    have hD : va_D A ([(q18, .inr (10, [.int 0, .int 0, .int 0, .int 0, .int 0, .int 0, .int 0, .int 0, .null]))] ++ pg cds ad gg) := hD
    refine lv_dup hx hb dTr_newLeaf_21 rfl ?_
    refine hy_vQ (X := [(q18, .inr (10, [.int 0, .int 0, .int 0, .int 0, .int 0, .int 0, .int 0, .int 0, .null]))]) (pl := pg cds ad gg) (cx := [(q18, .inr (10, [.int 0, .int 0, .int 0, .int 0, .int 0, .int 0, .int 0, .int 0, .null]))]) (wr := []) hP hD hS hA [0] [] rfl rfl (by decide) (by decide) (va_runIN (As := []) (rest := [.ref q18, .ref (ad (1020 + t))]) ⟨hx, hb, hml, hown, hT⟩ (k_NodeX l D cT q18 _) ⟨va_cnB 0 hT (tb_gd w825) rfl rfl rfl (hZ.1.2.1 ("ResidualTrees$Tree", 32, ⟨"ResidualTrees$Node", "<init>", "()V"⟩, "ResidualTrees") (List.mem_of_getElem? (i := 12) rfl)) (hT _ w27) hN_init ⟨Nat.le_of_ble_eq_true rfl, Nat.le_of_ble_eq_true rfl⟩, rfl, (hT _ w824)⟩ (RW.preS hZ hS (hy_free (cx := [(q18, .inr (10, [.int 0, .int 0, .int 0, .int 0, .int 0, .int 0, .int 0, .int 0, .null]))]) hD hS hA [0] rfl) (hP.sub (ws' := [(q18, .inr (10, [.int 0, .int 0, .int 0, .int 0, .int 0, .int 0, .int 0, .int 0, .null]))]) [0] rfl) hK (hD.sub (ws' := [(q18, .inr (10, [.int 0, .int 0, .int 0, .int 0, .int 0, .int 0, .int 0, .int 0, .null]))]) [0] (by decide) rfl)) rfl rfl hl.1 rfl (lv_room (Nat.le_of_ble_eq_true rfl)) dTr_newLeaf_22 ⟨(by show 1 + 2 ≤ (4 * (max mk (k + 1) - mk)); omega), (by show 9 + 27 ≤ (69 * (max mk (k + 1) - mk)); omega)⟩) (fun u9 H locs hpu3 hP hD hS => ?_)
    obtain ⟨nsu3, nwu3⟩ := u9
    have hpu3 : True := hpu3
    have hP : va_P D vwCl ([(q18, .inr (10, [.int 0, .int 0, .int 0, .int 0, .int 0, .int 0, .int 0, .int 0, .ref nsu3])), (nsu3, .inr (4, [.ref nwu3, .int 0, .int 0])), (nwu3, .inl (cT 0, 24, .inl (fun _ => 0)))] ++ pg cds ad gg) _ := hP
    have hD : va_D A ([(q18, .inr (10, [.int 0, .int 0, .int 0, .int 0, .int 0, .int 0, .int 0, .int 0, .ref nsu3])), (nsu3, .inr (4, [.ref nwu3, .int 0, .int 0])), (nwu3, .inl (cT 0, 24, .inl (fun _ => 0)))] ++ pg cds ad gg) := hD
    refine hy_iP (X := [(q18, .inr (10, [.int 0, .int 0, .int 0, .int 0, .int 0, .int 0, .int 0, .int 0, .ref nsu3])), (nsu3, .inr (4, [.ref nwu3, .int 0, .int 0])), (nwu3, .inl (cT 0, 24, .inl (fun _ => 0)))]) (pl := pg cds ad gg) (cx := [(q18, .inr (10, [.int 0, .int 0, .int 0, .int 0, .int 0, .int 0, .int 0, .int 0, .ref nsu3]))]) (wr := [(nsu3, .inr (4, [.ref nwu3, .int 0, .int 0])), (nwu3, .inl (cT 0, 24, .inl (fun _ => 0)))]) hP hD hS hA [0] [1, 2] rfl rfl (by decide) (by decide) (va_runV (As := [.ref q18]) (rest := []) ⟨hx, hb, hml, hown, hT⟩ (k_alAddPN l D cT cds ad gg tE mE (1020 + t) (1040 + t) (2000 + 32 * t) mk q18 0 0 0 0 0 0 0 0 nsu3 hcd (by omega) (by omega) hLQ0 (fun k8 hk8 => (by obtain ⟨⟨q0, q1, q2, q3, q4, q5, q6, q7, e9⟩, _⟩ := hNX0 k8 hk8; exact ⟨_, by omega, e9⟩)) _) ⟨callB_of 1 hT (tb_gd w757) rfl rfl rfl (hT _ w11) (hT _ w878) hAL_add ⟨Nat.le_of_ble_eq_true rfl, Nat.le_of_ble_eq_true rfl⟩, (hT _ w755), (hT _ w756)⟩ (RWE.preW (ci := 12) (q0 := 0) hE0 hZ hS (va_freeP (cx := [(q18, .inr (10, [.int 0, .int 0, .int 0, .int 0, .int 0, .int 0, .int 0, .int 0, .ref nsu3]))]) hD hS hA [0] rfl) (hP.part (cx := [(q18, .inr (10, [.int 0, .int 0, .int 0, .int 0, .int 0, .int 0, .int 0, .int 0, .ref nsu3]))]) [0] rfl) hK (hD.part (cx := [(q18, .inr (10, [.int 0, .int 0, .int 0, .int 0, .int 0, .int 0, .int 0, .int 0, .ref nsu3]))]) [0] (by decide) rfl) (pg_1 (x := 1020 + t) hcd hP (by omega) hli) rfl rfl) rfl rfl hl.1 rfl (lv_room (Nat.le_of_ble_eq_true rfl)) dTr_newLeaf_25 ⟨(by show 3 + 1 ≤ (4 * (max mk (k + 1) - mk)); omega), (by show 36 + 33 ≤ (69 * (max mk (k + 1) - mk)); omega)⟩) (fun ru4 u9 H locs hpu4 hP hD hS => ?_)
    obtain ⟨ad7u4, gg7u4⟩ := u9
    have hpu4 : ru4 = 1 ∧ (∀ z8, z8 ≠ (1020 + t) → z8 ≠ (1040 + t) → gg7u4 z8 = gg z8) ∧ (∀ z8, z8 ≠ (1040 + t) → ad7u4 z8 = ad z8) ∧ LQv cT ad ad7u4 gg7u4 (1020 + t) (1040 + t) (2000 + 32 * t) mk q18 := hpu4
    have hP : va_P D vwCl ([(nsu3, .inr (4, [.ref nwu3, .int 0, .int 0])), (nwu3, .inl (cT 0, 24, .inl (fun _ => 0))), (q18, .inr (10, [.int 0, .int 0, .int 0, .int 0, .int 0, .int 0, .int 0, .int 0, .ref nsu3]))] ++ pg cds ad7u4 gg7u4) _ := hP
    have hD : va_D A ([(nsu3, .inr (4, [.ref nwu3, .int 0, .int 0])), (nwu3, .inl (cT 0, 24, .inl (fun _ => 0))), (q18, .inr (10, [.int 0, .int 0, .int 0, .int 0, .int 0, .int 0, .int 0, .int 0, .ref nsu3]))] ++ pg cds ad7u4 gg7u4) := hD
    obtain ⟨hr1, fr1, fa1, hv1⟩ := hpu4
    have hl : lv_has ls 4 [(0, .ref (ad7u4 (1000 + t))), (1, .int rws), (2, .int dd)] := by rw [fa1 (1000 + t) (by omega)]; exact hl
    refine lv_pop hx hb dTr_newLeaf_28 rfl ?_
    obtain ⟨ad2, had2⟩ : ∃ f9 : Nat → Nat, f9 = va_up (va_up (va_up ad7u4 (2000 + 32 * t + mk) q18) (3000 + 32 * t + mk) nsu3) (4000 + 32 * t + mk) nwu3 := ⟨_, rfl⟩
    have ead2_0 : ad2 (2000 + 32 * t + mk) = q18 := by rw [had2]; exact (va_up_ne _ _ (by omega)).trans ((va_up_ne _ _ (by omega)).trans (va_up_self _ _ _))
    have ead2_1 : ad2 (3000 + 32 * t + mk) = nsu3 := by rw [had2]; exact (va_up_ne _ _ (by omega)).trans (va_up_self _ _ _)
    have ead2_2 : ad2 (4000 + 32 * t + mk) = nwu3 := by rw [had2]; exact va_up_self _ _ _
    have aad2 : ∀ z8, z8 ≠ 2000 + 32 * t + mk → z8 ≠ 3000 + 32 * t + mk → z8 ≠ 4000 + 32 * t + mk → ad2 z8 = ad7u4 z8 := fun z8 n0 n1 n2 => by rw [had2]; exact (va_up_ne _ _ n2).trans ((va_up_ne _ _ n1).trans ((va_up_ne _ _ n0).trans (rfl)))
    have pad2 : pg cds ad2 gg7u4 = pg cds ad7u4 gg7u4 := by rw [had2]; exact (pg_ad ((fr1 _ (by omega) (by omega)).trans (hNN0 mk (by omega) (by omega)).2.2)).trans ((pg_ad ((fr1 _ (by omega) (by omega)).trans (hNN0 mk (by omega) (by omega)).2.1)).trans ((pg_ad ((fr1 _ (by omega) (by omega)).trans (hNN0 mk (by omega) (by omega)).1)).trans (rfl)))
    have hw9 : ([(ad2 (3000 + 32 * t + mk), .inr (4, [.ref (ad2 (4000 + 32 * t + mk)), .int 0, .int 0])), (ad2 (4000 + 32 * t + mk), .inl (cT 0, 24, .inl (fun _ => 0))), (ad2 (2000 + 32 * t + mk), .inr (10, [.int 0, .int 0, .int 0, .int 0, .int 0, .int 0, .int 0, .int 0, .ref (ad2 (3000 + 32 * t + mk))]))] ++ pg cds ad2 gg7u4) = ([(nsu3, .inr (4, [.ref nwu3, .int 0, .int 0])), (nwu3, .inl (cT 0, 24, .inl (fun _ => 0))), (q18, .inr (10, [.int 0, .int 0, .int 0, .int 0, .int 0, .int 0, .int 0, .int 0, .ref nsu3]))] ++ pg cds ad7u4 gg7u4) := by rw [pad2, ead2_1, ead2_2, ead2_0]
    have hP := vP_eq hw9 hP
    have hD := vD_eq hw9 hD
    have hP : va_P D vwCl ([(ad2 (3000 + 32 * t + mk), .inr (4, [.ref (ad2 (4000 + 32 * t + mk)), .int 0, .int 0])), (ad2 (4000 + 32 * t + mk), .inl (cT 0, 24, .inl (fun _ => 0))), (ad2 (2000 + 32 * t + mk), .inr (10, [.int 0, .int 0, .int 0, .int 0, .int 0, .int 0, .int 0, .int 0, .ref (ad2 (3000 + 32 * t + mk))]))] ++ pg cds ad2 gg7u4) _ := hP
    have hD : va_D A ([(ad2 (3000 + 32 * t + mk), .inr (4, [.ref (ad2 (4000 + 32 * t + mk)), .int 0, .int 0])), (ad2 (4000 + 32 * t + mk), .inl (cT 0, 24, .inl (fun _ => 0))), (ad2 (2000 + 32 * t + mk), .inr (10, [.int 0, .int 0, .int 0, .int 0, .int 0, .int 0, .int 0, .int 0, .ref (ad2 (3000 + 32 * t + mk))]))] ++ pg cds ad2 gg7u4) := hD
    have hl : lv_has ls 4 [(0, .ref (ad2 (1000 + t))), (1, .int rws), (2, .int dd)] := by rw [aad2 (1000 + t) (by omega) (by omega) (by omega)]; exact hl
    have hup : upo gg7u4 [2000 + 32 * t + mk, 3000 + 32 * t + mk, 4000 + 32 * t + mk] = gg7u4 := upo_nn (nn_c ((fr1 _ (by omega) (by omega)).trans (hNN0 mk (by omega) (by omega)).1) (nn_c ((fr1 _ (by omega) (by omega)).trans (hNN0 mk (by omega) (by omega)).2.1) (nn_c ((fr1 _ (by omega) (by omega)).trans (hNN0 mk (by omega) (by omega)).2.2) nn_0)))
    have hw9 : ([(ad2 (3000 + 32 * t + mk), .inr (4, [.ref (ad2 (4000 + 32 * t + mk)), .int 0, .int 0])), (ad2 (4000 + 32 * t + mk), .inl (cT 0, 24, .inl (fun _ => 0))), (ad2 (2000 + 32 * t + mk), .inr (10, [.int 0, .int 0, .int 0, .int 0, .int 0, .int 0, .int 0, .int 0, .ref (ad2 (3000 + 32 * t + mk))]))] ++ pg cds ad2 (upo gg7u4 [2000 + 32 * t + mk, 3000 + 32 * t + mk, 4000 + 32 * t + mk])) = ([(ad2 (3000 + 32 * t + mk), .inr (4, [.ref (ad2 (4000 + 32 * t + mk)), .int 0, .int 0])), (ad2 (4000 + 32 * t + mk), .inl (cT 0, 24, .inl (fun _ => 0))), (ad2 (2000 + 32 * t + mk), .inr (10, [.int 0, .int 0, .int 0, .int 0, .int 0, .int 0, .int 0, .int 0, .ref (ad2 (3000 + 32 * t + mk))]))] ++ pg cds ad2 gg7u4) := by rw [hup]
    have hP := vP_eq hw9 hP
    have hD := vD_eq hw9 hD
    have hN9 := (show NDc [2000 + 32 * t + mk, 3000 + 32 * t + mk, 4000 + 32 * t + mk] from (nd_c (na_c (by omega) (na_c (by omega) na_0)) (nd_c (na_c (by omega) na_0) (nd_c na_0 nd_0))))
    have hP := gb_P (w9 := [(2000 + 32 * t + mk, .inr (10, [.int 0, .int 0, .int 0, .int 0, .int 0, .int 0, .int 0, .int 0, .ref (ad2 (3000 + 32 * t + mk))])), (3000 + 32 * t + mk, .inr (4, [.ref (ad2 (4000 + 32 * t + mk)), .int 0, .int 0])), (4000 + 32 * t + mk, .inl (cT 0, 24, .inl (fun _ => 0)))]) (X := []) (g := gg7u4) hcd hN9 (show QB [(2000 + 32 * t + mk, .inr (10, [.int 0, .int 0, .int 0, .int 0, .int 0, .int 0, .int 0, .int 0, .ref (ad2 (3000 + 32 * t + mk))])), (3000 + 32 * t + mk, .inr (4, [.ref (ad2 (4000 + 32 * t + mk)), .int 0, .int 0])), (4000 + 32 * t + mk, .inl (cT 0, 24, .inl (fun _ => 0)))] from (qb_c (by omega) (qb_c (by omega) (qb_c (by omega) qb_0)))) (hP.part (cx := [(ad2 (2000 + 32 * t + mk), .inr (10, [.int 0, .int 0, .int 0, .int 0, .int 0, .int 0, .int 0, .int 0, .ref (ad2 (3000 + 32 * t + mk))])), (ad2 (3000 + 32 * t + mk), .inr (4, [.ref (ad2 (4000 + 32 * t + mk)), .int 0, .int 0])), (ad2 (4000 + 32 * t + mk), .inl (cT 0, 24, .inl (fun _ => 0)))]) [2, 0, 1] rfl)
    have hD := gb_D (w9 := [(2000 + 32 * t + mk, .inr (10, [.int 0, .int 0, .int 0, .int 0, .int 0, .int 0, .int 0, .int 0, .ref (ad2 (3000 + 32 * t + mk))])), (3000 + 32 * t + mk, .inr (4, [.ref (ad2 (4000 + 32 * t + mk)), .int 0, .int 0])), (4000 + 32 * t + mk, .inl (cT 0, 24, .inl (fun _ => 0)))]) (X := []) (g := gg7u4) hcd hN9 (show QB [(2000 + 32 * t + mk, .inr (10, [.int 0, .int 0, .int 0, .int 0, .int 0, .int 0, .int 0, .int 0, .ref (ad2 (3000 + 32 * t + mk))])), (3000 + 32 * t + mk, .inr (4, [.ref (ad2 (4000 + 32 * t + mk)), .int 0, .int 0])), (4000 + 32 * t + mk, .inl (cT 0, 24, .inl (fun _ => 0)))] from (qb_c (by omega) (qb_c (by omega) (qb_c (by omega) qb_0)))) (hD.part (cx := [(ad2 (2000 + 32 * t + mk), .inr (10, [.int 0, .int 0, .int 0, .int 0, .int 0, .int 0, .int 0, .int 0, .ref (ad2 (3000 + 32 * t + mk))])), (ad2 (3000 + 32 * t + mk), .inr (4, [.ref (ad2 (4000 + 32 * t + mk)), .int 0, .int 0])), (ad2 (4000 + 32 * t + mk), .inl (cT 0, 24, .inl (fun _ => 0)))]) [2, 0, 1] (by decide) rfl)
    obtain ⟨g2, hg2⟩ : ∃ q9, q9 = ups gg7u4 [(2000 + 32 * t + mk, .inr (10, [.int 0, .int 0, .int 0, .int 0, .int 0, .int 0, .int 0, .int 0, .ref (ad2 (3000 + 32 * t + mk))])), (3000 + 32 * t + mk, .inr (4, [.ref (ad2 (4000 + 32 * t + mk)), .int 0, .int 0])), (4000 + 32 * t + mk, .inl (cT 0, 24, .inl (fun _ => 0)))] := ⟨_, rfl⟩
    rw [← hg2] at hP hD
    have hP : va_P D vwCl ([] ++ pg cds ad2 g2) _ := hP
    have hD : va_D A ([] ++ pg cds ad2 g2) := hD
    have fg2 : ∀ z8, z8 ≠ 2000 + 32 * t + mk → z8 ≠ 3000 + 32 * t + mk → z8 ≠ 4000 + 32 * t + mk → g2 z8 = gg7u4 z8 := fun z8 z1 z2 z3 => by rw [hg2]; exact ups_k (kp_n z1 (kp_n z2 (kp_n z3 kp_0)))
    have g2_0 : g2 (2000 + 32 * t + mk) = some (.inr (10, [.int 0, .int 0, .int 0, .int 0, .int 0, .int 0, .int 0, .int 0, .ref (ad2 (3000 + 32 * t + mk))])) := by rw [hg2]; exact ups_1
    have g2_1 : g2 (3000 + 32 * t + mk) = some (.inr (4, [.ref (ad2 (4000 + 32 * t + mk)), .int 0, .int 0])) := by rw [hg2]; exact ups_2 (by omega)
    have g2_2 : g2 (4000 + 32 * t + mk) = some (.inl (cT 0, 24, .inl (fun _ => 0))) := by rw [hg2]; exact ups_3 (by omega) (by omega)
    have hTm2 : TMD cT ad2 g2 tE t (mk + 1) := tmd_add ht16 hTm (by omega) fr1 fa1 hv1 fg2 aad2 ead2_0 g2_0 ⟨0, 0, _, g2_1, g2_2, wn_0⟩
    have hTc2 : g2 (1000 + t) = some (eTR (ad2 (1020 + t)) (nI k) tw tu tl tsc) := by rw [aad2 _ (by omega) (by omega) (by omega), fa1 _ (by omega)]; exact (fg2 _ (by omega) (by omega) (by omega)).trans ((fr1 _ (by omega) (by omega)).trans hTc)
    obtain ⟨hLQ9, hm9, hNX9, hNN9⟩ := id hTm2
    obtain ⟨cap9, md9, lf9, l1, l2, l3, l4, l5⟩ := hLQ9.full (by omega)
    obtain ⟨⟨q0, q1, q2, q3, q4, q5, q6, q7, hnd9⟩, z9, hwz9⟩ := hNX9 k (by omega)
    refine lv_aload_n hx hb dTr_newLeaf_29 rfl (lv_at hl 0 rfl) ?_
    refine va_get (D := D) (ci := 9) (v := .ref (ad2 (1020 + t))) (C := R_Tr) (T := T_Tr) (N := 6) hx hb hT in_Tr hown hK (pg_1 (x := 1000 + t) hcd hP (by omega) hTc2) 0 rfl rfl 0 (by decide) (hT _ w730) (fun _ h9 => h9) rfl dTr_newLeaf_30 ?_
    refine lv_aload_n hx hb dTr_newLeaf_33 rfl (lv_at hl 0 rfl) ?_
    refine va_get (D := D) (ci := 9) (v := .int (nI k)) (C := R_Tr) (T := T_Tr) (N := 6) hx hb hT in_Tr hown hK (pg_1 (x := 1000 + t) hcd hP (by omega) hTc2) 0 rfl rfl 1 (by decide) (hT _ w731) (fun _ h9 => h9) rfl dTr_newLeaf_34 ?_
    refine ro_r (va_Run.run (va_runV (As := [.int (nI k)]) (rest := []) ⟨hx, hb, hml, hown, hT⟩ (k_alGet l D cT (ad2 (1020 + t)) (ad2 (1040 + t)) (mk + 1) md9 cap9 lf9 k (ad2 (2000 + 32 * t + k)) (by omega) l3 (by omega) (l5 _ (by omega))) ⟨callB_of 1 hT (tb_gd w401) rfl rfl rfl (hT _ w11) (hT _ w426) hAL_get ⟨Nat.le_of_ble_eq_true rfl, Nat.le_of_ble_eq_true rfl⟩, (hT _ w399), (hT _ w400)⟩ (RO.preV (ci := 12) (q0 := 0) hZ hS ((show va_P D vwCl [(ad2 (1020 + t), .inr (12, [.ref (ad2 (1040 + t)), .int (nI (mk + 1)), .int md9])), (ad2 (1040 + t), .inl (cT 7, cap9, .inr (.inr (.inr (.inr lf9)))))] _ from (pv_c (pg_1 (x := 1020 + t) hcd hP (by omega) l1) (pv_c (pg_1 (x := 1040 + t) hcd hP (by omega) l2) pv_0)))) hK rfl rfl) rfl rfl hl.1 rfl (lv_room (Nat.le_of_ble_eq_true rfl)) dTr_newLeaf_37 ⟨(by show 4 + 0 ≤ (4 * (max mk (k + 1) - mk)); omega), (by show 69 + 0 ≤ (69 * (max mk (k + 1) - mk)); omega)⟩)) ?_
    refine va_castY (C := "ResidualTrees$Node") hx hb hown (hT _ w427) (hZ.1.1 ("ResidualTrees$Node", "ResidualTrees$Node") (List.mem_of_getElem? (i := 3) rfl)) (va_recv (ci := 10) (q0 := 0) hK (pg_1 (x := 2000 + 32 * t + k) hcd hP (by omega) hnd9) rfl rfl) dTr_newLeaf_40 ?_
    refine lv_astore_n hx hb dTr_newLeaf_43 rfl hl (by decide) rfl (fun ls hl => ?_)
    have hl : lv_has ls 4 [(3, .ref (ad2 (2000 + 32 * t + k))), (0, .ref (ad2 (1000 + t))), (1, .int rws), (2, .int dd)] := hl
    have hB9 : QI g2 [(2000 + 32 * t + k, .inr (10, [.int q0, .int q1, .int q2, .int q3, .int q4, .int q5, .int q6, .int q7, .ref (ad2 (3000 + 32 * t + k))]))] := (qi_c (by omega) hnd9 qi_0)
    have hN9 := (show NDc [2000 + 32 * t + k] from (nd_c na_0 nd_0))
    have hP := bo_P (wc := [(2000 + 32 * t + k, .inr (10, [.int q0, .int q1, .int q2, .int q3, .int q4, .int q5, .int q6, .int q7, .ref (ad2 (3000 + 32 * t + k))]))]) (X := []) hcd hN9 hB9 hP
    have hD := bo_D (wc := [(2000 + 32 * t + k, .inr (10, [.int q0, .int q1, .int q2, .int q3, .int q4, .int q5, .int q6, .int q7, .ref (ad2 (3000 + 32 * t + k))]))]) (X := []) hcd hN9 hB9 hD
    have hP : va_P D vwCl ([(ad2 (2000 + 32 * t + k), .inr (10, [.int q0, .int q1, .int q2, .int q3, .int q4, .int q5, .int q6, .int q7, .ref (ad2 (3000 + 32 * t + k))]))] ++ pg cds ad2 (upo g2 [2000 + 32 * t + k])) _ := hP
    have hD : va_D A ([(ad2 (2000 + 32 * t + k), .inr (10, [.int q0, .int q1, .int q2, .int q3, .int q4, .int q5, .int q6, .int q7, .ref (ad2 (3000 + 32 * t + k))]))] ++ pg cds ad2 (upo g2 [2000 + 32 * t + k])) := hD
    refine lv_aload_n hx hb dTr_newLeaf_44 rfl (lv_at hl 0 rfl) ?_
    refine hy_vQ (X := [(ad2 (2000 + 32 * t + k), .inr (10, [.int q0, .int q1, .int q2, .int q3, .int q4, .int q5, .int q6, .int q7, .ref (ad2 (3000 + 32 * t + k))]))]) (pl := pg cds ad2 (upo g2 [2000 + 32 * t + k])) (cx := [(ad2 (2000 + 32 * t + k), .inr (10, [.int q0, .int q1, .int q2, .int q3, .int q4, .int q5, .int q6, .int q7, .ref (ad2 (3000 + 32 * t + k))]))]) (wr := []) hP hD hS hA [0] [] rfl rfl (by decide) (by decide) (va_runV (As := []) (rest := []) ⟨hx, hb, hml, hown, hT⟩ (k_becomeLeaf l D cT (ad2 (2000 + 32 * t + k)) (ad2 (3000 + 32 * t + k)) q0 q1 q2 q3 q4 q5 q6 q7 _) ⟨callB_of 0 hT (tb_gd w882) rfl rfl rfl (hT _ w27) (hT _ w879) hN_becomeLeaf ⟨Nat.le_of_ble_eq_true rfl, Nat.le_of_ble_eq_true rfl⟩, (hT _ w880), (hT _ w881)⟩ (RW.preV (ci := 10) (q0 := 0) hZ hS (hy_free (cx := [(ad2 (2000 + 32 * t + k), .inr (10, [.int q0, .int q1, .int q2, .int q3, .int q4, .int q5, .int q6, .int q7, .ref (ad2 (3000 + 32 * t + k))]))]) hD hS hA [0] rfl) (hP.sub (ws' := [(ad2 (2000 + 32 * t + k), .inr (10, [.int q0, .int q1, .int q2, .int q3, .int q4, .int q5, .int q6, .int q7, .ref (ad2 (3000 + 32 * t + k))]))]) [0] rfl) hK (hD.sub (ws' := [(ad2 (2000 + 32 * t + k), .inr (10, [.int q0, .int q1, .int q2, .int q3, .int q4, .int q5, .int q6, .int q7, .ref (ad2 (3000 + 32 * t + k))]))]) [0] (by decide) rfl) rfl rfl) rfl rfl hl.1 rfl (lv_room (Nat.le_of_ble_eq_true rfl)) dTr_newLeaf_45 ⟨(by show 4 + 0 ≤ (4 * (max mk (k + 1) - mk)); omega), (by show 69 + 0 ≤ (69 * (max mk (k + 1) - mk)); omega)⟩) (fun u9 H locs hpu5 hP hD hS => ?_)
    have hpu5 : True := hpu5
    have hP : va_P D vwCl ([(ad2 (2000 + 32 * t + k), .inr (10, [.int (-1), .int 0, .int 0, .int 0, .int (-1), .int (-1), .int q6, .int q7, .ref (ad2 (3000 + 32 * t + k))]))] ++ pg cds ad2 (upo g2 [2000 + 32 * t + k])) _ := hP
    have hD : va_D A ([(ad2 (2000 + 32 * t + k), .inr (10, [.int (-1), .int 0, .int 0, .int 0, .int (-1), .int (-1), .int q6, .int q7, .ref (ad2 (3000 + 32 * t + k))]))] ++ pg cds ad2 (upo g2 [2000 + 32 * t + k])) := hD
    refine lv_aload_n hx hb dTr_newLeaf_48 rfl (lv_at hl 0 rfl) ?_
    refine lv_iload_n hx hb dTr_newLeaf_49 rfl (lv_at hl 2 rfl) ?_
    refine va_put (D := D) (ci := 10) (v := .int rws) (ty := .int) (C := R_N) (T := T_N) (N := 9) hx hb hT in_N ty_N ty_N_ok m_N hown hK hP hD hS 0 rfl rfl 6 (by decide) (hT _ w850) (fun _ h9 => h9) rfl (by decide +kernel) rfl rfl (Nat.le_of_ble_eq_true rfl) dTr_newLeaf_50 (fun H locs hP hD hS => ?_)
    have hP : va_P D vwCl ([(ad2 (2000 + 32 * t + k), .inr (10, [.int (-1), .int 0, .int 0, .int 0, .int (-1), .int (-1), .int rws, .int q7, .ref (ad2 (3000 + 32 * t + k))]))] ++ pg cds ad2 (upo g2 [2000 + 32 * t + k])) _ := hP
    have hD : va_D A ([(ad2 (2000 + 32 * t + k), .inr (10, [.int (-1), .int 0, .int 0, .int 0, .int (-1), .int (-1), .int rws, .int q7, .ref (ad2 (3000 + 32 * t + k))]))] ++ pg cds ad2 (upo g2 [2000 + 32 * t + k])) := hD
    refine lv_aload_n hx hb dTr_newLeaf_53 rfl (lv_at hl 0 rfl) ?_
    refine lv_iload_n hx hb dTr_newLeaf_54 rfl (lv_at hl 3 rfl) ?_
    refine va_put (D := D) (ci := 10) (v := .int dd) (ty := .int) (C := R_N) (T := T_N) (N := 9) hx hb hT in_N ty_N ty_N_ok m_N hown hK hP hD hS 0 rfl rfl 7 (by decide) (hT _ w853) (fun _ h9 => h9) rfl (by decide +kernel) rfl rfl (Nat.le_of_ble_eq_true rfl) dTr_newLeaf_55 (fun H locs hP hD hS => ?_)
    have hP : va_P D vwCl ([(ad2 (2000 + 32 * t + k), .inr (10, [.int (-1), .int 0, .int 0, .int 0, .int (-1), .int (-1), .int rws, .int dd, .ref (ad2 (3000 + 32 * t + k))]))] ++ pg cds ad2 (upo g2 [2000 + 32 * t + k])) _ := hP
    have hD : va_D A ([(ad2 (2000 + 32 * t + k), .inr (10, [.int (-1), .int 0, .int 0, .int 0, .int (-1), .int (-1), .int rws, .int dd, .ref (ad2 (3000 + 32 * t + k))]))] ++ pg cds ad2 (upo g2 [2000 + 32 * t + k])) := hD
    have hN9 := (show NDc [2000 + 32 * t + k] from (nd_c na_0 nd_0))
    have hP := gb_P (w9 := [(2000 + 32 * t + k, .inr (10, [.int (-1), .int 0, .int 0, .int 0, .int (-1), .int (-1), .int rws, .int dd, .ref (ad2 (3000 + 32 * t + k))]))]) (X := []) (g := g2) hcd hN9 (show QB [(2000 + 32 * t + k, .inr (10, [.int (-1), .int 0, .int 0, .int 0, .int (-1), .int (-1), .int rws, .int dd, .ref (ad2 (3000 + 32 * t + k))]))] from (qb_c (by omega) qb_0)) (hP.part (cx := [(ad2 (2000 + 32 * t + k), .inr (10, [.int (-1), .int 0, .int 0, .int 0, .int (-1), .int (-1), .int rws, .int dd, .ref (ad2 (3000 + 32 * t + k))]))]) [0] rfl)
    have hD := gb_D (w9 := [(2000 + 32 * t + k, .inr (10, [.int (-1), .int 0, .int 0, .int 0, .int (-1), .int (-1), .int rws, .int dd, .ref (ad2 (3000 + 32 * t + k))]))]) (X := []) (g := g2) hcd hN9 (show QB [(2000 + 32 * t + k, .inr (10, [.int (-1), .int 0, .int 0, .int 0, .int (-1), .int (-1), .int rws, .int dd, .ref (ad2 (3000 + 32 * t + k))]))] from (qb_c (by omega) qb_0)) (hD.part (cx := [(ad2 (2000 + 32 * t + k), .inr (10, [.int (-1), .int 0, .int 0, .int 0, .int (-1), .int (-1), .int rws, .int dd, .ref (ad2 (3000 + 32 * t + k))]))]) [0] (by decide) rfl)
    obtain ⟨g3, hg3⟩ : ∃ q9, q9 = ups g2 [(2000 + 32 * t + k, .inr (10, [.int (-1), .int 0, .int 0, .int 0, .int (-1), .int (-1), .int rws, .int dd, .ref (ad2 (3000 + 32 * t + k))]))] := ⟨_, rfl⟩
    rw [← hg3] at hP hD
    have hP : va_P D vwCl ([] ++ pg cds ad2 g3) _ := hP
    have hD : va_D A ([] ++ pg cds ad2 g3) := hD
    have fg3 : ∀ z8, z8 ≠ 2000 + 32 * t + k → g3 z8 = g2 z8 := fun z8 z1 => by rw [hg3]; exact ups_k (kp_n z1 kp_0)
    have g3_0 : g3 (2000 + 32 * t + k) = some (.inr (10, [.int (-1), .int 0, .int 0, .int 0, .int (-1), .int (-1), .int rws, .int dd, .ref (ad2 (3000 + 32 * t + k))])) := by rw [hg3]; exact ups_1
    refine lv_aload_n hx hb dTr_newLeaf_58 rfl (lv_at hl 1 rfl) ?_
    refine lv_dup hx hb dTr_newLeaf_59 rfl ?_
    refine va_get (D := D) (ci := 9) (v := .int (nI k)) (C := R_Tr) (T := T_Tr) (N := 6) hx hb hT in_Tr hown hK (pg_1 (x := 1000 + t) hcd hP (by omega) ((fg3 _ (by omega)).trans hTc2)) 0 rfl rfl 1 (by decide) (hT _ w731) (fun _ h9 => h9) rfl dTr_newLeaf_60 ?_
    refine lv_dup_x1 hx hb dTr_newLeaf_63 rfl rfl ?_
    refine lv_iconst (v := 1) hx hb dTr_newLeaf_64 (by decide) ?_
    refine lv_iadd hx hb dTr_newLeaf_65 ?_
    refine lv_topi (fun y9 e9 => ?_)
    cases (show y9 = nI (k + 1) from e9.trans (nI_add k 1))
    have hB9 : QI g3 [(1000 + t, .inr (9, [.ref (ad2 (1020 + t)), .int (nI k), .int tw, .int tu, .int tl, .long tsc]))] := (qi_c (by omega) ((fg3 _ (by omega)).trans hTc2) qi_0)
    have hN9 := (show NDc [1000 + t] from (nd_c na_0 nd_0))
    have hP := bo_P (wc := [(1000 + t, .inr (9, [.ref (ad2 (1020 + t)), .int (nI k), .int tw, .int tu, .int tl, .long tsc]))]) (X := []) hcd hN9 hB9 hP
    have hD := bo_D (wc := [(1000 + t, .inr (9, [.ref (ad2 (1020 + t)), .int (nI k), .int tw, .int tu, .int tl, .long tsc]))]) (X := []) hcd hN9 hB9 hD
    have hP : va_P D vwCl ([(ad2 (1000 + t), .inr (9, [.ref (ad2 (1020 + t)), .int (nI k), .int tw, .int tu, .int tl, .long tsc]))] ++ pg cds ad2 (upo g3 [1000 + t])) _ := hP
    have hD : va_D A ([(ad2 (1000 + t), .inr (9, [.ref (ad2 (1020 + t)), .int (nI k), .int tw, .int tu, .int tl, .long tsc]))] ++ pg cds ad2 (upo g3 [1000 + t])) := hD
    refine va_put (D := D) (ci := 9) (v := .int (nI (k + 1))) (ty := .int) (C := R_Tr) (T := T_Tr) (N := 6) hx hb hT in_Tr ty_Tr ty_Tr_ok m_Tr hown hK hP hD hS 0 rfl rfl 1 (by decide) (hT _ w731) (fun _ h9 => h9) rfl (by decide +kernel) rfl rfl (Nat.le_of_ble_eq_true rfl) dTr_newLeaf_66 (fun H locs hP hD hS => ?_)
    have hP : va_P D vwCl ([(ad2 (1000 + t), .inr (9, [.ref (ad2 (1020 + t)), .int (nI (k + 1)), .int tw, .int tu, .int tl, .long tsc]))] ++ pg cds ad2 (upo g3 [1000 + t])) _ := hP
    have hD : va_D A ([(ad2 (1000 + t), .inr (9, [.ref (ad2 (1020 + t)), .int (nI (k + 1)), .int tw, .int tu, .int tl, .long tsc]))] ++ pg cds ad2 (upo g3 [1000 + t])) := hD
    have hN9 := (show NDc [1000 + t] from (nd_c na_0 nd_0))
    have hP := gb_P (w9 := [(1000 + t, .inr (9, [.ref (ad2 (1020 + t)), .int (nI (k + 1)), .int tw, .int tu, .int tl, .long tsc]))]) (X := []) (g := g3) hcd hN9 (show QB [(1000 + t, .inr (9, [.ref (ad2 (1020 + t)), .int (nI (k + 1)), .int tw, .int tu, .int tl, .long tsc]))] from (qb_c (by omega) qb_0)) (hP.part (cx := [(ad2 (1000 + t), .inr (9, [.ref (ad2 (1020 + t)), .int (nI (k + 1)), .int tw, .int tu, .int tl, .long tsc]))]) [0] rfl)
    have hD := gb_D (w9 := [(1000 + t, .inr (9, [.ref (ad2 (1020 + t)), .int (nI (k + 1)), .int tw, .int tu, .int tl, .long tsc]))]) (X := []) (g := g3) hcd hN9 (show QB [(1000 + t, .inr (9, [.ref (ad2 (1020 + t)), .int (nI (k + 1)), .int tw, .int tu, .int tl, .long tsc]))] from (qb_c (by omega) qb_0)) (hD.part (cx := [(ad2 (1000 + t), .inr (9, [.ref (ad2 (1020 + t)), .int (nI (k + 1)), .int tw, .int tu, .int tl, .long tsc]))]) [0] (by decide) rfl)
    obtain ⟨g4, hg4⟩ : ∃ q9, q9 = ups g3 [(1000 + t, .inr (9, [.ref (ad2 (1020 + t)), .int (nI (k + 1)), .int tw, .int tu, .int tl, .long tsc]))] := ⟨_, rfl⟩
    rw [← hg4] at hP hD
    have hP : va_P D vwCl ([] ++ pg cds ad2 g4) _ := hP
    have hD : va_D A ([] ++ pg cds ad2 g4) := hD
    have fg4 : ∀ z8, z8 ≠ 1000 + t → g4 z8 = g3 z8 := fun z8 z1 => by rw [hg4]; exact ups_k (kp_n z1 kp_0)
    have g4_0 : g4 (1000 + t) = some (.inr (9, [.ref (ad2 (1020 + t)), .int (nI (k + 1)), .int tw, .int tu, .int tl, .long tsc])) := by rw [hg4]; exact ups_1
    have hP9 : va_P D vwCl ([] ++ pg cds ad2 g4) _ := hP.part (cx := []) [] rfl
    have hD9 : va_D A ([] ++ pg cds ad2 g4) := hD.part (cx := []) [] (by decide) rfl
    refine W.widen (k := 4 * (max mk (k + 1) - mk)) (n := 69 * (max mk (k + 1) - mk)) ((by show 4 ≤ 4 * (max mk (k + 1) - mk); omega)) ((by show 69 ≤ 69 * (max mk (k + 1) - mk); omega)) ?_
    exact W.iret (v := nI k) hx hb hr (fun t9 ht9 hW9 => ⟨⟨nI k, (ad2, g4), rfl, (show (nI k) = nI k ∧ (∀ z8, z8 ≠ 1000 + t → z8 ≠ 1020 + t → z8 ≠ 1040 + t → z8 ≠ 2000 + 32 * t + k → z8 ≠ 3000 + 32 * t + k → z8 ≠ 4000 + 32 * t + k → g4 z8 = gg z8) ∧ (∀ z8, z8 ≠ 1040 + t → z8 ≠ 2000 + 32 * t + k → z8 ≠ 3000 + 32 * t + k → z8 ≠ 4000 + 32 * t + k → ad2 z8 = ad z8) ∧ g4 (1000 + t) = some (eTR (ad2 (1020 + t)) (nI (k + 1)) tw tu tl tsc) ∧ TMD cT ad2 g4 tE t (max mk (k + 1)) ∧ g4 (2000 + 32 * t + k) = some (eND (-1) 0 0 0 (-1) (-1) rws dd (ad2 (3000 + 32 * t + k))) from ⟨rfl, (fun z8 n1 n2 n3 n4 n5 n6 => (fg4 z8 n1).trans ((fg3 z8 n4).trans ((fg2 z8 (by omega) (by omega) (by omega)).trans (fr1 z8 n2 n3)))), (fun z8 n1 n2 n3 n4 => (aad2 z8 (by omega) (by omega) (by omega)).trans (fa1 z8 n1)), g4_0, (by rw [show max mk (k + 1) = mk + 1 by omega]; exact tmd_nd ht16 hTm2 (k := k) (by omega) (fun z8 n1 n2 => (fg4 z8 n1).trans (fg3 z8 n2)) ((fg4 _ (by omega)).trans g3_0)), (fg4 _ (by omega)).trans g3_0⟩), by rw [ht9]; exact hP9, hD9⟩, hS.F ht9⟩) hS.2.2 dTr_newLeaf_69
/-! Growing as the class does it: a node, its left side whole, its right side. -/
section CGs
variable {best : Int64 → BST} {ik : Nat → Int32} {b0 dpt : Nat}
abbrev cgL (b0 : Nat) (g : GST) (x : Int64) (d : Nat) : GST := (gBeg g.1 (b0 + g.2.1) x d, g.2.1 + 1, va_up g.2.2 g.2.1 x)
abbrev cgS (best : Int64 → BST) (ik : Nat → Int32) (b0 : Nat) (g : GST) (x : Int64) (d : Nat) : GST := (gSpl (gBeg g.1 (b0 + g.2.1) x d) (b0 + g.2.1) (best x) (ik (best x).2.2.1.toNatClampNeg), g.2.1 + 1, va_up g.2.2 g.2.1 x)
abbrev cgP (b0 m : Nat) (lf : Int32) (g : GST) : GST := (gPar g.1 g.2.1 (nI (b0 + m)) lf, g.2.1, g.2.2)
def cgw (best : Int64 → BST) (ik : Nat → Int32) (b0 dpt : Nat) : Nat → GST → Int64 → Nat → GST
  | 0, g, x, d => cgL b0 g x d
  | h + 1, g, x, d => if d = dpt ∨ (best x).1 ≤ 0 then cgL b0 g x d
    else cgw best ik b0 dpt h (cgP b0 g.2.1 (vp_nar .boolean 0) (cgw best ik b0 dpt h (cgP b0 g.2.1 (vp_nar .boolean 1) (cgS best ik b0 g x d)) (x &&& (best x).2.2.2.2.2) (d + 1))) (x &&& ((best x).2.2.2.2.2 ^^^ (-1))) (d + 1)
/-- it is what the stack gives -/
theorem cgw_gall : ∀ h (g : GST) (x : Int64) (d : Nat) (ab lf : Int32), d ≤ dpt → dpt ≤ d + h → ∃ n, 1 ≤ n ∧ n ≤ 2 ^ (dpt - d + 1) - 1 ∧ (cgw best ik b0 dpt h (gPar g.1 g.2.1 ab lf, g.2.1, g.2.2) x d).2.1 = g.2.1 + n ∧ ∀ f st, gall best ik b0 dpt (f + n) g ((x, d, ab, lf) :: st) = gall best ik b0 dpt f (cgw best ik b0 dpt h (gPar g.1 g.2.1 ab lf, g.2.1, g.2.2) x d) st := by
  have leaf : ∀ (g : GST) (x : Int64) (d : Nat) (ab lf : Int32), (d = dpt ∨ (best x).1 ≤ 0) → ∀ f st, gall best ik b0 dpt (f + 1) g ((x, d, ab, lf) :: st) = gall best ik b0 dpt f (cgL b0 (gPar g.1 g.2.1 ab lf, g.2.1, g.2.2) x d) st := fun g x d ab lf q f st => by
    show gall best ik b0 dpt f (gst best ik b0 dpt (g.1, g.2.1, g.2.2) (x, d, ab, lf)).1 ((gst best ik b0 dpt (g.1, g.2.1, g.2.2) (x, d, ab, lf)).2 ++ st) = _
    rw [gst_l q]
    rfl
  have pw : ∀ d, 1 ≤ 2 ^ (dpt - d + 1) - 1 := fun d => by
    have := Nat.pow_le_pow_right (show 0 < 2 by decide) (show 1 ≤ dpt - d + 1 by omega)
    omega
  intro h
  induction h with
  | zero =>
    intro g x d ab lf hd hh
    exact ⟨1, Nat.le_refl _, pw d, rfl, leaf g x d ab lf (Or.inl (by omega))⟩
  | succ h ih =>
    intro g x d ab lf hd hh
    by_cases q : d = dpt ∨ (best x).1 ≤ 0
    · have e : cgw best ik b0 dpt (h + 1) (gPar g.1 g.2.1 ab lf, g.2.1, g.2.2) x d = cgL b0 (gPar g.1 g.2.1 ab lf, g.2.1, g.2.2) x d := if_pos q
      rw [e]
      exact ⟨1, Nat.le_refl _, pw d, rfl, leaf g x d ab lf q⟩
    · have hq1 : d < dpt := by rcases Nat.lt_or_ge d dpt with r | r; exact r; exact absurd (Or.inl (by omega)) q
      have e : cgw best ik b0 dpt (h + 1) (gPar g.1 g.2.1 ab lf, g.2.1, g.2.2) x d = _ := if_neg q
      rw [e]
      obtain ⟨n1, a1, a2, a3, a4⟩ := ih (cgS best ik b0 (gPar g.1 g.2.1 ab lf, g.2.1, g.2.2) x d) (x &&& (best x).2.2.2.2.2) (d + 1) (nI (b0 + g.2.1)) (vp_nar .boolean 1) (by omega) (by omega)
      obtain ⟨n2, b1, b2, b3, b4⟩ := ih (cgw best ik b0 dpt h (cgP b0 g.2.1 (vp_nar .boolean 1) (cgS best ik b0 (gPar g.1 g.2.1 ab lf, g.2.1, g.2.2) x d)) (x &&& (best x).2.2.2.2.2) (d + 1)) (x &&& ((best x).2.2.2.2.2 ^^^ (-1))) (d + 1) (nI (b0 + g.2.1)) (vp_nar .boolean 0) (by omega) (by omega)
      have hp := gws_2 hq1
      refine ⟨n1 + n2 + 1, by omega, by omega, ?_, fun f st => ?_⟩
      · refine b3.trans ?_
        have a3 : (cgw best ik b0 dpt h (cgP b0 g.2.1 (vp_nar .boolean 1) (cgS best ik b0 (gPar g.1 g.2.1 ab lf, g.2.1, g.2.2) x d)) (x &&& (best x).2.2.2.2.2) (d + 1)).2.1 = g.2.1 + 1 + n1 := a3
        rw [a3]
        omega
      · show gall best ik b0 dpt (f + (n1 + n2)) (gst best ik b0 dpt (g.1, g.2.1, g.2.2) (x, d, ab, lf)).1 ((gst best ik b0 dpt (g.1, g.2.1, g.2.2) (x, d, ab, lf)).2 ++ st) = _
        rw [gst_s q, show f + (n1 + n2) = f + n2 + n1 by omega]
        exact (a4 (f + n2) _).trans (b4 f st)
theorem cgw_n (h : Nat) (g : GST) (x : Int64) (d : Nat) : ∃ n, 1 ≤ n ∧ n ≤ 2 ^ (h + 1) - 1 ∧ (cgw best ik b0 dpt h g x d).2.1 = g.2.1 + n := by
  induction h generalizing g x d with
  | zero => exact ⟨1, Nat.le_refl _, by decide, rfl⟩
  | succ h ih =>
    have pw : 1 ≤ 2 ^ (h + 1) - 1 := by
      have := Nat.pow_le_pow_right (show 0 < 2 by decide) (show 1 ≤ h + 1 by omega)
      omega
    have p2 : 2 ^ (h + 1 + 1) = 2 * 2 ^ (h + 1) := by rw [Nat.pow_succ]; omega
    by_cases q : d = dpt ∨ (best x).1 ≤ 0
    · have e : cgw best ik b0 dpt (h + 1) g x d = cgL b0 g x d := if_pos q
      rw [e]
      exact ⟨1, Nat.le_refl _, by omega, rfl⟩
    · have e : cgw best ik b0 dpt (h + 1) g x d = _ := if_neg q
      rw [e]
      obtain ⟨n1, a1, a2, a3⟩ := ih (cgP b0 g.2.1 (vp_nar .boolean 1) (cgS best ik b0 g x d)) (x &&& (best x).2.2.2.2.2) (d + 1)
      obtain ⟨n2, b1, b2, b3⟩ := ih (cgP b0 g.2.1 (vp_nar .boolean 0) (cgw best ik b0 dpt h (cgP b0 g.2.1 (vp_nar .boolean 1) (cgS best ik b0 g x d)) (x &&& (best x).2.2.2.2.2) (d + 1))) (x &&& ((best x).2.2.2.2.2 ^^^ (-1))) (d + 1)
      refine ⟨n1 + n2 + 1, by omega, by omega, b3.trans ?_⟩
      have a3 : (cgw best ik b0 dpt h (cgP b0 g.2.1 (vp_nar .boolean 1) (cgS best ik b0 g x d)) (x &&& (best x).2.2.2.2.2) (d + 1)).2.1 = g.2.1 + 1 + n1 := a3
      show (cgw best ik b0 dpt h (cgP b0 g.2.1 (vp_nar .boolean 1) (cgS best ik b0 g x d)) (x &&& (best x).2.2.2.2.2) (d + 1)).2.1 + n2 = _
      rw [a3]
      omega
theorem gPar_o {a : Nat → Nat → Int32} {m nd j : Nat} {lf : Int32} (hn : nd < 2 ^ 31) (hj : j ≠ nd) (f : Nat) (hf : f < 8) : gPar a m (nI nd) lf f j = a f j := by
  unfold gPar
  rw [nI_clamp hn]
  split
  · rfl
  · split <;> (match f, hf with
      | 0, _ => rfl
      | 1, _ => rfl
      | 2, _ => rfl
      | 3, _ => first | rfl | exact pk_un hj
      | 4, _ => first | rfl | exact pk_un hj
      | 5, _ => rfl
      | 6, _ => rfl
      | 7, _ => rfl)
/-- the nodes before it stay -/
theorem cgw_lo (h : Nat) (g : GST) (x : Int64) (d : Nat) (hb : b0 + g.2.1 + 2 ^ (h + 1) < 2 ^ 30) : (∀ k, k < g.2.1 → (cgw best ik b0 dpt h g x d).2.2 k = g.2.2 k) ∧ ∀ f j, f < 8 → j < b0 + g.2.1 → (cgw best ik b0 dpt h g x d).1 f j = g.1 f j := by
  induction h generalizing g x d with
  | zero =>
    refine ⟨fun k hk => va_up_ne _ _ (by omega), fun f j hf hj => ?_⟩
    have hn : j ≠ b0 + g.2.1 := by omega
    match f, hf with
    | 0, _ | 1, _ | 2, _ | 3, _ | 4, _ | 5, _ | 6, _ | 7, _ => exact pk_un hn
  | succ h ih =>
    by_cases q : d = dpt ∨ (best x).1 ≤ 0
    · have e : cgw best ik b0 dpt (h + 1) g x d = cgL b0 g x d := if_pos q
      rw [e]
      refine ⟨fun k hk => va_up_ne _ _ (by omega), fun f j hf hj => ?_⟩
      have hn : j ≠ b0 + g.2.1 := by omega
      match f, hf with
      | 0, _ | 1, _ | 2, _ | 3, _ | 4, _ | 5, _ | 6, _ | 7, _ => exact pk_un hn
    · have e : cgw best ik b0 dpt (h + 1) g x d = _ := if_neg q
      rw [e]
      have p2 : 2 ^ (h + 1 + 1) = 2 * 2 ^ (h + 1) := by rw [Nat.pow_succ]; omega
      obtain ⟨n1, a1, a2, a3⟩ := cgw_n (best := best) (ik := ik) (b0 := b0) (dpt := dpt) h (cgP b0 g.2.1 (vp_nar .boolean 1) (cgS best ik b0 g x d)) (x &&& (best x).2.2.2.2.2) (d + 1)
      have a3 : (cgw best ik b0 dpt h (cgP b0 g.2.1 (vp_nar .boolean 1) (cgS best ik b0 g x d)) (x &&& (best x).2.2.2.2.2) (d + 1)).2.1 = g.2.1 + 1 + n1 := a3
      have i1 := ih (cgP b0 g.2.1 (vp_nar .boolean 1) (cgS best ik b0 g x d)) (x &&& (best x).2.2.2.2.2) (d + 1) (by show b0 + (g.2.1 + 1) + _ < _; omega)
      have i2 := ih (cgP b0 g.2.1 (vp_nar .boolean 0) (cgw best ik b0 dpt h (cgP b0 g.2.1 (vp_nar .boolean 1) (cgS best ik b0 g x d)) (x &&& (best x).2.2.2.2.2) (d + 1))) (x &&& ((best x).2.2.2.2.2 ^^^ (-1))) (d + 1) (by show b0 + (cgw best ik b0 dpt h _ _ _).2.1 + _ < _; rw [a3]; omega)
      generalize cgw best ik b0 dpt h (cgP b0 g.2.1 (vp_nar .boolean 1) (cgS best ik b0 g x d)) (x &&& (best x).2.2.2.2.2) (d + 1) = G1 at a3 i1 i2 ⊢
      have e1 : (cgP b0 g.2.1 (vp_nar .boolean 0) G1).2.1 = G1.2.1 := rfl
      rw [e1, a3] at i2
      refine ⟨fun k hk => ?_, fun f j hf hj => ?_⟩
      · refine (i2.1 k (by omega)).trans ((i1.1 k (by show k < g.2.1 + 1; omega)).trans ?_)
        exact va_up_ne _ _ (by omega)
      · refine (i2.2 f j hf (by omega)).trans ((gPar_o (by omega) (by omega) f hf).trans ((i1.2 f j hf (by show j < b0 + (g.2.1 + 1); omega)).trans ((gPar_o (by omega) (by omega) f hf).trans ?_)))
        have hn : j ≠ b0 + g.2.1 := by omega
        match f, hf with
        | 0, _ | 1, _ | 2, _ | 7, _ => exact (pk_un hn).trans (pk_un hn)
        | 3, _ | 4, _ | 5, _ | 6, _ => exact pk_un hn
end CGs
theorem cgw_grw {F : TFR} {T : Nat} {RR : Nat → Int} {n w lst dpt wd : Nat} {vv eg ik : Nat → Int32} {ne : Nat → Nat} {chb : Int32} {AA : Int64} (hd : dpt ≤ 4) : cgw (fun x => colF RR n w lst vv eg ik ne chb x wd) ik (31 * T) dpt 4 (tA F, 0, fun _ => 0) AA 0 = grw F T RR n w lst dpt wd vv eg ik ne chb AA := by
  obtain ⟨k, h1, h2, h3, h4⟩ := cgw_gall (best := fun x => colF RR n w lst vv eg ik ne chb x wd) (ik := ik) (b0 := 31 * T) (dpt := dpt) 4 (tA F, 0, fun _ => 0) AA 0 (-1) (vp_nar .boolean 0) (Nat.zero_le _) (by omega)
  have hk : k ≤ 31 := by
    have : 2 ^ (dpt - 0 + 1) ≤ 2 ^ 5 := Nat.pow_le_pow_right (by decide) (by omega)
    have e : (2 : Nat) ^ 5 = 32 := by decide
    omega
  have h5 := h4 (32 - k) []
  rw [show 32 - k + k = 32 by omega, gall_n, gPar_n (by decide)] at h5
  exact h5.symm
/-! The class's grow: what it needs, what it leaves. -/
def MLb (b : BST) : Prop := b.2.2.2.2.1 = 0 ∨ b.2.2.2.2.1 = 1
theorem wgh_ml {zr : Nat → Int} {n w lst : Nat} {A S : Int64} {b : BST} {cc ee ml : Int32} (hm : ml = 0 ∨ ml = 1) (hb : MLb b) : MLb (wgh zr n w lst A b S cc ee ml) := by
  unfold wgh
  split
  · exact hb
  · split
    · exact hm
    · exact hb
theorem lks_ml {zr : Nat → Int} {n w lst : Nat} {A M S : Int64} {b : BST} {cc ee : Int32} (hb : MLb b) : MLb (lks zr n w lst A M b S cc ee) := by
  unfold lks
  have h1 := wgh_ml (zr := zr) (n := n) (w := w) (lst := lst) (A := A) (S := S ||| M) (cc := cc) (ee := ee) (ml := 1) (Or.inr rfl) hb
  split
  · exact h1
  · exact wgh_ml (Or.inl rfl) h1
theorem lkk_ml {zr : Nat → Int} {n w lst : Nat} {vv : Nat → Int32} {c : Nat} {A M : Int64} : ∀ f bits side b, MLb b → MLb (lkk zr n w lst vv c A M f bits side b)
  | 0, _, _, _, hb => hb
  | f + 1, bits, side, b, hb => by
    show MLb (if _ then _ else _)
    split
    · exact hb
    · refine lkk_ml f _ _ _ ?_
      split
      · exact hb
      · exact lks_ml hb
theorem lkE_ml {zr : Nat → Int} {n w lst : Nat} {vv eg : Nat → Int32} {c : Nat} {A M : Int64} {b : BST} (hb : MLb b) : ∀ k, MLb (lkE zr n w lst vv eg c A M b k)
  | 0 => hb
  | k + 1 => lks_ml (lkE_ml hb k)
theorem colF_ml {zr : Nat → Int} {n w lst : Nat} {vv eg ik : Nat → Int32} {ne : Nat → Nat} {chb : Int32} {A : Int64} : ∀ c, MLb (colF zr n w lst vv eg ik ne chb A c)
  | 0 => Or.inl rfl
  | c + 1 => by
    have ih := colF_ml (zr := zr) (n := n) (w := w) (lst := lst) (vv := vv) (eg := eg) (ik := ik) (ne := ne) (chb := chb) (A := A) c
    show MLb (colS _ _ _ _ _ _ _ _ _ _ _ _)
    unfold colS
    split
    · split
      · exact lkE_ml ih _
      · exact lkk_ml _ _ _ _ ih
    · exact ih
/-- the split that the class has found is the search's -/
theorem spl_use {nw : Nat} {s : Int} {b : CST} {r : BST} {bc bm bo bl : Int32} {br : Int64} {bu : Int32} {zb : Int} {ik : Nat → Int32} (h : SRL nw s b r) (hs : SPF bc bm bo bl br bu zb ik b) (h0 : 0 < r.1) : r.2.2.1 = bc ∧ r.2.2.2.1 = bm ∧ r.2.2.2.2.1 = bl ∧ r.2.2.2.2.2 = br ∧ bo = ik r.2.2.1.toNatClampNeg ∧ ∃ c, c < 6 ∧ bc = nI c := by
  rcases h with ⟨_, e⟩ | ⟨e1, _, ⟨_, e⟩ | ⟨_, e⟩⟩
  · rw [e] at h0; exact absurd h0 (by decide)
  · rw [e] at h0; exact absurd h0 (by decide)
  · rcases hs with ⟨q, _⟩ | ⟨_, _, _, _, _, q1, q2, q3, q4, c, hc, q5, q6⟩
    · rw [q] at e1; exact absurd e1 (by decide)
    · refine ⟨by rw [e]; exact q1, by rw [e]; exact q2, by rw [e]; exact q3, by rw [e]; exact q4, ?_, c, hc, q5⟩
      have e2 : r.2.2.1 = nI c := by rw [e]; exact q1.trans q5
      rw [e2, nI_clamp (by omega)]
      exact q6
def GRB (cT : Nat → ClassId) (ad : Nat → Nat) (g : Nat → Option va_E) (n : Nat) (zs : Nat → Int) (XB : Nat) (vv vq eg ik : Nat → Int32) (ne : Nat → Nat) (dpt lst w : Nat) (pu pq9 : Int32) (psb : Int64) (pcb : Int32) (wd : Nat) : Prop :=
  g 1 = some (eTB ad (nI wd) (nI n)) ∧ RSp cT ad g n zs ∧ CAp cT ad g ∧ COLF cT ad g n vv vq eg ik ne ∧ g 4 = some (ePL (nI dpt) (nI lst) (nI w) pu pq9 psb pcb) ∧ GAp cT ad g ∧ SCG cT ad g ∧ (∀ j, j < 15 → ∃ (r : Int64) (z : Int), GPp cT ad g j r z) ∧ (∃ fo : Nat → Int32, g 8 = some (eA (cT 0) 12 fo)) ∧ ∃ (b9 t9 : Nat) (cs : CST), g 6 = some (eGR ad b9 t9) ∧ BTK b9 t9 ∧ SPL cT ad g b9 t9 ik cs (48 * XB)
theorem GRB.cg {cT : Nat → ClassId} {ad ad2 : Nat → Nat} {g g2 : Nat → Option va_E} {n : Nat} {zs : Nat → Int} {XB : Nat} {vv vq eg ik : Nat → Int32} {ne : Nat → Nat} {dpt lst w : Nat} {pu pq9 : Int32} {psb : Int64} {pcb : Int32} {wd : Nat} (h : GRB cT ad g n zs XB vv vq eg ik ne dpt lst w pu pq9 psb pcb wd) (ha : ∀ x, x ≠ 40 → x < 1000 → ad2 x = ad x) (hg : ∀ x, x < 260 → x ≠ 0 → x ≠ 9 → x ≠ 40 → g2 x = g x) : GRB cT ad2 g2 n zs XB vv vq eg ik ne dpt lst w pu pq9 psb pcb wd := by
  obtain ⟨h1, h2, h3, h4, h5, h6, h7, h8, ⟨fo, h9⟩, b9, t9, cs, i1, i2, i3⟩ := h
  refine ⟨by rw [eTB_ca ha]; exact (hg _ (by omega) (by omega) (by omega) (by omega)).trans h1, (h2.cg (hg _ (by omega) (by omega) (by omega) (by omega)) (fun x x1 x2 => hg x (by omega) (by omega) (by omega) (by omega))).ca (fun x x1 x2 => ha x (by omega) (by omega)), (h3.cg (hg _ (by omega) (by omega) (by omega) (by omega))).ca (fun x x1 => ha x (by omega) (by omega)), (h4.cg (fun x x1 x2 => hg x (by omega) (by omega) (by omega) (by omega))).ca (fun x x1 => ha x (by omega) (by omega)), (hg _ (by omega) (by omega) (by omega) (by omega)).trans h5, ?_, (h7.cg (fun x x1 x2 => hg x (by omega) (by omega) (by omega) (by omega))).ca (fun x x1 x2 => ha x (by omega) (by omega)), fun j hj => ?_, ⟨fo, (hg _ (by omega) (by omega) (by omega) (by omega)).trans h9⟩, b9, t9, cs, by rw [eGR_ca i2 ha]; exact (hg _ (by omega) (by omega) (by omega) (by omega)).trans i1, i2, (i3.cg i2 (fun x x1 x2 => hg x (by omega) (by omega) (by omega) (by omega))).ca i2 (fun x x1 x2 => ha x (by omega) (by omega))⟩
  · obtain ⟨qf, e1, e2⟩ := h6
    exact GAp.ca ⟨qf, (hg _ (by omega) (by omega) (by omega) (by omega)).trans e1, e2⟩ (fun x x1 x2 => ha x (by omega) (by omega))
  · obtain ⟨r, z, e⟩ := h8 j hj
    exact ⟨r, z, (e.cg (hg _ (by omega) (by omega) (by omega) (by omega)) (hg _ (by omega) (by omega) (by omega) (by omega)) (hg _ (by omega) (by omega) (by omega) (by omega))).ca (ha _ (by omega) (by omega)) (ha _ (by omega) (by omega))⟩
/-- the nodes from lo to hi, as G has them -/
def NDS (cT : Nat → ClassId) (ad : Nat → Nat) (g : Nat → Option va_E) (G : GST) (t : Nat) (zs : Nat → Int) (n lo hi : Nat) : Prop := ∀ j, lo ≤ j → j < hi → NDp ad g G.1 t j ∧ WHO cT ad g (3000 + 32 * t + j) (4000 + 32 * t + j) 24 (smv zs (G.2.2 j) n)
theorem NDp.cg {ad ad2 : Nat → Nat} {g g2 : Nat → Option va_E} {a a2 : Nat → Nat → Int32} {t j : Nat} (h : NDp ad g a t j) (hg : g2 (2000 + 32 * t + j) = g (2000 + 32 * t + j)) (ha : ad2 (3000 + 32 * t + j) = ad (3000 + 32 * t + j)) (he : ∀ f, f < 8 → a2 f (31 * t + j) = a f (31 * t + j)) : NDp ad2 g2 a2 t j := by
  unfold NDp
  rw [ha, he 0 (by decide), he 1 (by decide), he 2 (by decide), he 3 (by decide), he 4 (by decide), he 5 (by decide), he 6 (by decide), he 7 (by decide), hg]
  exact h
theorem NDS.cg {cT : Nat → ClassId} {ad ad2 : Nat → Nat} {g g2 : Nat → Option va_E} {G G2 : GST} {t : Nat} {zs : Nat → Int} {n lo hi : Nat} (h : NDS cT ad g G t zs n lo hi) (hg : ∀ j, lo ≤ j → j < hi → g2 (2000 + 32 * t + j) = g (2000 + 32 * t + j) ∧ g2 (3000 + 32 * t + j) = g (3000 + 32 * t + j) ∧ g2 (4000 + 32 * t + j) = g (4000 + 32 * t + j) ∧ ad2 (3000 + 32 * t + j) = ad (3000 + 32 * t + j) ∧ ad2 (4000 + 32 * t + j) = ad (4000 + 32 * t + j)) (he : ∀ f j, f < 8 → lo ≤ j → j < hi → G2.1 f (31 * t + j) = G.1 f (31 * t + j)) (hr : ∀ j, lo ≤ j → j < hi → G2.2.2 j = G.2.2 j) : NDS cT ad2 g2 G2 t zs n lo hi := fun j h1 h2 => by
  obtain ⟨e1, e2, e3, e4, e5⟩ := hg j h1 h2
  obtain ⟨d1, d2⟩ := h j h1 h2
  refine ⟨d1.cg e1 e4 (fun f hf => he f j hf h1 h2), ?_⟩
  rw [hr j h1 h2]
  exact (d2.cg e2 e3).ca e5
theorem NDS.app {cT : Nat → ClassId} {ad : Nat → Nat} {g : Nat → Option va_E} {G : GST} {t : Nat} {zs : Nat → Int} {n lo mi hi : Nat} (h1 : NDS cT ad g G t zs n lo mi) (h2 : NDS cT ad g G t zs n mi hi) : NDS cT ad g G t zs n lo hi := fun j a b => by
  rcases Nat.lt_or_ge j mi with q | q
  · exact h1 j a q
  · exact h2 j q b
theorem nds_leaf {cT : Nat → ClassId} {ad : Nat → Nat} {g : Nat → Option va_E} {a : Nat → Nat → Int32} {rs : Nat → Int64} {t k d : Nat} {x : Int64} {zs : Nat → Int} {n : Nat} (h1 : g (2000 + 32 * t + k) = some (eND (-1) 0 0 0 (-1) (-1) (nI (cb x)) (nI d) (ad (3000 + 32 * t + k)))) (h2 : WHO cT ad g (3000 + 32 * t + k) (4000 + 32 * t + k) 24 (smv zs x n)) : NDS cT ad g (cgL (31 * t) (a, k, rs) x d) t zs n k (k + 1) := fun j a1 a2 => by
  have e : j = k := by omega
  rw [e]
  refine ⟨?_, by show WHO cT ad g _ _ 24 (smv zs (va_up rs k x k) n); rw [va_up_self]; exact h2⟩
  unfold NDp
  show g _ = some (eND (upd (a 0) (31 * t + k) (-1) (31 * t + k)) (upd (a 1) (31 * t + k) 0 (31 * t + k)) (upd (a 7) (31 * t + k) (vp_nar .boolean 0) (31 * t + k)) (upd (a 2) (31 * t + k) (vp_nar .boolean 0) (31 * t + k)) (upd (a 3) (31 * t + k) (-1) (31 * t + k)) (upd (a 4) (31 * t + k) (-1) (31 * t + k)) (upd (a 5) (31 * t + k) (nI (cb x)) (31 * t + k)) (upd (a 6) (31 * t + k) (nI d) (31 * t + k)) _)
  rw [pk_us, pk_us, pk_us, pk_us, pk_us, pk_us, pk_us, pk_us]
  exact h1
/-- a split: its left side, its right side -/
theorem cgw_sp {best : Int64 → BST} {ik : Nat → Int32} {b0 dpt h : Nat} {a : Nat → Nat → Int32} {k : Nat} {rs : Nat → Int64} {x xl xr : Int64} {d : Nat} (hb : b0 + k + 2 ^ (h + 1 + 1) < 2 ^ 30) (q : ¬ (d = dpt ∨ (best x).1 ≤ 0)) (hl : x &&& (best x).2.2.2.2.2 = xl) (hr : x &&& ((best x).2.2.2.2.2 ^^^ (-1)) = xr) :
    ∃ (GL GR : GST) (n1 n2 : Nat), cgw best ik b0 dpt h (gPar (gSpl (gBeg a (b0 + k) x d) (b0 + k) (best x) (ik (best x).2.2.1.toNatClampNeg)) (k + 1) (nI (b0 + k)) (vp_nar .boolean 1), k + 1, va_up rs k x) xl (d + 1) = GL ∧ cgw best ik b0 dpt h (gPar GL.1 GL.2.1 (nI (b0 + k)) (vp_nar .boolean 0), GL.2.1, GL.2.2) xr (d + 1) = GR ∧ cgw best ik b0 dpt (h + 1) (a, k, rs) x d = GR ∧ GL.2.1 = k + 1 + n1 ∧ 1 ≤ n1 ∧ n1 ≤ 2 ^ (h + 1) - 1 ∧ GR.2.1 = GL.2.1 + n2 ∧ 1 ≤ n2 ∧ n2 ≤ 2 ^ (h + 1) - 1 ∧
      (GR.1 0 (b0 + k) = (best x).2.2.1 ∧ GR.1 1 (b0 + k) = (best x).2.2.2.1 ∧ GR.1 2 (b0 + k) = vp_nar .boolean (best x).2.2.2.2.1 ∧ GR.1 3 (b0 + k) = nI (k + 1) ∧ GR.1 4 (b0 + k) = nI GL.2.1 ∧ GR.1 5 (b0 + k) = nI (cb x) ∧ GR.1 6 (b0 + k) = nI d ∧ GR.1 7 (b0 + k) = vp_nar .boolean (ik (best x).2.2.1.toNatClampNeg)) ∧ GR.2.2 k = x ∧
      (∀ f j, f < 8 → k + 1 ≤ j → j < GL.2.1 → GR.1 f (b0 + j) = GL.1 f (b0 + j)) ∧ ∀ j, j < GL.2.1 → GR.2.2 j = GL.2.2 j := by
  have p2 : 2 ^ (h + 1 + 1) = 2 * 2 ^ (h + 1) := by rw [Nat.pow_succ]; omega
  have pp : 1 ≤ 2 ^ (h + 1) := Nat.pow_pos (by decide)
  have e : cgw best ik b0 dpt (h + 1) (a, k, rs) x d = _ := if_neg q
  rw [e, hl, hr]
  obtain ⟨n1, a1, a2, a3⟩ := cgw_n (best := best) (ik := ik) (b0 := b0) (dpt := dpt) h (gPar (gSpl (gBeg a (b0 + k) x d) (b0 + k) (best x) (ik (best x).2.2.1.toNatClampNeg)) (k + 1) (nI (b0 + k)) (vp_nar .boolean 1), k + 1, va_up rs k x) xl (d + 1)
  have l1 := cgw_lo (best := best) (ik := ik) (b0 := b0) (dpt := dpt) h (gPar (gSpl (gBeg a (b0 + k) x d) (b0 + k) (best x) (ik (best x).2.2.1.toNatClampNeg)) (k + 1) (nI (b0 + k)) (vp_nar .boolean 1), k + 1, va_up rs k x) xl (d + 1) (by show b0 + (k + 1) + _ < _; omega)
  obtain ⟨GL, hGL⟩ : ∃ G, cgw best ik b0 dpt h (gPar (gSpl (gBeg a (b0 + k) x d) (b0 + k) (best x) (ik (best x).2.2.1.toNatClampNeg)) (k + 1) (nI (b0 + k)) (vp_nar .boolean 1), k + 1, va_up rs k x) xl (d + 1) = G := ⟨_, rfl⟩
  rw [hGL] at a3 l1
  have a3 : GL.2.1 = k + 1 + n1 := a3
  have l1 : (∀ j, j < k + 1 → GL.2.2 j = va_up rs k x j) ∧ ∀ f j, f < 8 → j < b0 + (k + 1) → GL.1 f j = gPar (gSpl (gBeg a (b0 + k) x d) (b0 + k) (best x) (ik (best x).2.2.1.toNatClampNeg)) (k + 1) (nI (b0 + k)) (vp_nar .boolean 1) f j := l1
  obtain ⟨n2, b1, b2, b3⟩ := cgw_n (best := best) (ik := ik) (b0 := b0) (dpt := dpt) h (gPar GL.1 GL.2.1 (nI (b0 + k)) (vp_nar .boolean 0), GL.2.1, GL.2.2) xr (d + 1)
  have l2 := cgw_lo (best := best) (ik := ik) (b0 := b0) (dpt := dpt) h (gPar GL.1 GL.2.1 (nI (b0 + k)) (vp_nar .boolean 0), GL.2.1, GL.2.2) xr (d + 1) (by show b0 + GL.2.1 + _ < _; omega)
  have cl : (nI (b0 + k)).toNatClampNeg = b0 + k := nI_clamp (by omega)
  have ng : ¬ nI (b0 + k) < 0 := fun z => by
    have h1 := nI_toInt (n := b0 + k) (by omega)
    rw [Int32.lt_iff_toInt_lt, h1] at z
    have e0 : (0 : Int32).toInt = 0 := by decide
    omega
  have v0 : vp_nar .boolean 0 = 0 := rfl
  have v1 : ¬ vp_nar .boolean 1 = 0 := by decide
  have P0 := gPar_r (a := GL.1) (m := GL.2.1) (k := b0 + k) (ab := nI (b0 + k)) ng v0 rfl (by omega)
  have P1 := gPar_l (a := gSpl (gBeg a (b0 + k) x d) (b0 + k) (best x) (ik (best x).2.2.1.toNatClampNeg)) (m := k + 1) (k := b0 + k) (ab := nI (b0 + k)) ng v1 rfl (by omega)
  have lw : ∀ f, f < 8 → (cgw best ik b0 dpt h (gPar GL.1 GL.2.1 (nI (b0 + k)) (vp_nar .boolean 0), GL.2.1, GL.2.2) xr (d + 1)).1 f (b0 + k) = gPar GL.1 GL.2.1 (nI (b0 + k)) (vp_nar .boolean 0) f (b0 + k) := fun f hf => l2.2 f (b0 + k) hf (by show b0 + k < b0 + GL.2.1; omega)
  have lg : ∀ f, f < 8 → GL.1 f (b0 + k) = gPar (gSpl (gBeg a (b0 + k) x d) (b0 + k) (best x) (ik (best x).2.2.1.toNatClampNeg)) (k + 1) (nI (b0 + k)) (vp_nar .boolean 1) f (b0 + k) := fun f hf => l1.2 f (b0 + k) hf (by omega)
  rw [P0] at lw
  rw [P1] at lg
  obtain ⟨GR, hGR⟩ : ∃ G, cgw best ik b0 dpt h (gPar GL.1 GL.2.1 (nI (b0 + k)) (vp_nar .boolean 0), GL.2.1, GL.2.2) xr (d + 1) = G := ⟨_, rfl⟩
  rw [hGR] at b3 l2 lw
  refine ⟨GL, GR, n1, n2, hGL, hGR, ?_, a3, a1, a2, b3, b1, b2, ⟨(lw 0 (by decide)).trans ((lg 0 (by decide)).trans pk_us), (lw 1 (by decide)).trans ((lg 1 (by decide)).trans pk_us), (lw 2 (by decide)).trans ((lg 2 (by decide)).trans pk_us), (lw 3 (by decide)).trans ((lg 3 (by decide)).trans pk_us), (lw 4 (by decide)).trans pk_us, (lw 5 (by decide)).trans ((lg 5 (by decide)).trans pk_us), (lw 6 (by decide)).trans ((lg 6 (by decide)).trans pk_us), (lw 7 (by decide)).trans ((lg 7 (by decide)).trans pk_us)⟩, (l2.1 k (by show k < GL.2.1; omega)).trans ((l1.1 k (by omega)).trans (va_up_self _ _ _)), fun f j hf h1 h2 => (l2.2 f (b0 + j) hf (by show b0 + j < b0 + GL.2.1; omega)).trans (gPar_o (by omega) (by omega) f hf), fun j hj => l2.1 j hj⟩
  rw [← hGR, ← hGL]
set_option maxHeartbeats 4000000 in
set_option maxRecDepth 100000 in
theorem k_grow0 (l : Launch) (D : va_G) (cT : Nat → ClassId) (cds : List Nat) (ad : Nat → Nat) (gg : Nat → Option va_E) (tE : Nat) (mE : Nat) (n : Nat) (zs : Nat → Int) (XB : Nat) (vv : Nat → Int32) (vq : Nat → Int32) (eg : Nat → Int32) (ik : Nat → Int32) (ne : Nat → Nat) (dpt : Nat) (lst : Nat) (w : Nat) (pu : Int32) (pq9 : Int32) (psb : Int64) (pcb : Int32) (wd : Nat) (mk : Nat) (t : Nat) (k : Nat) (tw : Int32) (tu : Int32) (tl : Int32) (tsc : Int64) (a8 : Nat → Nat → Int32) (rs : Nat → Int64) (x : Int64) (d : Nat) (hcd : CD cds) (ht16 : t < 16) (hTc : gg (1000 + t) = some (eTR (ad (1020 + t)) (nI k) tw tu tl tsc)) (hTm : TMD cT ad gg tE t mk) (hkm : k ≤ mk) (hkr : k + 1 ≤ 31) (hGB : GRB cT ad gg n zs XB vv vq eg ik ne dpt lst w pu pq9 psb pcb wd) (hn48 : n ≤ 48) (hXB : ∀ i, i < n → (zs i).natAbs ≤ XB) (hfit : 49 * XB < 1000000000 ^ 24) (hne : ∀ c, c < 6 → ne c ≤ 11) (hik : ∀ c, c < 6 → ik c = 0 ∨ ik c = 1) (hls2 : 1 ≤ lst ∧ lst ≤ 24) (hw20 : w ≤ 20) (hB2 : 48 * XB * 2 < 1000000000 ^ 24) (hB3 : 48 * XB * (48 * XB) * 68 * 2 < 1000000000 ^ 48) (hB4 : 48 * XB * (48 * XB) * 136 * 4624 < 1000000000 ^ 48) (hB5 : 48 * XB * 100 < 1000000000 ^ 48) (hwd6 : wd ≤ 6) (hS9 : ∀ c, c < 6 → ik c = 0 → RIS eg (11 * c) (ne c)) (hVk : ∀ c, c < 6 → ¬ ik c = 0 → ∀ r, r < n → ¬ vv (6 * r + c) = (-2147483648) → 0 ≤ vv (6 * r + c) ∧ vv (6 * r + c) < 12) (hAn : SUBn x n) (hdd : d ≤ dpt ∧ dpt ≤ d + 0 ∧ dpt ≤ 4) (sz : Nat) : Met l yGr_grow WGr_grow ({ frames := 8, cells := 4 * (max mk (cgw (fun x8 => colF zs n w lst vv eg ik ne pcb x8 wd) ik (31 * t) dpt 0 (a8, k, rs) x d).2.1 - mk), slots := 69 * (max mk (cgw (fun x8 => colF zs n w lst vv eg ik ne pcb x8 wd) ik (31 * t) dpt 0 (a8, k, rs) x d).2.1 - mk), locals := 194 } : Room) (RWE tE mE D vwCl [.ref (ad 6), .ref (ad (1000 + t)), .long x, .int (nI d)] ([] ++ pg cds ad gg) (TY cT) sz) (va_Qi (fun (r9 : Int32) (u9 : (Nat → Nat) × (Nat → Option va_E)) => r9 = nI k ∧ (∀ z8, (z8 < 60 ∨ (72 < z8 ∧ z8 < 200) ∨ 260 ≤ z8) → z8 ≠ 6 → z8 ≠ 8 → z8 ≠ 1000 + t → z8 ≠ 1020 + t → z8 ≠ 1040 + t → (z8 < 2000 + 32 * t + k ∨ 2032 + 32 * t ≤ z8) → (z8 < 3000 + 32 * t + k ∨ 3032 + 32 * t ≤ z8) → (z8 < 4000 + 32 * t + k ∨ 4032 + 32 * t ≤ z8) → u9.2 z8 = gg z8) ∧ (∀ z8, z8 ≠ 1040 + t → (z8 < 2000 + 32 * t + k ∨ 2032 + 32 * t ≤ z8) → (z8 < 3000 + 32 * t + k ∨ 3032 + 32 * t ≤ z8) → (z8 < 4000 + 32 * t + k ∨ 4032 + 32 * t ≤ z8) → u9.1 z8 = ad z8) ∧ u9.2 (1000 + t) = some (eTR (u9.1 (1020 + t)) (nI (cgw (fun x8 => colF zs n w lst vv eg ik ne pcb x8 wd) ik (31 * t) dpt 0 (a8, k, rs) x d).2.1) tw tu tl tsc) ∧ TMD cT u9.1 u9.2 tE t (max mk (cgw (fun x8 => colF zs n w lst vv eg ik ne pcb x8 wd) ik (31 * t) dpt 0 (a8, k, rs) x d).2.1) ∧ NDS cT u9.1 u9.2 (cgw (fun x8 => colF zs n w lst vv eg ik ne pcb x8 wd) ik (31 * t) dpt 0 (a8, k, rs) x d) t zs n k (cgw (fun x8 => colF zs n w lst vv eg ik ne pcb x8 wd) ik (31 * t) dpt 0 (a8, k, rs) x d).2.1 ∧ GRB cT u9.1 u9.2 n zs XB vv vq eg ik ne dpt lst w pu pq9 psb pcb wd) (BW D vwCl (va_A ([] ++ pg cds ad gg) sz) (fun u9 : (Nat → Nat) × (Nat → Option va_E) => ([] ++ pg cds u9.1 u9.2))) (va_A ([] ++ pg cds ad gg) sz)) (4 * (max mk (cgw (fun x8 => colF zs n w lst vv eg ik ne pcb x8 wd) ik (31 * t) dpt 0 (a8, k, rs) x d).2.1 - mk)) (69 * (max mk (cgw (fun x8 => colF zs n w lst vv eg ik ne pcb x8 wd) ik (31 * t) dpt 0 (a8, k, rs) x d).2.1 - mk)) (va_A ([] ++ pg cds ad gg) sz) := by
  refine Met.ofW (cc := cGr_grow) (maxL := 9) (ret := (some .int)) (by decide) rfl ?_
  intro p e s m args below meth c s₁ B hml hv
  obtain ⟨rfl, ⟨hsz, hZ, hP, hK, hD0⟩, hE0⟩ := hv
  have hx := B.exec
  have hb := B.bytes
  have hr := B.returns
  have hts := atoms_spec (ws := WGr_grow) B.pre
  have hT : ∀ w ∈ TB, w.before _ s = true := fun w h => hts w (List.mem_cons_of_mem _ h)
  have hown : s.vm.findClass R_Gr = some m.cls := findClass_of_methodNamed B.named
  have hlocks := B.notSynchronized
  subst hsz
  have hD := hD0.self (sz := s.heap.size)
  generalize hAe : va_A ([] ++ pg cds ad gg) s.heap.size = A at hD hZ hE0 ⊢
  have hA : ∀ q : Nat, s.heap.size ≤ q → A q := fun q h => by rw [← hAe]; exact Or.inr h
  have hS : va_S A s.heap s.heap [] := va_S.rf
  have hl := lv_entry ([.ref (ad 6), .ref (ad (1000 + t)), .long x, .int (nI d)]) (n := 9) (Nat.le_of_ble_eq_true rfl)
  rw [lg_entry_eq]
  generalize (lg_sl ([.ref (ad 6), .ref (ad (1000 + t)), .long x, .int (nI d)]) ++ List.replicate (9 - (lg_sl ([.ref (ad 6), .ref (ad (1000 + t)), .long x, .int (nI d)])).length) Slot.unset).toArray = ls at hl ⊢
  have hl : lv_has ls 9 [(0, .ref (ad 6)), (1, .ref (ad (1000 + t))), (2, .long x), (4, .int (nI d))] := hl
  obtain ⟨hcn, hcn1, hcn2, hcn3⟩ := cgw_n (best := (fun x8 => colF zs n w lst vv eg ik ne pcb x8 wd)) (ik := ik) (b0 := 31 * t) (dpt := dpt) 0 (a8, k, rs) x d
  have hcn3 : (cgw (fun x8 => colF zs n w lst vv eg ik ne pcb x8 wd) ik (31 * t) dpt 0 (a8, k, rs) x d).2.1 = k + hcn := hcn3
  have hcn2 : hcn ≤ 1 := hcn2
  refine lv_aload_n hx hb dGr_grow_0 rfl (lv_at hl 1 rfl) ?_
  refine lv_lload_n hx hb dGr_grow_1 rfl (lv_at hl 2 rfl) ?_
  refine ro_i (va_Run.run (va_runS (As := [.long x]) (rest := [.ref (ad (1000 + t))]) ⟨hx, hb, hml, hown, hT⟩ (k_bitCount l D cT x) ⟨callB_of 1 hT (tb_gd w374) rfl rfl rfl (hT _ w19) (hT _ w816) hLg_bitCount ⟨Nat.le_of_ble_eq_true rfl, Nat.le_of_ble_eq_true rfl⟩, (hT _ w373)⟩ (RO.preS hZ hS ((show va_P D vwCl [] _ from fun _ _ h => nomatch h)) hK) rfl rfl hl.1 rfl (lv_room (Nat.le_of_ble_eq_true rfl)) dGr_grow_2 ⟨(by show 0 + 0 ≤ (4 * (max mk (cgw (fun x8 => colF zs n w lst vv eg ik ne pcb x8 wd) ik (31 * t) dpt 0 (a8, k, rs) x d).2.1 - mk)); omega), (by show 0 + 0 ≤ (69 * (max mk (cgw (fun x8 => colF zs n w lst vv eg ik ne pcb x8 wd) ik (31 * t) dpt 0 (a8, k, rs) x d).2.1 - mk)); omega)⟩)) ?_
  refine lv_iload hx hb dGr_grow_5 (lv_at hl 3 rfl) ?_
  refine hy_iP (X := []) (pl := pg cds ad gg) (cx := []) (wr := []) hP hD hS hA [] [] rfl rfl (by decide) (by decide) (va_runV (As := [.int (nI (cb x)), .int (nI d)]) (rest := []) ⟨hx, hb, hml, hown, hT⟩ (k_newLeaf l D cT cds ad gg tE mE mk t k tw tu tl tsc (nI (cb x)) (nI d) hcd ht16 hTc hTm hkm (by omega) _) ⟨callB_of 2 hT (tb_gd w820) rfl rfl rfl (hT _ w24) (hT _ w817) hTr_newLeaf ⟨Nat.le_of_ble_eq_true rfl, Nat.le_of_ble_eq_true rfl⟩, (hT _ w818), (hT _ w819)⟩ (RWE.preW (ci := 9) (q0 := 0) hE0 hZ hS (va_freeP (cx := []) hD hS hA [] rfl) (hP.part (cx := []) [] rfl) hK (hD.part (cx := []) [] (by decide) rfl) (pg_1 (x := 1000 + t) hcd hP (by omega) hTc) rfl rfl) rfl rfl hl.1 rfl (lv_room (Nat.le_of_ble_eq_true rfl)) dGr_grow_7 ⟨(by show 0 + (4 * (max mk (k + 1) - mk)) ≤ (4 * (max mk (cgw (fun x8 => colF zs n w lst vv eg ik ne pcb x8 wd) ik (31 * t) dpt 0 (a8, k, rs) x d).2.1 - mk)); omega), (by show 0 + (69 * (max mk (k + 1) - mk)) ≤ (69 * (max mk (cgw (fun x8 => colF zs n w lst vv eg ik ne pcb x8 wd) ik (31 * t) dpt 0 (a8, k, rs) x d).2.1 - mk)); omega)⟩) (fun ru1 u9 H locs hpu1 hP hD hS => ?_)
  obtain ⟨ad7u1, gg7u1⟩ := u9
  have hpu1 : ru1 = nI k ∧ (∀ z8, z8 ≠ 1000 + t → z8 ≠ 1020 + t → z8 ≠ 1040 + t → z8 ≠ 2000 + 32 * t + k → z8 ≠ 3000 + 32 * t + k → z8 ≠ 4000 + 32 * t + k → gg7u1 z8 = gg z8) ∧ (∀ z8, z8 ≠ 1040 + t → z8 ≠ 2000 + 32 * t + k → z8 ≠ 3000 + 32 * t + k → z8 ≠ 4000 + 32 * t + k → ad7u1 z8 = ad z8) ∧ gg7u1 (1000 + t) = some (eTR (ad7u1 (1020 + t)) (nI (k + 1)) tw tu tl tsc) ∧ TMD cT ad7u1 gg7u1 tE t (max mk (k + 1)) ∧ gg7u1 (2000 + 32 * t + k) = some (eND (-1) 0 0 0 (-1) (-1) (nI (cb x)) (nI d) (ad7u1 (3000 + 32 * t + k))) := hpu1
  have hP : va_P D vwCl ([] ++ pg cds ad7u1 gg7u1) _ := hP
  have hD : va_D A ([] ++ pg cds ad7u1 gg7u1) := hD
  obtain ⟨hr1, F1, A1, T1, M1, N1⟩ := hpu1
  refine lv_topi (fun y9 e9 => ?_)
  cases (show y9 = nI k from e9.trans hr1)
  have hl : lv_has ls 9 [(0, .ref (ad7u1 6)), (1, .ref (ad7u1 (1000 + t))), (2, .long x), (4, .int (nI d))] := by rw [A1 6 (by omega) (by omega) (by omega) (by omega), A1 (1000 + t) (by omega) (by omega) (by omega) (by omega)]; exact hl
  have hGB1 : GRB cT ad7u1 gg7u1 n zs XB vv vq eg ik ne dpt lst w pu pq9 psb pcb wd := hGB.cg (fun x9 h8 h9 => A1 x9 (by omega) (by omega) (by omega) (by omega)) (fun x9 h8 _ _ _ => F1 x9 (by omega) (by omega) (by omega) (by omega) (by omega) (by omega))
  obtain ⟨phtb, phRs, phCa, phCf, phpl, phGa, phSc, phGs, ⟨pfo, phod⟩, pbb9, ptt9, pb90, phgr, phbt, phSP⟩ := id hGB1
  obtain ⟨_, zu9, hzu9⟩ := M1.2.2.1 k (by omega)
  refine lv_istore hx hb dGr_grow_10 hl (by decide) rfl (fun ls hl => ?_)
  have hl : lv_has ls 9 [(5, .int (nI k)), (0, .ref (ad7u1 6)), (1, .ref (ad7u1 (1000 + t))), (2, .long x), (4, .int (nI d))] := hl
  refine lv_aload_n hx hb dGr_grow_12 rfl (lv_at hl 2 rfl) ?_
  refine lv_iload hx hb dGr_grow_13 (lv_at hl 0 rfl) ?_
  refine ro_r (va_Run.run (va_runV (As := [.int (nI k)]) (rest := []) ⟨hx, hb, hml, hown, hT⟩ (k_treeAtX l D cT cds ad7u1 gg7u1 tE (max mk (k + 1)) (k + 1) t k tw tu tl tsc hcd ht16 T1 M1 (by omega)) ⟨callB_of 1 hT (tb_gd w886) rfl rfl rfl (hT _ w24) (hT _ w883) hTr_at ⟨Nat.le_of_ble_eq_true rfl, Nat.le_of_ble_eq_true rfl⟩, (hT _ w884), (hT _ w885)⟩ (RO.preW (ci := 9) (q0 := 0) hZ hS ((show va_P D vwCl ([] ++ pg cds ad7u1 gg7u1) _ from (pv_p hP))) hK (pg_1 (x := 1000 + t) hcd hP (by omega) T1) rfl rfl) rfl rfl hl.1 rfl (lv_room (Nat.le_of_ble_eq_true rfl)) dGr_grow_15 ⟨(by show (0 + (4 * (max mk (k + 1) - mk))) + 0 ≤ (4 * (max mk (cgw (fun x8 => colF zs n w lst vv eg ik ne pcb x8 wd) ik (31 * t) dpt 0 (a8, k, rs) x d).2.1 - mk)); omega), (by show (0 + (69 * (max mk (k + 1) - mk))) + 0 ≤ (69 * (max mk (cgw (fun x8 => colF zs n w lst vv eg ik ne pcb x8 wd) ik (31 * t) dpt 0 (a8, k, rs) x d).2.1 - mk)); omega)⟩)) ?_
  refine lv_astore hx hb dGr_grow_18 hl (by decide) rfl (fun ls hl => ?_)
  have hl : lv_has ls 9 [(6, .ref (ad7u1 (2000 + 32 * t + k))), (5, .int (nI k)), (0, .ref (ad7u1 6)), (1, .ref (ad7u1 (1000 + t))), (2, .long x), (4, .int (nI d))] := hl
  refine lv_aload_n hx hb dGr_grow_20 rfl (lv_at hl 2 rfl) ?_
  refine lv_lload_n hx hb dGr_grow_21 rfl (lv_at hl 4 rfl) ?_
  refine lv_aload hx hb dGr_grow_22 (lv_at hl 0 rfl) ?_
  refine va_get (D := D) (ci := 10) (v := .ref (ad7u1 (3000 + 32 * t + k))) (C := R_N) (T := T_N) (N := 9) hx hb hT in_N hown hK (pg_1 (x := 2000 + 32 * t + k) hcd hP (by omega) N1) 0 rfl rfl 8 (by decide) (hT _ w856) (fun _ h9 => h9) rfl dGr_grow_24 ?_
  refine hy_vP (X := []) (pl := pg cds ad7u1 gg7u1) (cx := []) (wr := []) hP hD hS hA [] [] rfl rfl (by decide) (by decide) (va_runV (As := [.long x, .ref (ad7u1 (3000 + 32 * t + k))]) (rest := []) ⟨hx, hb, hml, hown, hT⟩ (k_sumUp l D cT cds ad7u1 gg7u1 pbb9 ptt9 (nI wd) (nI n) n zs XB (3000 + 32 * t + k) (4000 + 32 * t + k) x zu9 hcd phgr phtb rfl hn48 phRs hXB hfit (by omega) hzu9 _) ⟨callB_of 2 hT (tb_gd w890) rfl rfl rfl (hT _ w6) (hT _ w887) hGr_sumUp ⟨Nat.le_of_ble_eq_true rfl, Nat.le_of_ble_eq_true rfl⟩, (hT _ w889), (hT _ wp13)⟩ (RW.preW (ci := 7) (q0 := 0) hZ hS (va_freeP (cx := []) hD hS hA [] rfl) (hP.part (cx := []) [] rfl) hK (hD.part (cx := []) [] (by decide) rfl) (pg_1 (x := 6) hcd hP (by decide) phgr) rfl rfl) rfl rfl hl.1 rfl (lv_room (Nat.le_of_ble_eq_true rfl)) dGr_grow_27 ⟨(by show (0 + (4 * (max mk (k + 1) - mk))) + 0 ≤ (4 * (max mk (cgw (fun x8 => colF zs n w lst vv eg ik ne pcb x8 wd) ik (31 * t) dpt 0 (a8, k, rs) x d).2.1 - mk)); omega), (by show (0 + (69 * (max mk (k + 1) - mk))) + 0 ≤ (69 * (max mk (cgw (fun x8 => colF zs n w lst vv eg ik ne pcb x8 wd) ik (31 * t) dpt 0 (a8, k, rs) x d).2.1 - mk)); omega)⟩) (fun u9 H locs hpu2 hP hD hS => ?_)
  obtain ⟨gg7u2, rfl⟩ : ∃ q9, q9 = u9 := ⟨_, rfl⟩
  have hpu2 : (∀ z8, z8 ≠ (3000 + 32 * t + k) → z8 ≠ (4000 + 32 * t + k) → gg7u2 z8 = gg7u1 z8) ∧ WHO cT ad7u1 gg7u2 (3000 + 32 * t + k) (4000 + 32 * t + k) 24 (smv zs x n) := hpu2
  have hP : va_P D vwCl ([] ++ pg cds ad7u1 gg7u2) _ := hP
  have hD : va_D A ([] ++ pg cds ad7u1 gg7u2) := hD
  obtain ⟨F2, S2⟩ := hpu2
  have N2 := (F2 (2000 + 32 * t + k) (by omega) (by omega)).trans N1
  have T2 := (F2 (1000 + t) (by omega) (by omega)).trans T1
  have M2 : TMD cT ad7u1 gg7u2 tE t (max mk (k + 1)) := tmd_sm ht16 M1 (k := k) (by omega) F2 S2
  have hGB2 : GRB cT ad7u1 gg7u2 n zs XB vv vq eg ik ne dpt lst w pu pq9 psb pcb wd := hGB1.cg (fun _ _ _ => rfl) (fun x9 h9 _ _ _ => F2 x9 (by omega) (by omega))
  obtain ⟨qhtb, qhRs, qhCa, qhCf, qhpl, qhGa, qhSc, qhGs, ⟨qfo, qhod⟩, qbb9, qtt9, qb90, qhgr, qhbt, qhSP⟩ := id hGB2
  refine lv_iload hx hb dGr_grow_30 (lv_at hl 5 rfl) ?_
  refine lv_aload_n hx hb dGr_grow_32 rfl (lv_at hl 2 rfl) ?_
  refine va_get (D := D) (ci := 7) (v := .ref (ad7u1 4)) (C := R_Gr) (T := T_Gr) (N := 13) hx hb hT in_Gr hown hK (pg_1 (x := 6) hcd hP (by decide) qhgr) 0 rfl rfl 1 (by decide) (hT _ w215) (fun _ h9 => h9) rfl dGr_grow_33 ?_
  refine va_get (D := D) (ci := 3) (v := .int (nI dpt)) (C := R_P) (T := T_P) (N := 7) hx hb hT in_P hown hK (pg_1 (x := 4) hcd hP (by decide) qhpl) 0 rfl rfl 0 (by decide) (hT _ w100) (fun _ h9 => h9) rfl dGr_grow_36 ?_
  refine lv_icmp_ge (tgt := 153) hx hb dGr_grow_39 rfl (fun _ => ?_) (fun h3 => absurd ((nI_leI (a := dpt) (b := d) (by omega) (by omega)).mpr (by omega)) h3)
  refine lv_iload hx hb dGr_grow_153 (lv_at hl 1 rfl) ?_
  have hGBz := hGB2
  have hcge := (show (cgw (fun x8 => colF zs n w lst vv eg ik ne pcb x8 wd) ik (31 * t) dpt 0 (a8, k, rs) x d) = cgL (31 * t) (a8, k, rs) x d from rfl)
  have hcg1 : (cgw (fun x8 => colF zs n w lst vv eg ik ne pcb x8 wd) ik (31 * t) dpt 0 (a8, k, rs) x d).2.1 = k + 1 := congrArg (fun q : GST => q.2.1) hcge
  have hMz : TMD cT ad7u1 gg7u2 tE t (max mk (k + 1)) := M2.cg (rfl) (rfl) rfl (fun j hj => ⟨rfl, rfl, rfl, rfl, rfl, rfl⟩)
  have hNz : NDS cT ad7u1 gg7u2 (cgw (fun x8 => colF zs n w lst vv eg ik ne pcb x8 wd) ik (31 * t) dpt 0 (a8, k, rs) x d) t zs n k (k + 1) := by rw [hcge]; exact nds_leaf ((rfl).trans N2) (S2.cg (rfl) (rfl))
  have hP9 : va_P D vwCl ([] ++ pg cds ad7u1 gg7u2) _ := hP.part (cx := []) [] rfl
  have hD9 : va_D A ([] ++ pg cds ad7u1 gg7u2) := hD.part (cx := []) [] (by decide) rfl
  refine W.widen (k := 4 * (max mk (cgw (fun x8 => colF zs n w lst vv eg ik ne pcb x8 wd) ik (31 * t) dpt 0 (a8, k, rs) x d).2.1 - mk)) (n := 69 * (max mk (cgw (fun x8 => colF zs n w lst vv eg ik ne pcb x8 wd) ik (31 * t) dpt 0 (a8, k, rs) x d).2.1 - mk)) ((by show (0 + (4 * (max mk (k + 1) - mk))) + 0 ≤ 4 * (max mk (cgw (fun x8 => colF zs n w lst vv eg ik ne pcb x8 wd) ik (31 * t) dpt 0 (a8, k, rs) x d).2.1 - mk); omega)) ((by show (0 + (69 * (max mk (k + 1) - mk))) + 0 ≤ 69 * (max mk (cgw (fun x8 => colF zs n w lst vv eg ik ne pcb x8 wd) ik (31 * t) dpt 0 (a8, k, rs) x d).2.1 - mk); omega)) ?_
  exact W.iret (v := nI k) hx hb hr (fun t9 ht9 hW9 => ⟨⟨nI k, (ad7u1, gg7u2), rfl, (show (nI k) = nI k ∧ (∀ z8, (z8 < 60 ∨ (72 < z8 ∧ z8 < 200) ∨ 260 ≤ z8) → z8 ≠ 6 → z8 ≠ 8 → z8 ≠ 1000 + t → z8 ≠ 1020 + t → z8 ≠ 1040 + t → (z8 < 2000 + 32 * t + k ∨ 2032 + 32 * t ≤ z8) → (z8 < 3000 + 32 * t + k ∨ 3032 + 32 * t ≤ z8) → (z8 < 4000 + 32 * t + k ∨ 4032 + 32 * t ≤ z8) → gg7u2 z8 = gg z8) ∧ (∀ z8, z8 ≠ 1040 + t → (z8 < 2000 + 32 * t + k ∨ 2032 + 32 * t ≤ z8) → (z8 < 3000 + 32 * t + k ∨ 3032 + 32 * t ≤ z8) → (z8 < 4000 + 32 * t + k ∨ 4032 + 32 * t ≤ z8) → ad7u1 z8 = ad z8) ∧ gg7u2 (1000 + t) = some (eTR (ad7u1 (1020 + t)) (nI (cgw (fun x8 => colF zs n w lst vv eg ik ne pcb x8 wd) ik (31 * t) dpt 0 (a8, k, rs) x d).2.1) tw tu tl tsc) ∧ TMD cT ad7u1 gg7u2 tE t (max mk (cgw (fun x8 => colF zs n w lst vv eg ik ne pcb x8 wd) ik (31 * t) dpt 0 (a8, k, rs) x d).2.1) ∧ NDS cT ad7u1 gg7u2 (cgw (fun x8 => colF zs n w lst vv eg ik ne pcb x8 wd) ik (31 * t) dpt 0 (a8, k, rs) x d) t zs n k (cgw (fun x8 => colF zs n w lst vv eg ik ne pcb x8 wd) ik (31 * t) dpt 0 (a8, k, rs) x d).2.1 ∧ GRB cT ad7u1 gg7u2 n zs XB vv vq eg ik ne dpt lst w pu pq9 psb pcb wd from ⟨rfl, (fun z8 n1 n2 n3 n4 n5 n6 n7 n8 n9 => (rfl).trans ((F2 z8 (by omega) (by omega)).trans (F1 z8 (by omega) (by omega) (by omega) (by omega) (by omega) (by omega)))), (fun z8 n1 n2 n3 n4 => A1 z8 (by omega) (by omega) (by omega) (by omega)), by rw [hcg1]; exact (rfl).trans T2, by rw [hcg1]; exact hMz, by rw [hcg1]; exact hNz, hGBz⟩), by rw [ht9]; exact hP9, hD9⟩, hS.F ht9⟩) hS.2.2 dGr_grow_155
set_option maxHeartbeats 4000000 in
set_option maxRecDepth 100000 in
theorem k_grow1 (l : Launch) (D : va_G) (cT : Nat → ClassId) (cds : List Nat) (ad : Nat → Nat) (gg : Nat → Option va_E) (tE : Nat) (mE : Nat) (n : Nat) (zs : Nat → Int) (XB : Nat) (vv : Nat → Int32) (vq : Nat → Int32) (eg : Nat → Int32) (ik : Nat → Int32) (ne : Nat → Nat) (dpt : Nat) (lst : Nat) (w : Nat) (pu : Int32) (pq9 : Int32) (psb : Int64) (pcb : Int32) (wd : Nat) (mk : Nat) (t : Nat) (k : Nat) (tw : Int32) (tu : Int32) (tl : Int32) (tsc : Int64) (a8 : Nat → Nat → Int32) (rs : Nat → Int64) (x : Int64) (d : Nat) (hcd : CD cds) (ht16 : t < 16) (hTc : gg (1000 + t) = some (eTR (ad (1020 + t)) (nI k) tw tu tl tsc)) (hTm : TMD cT ad gg tE t mk) (hkm : k ≤ mk) (hkr : k + 3 ≤ 31) (hGB : GRB cT ad gg n zs XB vv vq eg ik ne dpt lst w pu pq9 psb pcb wd) (hn48 : n ≤ 48) (hXB : ∀ i, i < n → (zs i).natAbs ≤ XB) (hfit : 49 * XB < 1000000000 ^ 24) (hne : ∀ c, c < 6 → ne c ≤ 11) (hik : ∀ c, c < 6 → ik c = 0 ∨ ik c = 1) (hls2 : 1 ≤ lst ∧ lst ≤ 24) (hw20 : w ≤ 20) (hB2 : 48 * XB * 2 < 1000000000 ^ 24) (hB3 : 48 * XB * (48 * XB) * 68 * 2 < 1000000000 ^ 48) (hB4 : 48 * XB * (48 * XB) * 136 * 4624 < 1000000000 ^ 48) (hB5 : 48 * XB * 100 < 1000000000 ^ 48) (hwd6 : wd ≤ 6) (hS9 : ∀ c, c < 6 → ik c = 0 → RIS eg (11 * c) (ne c)) (hVk : ∀ c, c < 6 → ¬ ik c = 0 → ∀ r, r < n → ¬ vv (6 * r + c) = (-2147483648) → 0 ≤ vv (6 * r + c) ∧ vv (6 * r + c) < 12) (hAn : SUBn x n) (hdd : d ≤ dpt ∧ dpt ≤ d + 1 ∧ dpt ≤ 4) (sz : Nat) : Met l yGr_grow WGr_grow ({ frames := 9, cells := 4 * (max mk (cgw (fun x8 => colF zs n w lst vv eg ik ne pcb x8 wd) ik (31 * t) dpt 1 (a8, k, rs) x d).2.1 - mk), slots := 69 * (max mk (cgw (fun x8 => colF zs n w lst vv eg ik ne pcb x8 wd) ik (31 * t) dpt 1 (a8, k, rs) x d).2.1 - mk), locals := 222 } : Room) (RWE tE mE D vwCl [.ref (ad 6), .ref (ad (1000 + t)), .long x, .int (nI d)] ([] ++ pg cds ad gg) (TY cT) sz) (va_Qi (fun (r9 : Int32) (u9 : (Nat → Nat) × (Nat → Option va_E)) => r9 = nI k ∧ (∀ z8, (z8 < 60 ∨ (72 < z8 ∧ z8 < 200) ∨ 260 ≤ z8) → z8 ≠ 6 → z8 ≠ 8 → z8 ≠ 1000 + t → z8 ≠ 1020 + t → z8 ≠ 1040 + t → (z8 < 2000 + 32 * t + k ∨ 2032 + 32 * t ≤ z8) → (z8 < 3000 + 32 * t + k ∨ 3032 + 32 * t ≤ z8) → (z8 < 4000 + 32 * t + k ∨ 4032 + 32 * t ≤ z8) → u9.2 z8 = gg z8) ∧ (∀ z8, z8 ≠ 1040 + t → (z8 < 2000 + 32 * t + k ∨ 2032 + 32 * t ≤ z8) → (z8 < 3000 + 32 * t + k ∨ 3032 + 32 * t ≤ z8) → (z8 < 4000 + 32 * t + k ∨ 4032 + 32 * t ≤ z8) → u9.1 z8 = ad z8) ∧ u9.2 (1000 + t) = some (eTR (u9.1 (1020 + t)) (nI (cgw (fun x8 => colF zs n w lst vv eg ik ne pcb x8 wd) ik (31 * t) dpt 1 (a8, k, rs) x d).2.1) tw tu tl tsc) ∧ TMD cT u9.1 u9.2 tE t (max mk (cgw (fun x8 => colF zs n w lst vv eg ik ne pcb x8 wd) ik (31 * t) dpt 1 (a8, k, rs) x d).2.1) ∧ NDS cT u9.1 u9.2 (cgw (fun x8 => colF zs n w lst vv eg ik ne pcb x8 wd) ik (31 * t) dpt 1 (a8, k, rs) x d) t zs n k (cgw (fun x8 => colF zs n w lst vv eg ik ne pcb x8 wd) ik (31 * t) dpt 1 (a8, k, rs) x d).2.1 ∧ GRB cT u9.1 u9.2 n zs XB vv vq eg ik ne dpt lst w pu pq9 psb pcb wd) (BW D vwCl (va_A ([] ++ pg cds ad gg) sz) (fun u9 : (Nat → Nat) × (Nat → Option va_E) => ([] ++ pg cds u9.1 u9.2))) (va_A ([] ++ pg cds ad gg) sz)) (4 * (max mk (cgw (fun x8 => colF zs n w lst vv eg ik ne pcb x8 wd) ik (31 * t) dpt 1 (a8, k, rs) x d).2.1 - mk)) (69 * (max mk (cgw (fun x8 => colF zs n w lst vv eg ik ne pcb x8 wd) ik (31 * t) dpt 1 (a8, k, rs) x d).2.1 - mk)) (va_A ([] ++ pg cds ad gg) sz) := by
  refine Met.ofW (cc := cGr_grow) (maxL := 9) (ret := (some .int)) (by decide) rfl ?_
  intro p e s m args below meth c s₁ B hml hv
  obtain ⟨rfl, ⟨hsz, hZ, hP, hK, hD0⟩, hE0⟩ := hv
  have hx := B.exec
  have hb := B.bytes
  have hr := B.returns
  have hts := atoms_spec (ws := WGr_grow) B.pre
  have hT : ∀ w ∈ TB, w.before _ s = true := fun w h => hts w (List.mem_cons_of_mem _ h)
  have hown : s.vm.findClass R_Gr = some m.cls := findClass_of_methodNamed B.named
  have hlocks := B.notSynchronized
  subst hsz
  have hD := hD0.self (sz := s.heap.size)
  generalize hAe : va_A ([] ++ pg cds ad gg) s.heap.size = A at hD hZ hE0 ⊢
  have hA : ∀ q : Nat, s.heap.size ≤ q → A q := fun q h => by rw [← hAe]; exact Or.inr h
  have hS : va_S A s.heap s.heap [] := va_S.rf
  have hl := lv_entry ([.ref (ad 6), .ref (ad (1000 + t)), .long x, .int (nI d)]) (n := 9) (Nat.le_of_ble_eq_true rfl)
  rw [lg_entry_eq]
  generalize (lg_sl ([.ref (ad 6), .ref (ad (1000 + t)), .long x, .int (nI d)]) ++ List.replicate (9 - (lg_sl ([.ref (ad 6), .ref (ad (1000 + t)), .long x, .int (nI d)])).length) Slot.unset).toArray = ls at hl ⊢
  have hl : lv_has ls 9 [(0, .ref (ad 6)), (1, .ref (ad (1000 + t))), (2, .long x), (4, .int (nI d))] := hl
  obtain ⟨hcn, hcn1, hcn2, hcn3⟩ := cgw_n (best := (fun x8 => colF zs n w lst vv eg ik ne pcb x8 wd)) (ik := ik) (b0 := 31 * t) (dpt := dpt) 1 (a8, k, rs) x d
  have hcn3 : (cgw (fun x8 => colF zs n w lst vv eg ik ne pcb x8 wd) ik (31 * t) dpt 1 (a8, k, rs) x d).2.1 = k + hcn := hcn3
  have hcn2 : hcn ≤ 3 := hcn2
  refine lv_aload_n hx hb dGr_grow_0 rfl (lv_at hl 1 rfl) ?_
  refine lv_lload_n hx hb dGr_grow_1 rfl (lv_at hl 2 rfl) ?_
  refine ro_i (va_Run.run (va_runS (As := [.long x]) (rest := [.ref (ad (1000 + t))]) ⟨hx, hb, hml, hown, hT⟩ (k_bitCount l D cT x) ⟨callB_of 1 hT (tb_gd w374) rfl rfl rfl (hT _ w19) (hT _ w816) hLg_bitCount ⟨Nat.le_of_ble_eq_true rfl, Nat.le_of_ble_eq_true rfl⟩, (hT _ w373)⟩ (RO.preS hZ hS ((show va_P D vwCl [] _ from fun _ _ h => nomatch h)) hK) rfl rfl hl.1 rfl (lv_room (Nat.le_of_ble_eq_true rfl)) dGr_grow_2 ⟨(by show 0 + 0 ≤ (4 * (max mk (cgw (fun x8 => colF zs n w lst vv eg ik ne pcb x8 wd) ik (31 * t) dpt 1 (a8, k, rs) x d).2.1 - mk)); omega), (by show 0 + 0 ≤ (69 * (max mk (cgw (fun x8 => colF zs n w lst vv eg ik ne pcb x8 wd) ik (31 * t) dpt 1 (a8, k, rs) x d).2.1 - mk)); omega)⟩)) ?_
  refine lv_iload hx hb dGr_grow_5 (lv_at hl 3 rfl) ?_
  refine hy_iP (X := []) (pl := pg cds ad gg) (cx := []) (wr := []) hP hD hS hA [] [] rfl rfl (by decide) (by decide) (va_runV (As := [.int (nI (cb x)), .int (nI d)]) (rest := []) ⟨hx, hb, hml, hown, hT⟩ (k_newLeaf l D cT cds ad gg tE mE mk t k tw tu tl tsc (nI (cb x)) (nI d) hcd ht16 hTc hTm hkm (by omega) _) ⟨callB_of 2 hT (tb_gd w820) rfl rfl rfl (hT _ w24) (hT _ w817) hTr_newLeaf ⟨Nat.le_of_ble_eq_true rfl, Nat.le_of_ble_eq_true rfl⟩, (hT _ w818), (hT _ w819)⟩ (RWE.preW (ci := 9) (q0 := 0) hE0 hZ hS (va_freeP (cx := []) hD hS hA [] rfl) (hP.part (cx := []) [] rfl) hK (hD.part (cx := []) [] (by decide) rfl) (pg_1 (x := 1000 + t) hcd hP (by omega) hTc) rfl rfl) rfl rfl hl.1 rfl (lv_room (Nat.le_of_ble_eq_true rfl)) dGr_grow_7 ⟨(by show 0 + (4 * (max mk (k + 1) - mk)) ≤ (4 * (max mk (cgw (fun x8 => colF zs n w lst vv eg ik ne pcb x8 wd) ik (31 * t) dpt 1 (a8, k, rs) x d).2.1 - mk)); omega), (by show 0 + (69 * (max mk (k + 1) - mk)) ≤ (69 * (max mk (cgw (fun x8 => colF zs n w lst vv eg ik ne pcb x8 wd) ik (31 * t) dpt 1 (a8, k, rs) x d).2.1 - mk)); omega)⟩) (fun ru1 u9 H locs hpu1 hP hD hS => ?_)
  obtain ⟨ad7u1, gg7u1⟩ := u9
  have hpu1 : ru1 = nI k ∧ (∀ z8, z8 ≠ 1000 + t → z8 ≠ 1020 + t → z8 ≠ 1040 + t → z8 ≠ 2000 + 32 * t + k → z8 ≠ 3000 + 32 * t + k → z8 ≠ 4000 + 32 * t + k → gg7u1 z8 = gg z8) ∧ (∀ z8, z8 ≠ 1040 + t → z8 ≠ 2000 + 32 * t + k → z8 ≠ 3000 + 32 * t + k → z8 ≠ 4000 + 32 * t + k → ad7u1 z8 = ad z8) ∧ gg7u1 (1000 + t) = some (eTR (ad7u1 (1020 + t)) (nI (k + 1)) tw tu tl tsc) ∧ TMD cT ad7u1 gg7u1 tE t (max mk (k + 1)) ∧ gg7u1 (2000 + 32 * t + k) = some (eND (-1) 0 0 0 (-1) (-1) (nI (cb x)) (nI d) (ad7u1 (3000 + 32 * t + k))) := hpu1
  have hP : va_P D vwCl ([] ++ pg cds ad7u1 gg7u1) _ := hP
  have hD : va_D A ([] ++ pg cds ad7u1 gg7u1) := hD
  obtain ⟨hr1, F1, A1, T1, M1, N1⟩ := hpu1
  refine lv_topi (fun y9 e9 => ?_)
  cases (show y9 = nI k from e9.trans hr1)
  have hl : lv_has ls 9 [(0, .ref (ad7u1 6)), (1, .ref (ad7u1 (1000 + t))), (2, .long x), (4, .int (nI d))] := by rw [A1 6 (by omega) (by omega) (by omega) (by omega), A1 (1000 + t) (by omega) (by omega) (by omega) (by omega)]; exact hl
  have hGB1 : GRB cT ad7u1 gg7u1 n zs XB vv vq eg ik ne dpt lst w pu pq9 psb pcb wd := hGB.cg (fun x9 h8 h9 => A1 x9 (by omega) (by omega) (by omega) (by omega)) (fun x9 h8 _ _ _ => F1 x9 (by omega) (by omega) (by omega) (by omega) (by omega) (by omega))
  obtain ⟨phtb, phRs, phCa, phCf, phpl, phGa, phSc, phGs, ⟨pfo, phod⟩, pbb9, ptt9, pb90, phgr, phbt, phSP⟩ := id hGB1
  obtain ⟨_, zu9, hzu9⟩ := M1.2.2.1 k (by omega)
  refine lv_istore hx hb dGr_grow_10 hl (by decide) rfl (fun ls hl => ?_)
  have hl : lv_has ls 9 [(5, .int (nI k)), (0, .ref (ad7u1 6)), (1, .ref (ad7u1 (1000 + t))), (2, .long x), (4, .int (nI d))] := hl
  refine lv_aload_n hx hb dGr_grow_12 rfl (lv_at hl 2 rfl) ?_
  refine lv_iload hx hb dGr_grow_13 (lv_at hl 0 rfl) ?_
  refine ro_r (va_Run.run (va_runV (As := [.int (nI k)]) (rest := []) ⟨hx, hb, hml, hown, hT⟩ (k_treeAtX l D cT cds ad7u1 gg7u1 tE (max mk (k + 1)) (k + 1) t k tw tu tl tsc hcd ht16 T1 M1 (by omega)) ⟨callB_of 1 hT (tb_gd w886) rfl rfl rfl (hT _ w24) (hT _ w883) hTr_at ⟨Nat.le_of_ble_eq_true rfl, Nat.le_of_ble_eq_true rfl⟩, (hT _ w884), (hT _ w885)⟩ (RO.preW (ci := 9) (q0 := 0) hZ hS ((show va_P D vwCl ([] ++ pg cds ad7u1 gg7u1) _ from (pv_p hP))) hK (pg_1 (x := 1000 + t) hcd hP (by omega) T1) rfl rfl) rfl rfl hl.1 rfl (lv_room (Nat.le_of_ble_eq_true rfl)) dGr_grow_15 ⟨(by show (0 + (4 * (max mk (k + 1) - mk))) + 0 ≤ (4 * (max mk (cgw (fun x8 => colF zs n w lst vv eg ik ne pcb x8 wd) ik (31 * t) dpt 1 (a8, k, rs) x d).2.1 - mk)); omega), (by show (0 + (69 * (max mk (k + 1) - mk))) + 0 ≤ (69 * (max mk (cgw (fun x8 => colF zs n w lst vv eg ik ne pcb x8 wd) ik (31 * t) dpt 1 (a8, k, rs) x d).2.1 - mk)); omega)⟩)) ?_
  refine lv_astore hx hb dGr_grow_18 hl (by decide) rfl (fun ls hl => ?_)
  have hl : lv_has ls 9 [(6, .ref (ad7u1 (2000 + 32 * t + k))), (5, .int (nI k)), (0, .ref (ad7u1 6)), (1, .ref (ad7u1 (1000 + t))), (2, .long x), (4, .int (nI d))] := hl
  refine lv_aload_n hx hb dGr_grow_20 rfl (lv_at hl 2 rfl) ?_
  refine lv_lload_n hx hb dGr_grow_21 rfl (lv_at hl 4 rfl) ?_
  refine lv_aload hx hb dGr_grow_22 (lv_at hl 0 rfl) ?_
  refine va_get (D := D) (ci := 10) (v := .ref (ad7u1 (3000 + 32 * t + k))) (C := R_N) (T := T_N) (N := 9) hx hb hT in_N hown hK (pg_1 (x := 2000 + 32 * t + k) hcd hP (by omega) N1) 0 rfl rfl 8 (by decide) (hT _ w856) (fun _ h9 => h9) rfl dGr_grow_24 ?_
  refine hy_vP (X := []) (pl := pg cds ad7u1 gg7u1) (cx := []) (wr := []) hP hD hS hA [] [] rfl rfl (by decide) (by decide) (va_runV (As := [.long x, .ref (ad7u1 (3000 + 32 * t + k))]) (rest := []) ⟨hx, hb, hml, hown, hT⟩ (k_sumUp l D cT cds ad7u1 gg7u1 pbb9 ptt9 (nI wd) (nI n) n zs XB (3000 + 32 * t + k) (4000 + 32 * t + k) x zu9 hcd phgr phtb rfl hn48 phRs hXB hfit (by omega) hzu9 _) ⟨callB_of 2 hT (tb_gd w890) rfl rfl rfl (hT _ w6) (hT _ w887) hGr_sumUp ⟨Nat.le_of_ble_eq_true rfl, Nat.le_of_ble_eq_true rfl⟩, (hT _ w889), (hT _ wp13)⟩ (RW.preW (ci := 7) (q0 := 0) hZ hS (va_freeP (cx := []) hD hS hA [] rfl) (hP.part (cx := []) [] rfl) hK (hD.part (cx := []) [] (by decide) rfl) (pg_1 (x := 6) hcd hP (by decide) phgr) rfl rfl) rfl rfl hl.1 rfl (lv_room (Nat.le_of_ble_eq_true rfl)) dGr_grow_27 ⟨(by show (0 + (4 * (max mk (k + 1) - mk))) + 0 ≤ (4 * (max mk (cgw (fun x8 => colF zs n w lst vv eg ik ne pcb x8 wd) ik (31 * t) dpt 1 (a8, k, rs) x d).2.1 - mk)); omega), (by show (0 + (69 * (max mk (k + 1) - mk))) + 0 ≤ (69 * (max mk (cgw (fun x8 => colF zs n w lst vv eg ik ne pcb x8 wd) ik (31 * t) dpt 1 (a8, k, rs) x d).2.1 - mk)); omega)⟩) (fun u9 H locs hpu2 hP hD hS => ?_)
  obtain ⟨gg7u2, rfl⟩ : ∃ q9, q9 = u9 := ⟨_, rfl⟩
  have hpu2 : (∀ z8, z8 ≠ (3000 + 32 * t + k) → z8 ≠ (4000 + 32 * t + k) → gg7u2 z8 = gg7u1 z8) ∧ WHO cT ad7u1 gg7u2 (3000 + 32 * t + k) (4000 + 32 * t + k) 24 (smv zs x n) := hpu2
  have hP : va_P D vwCl ([] ++ pg cds ad7u1 gg7u2) _ := hP
  have hD : va_D A ([] ++ pg cds ad7u1 gg7u2) := hD
  obtain ⟨F2, S2⟩ := hpu2
  have N2 := (F2 (2000 + 32 * t + k) (by omega) (by omega)).trans N1
  have T2 := (F2 (1000 + t) (by omega) (by omega)).trans T1
  have M2 : TMD cT ad7u1 gg7u2 tE t (max mk (k + 1)) := tmd_sm ht16 M1 (k := k) (by omega) F2 S2
  have hGB2 : GRB cT ad7u1 gg7u2 n zs XB vv vq eg ik ne dpt lst w pu pq9 psb pcb wd := hGB1.cg (fun _ _ _ => rfl) (fun x9 h9 _ _ _ => F2 x9 (by omega) (by omega))
  obtain ⟨qhtb, qhRs, qhCa, qhCf, qhpl, qhGa, qhSc, qhGs, ⟨qfo, qhod⟩, qbb9, qtt9, qb90, qhgr, qhbt, qhSP⟩ := id hGB2
  refine lv_iload hx hb dGr_grow_30 (lv_at hl 5 rfl) ?_
  refine lv_aload_n hx hb dGr_grow_32 rfl (lv_at hl 2 rfl) ?_
  refine va_get (D := D) (ci := 7) (v := .ref (ad7u1 4)) (C := R_Gr) (T := T_Gr) (N := 13) hx hb hT in_Gr hown hK (pg_1 (x := 6) hcd hP (by decide) qhgr) 0 rfl rfl 1 (by decide) (hT _ w215) (fun _ h9 => h9) rfl dGr_grow_33 ?_
  refine va_get (D := D) (ci := 3) (v := .int (nI dpt)) (C := R_P) (T := T_P) (N := 7) hx hb hT in_P hown hK (pg_1 (x := 4) hcd hP (by decide) qhpl) 0 rfl rfl 0 (by decide) (hT _ w100) (fun _ h9 => h9) rfl dGr_grow_36 ?_
  refine lv_icmp_ge (tgt := 153) hx hb dGr_grow_39 rfl (fun h3 => ?_) (fun h3 => ?_)
  · have gh3 : dpt ≤ d := (nI_leI (a := dpt) (b := d) (by omega) (by omega)).mp h3
    refine lv_iload hx hb dGr_grow_153 (lv_at hl 1 rfl) ?_
    have hGBz := hGB2
    have hcge := (show (cgw (fun x8 => colF zs n w lst vv eg ik ne pcb x8 wd) ik (31 * t) dpt 1 (a8, k, rs) x d) = cgL (31 * t) (a8, k, rs) x d from if_pos (Or.inl (by omega)))
    have hcg1 : (cgw (fun x8 => colF zs n w lst vv eg ik ne pcb x8 wd) ik (31 * t) dpt 1 (a8, k, rs) x d).2.1 = k + 1 := congrArg (fun q : GST => q.2.1) hcge
    have hMz : TMD cT ad7u1 gg7u2 tE t (max mk (k + 1)) := M2.cg (rfl) (rfl) rfl (fun j hj => ⟨rfl, rfl, rfl, rfl, rfl, rfl⟩)
    have hNz : NDS cT ad7u1 gg7u2 (cgw (fun x8 => colF zs n w lst vv eg ik ne pcb x8 wd) ik (31 * t) dpt 1 (a8, k, rs) x d) t zs n k (k + 1) := by rw [hcge]; exact nds_leaf ((rfl).trans N2) (S2.cg (rfl) (rfl))
    have hP9 : va_P D vwCl ([] ++ pg cds ad7u1 gg7u2) _ := hP.part (cx := []) [] rfl
    have hD9 : va_D A ([] ++ pg cds ad7u1 gg7u2) := hD.part (cx := []) [] (by decide) rfl
    refine W.widen (k := 4 * (max mk (cgw (fun x8 => colF zs n w lst vv eg ik ne pcb x8 wd) ik (31 * t) dpt 1 (a8, k, rs) x d).2.1 - mk)) (n := 69 * (max mk (cgw (fun x8 => colF zs n w lst vv eg ik ne pcb x8 wd) ik (31 * t) dpt 1 (a8, k, rs) x d).2.1 - mk)) ((by show (0 + (4 * (max mk (k + 1) - mk))) + 0 ≤ 4 * (max mk (cgw (fun x8 => colF zs n w lst vv eg ik ne pcb x8 wd) ik (31 * t) dpt 1 (a8, k, rs) x d).2.1 - mk); omega)) ((by show (0 + (69 * (max mk (k + 1) - mk))) + 0 ≤ 69 * (max mk (cgw (fun x8 => colF zs n w lst vv eg ik ne pcb x8 wd) ik (31 * t) dpt 1 (a8, k, rs) x d).2.1 - mk); omega)) ?_
    exact W.iret (v := nI k) hx hb hr (fun t9 ht9 hW9 => ⟨⟨nI k, (ad7u1, gg7u2), rfl, (show (nI k) = nI k ∧ (∀ z8, (z8 < 60 ∨ (72 < z8 ∧ z8 < 200) ∨ 260 ≤ z8) → z8 ≠ 6 → z8 ≠ 8 → z8 ≠ 1000 + t → z8 ≠ 1020 + t → z8 ≠ 1040 + t → (z8 < 2000 + 32 * t + k ∨ 2032 + 32 * t ≤ z8) → (z8 < 3000 + 32 * t + k ∨ 3032 + 32 * t ≤ z8) → (z8 < 4000 + 32 * t + k ∨ 4032 + 32 * t ≤ z8) → gg7u2 z8 = gg z8) ∧ (∀ z8, z8 ≠ 1040 + t → (z8 < 2000 + 32 * t + k ∨ 2032 + 32 * t ≤ z8) → (z8 < 3000 + 32 * t + k ∨ 3032 + 32 * t ≤ z8) → (z8 < 4000 + 32 * t + k ∨ 4032 + 32 * t ≤ z8) → ad7u1 z8 = ad z8) ∧ gg7u2 (1000 + t) = some (eTR (ad7u1 (1020 + t)) (nI (cgw (fun x8 => colF zs n w lst vv eg ik ne pcb x8 wd) ik (31 * t) dpt 1 (a8, k, rs) x d).2.1) tw tu tl tsc) ∧ TMD cT ad7u1 gg7u2 tE t (max mk (cgw (fun x8 => colF zs n w lst vv eg ik ne pcb x8 wd) ik (31 * t) dpt 1 (a8, k, rs) x d).2.1) ∧ NDS cT ad7u1 gg7u2 (cgw (fun x8 => colF zs n w lst vv eg ik ne pcb x8 wd) ik (31 * t) dpt 1 (a8, k, rs) x d) t zs n k (cgw (fun x8 => colF zs n w lst vv eg ik ne pcb x8 wd) ik (31 * t) dpt 1 (a8, k, rs) x d).2.1 ∧ GRB cT ad7u1 gg7u2 n zs XB vv vq eg ik ne dpt lst w pu pq9 psb pcb wd from ⟨rfl, (fun z8 n1 n2 n3 n4 n5 n6 n7 n8 n9 => (rfl).trans ((F2 z8 (by omega) (by omega)).trans (F1 z8 (by omega) (by omega) (by omega) (by omega) (by omega) (by omega)))), (fun z8 n1 n2 n3 n4 => A1 z8 (by omega) (by omega) (by omega) (by omega)), by rw [hcg1]; exact (rfl).trans T2, by rw [hcg1]; exact hMz, by rw [hcg1]; exact hNz, hGBz⟩), by rw [ht9]; exact hP9, hD9⟩, hS.F ht9⟩) hS.2.2 dGr_grow_155
  · have gh3 : d < dpt := Nat.not_le.mp (fun q => h3 ((nI_leI (a := dpt) (b := d) (by omega) (by omega)).mpr q))
    refine lv_iload hx hb dGr_grow_42 (lv_at hl 5 rfl) ?_
    refine lv_iconst (v := 4) hx hb dGr_grow_44 (by decide) ?_
    refine lv_icmp_ge (tgt := 153) hx hb dGr_grow_45 rfl (fun h4 => absurd h4 (fun q => absurd ((nI_leI (a := 4) (b := d) (by omega) (by omega)).mp q) (by omega))) (fun _ => ?_)
    refine lv_aload_n hx hb dGr_grow_48 rfl (lv_at hl 2 rfl) ?_
    refine lv_aload hx hb dGr_grow_49 (lv_at hl 0 rfl) ?_
    refine lv_lload_n hx hb dGr_grow_51 rfl (lv_at hl 4 rfl) ?_
    refine hy_iP (X := []) (pl := pg cds ad7u1 gg7u2) (cx := []) (wr := []) hP hD hS hA [] [] rfl rfl (by decide) (by decide) (va_runV (As := [.ref (ad7u1 (2000 + 32 * t + k)), .long x]) (rest := []) ⟨hx, hb, hml, hown, hT⟩ (k_findSplit l D cT cds ad7u1 gg7u2 qbb9 qtt9 (nI wd) (nI n) n zs XB vv vq eg ik ne (nI dpt) pu pq9 psb pcb w lst qfo x (2000 + 32 * t + k) (3000 + 32 * t + k) (4000 + 32 * t + k) (-1) 0 0 0 (-1) (-1) (nI d) wd qb90 hcd qhgr qhtb rfl hn48 qhRs hXB hfit qhbt qhSc qhGa qhGs qhCa qhCf hne hik qhpl hls2 hw20 qhod N2 S2 (by omega) hAn hB2 hB3 hB4 qhSP rfl hwd6 hS9 hVk hB5 _) ⟨callB_of 2 hT (tb_gd w896) rfl rfl rfl (hT _ w6) (hT _ w893) hGr_findSplit ⟨Nat.le_of_ble_eq_true rfl, Nat.le_of_ble_eq_true rfl⟩, (hT _ w895), (hT _ wp14)⟩ (RW.preW (ci := 7) (q0 := 0) hZ hS (va_freeP (cx := []) hD hS hA [] rfl) (hP.part (cx := []) [] rfl) hK (hD.part (cx := []) [] (by decide) rfl) (pg_1 (x := 6) hcd hP (by decide) qhgr) rfl rfl) rfl rfl hl.1 rfl (lv_room (Nat.le_of_ble_eq_true rfl)) dGr_grow_52 ⟨(by show ((0 + (4 * (max mk (k + 1) - mk))) + 0) + 0 ≤ (4 * (max mk (cgw (fun x8 => colF zs n w lst vv eg ik ne pcb x8 wd) ik (31 * t) dpt 1 (a8, k, rs) x d).2.1 - mk)); omega), (by show ((0 + (69 * (max mk (k + 1) - mk))) + 0) + 0 ≤ (69 * (max mk (cgw (fun x8 => colF zs n w lst vv eg ik ne pcb x8 wd) ik (31 * t) dpt 1 (a8, k, rs) x d).2.1 - mk)); omega)⟩) (fun ru5 u9 H locs hpu5 hP hD hS => ?_)
    obtain ⟨gg7u5, b7u5, t7u5, bq7u5⟩ := u9
    have hpu5 : ru5 = bn (decide (0 < (colF zs n w lst vv eg ik ne pcb x wd).1)) ∧ (∀ z8, (z8 < 60 ∨ (72 < z8 ∧ z8 < 200) ∨ 260 ≤ z8) → z8 ≠ 6 → z8 ≠ 8 → gg7u5 z8 = gg7u2 z8) ∧ gg7u5 6 = some (eGR ad7u1 b7u5 t7u5) ∧ BTK b7u5 t7u5 ∧ SPL cT ad7u1 gg7u5 b7u5 t7u5 ik bq7u5 (48 * XB) ∧ SRL (cb x + w) (smv zs x n) bq7u5 (colF zs n w lst vv eg ik ne pcb x wd) ∧ SCG cT ad7u1 gg7u5 ∧ (∃ f8, gg7u5 8 = some (eA (cT 0) 12 f8)) ∧ ∀ j8, j8 < 15 → ∃ r8 z8, GPp cT ad7u1 gg7u5 j8 r8 z8 := hpu5
    have hP : va_P D vwCl ([] ++ pg cds ad7u1 gg7u5) _ := hP
    have hD : va_D A ([] ++ pg cds ad7u1 gg7u5) := hD
    obtain ⟨hr3, F3, c6, cbt, cSP, cSR, cSc, c8, cGs⟩ := hpu5
    refine lv_topi (fun y9 e9 => ?_)
    cases (show y9 = bn (decide (0 < (colF zs n w lst vv eg ik ne pcb x wd).1)) from e9.trans hr3)
    have hGB3 : GRB cT ad7u1 gg7u5 n zs XB vv vq eg ik ne dpt lst w pu pq9 psb pcb wd := ⟨(F3 _ (by omega) (by omega) (by omega)).trans qhtb, qhRs.cg (F3 _ (by omega) (by omega) (by omega)) (fun z h1 h2 => F3 z (by omega) (by omega) (by omega)), qhCa.cg (F3 _ (by omega) (by omega) (by omega)), qhCf.cg (fun z h1 h2 => F3 z (by omega) (by omega) (by omega)), (F3 _ (by omega) (by omega) (by omega)).trans qhpl, (by obtain ⟨qg, e1, e2⟩ := qhGa; exact ⟨qg, (F3 _ (by omega) (by omega) (by omega)).trans e1, e2⟩), cSc, cGs, c8, _, _, _, c6, cbt, cSP⟩
    by_cases hgn : 0 < (colF zs n w lst vv eg ik ne pcb x wd).1
    · have hnl : ¬ (d = dpt ∨ ((fun x8 => colF zs n w lst vv eg ik ne pcb x8 wd) x).1 ≤ 0) := fun q => q.elim (fun r => absurd r (by omega)) (fun r => absurd (show (colF zs n w lst vv eg ik ne pcb x wd).1 ≤ 0 from r) (by omega))
      refine lv_if_eq (tgt := 153) hx hb dGr_grow_55 rfl (fun h6 => absurd h6 (by rw [decide_eq_true hgn]; decide)) (fun _ => ?_)
      obtain ⟨bc, bm, bo, bl, br, bu, zb, tc, tm, to, tl9, tr, tu9, zt, sb1, sb2, sb3, sb4, st1, st2, st3⟩ := id cSP
      obtain ⟨f1, f2, f3, f4, f5, c9, hc9, hcc⟩ := spl_use cSR sb4 hgn
      have hml9 : bl = 0 ∨ bl = 1 := by rw [← f3]; exact colF_ml wd
      have hbo9 : bo = 0 ∨ bo = 1 := by rw [f5, f1, hcc, nI_clamp (by omega)]; exact hik c9 hc9
      have hb8 := btk_b cbt
      have N3 := (F3 (2000 + 32 * t + k) (by omega) (by omega) (by omega)).trans N2
      have hB9 : QI gg7u5 [(2000 + 32 * t + k, .inr (10, [.int (-1), .int 0, .int 0, .int 0, .int (-1), .int (-1), .int (nI (cb x)), .int (nI d), .ref (ad7u1 (3000 + 32 * t + k))]))] := (qi_c (by omega) N3 qi_0)
      have hN9 := (show NDc [2000 + 32 * t + k] from (nd_c na_0 nd_0))
      have hP := bo_P (wc := [(2000 + 32 * t + k, .inr (10, [.int (-1), .int 0, .int 0, .int 0, .int (-1), .int (-1), .int (nI (cb x)), .int (nI d), .ref (ad7u1 (3000 + 32 * t + k))]))]) (X := []) hcd hN9 hB9 hP
      have hD := bo_D (wc := [(2000 + 32 * t + k, .inr (10, [.int (-1), .int 0, .int 0, .int 0, .int (-1), .int (-1), .int (nI (cb x)), .int (nI d), .ref (ad7u1 (3000 + 32 * t + k))]))]) (X := []) hcd hN9 hB9 hD
      have hP : va_P D vwCl ([(ad7u1 (2000 + 32 * t + k), .inr (10, [.int (-1), .int 0, .int 0, .int 0, .int (-1), .int (-1), .int (nI (cb x)), .int (nI d), .ref (ad7u1 (3000 + 32 * t + k))]))] ++ pg cds ad7u1 (upo gg7u5 [2000 + 32 * t + k])) _ := hP
      have hD : va_D A ([(ad7u1 (2000 + 32 * t + k), .inr (10, [.int (-1), .int 0, .int 0, .int 0, .int (-1), .int (-1), .int (nI (cb x)), .int (nI d), .ref (ad7u1 (3000 + 32 * t + k))]))] ++ pg cds ad7u1 (upo gg7u5 [2000 + 32 * t + k])) := hD
      refine lv_aload hx hb dGr_grow_58 (lv_at hl 0 rfl) ?_
      refine lv_aload_n hx hb dGr_grow_60 rfl (lv_at hl 2 rfl) ?_
      refine va_get (D := D) (ci := 7) (v := .ref (ad7u1 b7u5)) (C := R_Gr) (T := T_Gr) (N := 13) hx hb hT in_Gr hown hK (pg_1 (x := 6) hcd hP (by decide) ((upo_o (na_c (by omega) na_0)).trans c6)) 0 rfl rfl 11 (by decide) (hT _ w225) (fun _ h9 => h9) rfl dGr_grow_61 ?_
      refine va_get (D := D) (ci := 6) (v := .int bc) (C := R_S) (T := T_S) (N := 7) hx hb hT in_S hown hK (pg_1 (x := b7u5) hcd hP (by omega) ((upo_o (na_c (by omega) na_0)).trans sb1)) 0 rfl rfl 0 (by decide) (hT _ w191) (fun _ h9 => h9) rfl dGr_grow_64 ?_
      refine va_put (D := D) (ci := 10) (v := .int bc) (ty := .int) (C := R_N) (T := T_N) (N := 9) hx hb hT in_N ty_N ty_N_ok m_N hown hK hP hD hS 0 rfl rfl 0 (by decide) (hT _ w830) (fun _ h9 => h9) rfl (by decide +kernel) rfl rfl (Nat.le_of_ble_eq_true rfl) dGr_grow_67 (fun H locs hP hD hS => ?_)
      have hP : va_P D vwCl ([(ad7u1 (2000 + 32 * t + k), .inr (10, [.int bc, .int 0, .int 0, .int 0, .int (-1), .int (-1), .int (nI (cb x)), .int (nI d), .ref (ad7u1 (3000 + 32 * t + k))]))] ++ pg cds ad7u1 (upo gg7u5 [2000 + 32 * t + k])) _ := hP
      have hD : va_D A ([(ad7u1 (2000 + 32 * t + k), .inr (10, [.int bc, .int 0, .int 0, .int 0, .int (-1), .int (-1), .int (nI (cb x)), .int (nI d), .ref (ad7u1 (3000 + 32 * t + k))]))] ++ pg cds ad7u1 (upo gg7u5 [2000 + 32 * t + k])) := hD
      refine lv_aload hx hb dGr_grow_70 (lv_at hl 0 rfl) ?_
      refine lv_aload_n hx hb dGr_grow_72 rfl (lv_at hl 2 rfl) ?_
      refine va_get (D := D) (ci := 7) (v := .ref (ad7u1 b7u5)) (C := R_Gr) (T := T_Gr) (N := 13) hx hb hT in_Gr hown hK (pg_1 (x := 6) hcd hP (by decide) ((upo_o (na_c (by omega) na_0)).trans c6)) 0 rfl rfl 11 (by decide) (hT _ w225) (fun _ h9 => h9) rfl dGr_grow_73 ?_
      refine va_get (D := D) (ci := 6) (v := .int bm) (C := R_S) (T := T_S) (N := 7) hx hb hT in_S hown hK (pg_1 (x := b7u5) hcd hP (by omega) ((upo_o (na_c (by omega) na_0)).trans sb1)) 0 rfl rfl 1 (by decide) (hT _ w192) (fun _ h9 => h9) rfl dGr_grow_76 ?_
      refine va_put (D := D) (ci := 10) (v := .int bm) (ty := .int) (C := R_N) (T := T_N) (N := 9) hx hb hT in_N ty_N ty_N_ok m_N hown hK hP hD hS 0 rfl rfl 1 (by decide) (hT _ w834) (fun _ h9 => h9) rfl (by decide +kernel) rfl rfl (Nat.le_of_ble_eq_true rfl) dGr_grow_79 (fun H locs hP hD hS => ?_)
      have hP : va_P D vwCl ([(ad7u1 (2000 + 32 * t + k), .inr (10, [.int bc, .int bm, .int 0, .int 0, .int (-1), .int (-1), .int (nI (cb x)), .int (nI d), .ref (ad7u1 (3000 + 32 * t + k))]))] ++ pg cds ad7u1 (upo gg7u5 [2000 + 32 * t + k])) _ := hP
      have hD : va_D A ([(ad7u1 (2000 + 32 * t + k), .inr (10, [.int bc, .int bm, .int 0, .int 0, .int (-1), .int (-1), .int (nI (cb x)), .int (nI d), .ref (ad7u1 (3000 + 32 * t + k))]))] ++ pg cds ad7u1 (upo gg7u5 [2000 + 32 * t + k])) := hD
      refine lv_aload hx hb dGr_grow_82 (lv_at hl 0 rfl) ?_
      refine lv_aload_n hx hb dGr_grow_84 rfl (lv_at hl 2 rfl) ?_
      refine va_get (D := D) (ci := 7) (v := .ref (ad7u1 b7u5)) (C := R_Gr) (T := T_Gr) (N := 13) hx hb hT in_Gr hown hK (pg_1 (x := 6) hcd hP (by decide) ((upo_o (na_c (by omega) na_0)).trans c6)) 0 rfl rfl 11 (by decide) (hT _ w225) (fun _ h9 => h9) rfl dGr_grow_85 ?_
      refine va_get (D := D) (ci := 6) (v := .int bo) (C := R_S) (T := T_S) (N := 7) hx hb hT in_S hown hK (pg_1 (x := b7u5) hcd hP (by omega) ((upo_o (na_c (by omega) na_0)).trans sb1)) 0 rfl rfl 2 (by decide) (hT _ w193) (fun _ h9 => h9) rfl dGr_grow_88 ?_
      refine va_put (D := D) (ci := 10) (v := .int bo) (ty := .boolean) (C := R_N) (T := T_N) (N := 9) hx hb hT in_N ty_N ty_N_ok m_N hown hK hP hD hS 0 rfl rfl 2 (by decide) (hT _ w837) (fun _ h9 => h9) rfl (by decide +kernel) (nar_z hbo9) (fit_z hbo9) (Nat.le_of_ble_eq_true rfl) dGr_grow_91 (fun H locs hP hD hS => ?_)
      have hP : va_P D vwCl ([(ad7u1 (2000 + 32 * t + k), .inr (10, [.int bc, .int bm, .int bo, .int 0, .int (-1), .int (-1), .int (nI (cb x)), .int (nI d), .ref (ad7u1 (3000 + 32 * t + k))]))] ++ pg cds ad7u1 (upo gg7u5 [2000 + 32 * t + k])) _ := hP
      have hD : va_D A ([(ad7u1 (2000 + 32 * t + k), .inr (10, [.int bc, .int bm, .int bo, .int 0, .int (-1), .int (-1), .int (nI (cb x)), .int (nI d), .ref (ad7u1 (3000 + 32 * t + k))]))] ++ pg cds ad7u1 (upo gg7u5 [2000 + 32 * t + k])) := hD
      refine lv_aload hx hb dGr_grow_94 (lv_at hl 0 rfl) ?_
      refine lv_aload_n hx hb dGr_grow_96 rfl (lv_at hl 2 rfl) ?_
      refine va_get (D := D) (ci := 7) (v := .ref (ad7u1 b7u5)) (C := R_Gr) (T := T_Gr) (N := 13) hx hb hT in_Gr hown hK (pg_1 (x := 6) hcd hP (by decide) ((upo_o (na_c (by omega) na_0)).trans c6)) 0 rfl rfl 11 (by decide) (hT _ w225) (fun _ h9 => h9) rfl dGr_grow_97 ?_
      refine va_get (D := D) (ci := 6) (v := .int bl) (C := R_S) (T := T_S) (N := 7) hx hb hT in_S hown hK (pg_1 (x := b7u5) hcd hP (by omega) ((upo_o (na_c (by omega) na_0)).trans sb1)) 0 rfl rfl 3 (by decide) (hT _ w194) (fun _ h9 => h9) rfl dGr_grow_100 ?_
      refine va_put (D := D) (ci := 10) (v := .int bl) (ty := .boolean) (C := R_N) (T := T_N) (N := 9) hx hb hT in_N ty_N ty_N_ok m_N hown hK hP hD hS 0 rfl rfl 3 (by decide) (hT _ w840) (fun _ h9 => h9) rfl (by decide +kernel) (nar_z hml9) (fit_z hml9) (Nat.le_of_ble_eq_true rfl) dGr_grow_103 (fun H locs hP hD hS => ?_)
      have hP : va_P D vwCl ([(ad7u1 (2000 + 32 * t + k), .inr (10, [.int bc, .int bm, .int bo, .int bl, .int (-1), .int (-1), .int (nI (cb x)), .int (nI d), .ref (ad7u1 (3000 + 32 * t + k))]))] ++ pg cds ad7u1 (upo gg7u5 [2000 + 32 * t + k])) _ := hP
      have hD : va_D A ([(ad7u1 (2000 + 32 * t + k), .inr (10, [.int bc, .int bm, .int bo, .int bl, .int (-1), .int (-1), .int (nI (cb x)), .int (nI d), .ref (ad7u1 (3000 + 32 * t + k))]))] ++ pg cds ad7u1 (upo gg7u5 [2000 + 32 * t + k])) := hD
      have hN9 := (show NDc [2000 + 32 * t + k] from (nd_c na_0 nd_0))
      have hP := gb_P (w9 := [(2000 + 32 * t + k, .inr (10, [.int bc, .int bm, .int bo, .int bl, .int (-1), .int (-1), .int (nI (cb x)), .int (nI d), .ref (ad7u1 (3000 + 32 * t + k))]))]) (X := []) (g := gg7u5) hcd hN9 (show QB [(2000 + 32 * t + k, .inr (10, [.int bc, .int bm, .int bo, .int bl, .int (-1), .int (-1), .int (nI (cb x)), .int (nI d), .ref (ad7u1 (3000 + 32 * t + k))]))] from (qb_c (by omega) qb_0)) (hP.part (cx := [(ad7u1 (2000 + 32 * t + k), .inr (10, [.int bc, .int bm, .int bo, .int bl, .int (-1), .int (-1), .int (nI (cb x)), .int (nI d), .ref (ad7u1 (3000 + 32 * t + k))]))]) [0] rfl)
      have hD := gb_D (w9 := [(2000 + 32 * t + k, .inr (10, [.int bc, .int bm, .int bo, .int bl, .int (-1), .int (-1), .int (nI (cb x)), .int (nI d), .ref (ad7u1 (3000 + 32 * t + k))]))]) (X := []) (g := gg7u5) hcd hN9 (show QB [(2000 + 32 * t + k, .inr (10, [.int bc, .int bm, .int bo, .int bl, .int (-1), .int (-1), .int (nI (cb x)), .int (nI d), .ref (ad7u1 (3000 + 32 * t + k))]))] from (qb_c (by omega) qb_0)) (hD.part (cx := [(ad7u1 (2000 + 32 * t + k), .inr (10, [.int bc, .int bm, .int bo, .int bl, .int (-1), .int (-1), .int (nI (cb x)), .int (nI d), .ref (ad7u1 (3000 + 32 * t + k))]))]) [0] (by decide) rfl)
      obtain ⟨g4, hg4⟩ : ∃ q9, q9 = ups gg7u5 [(2000 + 32 * t + k, .inr (10, [.int bc, .int bm, .int bo, .int bl, .int (-1), .int (-1), .int (nI (cb x)), .int (nI d), .ref (ad7u1 (3000 + 32 * t + k))]))] := ⟨_, rfl⟩
      rw [← hg4] at hP hD
      have hP : va_P D vwCl ([] ++ pg cds ad7u1 g4) _ := hP
      have hD : va_D A ([] ++ pg cds ad7u1 g4) := hD
      have fg4 : ∀ z8, z8 ≠ 2000 + 32 * t + k → g4 z8 = gg7u5 z8 := fun z8 z1 => by rw [hg4]; exact ups_k (kp_n z1 kp_0)
      have g4_0 : g4 (2000 + 32 * t + k) = some (.inr (10, [.int bc, .int bm, .int bo, .int bl, .int (-1), .int (-1), .int (nI (cb x)), .int (nI d), .ref (ad7u1 (3000 + 32 * t + k))])) := by rw [hg4]; exact ups_1
      have hwx : WIN (colF zs n w lst vv eg ik ne pcb x wd).2.2.2.2.2 x := (colF_sd hls2.1 wd (fun q => absurd hgn (by omega))).1
      have hxl : x &&& ((fun x8 => colF zs n w lst vv eg ik ne pcb x8 wd) x).2.2.2.2.2 = br := by show x &&& (colF zs n w lst vv eg ik ne pcb x wd).2.2.2.2.2 = br; rw [win_eq hwx, f4]
      have hxr : x &&& (((fun x8 => colF zs n w lst vv eg ik ne pcb x8 wd) x).2.2.2.2.2 ^^^ (-1)) = x &&& (br ^^^ (-1)) := by show x &&& ((colF zs n w lst vv eg ik ne pcb x wd).2.2.2.2.2 ^^^ (-1)) = _; rw [f4]
      have hsl : SUBn br n := by rw [← hxl]; exact sub_and hAn
      obtain ⟨GL, GR, n1, n2, hGL, hGR, hCG, hL1, hL2, hL3, hR1, hR2, hR3, ⟨k0, k1, k2, k3, k4, k5, k6, k7⟩, hRx, hRj, hRr⟩ := cgw_sp (best := (fun x8 => colF zs n w lst vv eg ik ne pcb x8 wd)) (ik := ik) (b0 := 31 * t) (dpt := dpt) (h := 0) (a := a8) (k := k) (rs := rs) (x := x) (d := d) (by omega) hnl hxl hxr
      have hL3 : n1 ≤ 1 := hL3
      have hR3 : n2 ≤ 1 := hR3
      have hCG1 : (cgw (fun x8 => colF zs n w lst vv eg ik ne pcb x8 wd) ik (31 * t) dpt 1 (a8, k, rs) x d).2.1 = GR.2.1 := congrArg (fun q : GST => q.2.1) hCG
      have M4 : TMD cT ad7u1 g4 tE t (max mk (k + 1)) := tmd_nd ht16 (M2.cg (F3 _ (by omega) (by omega) (by omega)) (F3 _ (by omega) (by omega) (by omega)) rfl (fun j hj => ⟨F3 _ (by omega) (by omega) (by omega), F3 _ (by omega) (by omega) (by omega), F3 _ (by omega) (by omega) (by omega), rfl, rfl, rfl⟩)) (k := k) (by omega) (fun z8 n1 n2 => fg4 z8 n2) g4_0
      have T4 := (fg4 (1000 + t) (by omega)).trans ((F3 (1000 + t) (by omega) (by omega) (by omega)).trans T2)
      have hGB4 : GRB cT ad7u1 g4 n zs XB vv vq eg ik ne dpt lst w pu pq9 psb pcb wd := hGB3.cg (fun _ _ _ => rfl) (fun x9 h9 _ _ _ => fg4 x9 (by omega))
      obtain ⟨rhtb, rhRs, rhCa, rhCf, rhpl, rhGa, rhSc, rhGs, ⟨rfo, rhod⟩, rbb9, rtt9, rb90, rhgr, rhbt, rhSP⟩ := id hGB4
      refine lv_aload_n hx hb dGr_grow_106 rfl (lv_at hl 2 rfl) ?_
      refine va_get (D := D) (ci := 7) (v := .ref (ad7u1 b7u5)) (C := R_Gr) (T := T_Gr) (N := 13) hx hb hT in_Gr hown hK (pg_1 (x := 6) hcd hP (by decide) ((fg4 _ (by omega)).trans c6)) 0 rfl rfl 11 (by decide) (hT _ w225) (fun _ h9 => h9) rfl dGr_grow_107 ?_
      refine va_get (D := D) (ci := 6) (v := .long br) (C := R_S) (T := T_S) (N := 7) hx hb hT in_S hown hK (pg_1 (x := b7u5) hcd hP (by omega) ((fg4 _ (by omega)).trans sb1)) 0 rfl rfl 4 (by decide) (hT _ w195) (fun _ h9 => h9) rfl dGr_grow_110 ?_
      refine lv_lstore hx hb dGr_grow_113 hl (by decide) rfl (fun ls hl => ?_)
      have hl : lv_has ls 9 [(7, .long br), (6, .ref (ad7u1 (2000 + 32 * t + k))), (5, .int (nI k)), (0, .ref (ad7u1 6)), (1, .ref (ad7u1 (1000 + t))), (2, .long x), (4, .int (nI d))] := hl
      refine lv_aload hx hb dGr_grow_115 (lv_at hl 1 rfl) ?_
      refine lv_aload_n hx hb dGr_grow_117 rfl (lv_at hl 3 rfl) ?_
      refine lv_aload_n hx hb dGr_grow_118 rfl (lv_at hl 4 rfl) ?_
      refine lv_lload hx hb dGr_grow_119 (lv_at hl 0 rfl) ?_
      refine lv_iload hx hb dGr_grow_121 (lv_at hl 6 rfl) ?_
      refine lv_iconst (v := 1) hx hb dGr_grow_123 (by decide) ?_
      refine lv_iadd hx hb dGr_grow_124 ?_
      refine lv_topi (fun y9 e9 => ?_)
      cases (show y9 = nI (d + 1) from e9.trans (nI_add d 1))
      have el : (cgw (fun x8 => colF zs n w lst vv eg ik ne pcb x8 wd) ik (31 * t) dpt 0 ((gPar (gSpl (gBeg a8 (31 * t + k) x d) (31 * t + k) ((fun x8 => colF zs n w lst vv eg ik ne pcb x8 wd) x) (ik ((fun x8 => colF zs n w lst vv eg ik ne pcb x8 wd) x).2.2.1.toNatClampNeg)) (k + 1) (nI (31 * t + k)) (vp_nar .boolean 1)), (k + 1), (va_up rs k x)) br (d + 1)) = GL := hGL
      have enl : (cgw (fun x8 => colF zs n w lst vv eg ik ne pcb x8 wd) ik (31 * t) dpt 0 ((gPar (gSpl (gBeg a8 (31 * t + k) x d) (31 * t + k) ((fun x8 => colF zs n w lst vv eg ik ne pcb x8 wd) x) (ik ((fun x8 => colF zs n w lst vv eg ik ne pcb x8 wd) x).2.2.1.toNatClampNeg)) (k + 1) (nI (31 * t + k)) (vp_nar .boolean 1)), (k + 1), (va_up rs k x)) br (d + 1)).2.1 = GL.2.1 := congrArg (fun q : GST => q.2.1) el
      refine hy_iP (X := []) (pl := pg cds ad7u1 g4) (cx := []) (wr := []) hP hD hS hA [] [] rfl rfl (by decide) (by decide) (va_runV (As := [.ref (ad7u1 (1000 + t)), .long br, .int (nI (d + 1))]) (rest := [.ref (ad7u1 (2000 + 32 * t + k))]) ⟨hx, hb, hml, hown, hT⟩ (k_grow0 l D cT cds ad7u1 g4 tE mE n zs XB vv vq eg ik ne dpt lst w pu pq9 psb pcb wd (max mk (k + 1)) t (k + 1) tw tu tl tsc (gPar (gSpl (gBeg a8 (31 * t + k) x d) (31 * t + k) ((fun x8 => colF zs n w lst vv eg ik ne pcb x8 wd) x) (ik ((fun x8 => colF zs n w lst vv eg ik ne pcb x8 wd) x).2.2.1.toNatClampNeg)) (k + 1) (nI (31 * t + k)) (vp_nar .boolean 1)) (va_up rs k x) br (d + 1) hcd ht16 T4 M4 (by omega) (by omega) hGB4 hn48 hXB hfit hne hik hls2 hw20 hB2 hB3 hB4 hB5 hwd6 hS9 hVk hsl (by omega) _) ⟨callB_of 3 hT (tb_gd w815) rfl rfl rfl (hT _ w6) (hT _ w949) hGr_grow ⟨Nat.le_of_ble_eq_true rfl, Nat.le_of_ble_eq_true rfl⟩, (hT _ w814), (hT _ wp12)⟩ (RWE.preW (ci := 7) (q0 := 0) hE0 hZ hS (va_freeP (cx := []) hD hS hA [] rfl) (hP.part (cx := []) [] rfl) hK (hD.part (cx := []) [] (by decide) rfl) (pg_1 (x := 6) hcd hP (by decide) ((fg4 _ (by omega)).trans c6)) rfl rfl) rfl rfl hl.1 rfl (lv_room (Nat.le_of_ble_eq_true rfl)) dGr_grow_125 ⟨(by show (((0 + (4 * (max mk (k + 1) - mk))) + 0) + 0) + (4 * (max (max mk (k + 1)) (cgw (fun x8 => colF zs n w lst vv eg ik ne pcb x8 wd) ik (31 * t) dpt 0 ((gPar (gSpl (gBeg a8 (31 * t + k) x d) (31 * t + k) ((fun x8 => colF zs n w lst vv eg ik ne pcb x8 wd) x) (ik ((fun x8 => colF zs n w lst vv eg ik ne pcb x8 wd) x).2.2.1.toNatClampNeg)) (k + 1) (nI (31 * t + k)) (vp_nar .boolean 1)), (k + 1), (va_up rs k x)) br (d + 1)).2.1 - (max mk (k + 1)))) ≤ (4 * (max mk (cgw (fun x8 => colF zs n w lst vv eg ik ne pcb x8 wd) ik (31 * t) dpt 1 (a8, k, rs) x d).2.1 - mk)); omega), (by show (((0 + (69 * (max mk (k + 1) - mk))) + 0) + 0) + (69 * (max (max mk (k + 1)) (cgw (fun x8 => colF zs n w lst vv eg ik ne pcb x8 wd) ik (31 * t) dpt 0 ((gPar (gSpl (gBeg a8 (31 * t + k) x d) (31 * t + k) ((fun x8 => colF zs n w lst vv eg ik ne pcb x8 wd) x) (ik ((fun x8 => colF zs n w lst vv eg ik ne pcb x8 wd) x).2.2.1.toNatClampNeg)) (k + 1) (nI (31 * t + k)) (vp_nar .boolean 1)), (k + 1), (va_up rs k x)) br (d + 1)).2.1 - (max mk (k + 1)))) ≤ (69 * (max mk (cgw (fun x8 => colF zs n w lst vv eg ik ne pcb x8 wd) ik (31 * t) dpt 1 (a8, k, rs) x d).2.1 - mk)); omega)⟩) (fun ru7 u9 H locs hpu7 hP hD hS => ?_)
      obtain ⟨ad7u7, gg7u7⟩ := u9
      have hpu7 : ru7 = nI (k + 1) ∧ (∀ z8, (z8 < 60 ∨ (72 < z8 ∧ z8 < 200) ∨ 260 ≤ z8) → z8 ≠ 6 → z8 ≠ 8 → z8 ≠ 1000 + t → z8 ≠ 1020 + t → z8 ≠ 1040 + t → (z8 < 2000 + 32 * t + (k + 1) ∨ 2032 + 32 * t ≤ z8) → (z8 < 3000 + 32 * t + (k + 1) ∨ 3032 + 32 * t ≤ z8) → (z8 < 4000 + 32 * t + (k + 1) ∨ 4032 + 32 * t ≤ z8) → gg7u7 z8 = g4 z8) ∧ (∀ z8, z8 ≠ 1040 + t → (z8 < 2000 + 32 * t + (k + 1) ∨ 2032 + 32 * t ≤ z8) → (z8 < 3000 + 32 * t + (k + 1) ∨ 3032 + 32 * t ≤ z8) → (z8 < 4000 + 32 * t + (k + 1) ∨ 4032 + 32 * t ≤ z8) → ad7u7 z8 = ad7u1 z8) ∧ gg7u7 (1000 + t) = some (eTR (ad7u7 (1020 + t)) (nI (cgw (fun x8 => colF zs n w lst vv eg ik ne pcb x8 wd) ik (31 * t) dpt 0 ((gPar (gSpl (gBeg a8 (31 * t + k) x d) (31 * t + k) ((fun x8 => colF zs n w lst vv eg ik ne pcb x8 wd) x) (ik ((fun x8 => colF zs n w lst vv eg ik ne pcb x8 wd) x).2.2.1.toNatClampNeg)) (k + 1) (nI (31 * t + k)) (vp_nar .boolean 1)), (k + 1), (va_up rs k x)) br (d + 1)).2.1) tw tu tl tsc) ∧ TMD cT ad7u7 gg7u7 tE t (max (max mk (k + 1)) (cgw (fun x8 => colF zs n w lst vv eg ik ne pcb x8 wd) ik (31 * t) dpt 0 ((gPar (gSpl (gBeg a8 (31 * t + k) x d) (31 * t + k) ((fun x8 => colF zs n w lst vv eg ik ne pcb x8 wd) x) (ik ((fun x8 => colF zs n w lst vv eg ik ne pcb x8 wd) x).2.2.1.toNatClampNeg)) (k + 1) (nI (31 * t + k)) (vp_nar .boolean 1)), (k + 1), (va_up rs k x)) br (d + 1)).2.1) ∧ NDS cT ad7u7 gg7u7 (cgw (fun x8 => colF zs n w lst vv eg ik ne pcb x8 wd) ik (31 * t) dpt 0 ((gPar (gSpl (gBeg a8 (31 * t + k) x d) (31 * t + k) ((fun x8 => colF zs n w lst vv eg ik ne pcb x8 wd) x) (ik ((fun x8 => colF zs n w lst vv eg ik ne pcb x8 wd) x).2.2.1.toNatClampNeg)) (k + 1) (nI (31 * t + k)) (vp_nar .boolean 1)), (k + 1), (va_up rs k x)) br (d + 1)) t zs n (k + 1) (cgw (fun x8 => colF zs n w lst vv eg ik ne pcb x8 wd) ik (31 * t) dpt 0 ((gPar (gSpl (gBeg a8 (31 * t + k) x d) (31 * t + k) ((fun x8 => colF zs n w lst vv eg ik ne pcb x8 wd) x) (ik ((fun x8 => colF zs n w lst vv eg ik ne pcb x8 wd) x).2.2.1.toNatClampNeg)) (k + 1) (nI (31 * t + k)) (vp_nar .boolean 1)), (k + 1), (va_up rs k x)) br (d + 1)).2.1 ∧ GRB cT ad7u7 gg7u7 n zs XB vv vq eg ik ne dpt lst w pu pq9 psb pcb wd := hpu7
      have hP : va_P D vwCl ([] ++ pg cds ad7u7 gg7u7) _ := hP
      have hD : va_D A ([] ++ pg cds ad7u7 gg7u7) := hD
      rw [el] at hpu7
      obtain ⟨hrl, Fl, Al, Tl, Ml, Nl, hGBl⟩ := hpu7
      refine lv_topi (fun y9 e9 => ?_)
      cases (show y9 = nI (k + 1) from e9.trans hrl)
      have hl : lv_has ls 9 [(7, .long br), (6, .ref (ad7u7 (2000 + 32 * t + k))), (5, .int (nI k)), (0, .ref (ad7u7 6)), (1, .ref (ad7u7 (1000 + t))), (2, .long x), (4, .int (nI d))] := by rw [Al (2000 + 32 * t + k) (by omega) (by omega) (by omega) (by omega), Al 6 (by omega) (by omega) (by omega) (by omega), Al (1000 + t) (by omega) (by omega) (by omega) (by omega)]; exact hl
      refine W.eq (g2 := F0 m 128 ls [.int (nI (k + 1)), .ref (ad7u7 (2000 + 32 * t + k))]) (by rw [Al (2000 + 32 * t + k) (by omega) (by omega) (by omega) (by omega)]) ?_
      have N5 : gg7u7 (2000 + 32 * t + k) = some (.inr (10, [.int bc, .int bm, .int bo, .int bl, .int (-1), .int (-1), .int (nI (cb x)), .int (nI d), .ref (ad7u7 (3000 + 32 * t + k))])) := by rw [Al _ (by omega) (by omega) (by omega) (by omega)]; exact (Fl _ (by omega) (by omega) (by omega) (by omega) (by omega) (by omega) (by omega) (by omega) (by omega)).trans g4_0
      have hB9 : QI gg7u7 [(2000 + 32 * t + k, .inr (10, [.int bc, .int bm, .int bo, .int bl, .int (-1), .int (-1), .int (nI (cb x)), .int (nI d), .ref (ad7u7 (3000 + 32 * t + k))]))] := (qi_c (by omega) N5 qi_0)
      have hN9 := (show NDc [2000 + 32 * t + k] from (nd_c na_0 nd_0))
      have hP := bo_P (wc := [(2000 + 32 * t + k, .inr (10, [.int bc, .int bm, .int bo, .int bl, .int (-1), .int (-1), .int (nI (cb x)), .int (nI d), .ref (ad7u7 (3000 + 32 * t + k))]))]) (X := []) hcd hN9 hB9 hP
      have hD := bo_D (wc := [(2000 + 32 * t + k, .inr (10, [.int bc, .int bm, .int bo, .int bl, .int (-1), .int (-1), .int (nI (cb x)), .int (nI d), .ref (ad7u7 (3000 + 32 * t + k))]))]) (X := []) hcd hN9 hB9 hD
      have hP : va_P D vwCl ([(ad7u7 (2000 + 32 * t + k), .inr (10, [.int bc, .int bm, .int bo, .int bl, .int (-1), .int (-1), .int (nI (cb x)), .int (nI d), .ref (ad7u7 (3000 + 32 * t + k))]))] ++ pg cds ad7u7 (upo gg7u7 [2000 + 32 * t + k])) _ := hP
      have hD : va_D A ([(ad7u7 (2000 + 32 * t + k), .inr (10, [.int bc, .int bm, .int bo, .int bl, .int (-1), .int (-1), .int (nI (cb x)), .int (nI d), .ref (ad7u7 (3000 + 32 * t + k))]))] ++ pg cds ad7u7 (upo gg7u7 [2000 + 32 * t + k])) := hD
      refine va_put (D := D) (ci := 10) (v := .int (nI (k + 1))) (ty := .int) (C := R_N) (T := T_N) (N := 9) hx hb hT in_N ty_N ty_N_ok m_N hown hK hP hD hS 0 rfl rfl 4 (by decide) (hT _ w843) (fun _ h9 => h9) rfl (by decide +kernel) rfl rfl (Nat.le_of_ble_eq_true rfl) dGr_grow_128 (fun H locs hP hD hS => ?_)
      have hP : va_P D vwCl ([(ad7u7 (2000 + 32 * t + k), .inr (10, [.int bc, .int bm, .int bo, .int bl, .int (nI (k + 1)), .int (-1), .int (nI (cb x)), .int (nI d), .ref (ad7u7 (3000 + 32 * t + k))]))] ++ pg cds ad7u7 (upo gg7u7 [2000 + 32 * t + k])) _ := hP
      have hD : va_D A ([(ad7u7 (2000 + 32 * t + k), .inr (10, [.int bc, .int bm, .int bo, .int bl, .int (nI (k + 1)), .int (-1), .int (nI (cb x)), .int (nI d), .ref (ad7u7 (3000 + 32 * t + k))]))] ++ pg cds ad7u7 (upo gg7u7 [2000 + 32 * t + k])) := hD
      have hN9 := (show NDc [2000 + 32 * t + k] from (nd_c na_0 nd_0))
      have hP := gb_P (w9 := [(2000 + 32 * t + k, .inr (10, [.int bc, .int bm, .int bo, .int bl, .int (nI (k + 1)), .int (-1), .int (nI (cb x)), .int (nI d), .ref (ad7u7 (3000 + 32 * t + k))]))]) (X := []) (g := gg7u7) hcd hN9 (show QB [(2000 + 32 * t + k, .inr (10, [.int bc, .int bm, .int bo, .int bl, .int (nI (k + 1)), .int (-1), .int (nI (cb x)), .int (nI d), .ref (ad7u7 (3000 + 32 * t + k))]))] from (qb_c (by omega) qb_0)) (hP.part (cx := [(ad7u7 (2000 + 32 * t + k), .inr (10, [.int bc, .int bm, .int bo, .int bl, .int (nI (k + 1)), .int (-1), .int (nI (cb x)), .int (nI d), .ref (ad7u7 (3000 + 32 * t + k))]))]) [0] rfl)
      have hD := gb_D (w9 := [(2000 + 32 * t + k, .inr (10, [.int bc, .int bm, .int bo, .int bl, .int (nI (k + 1)), .int (-1), .int (nI (cb x)), .int (nI d), .ref (ad7u7 (3000 + 32 * t + k))]))]) (X := []) (g := gg7u7) hcd hN9 (show QB [(2000 + 32 * t + k, .inr (10, [.int bc, .int bm, .int bo, .int bl, .int (nI (k + 1)), .int (-1), .int (nI (cb x)), .int (nI d), .ref (ad7u7 (3000 + 32 * t + k))]))] from (qb_c (by omega) qb_0)) (hD.part (cx := [(ad7u7 (2000 + 32 * t + k), .inr (10, [.int bc, .int bm, .int bo, .int bl, .int (nI (k + 1)), .int (-1), .int (nI (cb x)), .int (nI d), .ref (ad7u7 (3000 + 32 * t + k))]))]) [0] (by decide) rfl)
      obtain ⟨g6, hg6⟩ : ∃ q9, q9 = ups gg7u7 [(2000 + 32 * t + k, .inr (10, [.int bc, .int bm, .int bo, .int bl, .int (nI (k + 1)), .int (-1), .int (nI (cb x)), .int (nI d), .ref (ad7u7 (3000 + 32 * t + k))]))] := ⟨_, rfl⟩
      rw [← hg6] at hP hD
      have hP : va_P D vwCl ([] ++ pg cds ad7u7 g6) _ := hP
      have hD : va_D A ([] ++ pg cds ad7u7 g6) := hD
      have fg6 : ∀ z8, z8 ≠ 2000 + 32 * t + k → g6 z8 = gg7u7 z8 := fun z8 z1 => by rw [hg6]; exact ups_k (kp_n z1 kp_0)
      have g6_0 : g6 (2000 + 32 * t + k) = some (.inr (10, [.int bc, .int bm, .int bo, .int bl, .int (nI (k + 1)), .int (-1), .int (nI (cb x)), .int (nI d), .ref (ad7u7 (3000 + 32 * t + k))])) := by rw [hg6]; exact ups_1
      have M6 : TMD cT ad7u7 g6 tE t (max (max mk (k + 1)) GL.2.1) := tmd_nd ht16 Ml (k := k) (by omega) (fun z8 n1 n2 => fg6 z8 n2) g6_0
      have T6 := (fg6 (1000 + t) (by omega)).trans Tl
      have hGB6 : GRB cT ad7u7 g6 n zs XB vv vq eg ik ne dpt lst w pu pq9 psb pcb wd := hGBl.cg (fun _ _ _ => rfl) (fun x9 h9 _ _ _ => fg6 x9 (by omega))
      obtain ⟨vhtb, vhRs, vhCa, vhCf, vhpl, vhGa, vhSc, vhGs, ⟨vfo, vhod⟩, vbb9, vtt9, vb90, vhgr, vhbt, vhSP⟩ := id hGB6
      refine lv_aload hx hb dGr_grow_131 (lv_at hl 1 rfl) ?_
      refine lv_aload_n hx hb dGr_grow_133 rfl (lv_at hl 3 rfl) ?_
      refine lv_aload_n hx hb dGr_grow_134 rfl (lv_at hl 4 rfl) ?_
      refine lv_lload_n hx hb dGr_grow_135 rfl (lv_at hl 5 rfl) ?_
      refine lv_lload hx hb dGr_grow_136 (lv_at hl 0 rfl) ?_
      refine lv_ldc2 (v := (-1)) hx hb hown (hT _ w950) dGr_grow_138 ?_
      refine lv_lxor hx hb dGr_grow_141 ?_
      refine lv_land hx hb dGr_grow_142 ?_
      refine lv_iload hx hb dGr_grow_143 (lv_at hl 6 rfl) ?_
      refine lv_iconst (v := 1) hx hb dGr_grow_145 (by decide) ?_
      refine lv_iadd hx hb dGr_grow_146 ?_
      refine lv_topi (fun y9 e9 => ?_)
      cases (show y9 = nI (d + 1) from e9.trans (nI_add d 1))
      have er : (cgw (fun x8 => colF zs n w lst vv eg ik ne pcb x8 wd) ik (31 * t) dpt 0 ((gPar GL.1 GL.2.1 (nI (31 * t + k)) (vp_nar .boolean 0)), GL.2.1, GL.2.2) (x &&& (br ^^^ (-1))) (d + 1)) = GR := hGR
      have enr : (cgw (fun x8 => colF zs n w lst vv eg ik ne pcb x8 wd) ik (31 * t) dpt 0 ((gPar GL.1 GL.2.1 (nI (31 * t + k)) (vp_nar .boolean 0)), GL.2.1, GL.2.2) (x &&& (br ^^^ (-1))) (d + 1)).2.1 = GR.2.1 := congrArg (fun q : GST => q.2.1) er
      refine hy_iP (X := []) (pl := pg cds ad7u7 g6) (cx := []) (wr := []) hP hD hS hA [] [] rfl rfl (by decide) (by decide) (va_runV (As := [.ref (ad7u7 (1000 + t)), .long (x &&& (br ^^^ (-1))), .int (nI (d + 1))]) (rest := [.ref (ad7u7 (2000 + 32 * t + k))]) ⟨hx, hb, hml, hown, hT⟩ (k_grow0 l D cT cds ad7u7 g6 tE mE n zs XB vv vq eg ik ne dpt lst w pu pq9 psb pcb wd (max (max mk (k + 1)) GL.2.1) t GL.2.1 tw tu tl tsc (gPar GL.1 GL.2.1 (nI (31 * t + k)) (vp_nar .boolean 0)) GL.2.2 (x &&& (br ^^^ (-1))) (d + 1) hcd ht16 T6 M6 (by omega) (by omega) hGB6 hn48 hXB hfit hne hik hls2 hw20 hB2 hB3 hB4 hB5 hwd6 hS9 hVk (sub_and hAn) (by omega) _) ⟨callB_of 3 hT (tb_gd w815) rfl rfl rfl (hT _ w6) (hT _ w949) hGr_grow ⟨Nat.le_of_ble_eq_true rfl, Nat.le_of_ble_eq_true rfl⟩, (hT _ w814), (hT _ wp12)⟩ (RWE.preW (ci := 7) (q0 := 0) hE0 hZ hS (va_freeP (cx := []) hD hS hA [] rfl) (hP.part (cx := []) [] rfl) hK (hD.part (cx := []) [] (by decide) rfl) (pg_1 (x := 6) hcd hP (by decide) vhgr) rfl rfl) rfl rfl hl.1 rfl (lv_room (Nat.le_of_ble_eq_true rfl)) dGr_grow_147 ⟨(by show ((((0 + (4 * (max mk (k + 1) - mk))) + 0) + 0) + (4 * (max (max mk (k + 1)) (cgw (fun x8 => colF zs n w lst vv eg ik ne pcb x8 wd) ik (31 * t) dpt 0 ((gPar (gSpl (gBeg a8 (31 * t + k) x d) (31 * t + k) ((fun x8 => colF zs n w lst vv eg ik ne pcb x8 wd) x) (ik ((fun x8 => colF zs n w lst vv eg ik ne pcb x8 wd) x).2.2.1.toNatClampNeg)) (k + 1) (nI (31 * t + k)) (vp_nar .boolean 1)), (k + 1), (va_up rs k x)) br (d + 1)).2.1 - (max mk (k + 1))))) + (4 * (max (max (max mk (k + 1)) GL.2.1) (cgw (fun x8 => colF zs n w lst vv eg ik ne pcb x8 wd) ik (31 * t) dpt 0 ((gPar GL.1 GL.2.1 (nI (31 * t + k)) (vp_nar .boolean 0)), GL.2.1, GL.2.2) (x &&& (br ^^^ (-1))) (d + 1)).2.1 - (max (max mk (k + 1)) GL.2.1))) ≤ (4 * (max mk (cgw (fun x8 => colF zs n w lst vv eg ik ne pcb x8 wd) ik (31 * t) dpt 1 (a8, k, rs) x d).2.1 - mk)); omega), (by show ((((0 + (69 * (max mk (k + 1) - mk))) + 0) + 0) + (69 * (max (max mk (k + 1)) (cgw (fun x8 => colF zs n w lst vv eg ik ne pcb x8 wd) ik (31 * t) dpt 0 ((gPar (gSpl (gBeg a8 (31 * t + k) x d) (31 * t + k) ((fun x8 => colF zs n w lst vv eg ik ne pcb x8 wd) x) (ik ((fun x8 => colF zs n w lst vv eg ik ne pcb x8 wd) x).2.2.1.toNatClampNeg)) (k + 1) (nI (31 * t + k)) (vp_nar .boolean 1)), (k + 1), (va_up rs k x)) br (d + 1)).2.1 - (max mk (k + 1))))) + (69 * (max (max (max mk (k + 1)) GL.2.1) (cgw (fun x8 => colF zs n w lst vv eg ik ne pcb x8 wd) ik (31 * t) dpt 0 ((gPar GL.1 GL.2.1 (nI (31 * t + k)) (vp_nar .boolean 0)), GL.2.1, GL.2.2) (x &&& (br ^^^ (-1))) (d + 1)).2.1 - (max (max mk (k + 1)) GL.2.1))) ≤ (69 * (max mk (cgw (fun x8 => colF zs n w lst vv eg ik ne pcb x8 wd) ik (31 * t) dpt 1 (a8, k, rs) x d).2.1 - mk)); omega)⟩) (fun ru8 u9 H locs hpu8 hP hD hS => ?_)
      obtain ⟨ad7u8, gg7u8⟩ := u9
      have hpu8 : ru8 = nI GL.2.1 ∧ (∀ z8, (z8 < 60 ∨ (72 < z8 ∧ z8 < 200) ∨ 260 ≤ z8) → z8 ≠ 6 → z8 ≠ 8 → z8 ≠ 1000 + t → z8 ≠ 1020 + t → z8 ≠ 1040 + t → (z8 < 2000 + 32 * t + GL.2.1 ∨ 2032 + 32 * t ≤ z8) → (z8 < 3000 + 32 * t + GL.2.1 ∨ 3032 + 32 * t ≤ z8) → (z8 < 4000 + 32 * t + GL.2.1 ∨ 4032 + 32 * t ≤ z8) → gg7u8 z8 = g6 z8) ∧ (∀ z8, z8 ≠ 1040 + t → (z8 < 2000 + 32 * t + GL.2.1 ∨ 2032 + 32 * t ≤ z8) → (z8 < 3000 + 32 * t + GL.2.1 ∨ 3032 + 32 * t ≤ z8) → (z8 < 4000 + 32 * t + GL.2.1 ∨ 4032 + 32 * t ≤ z8) → ad7u8 z8 = ad7u7 z8) ∧ gg7u8 (1000 + t) = some (eTR (ad7u8 (1020 + t)) (nI (cgw (fun x8 => colF zs n w lst vv eg ik ne pcb x8 wd) ik (31 * t) dpt 0 ((gPar GL.1 GL.2.1 (nI (31 * t + k)) (vp_nar .boolean 0)), GL.2.1, GL.2.2) (x &&& (br ^^^ (-1))) (d + 1)).2.1) tw tu tl tsc) ∧ TMD cT ad7u8 gg7u8 tE t (max (max (max mk (k + 1)) GL.2.1) (cgw (fun x8 => colF zs n w lst vv eg ik ne pcb x8 wd) ik (31 * t) dpt 0 ((gPar GL.1 GL.2.1 (nI (31 * t + k)) (vp_nar .boolean 0)), GL.2.1, GL.2.2) (x &&& (br ^^^ (-1))) (d + 1)).2.1) ∧ NDS cT ad7u8 gg7u8 (cgw (fun x8 => colF zs n w lst vv eg ik ne pcb x8 wd) ik (31 * t) dpt 0 ((gPar GL.1 GL.2.1 (nI (31 * t + k)) (vp_nar .boolean 0)), GL.2.1, GL.2.2) (x &&& (br ^^^ (-1))) (d + 1)) t zs n GL.2.1 (cgw (fun x8 => colF zs n w lst vv eg ik ne pcb x8 wd) ik (31 * t) dpt 0 ((gPar GL.1 GL.2.1 (nI (31 * t + k)) (vp_nar .boolean 0)), GL.2.1, GL.2.2) (x &&& (br ^^^ (-1))) (d + 1)).2.1 ∧ GRB cT ad7u8 gg7u8 n zs XB vv vq eg ik ne dpt lst w pu pq9 psb pcb wd := hpu8
      have hP : va_P D vwCl ([] ++ pg cds ad7u8 gg7u8) _ := hP
      have hD : va_D A ([] ++ pg cds ad7u8 gg7u8) := hD
      rw [er] at hpu8
      obtain ⟨hrr, Fr, Ar, Tr, Mr, Nr, hGBr⟩ := hpu8
      refine lv_topi (fun y9 e9 => ?_)
      cases (show y9 = nI GL.2.1 from e9.trans hrr)
      have hl : lv_has ls 9 [(7, .long br), (6, .ref (ad7u8 (2000 + 32 * t + k))), (5, .int (nI k)), (0, .ref (ad7u8 6)), (1, .ref (ad7u8 (1000 + t))), (2, .long x), (4, .int (nI d))] := by rw [Ar (2000 + 32 * t + k) (by omega) (by omega) (by omega) (by omega), Ar 6 (by omega) (by omega) (by omega) (by omega), Ar (1000 + t) (by omega) (by omega) (by omega) (by omega)]; exact hl
      refine W.eq (g2 := F0 m 150 ls [.int (nI GL.2.1), .ref (ad7u8 (2000 + 32 * t + k))]) (by rw [Ar (2000 + 32 * t + k) (by omega) (by omega) (by omega) (by omega)]) ?_
      have N7 : gg7u8 (2000 + 32 * t + k) = some (.inr (10, [.int bc, .int bm, .int bo, .int bl, .int (nI (k + 1)), .int (-1), .int (nI (cb x)), .int (nI d), .ref (ad7u8 (3000 + 32 * t + k))])) := by rw [Ar _ (by omega) (by omega) (by omega) (by omega)]; exact (Fr _ (by omega) (by omega) (by omega) (by omega) (by omega) (by omega) (by omega) (by omega) (by omega)).trans g6_0
      have hB9 : QI gg7u8 [(2000 + 32 * t + k, .inr (10, [.int bc, .int bm, .int bo, .int bl, .int (nI (k + 1)), .int (-1), .int (nI (cb x)), .int (nI d), .ref (ad7u8 (3000 + 32 * t + k))]))] := (qi_c (by omega) N7 qi_0)
      have hN9 := (show NDc [2000 + 32 * t + k] from (nd_c na_0 nd_0))
      have hP := bo_P (wc := [(2000 + 32 * t + k, .inr (10, [.int bc, .int bm, .int bo, .int bl, .int (nI (k + 1)), .int (-1), .int (nI (cb x)), .int (nI d), .ref (ad7u8 (3000 + 32 * t + k))]))]) (X := []) hcd hN9 hB9 hP
      have hD := bo_D (wc := [(2000 + 32 * t + k, .inr (10, [.int bc, .int bm, .int bo, .int bl, .int (nI (k + 1)), .int (-1), .int (nI (cb x)), .int (nI d), .ref (ad7u8 (3000 + 32 * t + k))]))]) (X := []) hcd hN9 hB9 hD
      have hP : va_P D vwCl ([(ad7u8 (2000 + 32 * t + k), .inr (10, [.int bc, .int bm, .int bo, .int bl, .int (nI (k + 1)), .int (-1), .int (nI (cb x)), .int (nI d), .ref (ad7u8 (3000 + 32 * t + k))]))] ++ pg cds ad7u8 (upo gg7u8 [2000 + 32 * t + k])) _ := hP
      have hD : va_D A ([(ad7u8 (2000 + 32 * t + k), .inr (10, [.int bc, .int bm, .int bo, .int bl, .int (nI (k + 1)), .int (-1), .int (nI (cb x)), .int (nI d), .ref (ad7u8 (3000 + 32 * t + k))]))] ++ pg cds ad7u8 (upo gg7u8 [2000 + 32 * t + k])) := hD
      refine va_put (D := D) (ci := 10) (v := .int (nI GL.2.1)) (ty := .int) (C := R_N) (T := T_N) (N := 9) hx hb hT in_N ty_N ty_N_ok m_N hown hK hP hD hS 0 rfl rfl 5 (by decide) (hT _ w847) (fun _ h9 => h9) rfl (by decide +kernel) rfl rfl (Nat.le_of_ble_eq_true rfl) dGr_grow_150 (fun H locs hP hD hS => ?_)
      have hP : va_P D vwCl ([(ad7u8 (2000 + 32 * t + k), .inr (10, [.int bc, .int bm, .int bo, .int bl, .int (nI (k + 1)), .int (nI GL.2.1), .int (nI (cb x)), .int (nI d), .ref (ad7u8 (3000 + 32 * t + k))]))] ++ pg cds ad7u8 (upo gg7u8 [2000 + 32 * t + k])) _ := hP
      have hD : va_D A ([(ad7u8 (2000 + 32 * t + k), .inr (10, [.int bc, .int bm, .int bo, .int bl, .int (nI (k + 1)), .int (nI GL.2.1), .int (nI (cb x)), .int (nI d), .ref (ad7u8 (3000 + 32 * t + k))]))] ++ pg cds ad7u8 (upo gg7u8 [2000 + 32 * t + k])) := hD
      have hN9 := (show NDc [2000 + 32 * t + k] from (nd_c na_0 nd_0))
      have hP := gb_P (w9 := [(2000 + 32 * t + k, .inr (10, [.int bc, .int bm, .int bo, .int bl, .int (nI (k + 1)), .int (nI GL.2.1), .int (nI (cb x)), .int (nI d), .ref (ad7u8 (3000 + 32 * t + k))]))]) (X := []) (g := gg7u8) hcd hN9 (show QB [(2000 + 32 * t + k, .inr (10, [.int bc, .int bm, .int bo, .int bl, .int (nI (k + 1)), .int (nI GL.2.1), .int (nI (cb x)), .int (nI d), .ref (ad7u8 (3000 + 32 * t + k))]))] from (qb_c (by omega) qb_0)) (hP.part (cx := [(ad7u8 (2000 + 32 * t + k), .inr (10, [.int bc, .int bm, .int bo, .int bl, .int (nI (k + 1)), .int (nI GL.2.1), .int (nI (cb x)), .int (nI d), .ref (ad7u8 (3000 + 32 * t + k))]))]) [0] rfl)
      have hD := gb_D (w9 := [(2000 + 32 * t + k, .inr (10, [.int bc, .int bm, .int bo, .int bl, .int (nI (k + 1)), .int (nI GL.2.1), .int (nI (cb x)), .int (nI d), .ref (ad7u8 (3000 + 32 * t + k))]))]) (X := []) (g := gg7u8) hcd hN9 (show QB [(2000 + 32 * t + k, .inr (10, [.int bc, .int bm, .int bo, .int bl, .int (nI (k + 1)), .int (nI GL.2.1), .int (nI (cb x)), .int (nI d), .ref (ad7u8 (3000 + 32 * t + k))]))] from (qb_c (by omega) qb_0)) (hD.part (cx := [(ad7u8 (2000 + 32 * t + k), .inr (10, [.int bc, .int bm, .int bo, .int bl, .int (nI (k + 1)), .int (nI GL.2.1), .int (nI (cb x)), .int (nI d), .ref (ad7u8 (3000 + 32 * t + k))]))]) [0] (by decide) rfl)
      obtain ⟨g8, hg8⟩ : ∃ q9, q9 = ups gg7u8 [(2000 + 32 * t + k, .inr (10, [.int bc, .int bm, .int bo, .int bl, .int (nI (k + 1)), .int (nI GL.2.1), .int (nI (cb x)), .int (nI d), .ref (ad7u8 (3000 + 32 * t + k))]))] := ⟨_, rfl⟩
      rw [← hg8] at hP hD
      have hP : va_P D vwCl ([] ++ pg cds ad7u8 g8) _ := hP
      have hD : va_D A ([] ++ pg cds ad7u8 g8) := hD
      have fg8 : ∀ z8, z8 ≠ 2000 + 32 * t + k → g8 z8 = gg7u8 z8 := fun z8 z1 => by rw [hg8]; exact ups_k (kp_n z1 kp_0)
      have g8_0 : g8 (2000 + 32 * t + k) = some (.inr (10, [.int bc, .int bm, .int bo, .int bl, .int (nI (k + 1)), .int (nI GL.2.1), .int (nI (cb x)), .int (nI d), .ref (ad7u8 (3000 + 32 * t + k))])) := by rw [hg8]; exact ups_1
      refine lv_iload hx hb dGr_grow_153 (lv_at hl 2 rfl) ?_
      have M8 : TMD cT ad7u8 g8 tE t (max mk GR.2.1) := by rw [show max mk GR.2.1 = max (max (max mk (k + 1)) GL.2.1) GR.2.1 by omega]; exact tmd_nd ht16 Mr (k := k) (by omega) (fun z8 n1 n2 => fg8 z8 n2) g8_0
      have T8 := (fg8 (1000 + t) (by omega)).trans Tr
      have hGB8 : GRB cT ad7u8 g8 n zs XB vv vq eg ik ne dpt lst w pu pq9 psb pcb wd := hGBr.cg (fun _ _ _ => rfl) (fun x9 h9 _ _ _ => fg8 x9 (by omega))
      have kp0 : vp_nar .boolean bl = bl := vpn_z hml9
      have kp1 : vp_nar .boolean bo = bo := vpn_z hbo9
      have hSz : WHO cT ad7u8 g8 (3000 + 32 * t + k) (4000 + 32 * t + k) 24 (smv zs x n) := ((((((S2.cg (F3 _ (by omega) (by omega) (by omega)) (F3 _ (by omega) (by omega) (by omega))).cg (fg4 _ (by omega)) (fg4 _ (by omega))).cg (Fl _ (by omega) (by omega) (by omega) (by omega) (by omega) (by omega) (by omega) (by omega) (by omega)) (Fl _ (by omega) (by omega) (by omega) (by omega) (by omega) (by omega) (by omega) (by omega) (by omega))).ca (Al _ (by omega) (by omega) (by omega) (by omega))).cg (fg6 _ (by omega)) (fg6 _ (by omega))).cg (Fr _ (by omega) (by omega) (by omega) (by omega) (by omega) (by omega) (by omega) (by omega) (by omega)) (Fr _ (by omega) (by omega) (by omega) (by omega) (by omega) (by omega) (by omega) (by omega) (by omega))).ca (Ar _ (by omega) (by omega) (by omega) (by omega)) |>.cg (fg8 _ (by omega)) (fg8 _ (by omega))
      have hN0 : NDS cT ad7u8 g8 GR t zs n k (k + 1) := fun j j1 j2 => by
        have ej : j = k := by omega
        rw [ej]
        refine ⟨?_, by rw [hRx]; exact hSz⟩
        unfold NDp
        rw [k0, k1, k2, k3, k4, k5, k6, k7]
        have f5x : (ik (colF zs n w lst vv eg ik ne pcb x wd).2.2.1.toNatClampNeg) = bo := f5.symm
        show g8 _ = some (eND (colF zs n w lst vv eg ik ne pcb x wd).2.2.1 (colF zs n w lst vv eg ik ne pcb x wd).2.2.2.1 (vp_nar .boolean (ik (colF zs n w lst vv eg ik ne pcb x wd).2.2.1.toNatClampNeg)) (vp_nar .boolean (colF zs n w lst vv eg ik ne pcb x wd).2.2.2.2.1) (nI (k + 1)) (nI GL.2.1) (nI (cb x)) (nI d) _)
        rw [f5x, f1, f2, f3, kp0, kp1]
        exact g8_0
      have hNl : NDS cT ad7u8 g8 GR t zs n (k + 1) GL.2.1 := Nl.cg (fun j j1 j2 => ⟨(fg8 _ (by omega)).trans ((Fr _ (by omega) (by omega) (by omega) (by omega) (by omega) (by omega) (by omega) (by omega) (by omega)).trans (fg6 _ (by omega))), (fg8 _ (by omega)).trans ((Fr _ (by omega) (by omega) (by omega) (by omega) (by omega) (by omega) (by omega) (by omega) (by omega)).trans (fg6 _ (by omega))), (fg8 _ (by omega)).trans ((Fr _ (by omega) (by omega) (by omega) (by omega) (by omega) (by omega) (by omega) (by omega) (by omega)).trans (fg6 _ (by omega))), Ar _ (by omega) (by omega) (by omega) (by omega), Ar _ (by omega) (by omega) (by omega) (by omega)⟩) (fun f j hf j1 j2 => hRj f j hf j1 j2) (fun j j1 j2 => hRr j j2)
      have hNr : NDS cT ad7u8 g8 GR t zs n GL.2.1 GR.2.1 := Nr.cg (fun j j1 j2 => ⟨fg8 _ (by omega), fg8 _ (by omega), fg8 _ (by omega), rfl, rfl⟩) (fun _ _ _ _ _ => rfl) (fun _ _ _ => rfl)
      have hP9 : va_P D vwCl ([] ++ pg cds ad7u8 g8) _ := hP.part (cx := []) [] rfl
      have hD9 : va_D A ([] ++ pg cds ad7u8 g8) := hD.part (cx := []) [] (by decide) rfl
      refine W.widen (k := 4 * (max mk (cgw (fun x8 => colF zs n w lst vv eg ik ne pcb x8 wd) ik (31 * t) dpt 1 (a8, k, rs) x d).2.1 - mk)) (n := 69 * (max mk (cgw (fun x8 => colF zs n w lst vv eg ik ne pcb x8 wd) ik (31 * t) dpt 1 (a8, k, rs) x d).2.1 - mk)) ((by show ((((0 + (4 * (max mk (k + 1) - mk))) + 0) + 0) + (4 * (max (max mk (k + 1)) (cgw (fun x8 => colF zs n w lst vv eg ik ne pcb x8 wd) ik (31 * t) dpt 0 ((gPar (gSpl (gBeg a8 (31 * t + k) x d) (31 * t + k) ((fun x8 => colF zs n w lst vv eg ik ne pcb x8 wd) x) (ik ((fun x8 => colF zs n w lst vv eg ik ne pcb x8 wd) x).2.2.1.toNatClampNeg)) (k + 1) (nI (31 * t + k)) (vp_nar .boolean 1)), (k + 1), (va_up rs k x)) br (d + 1)).2.1 - (max mk (k + 1))))) + (4 * (max (max (max mk (k + 1)) GL.2.1) (cgw (fun x8 => colF zs n w lst vv eg ik ne pcb x8 wd) ik (31 * t) dpt 0 ((gPar GL.1 GL.2.1 (nI (31 * t + k)) (vp_nar .boolean 0)), GL.2.1, GL.2.2) (x &&& (br ^^^ (-1))) (d + 1)).2.1 - (max (max mk (k + 1)) GL.2.1))) ≤ 4 * (max mk (cgw (fun x8 => colF zs n w lst vv eg ik ne pcb x8 wd) ik (31 * t) dpt 1 (a8, k, rs) x d).2.1 - mk); omega)) ((by show ((((0 + (69 * (max mk (k + 1) - mk))) + 0) + 0) + (69 * (max (max mk (k + 1)) (cgw (fun x8 => colF zs n w lst vv eg ik ne pcb x8 wd) ik (31 * t) dpt 0 ((gPar (gSpl (gBeg a8 (31 * t + k) x d) (31 * t + k) ((fun x8 => colF zs n w lst vv eg ik ne pcb x8 wd) x) (ik ((fun x8 => colF zs n w lst vv eg ik ne pcb x8 wd) x).2.2.1.toNatClampNeg)) (k + 1) (nI (31 * t + k)) (vp_nar .boolean 1)), (k + 1), (va_up rs k x)) br (d + 1)).2.1 - (max mk (k + 1))))) + (69 * (max (max (max mk (k + 1)) GL.2.1) (cgw (fun x8 => colF zs n w lst vv eg ik ne pcb x8 wd) ik (31 * t) dpt 0 ((gPar GL.1 GL.2.1 (nI (31 * t + k)) (vp_nar .boolean 0)), GL.2.1, GL.2.2) (x &&& (br ^^^ (-1))) (d + 1)).2.1 - (max (max mk (k + 1)) GL.2.1))) ≤ 69 * (max mk (cgw (fun x8 => colF zs n w lst vv eg ik ne pcb x8 wd) ik (31 * t) dpt 1 (a8, k, rs) x d).2.1 - mk); omega)) ?_
      exact W.iret (v := nI k) hx hb hr (fun t9 ht9 hW9 => ⟨⟨nI k, (ad7u8, g8), rfl, (show (nI k) = nI k ∧ (∀ z8, (z8 < 60 ∨ (72 < z8 ∧ z8 < 200) ∨ 260 ≤ z8) → z8 ≠ 6 → z8 ≠ 8 → z8 ≠ 1000 + t → z8 ≠ 1020 + t → z8 ≠ 1040 + t → (z8 < 2000 + 32 * t + k ∨ 2032 + 32 * t ≤ z8) → (z8 < 3000 + 32 * t + k ∨ 3032 + 32 * t ≤ z8) → (z8 < 4000 + 32 * t + k ∨ 4032 + 32 * t ≤ z8) → g8 z8 = gg z8) ∧ (∀ z8, z8 ≠ 1040 + t → (z8 < 2000 + 32 * t + k ∨ 2032 + 32 * t ≤ z8) → (z8 < 3000 + 32 * t + k ∨ 3032 + 32 * t ≤ z8) → (z8 < 4000 + 32 * t + k ∨ 4032 + 32 * t ≤ z8) → ad7u8 z8 = ad z8) ∧ g8 (1000 + t) = some (eTR (ad7u8 (1020 + t)) (nI (cgw (fun x8 => colF zs n w lst vv eg ik ne pcb x8 wd) ik (31 * t) dpt 1 (a8, k, rs) x d).2.1) tw tu tl tsc) ∧ TMD cT ad7u8 g8 tE t (max mk (cgw (fun x8 => colF zs n w lst vv eg ik ne pcb x8 wd) ik (31 * t) dpt 1 (a8, k, rs) x d).2.1) ∧ NDS cT ad7u8 g8 (cgw (fun x8 => colF zs n w lst vv eg ik ne pcb x8 wd) ik (31 * t) dpt 1 (a8, k, rs) x d) t zs n k (cgw (fun x8 => colF zs n w lst vv eg ik ne pcb x8 wd) ik (31 * t) dpt 1 (a8, k, rs) x d).2.1 ∧ GRB cT ad7u8 g8 n zs XB vv vq eg ik ne dpt lst w pu pq9 psb pcb wd from (by rw [hCG]; exact ⟨rfl, (fun z8 n1 n2 n3 n4 n5 n6 n7 n8 n9 => (fg8 z8 (by omega)).trans ((Fr z8 (by omega) (by omega) (by omega) (by omega) (by omega) (by omega) (by omega) (by omega) (by omega)).trans ((fg6 z8 (by omega)).trans ((Fl z8 (by omega) (by omega) (by omega) (by omega) (by omega) (by omega) (by omega) (by omega) (by omega)).trans ((fg4 z8 (by omega)).trans ((F3 z8 n1 n2 n3).trans ((F2 z8 (by omega) (by omega)).trans (F1 z8 (by omega) (by omega) (by omega) (by omega) (by omega) (by omega))))))))), (fun z8 n1 n2 n3 n4 => (Ar z8 (by omega) (by omega) (by omega) (by omega)).trans ((Al z8 (by omega) (by omega) (by omega) (by omega)).trans (A1 z8 (by omega) (by omega) (by omega) (by omega)))), T8, M8, (hN0.app hNl).app hNr, hGB8⟩)), by rw [ht9]; exact hP9, hD9⟩, hS.F ht9⟩) hS.2.2 dGr_grow_155
    · refine lv_if_eq (tgt := 153) hx hb dGr_grow_55 rfl (fun _ => ?_) (fun h9 => absurd (by rw [decide_eq_false hgn]; rfl) h9)
      refine lv_iload hx hb dGr_grow_153 (lv_at hl 1 rfl) ?_
      have hGBz := hGB3
      have hcge := (show (cgw (fun x8 => colF zs n w lst vv eg ik ne pcb x8 wd) ik (31 * t) dpt 1 (a8, k, rs) x d) = cgL (31 * t) (a8, k, rs) x d from if_pos (Or.inr (show (colF zs n w lst vv eg ik ne pcb x wd).1 ≤ 0 by omega)))
      have hcg1 : (cgw (fun x8 => colF zs n w lst vv eg ik ne pcb x8 wd) ik (31 * t) dpt 1 (a8, k, rs) x d).2.1 = k + 1 := congrArg (fun q : GST => q.2.1) hcge
      have hMz : TMD cT ad7u1 gg7u5 tE t (max mk (k + 1)) := M2.cg (F3 _ (by omega) (by omega) (by omega)) (F3 _ (by omega) (by omega) (by omega)) rfl (fun j hj => ⟨F3 _ (by omega) (by omega) (by omega), F3 _ (by omega) (by omega) (by omega), F3 _ (by omega) (by omega) (by omega), rfl, rfl, rfl⟩)
      have hNz : NDS cT ad7u1 gg7u5 (cgw (fun x8 => colF zs n w lst vv eg ik ne pcb x8 wd) ik (31 * t) dpt 1 (a8, k, rs) x d) t zs n k (k + 1) := by rw [hcge]; exact nds_leaf ((F3 _ (by omega) (by omega) (by omega)).trans N2) (S2.cg (F3 _ (by omega) (by omega) (by omega)) (F3 _ (by omega) (by omega) (by omega)))
      have hP9 : va_P D vwCl ([] ++ pg cds ad7u1 gg7u5) _ := hP.part (cx := []) [] rfl
      have hD9 : va_D A ([] ++ pg cds ad7u1 gg7u5) := hD.part (cx := []) [] (by decide) rfl
      refine W.widen (k := 4 * (max mk (cgw (fun x8 => colF zs n w lst vv eg ik ne pcb x8 wd) ik (31 * t) dpt 1 (a8, k, rs) x d).2.1 - mk)) (n := 69 * (max mk (cgw (fun x8 => colF zs n w lst vv eg ik ne pcb x8 wd) ik (31 * t) dpt 1 (a8, k, rs) x d).2.1 - mk)) ((by show ((0 + (4 * (max mk (k + 1) - mk))) + 0) + 0 ≤ 4 * (max mk (cgw (fun x8 => colF zs n w lst vv eg ik ne pcb x8 wd) ik (31 * t) dpt 1 (a8, k, rs) x d).2.1 - mk); omega)) ((by show ((0 + (69 * (max mk (k + 1) - mk))) + 0) + 0 ≤ 69 * (max mk (cgw (fun x8 => colF zs n w lst vv eg ik ne pcb x8 wd) ik (31 * t) dpt 1 (a8, k, rs) x d).2.1 - mk); omega)) ?_
      exact W.iret (v := nI k) hx hb hr (fun t9 ht9 hW9 => ⟨⟨nI k, (ad7u1, gg7u5), rfl, (show (nI k) = nI k ∧ (∀ z8, (z8 < 60 ∨ (72 < z8 ∧ z8 < 200) ∨ 260 ≤ z8) → z8 ≠ 6 → z8 ≠ 8 → z8 ≠ 1000 + t → z8 ≠ 1020 + t → z8 ≠ 1040 + t → (z8 < 2000 + 32 * t + k ∨ 2032 + 32 * t ≤ z8) → (z8 < 3000 + 32 * t + k ∨ 3032 + 32 * t ≤ z8) → (z8 < 4000 + 32 * t + k ∨ 4032 + 32 * t ≤ z8) → gg7u5 z8 = gg z8) ∧ (∀ z8, z8 ≠ 1040 + t → (z8 < 2000 + 32 * t + k ∨ 2032 + 32 * t ≤ z8) → (z8 < 3000 + 32 * t + k ∨ 3032 + 32 * t ≤ z8) → (z8 < 4000 + 32 * t + k ∨ 4032 + 32 * t ≤ z8) → ad7u1 z8 = ad z8) ∧ gg7u5 (1000 + t) = some (eTR (ad7u1 (1020 + t)) (nI (cgw (fun x8 => colF zs n w lst vv eg ik ne pcb x8 wd) ik (31 * t) dpt 1 (a8, k, rs) x d).2.1) tw tu tl tsc) ∧ TMD cT ad7u1 gg7u5 tE t (max mk (cgw (fun x8 => colF zs n w lst vv eg ik ne pcb x8 wd) ik (31 * t) dpt 1 (a8, k, rs) x d).2.1) ∧ NDS cT ad7u1 gg7u5 (cgw (fun x8 => colF zs n w lst vv eg ik ne pcb x8 wd) ik (31 * t) dpt 1 (a8, k, rs) x d) t zs n k (cgw (fun x8 => colF zs n w lst vv eg ik ne pcb x8 wd) ik (31 * t) dpt 1 (a8, k, rs) x d).2.1 ∧ GRB cT ad7u1 gg7u5 n zs XB vv vq eg ik ne dpt lst w pu pq9 psb pcb wd from ⟨rfl, (fun z8 n1 n2 n3 n4 n5 n6 n7 n8 n9 => (F3 z8 (by omega) (by omega) (by omega)).trans ((F2 z8 (by omega) (by omega)).trans (F1 z8 (by omega) (by omega) (by omega) (by omega) (by omega) (by omega)))), (fun z8 n1 n2 n3 n4 => A1 z8 (by omega) (by omega) (by omega) (by omega)), by rw [hcg1]; exact (F3 _ (by omega) (by omega) (by omega)).trans T2, by rw [hcg1]; exact hMz, by rw [hcg1]; exact hNz, hGBz⟩), by rw [ht9]; exact hP9, hD9⟩, hS.F ht9⟩) hS.2.2 dGr_grow_155
/-! The forest: its list, the trees that are made. -/
def NOT (g : Nat → Option va_E) (t : Nat) : Prop := g (1000 + t) = none ∧ g (1020 + t) = none ∧ g (1040 + t) = none ∧ ∀ k, k < 32 → g (2000 + 32 * t + k) = none ∧ g (3000 + 32 * t + k) = none ∧ g (4000 + 32 * t + k) = none
def FST (cT : Nat → ClassId) (ad : Nat → Nat) (g : Nat → Option va_E) (tE fm : Nat) (mk : Nat → Nat) : Prop := LQ cT ad g tE 9 40 1000 fm ∧ fm ≤ 16 ∧ (∀ t, t < fm → (∃ (k w u lo : Int32) (sc : Int64), g (1000 + t) = some (eTR (ad (1020 + t)) k w u lo sc)) ∧ TMD cT ad g tE t (mk t)) ∧ ∀ t, fm ≤ t → t < 16 → mk t = 0 ∧ NOT g t
section FSs
variable {cT : Nat → ClassId} {ad ad2 ad7 : Nat → Nat} {g g2 g7 : Nat → Option va_E} {tE : Nat}
theorem LQ.frp {m : Nat} (h : LQ cT ad g tE 9 40 1000 m) : FRp cT ad g m := ⟨h.li, fun q => h.full q⟩
theorem NOT.cg {t : Nat} (h : NOT g t) (ht : t < 16) (f : ∀ z8, 1000 ≤ z8 → z8 < 5000 → (z8 = 1000 + t ∨ z8 = 1020 + t ∨ z8 = 1040 + t ∨ (2000 + 32 * t ≤ z8 ∧ z8 < 2032 + 32 * t) ∨ (3000 + 32 * t ≤ z8 ∧ z8 < 3032 + 32 * t) ∨ (4000 + 32 * t ≤ z8 ∧ z8 < 4032 + 32 * t)) → g2 z8 = g z8) : NOT g2 t := by
  obtain ⟨h1, h2, h3, h4⟩ := h
  refine ⟨(f _ (by omega) (by omega) (by omega)).trans h1, (f _ (by omega) (by omega) (by omega)).trans h2, (f _ (by omega) (by omega) (by omega)).trans h3, fun k hk => ?_⟩
  obtain ⟨a1, a2, a3⟩ := h4 k hk
  exact ⟨(f _ (by omega) (by omega) (by omega)).trans a1, (f _ (by omega) (by omega) (by omega)).trans a2, (f _ (by omega) (by omega) (by omega)).trans a3⟩
/-- a tree whose codes stay -/
theorem tmd_far {t mk : Nat} (h : TMD cT ad g tE t mk) (ht : t < 16) (f : ∀ z8, (z8 = 1000 + t ∨ z8 = 1020 + t ∨ z8 = 1040 + t ∨ (2000 + 32 * t ≤ z8 ∧ z8 < 2032 + 32 * t) ∨ (3000 + 32 * t ≤ z8 ∧ z8 < 3032 + 32 * t) ∨ (4000 + 32 * t ≤ z8 ∧ z8 < 4032 + 32 * t)) → g2 z8 = g z8 ∧ ad2 z8 = ad z8) : TMD cT ad2 g2 tE t mk :=
  h.cg (f _ (by omega)).1 (f _ (by omega)).1 (f _ (by omega)).2 (fun k hk => ⟨(f _ (by omega)).1, (f _ (by omega)).1, (f _ (by omega)).1, (f _ (by omega)).2, (f _ (by omega)).2, (f _ (by omega)).2⟩)
/-- a new tree behind the others -/
theorem fst_add {fm v : Nat} {mk : Nat → Nat} {md : Int32} {k w u lo : Int32} {sc : Int64} (h : FST cT ad g tE fm mk) (hm : fm < 16) (fr : ∀ z8, z8 ≠ 9 → z8 ≠ 40 → g7 z8 = g z8) (fa : ∀ z8, z8 ≠ 40 → ad7 z8 = ad z8) (hv : LQv cT ad ad7 g7 9 40 1000 fm v)
    (f2 : ∀ z8, z8 ≠ 1000 + fm → z8 ≠ 1020 + fm → g2 z8 = g7 z8) (a2 : ∀ z8, z8 ≠ 1000 + fm → z8 ≠ 1020 + fm → ad2 z8 = ad7 z8) (e0 : ad2 (1000 + fm) = v) (c0 : g2 (1000 + fm) = some (eTR (ad2 (1020 + fm)) k w u lo sc)) (c1 : g2 (1020 + fm) = some (eLI tE (nI 0) md)) : FST cT ad2 g2 tE (fm + 1) mk := by
  obtain ⟨_, h2, h3, h4⟩ := h
  obtain ⟨cap, md, lf, l1, l2, l3, l4, l5, l6⟩ := hv
  obtain ⟨z0, z1, z2, z3, z4⟩ := h4 fm (Nat.le_refl _) hm
  refine ⟨Or.inr ⟨cap, md, lf, ?_, (f2 _ (by omega) (by omega)).trans l2, l3, l4, fun t ht => ?_⟩, by omega, fun t ht => ?_, fun t t1 t2 => ?_⟩
  · rw [a2 _ (by omega) (by omega)]; exact (f2 _ (by omega) (by omega)).trans l1
  · rcases (show t = fm ∨ t < fm by omega) with q | q
    · rw [q, l6, e0]
    · rw [l5 t q, a2 _ (by omega) (by omega), fa _ (by omega)]
  · rcases (show t = fm ∨ t < fm by omega) with q | q
    · rw [q, z0]
      refine ⟨⟨k, w, u, lo, sc, c0⟩, Or.inl ⟨rfl, ⟨_, c1⟩, (f2 _ (by omega) (by omega)).trans ((fr _ (by omega) (by omega)).trans z3)⟩, by omega, fun k hk => absurd hk (by omega), fun k _ hk => ?_⟩
      obtain ⟨b1, b2, b3⟩ := z4 k hk
      exact ⟨(f2 _ (by omega) (by omega)).trans ((fr _ (by omega) (by omega)).trans b1), (f2 _ (by omega) (by omega)).trans ((fr _ (by omega) (by omega)).trans b2), (f2 _ (by omega) (by omega)).trans ((fr _ (by omega) (by omega)).trans b3)⟩
    · obtain ⟨⟨k, w, u, lo, sc, e1⟩, e2⟩ := h3 t q
      refine ⟨⟨k, w, u, lo, sc, ?_⟩, tmd_far e2 (by omega) (fun z hz => ⟨(f2 _ (by omega) (by omega)).trans (fr _ (by omega) (by omega)), (a2 _ (by omega) (by omega)).trans (fa _ (by omega))⟩)⟩
      rw [a2 _ (by omega) (by omega), fa _ (by omega)]
      exact (f2 _ (by omega) (by omega)).trans ((fr _ (by omega) (by omega)).trans e1)
  · obtain ⟨b0, b1⟩ := h4 t (by omega) t2
    exact ⟨b0, b1.cg t2 (fun z _ _ hz => (f2 _ (by omega) (by omega)).trans (fr _ (by omega) (by omega)))⟩
/-- one tree is written anew (its cell, its list, its nodes), and what lies below 1000 but the list -/
theorem fst_tr {fm T m2 : Nat} {mk : Nat → Nat} {k w u lo : Int32} {sc : Int64} (h : FST cT ad g tE fm mk) (hT : T < fm) (f9 : g2 9 = g 9) (f40 : g2 40 = g 40) (a40 : ad2 40 = ad 40)
    (f : ∀ z8, 1000 ≤ z8 → z8 ≠ 1000 + T → z8 ≠ 1020 + T → z8 ≠ 1040 + T → (z8 < 2000 + 32 * T ∨ 2032 + 32 * T ≤ z8) → (z8 < 3000 + 32 * T ∨ 3032 + 32 * T ≤ z8) → (z8 < 4000 + 32 * T ∨ 4032 + 32 * T ≤ z8) → g2 z8 = g z8)
    (fa : ∀ z8, z8 ≠ 1040 + T → (z8 < 2000 + 32 * T ∨ 2032 + 32 * T ≤ z8) → (z8 < 3000 + 32 * T ∨ 3032 + 32 * T ≤ z8) → (z8 < 4000 + 32 * T ∨ 4032 + 32 * T ≤ z8) → ad2 z8 = ad z8)
    (c0 : g2 (1000 + T) = some (eTR (ad2 (1020 + T)) k w u lo sc)) (c1 : TMD cT ad2 g2 tE T m2) : FST cT ad2 g2 tE fm (va_up mk T m2) := by
  obtain ⟨h1, h2, h3, h4⟩ := h
  refine ⟨h1.cg f9 f40 a40 (fun k hk => fa _ (by omega) (by omega) (by omega) (by omega)), h2, fun t ht => ?_, fun t t1 t2 => ?_⟩
  · by_cases q : t = T
    · rw [q, va_up_self]; exact ⟨⟨k, w, u, lo, sc, c0⟩, c1⟩
    · rw [va_up_ne _ _ q]
      obtain ⟨⟨k, w, u, lo, sc, e1⟩, e2⟩ := h3 t ht
      refine ⟨⟨k, w, u, lo, sc, ?_⟩, tmd_far e2 (by omega) (fun z hz => ⟨f _ (by omega) (by omega) (by omega) (by omega) (by omega) (by omega) (by omega), fa _ (by omega) (by omega) (by omega) (by omega)⟩)⟩
      rw [fa _ (by omega) (by omega) (by omega) (by omega)]
      exact (f _ (by omega) (by omega) (by omega) (by omega) (by omega) (by omega) (by omega)).trans e1
  · rw [va_up_ne _ _ (by omega)]
    obtain ⟨b0, b1⟩ := h4 t t1 t2
    exact ⟨b0, b1.cg t2 (fun z _ _ hz => f _ (by omega) (by omega) (by omega) (by omega) (by omega) (by omega) (by omega))⟩
/-- nothing of the forest has changed -/
theorem FST.cg {fm : Nat} {mk : Nat → Nat} (h : FST cT ad g tE fm mk) (f9 : g2 9 = g 9) (f40 : g2 40 = g 40) (f : ∀ z8, 1000 ≤ z8 → g2 z8 = g z8) : FST cT ad g2 tE fm mk := by
  obtain ⟨h1, h2, h3, h4⟩ := h
  refine ⟨h1.cg f9 f40 rfl (fun _ _ => rfl), h2, fun t ht => ?_, fun t t1 t2 => ⟨(h4 t t1 t2).1, (h4 t t1 t2).2.cg t2 (fun z hz _ _ => f z hz)⟩⟩
  obtain ⟨⟨k, w, u, lo, sc, e1⟩, e2⟩ := h3 t ht
  exact ⟨⟨k, w, u, lo, sc, (f _ (by omega)).trans e1⟩, tmd_far e2 (by omega) (fun z hz => ⟨f _ (by omega), rfl⟩)⟩
/-- a tree's cell alone -/
theorem fst_tc {fm T : Nat} {mk : Nat → Nat} {k w u lo : Int32} {sc : Int64} (h : FST cT ad g tE fm mk) (hT : T < fm) (f : ∀ z8, z8 ≠ 1000 + T → g2 z8 = g z8) (c0 : g2 (1000 + T) = some (eTR (ad (1020 + T)) k w u lo sc)) : FST cT ad g2 tE fm mk := by
  obtain ⟨h1, h2, h3, h4⟩ := h
  refine ⟨h1.cg (f _ (by omega)) (f _ (by omega)) rfl (fun _ _ => rfl), h2, fun t ht => ?_, fun t t1 t2 => ⟨(h4 t t1 t2).1, (h4 t t1 t2).2.cg t2 (fun z _ _ hz => f z (by omega))⟩⟩
  obtain ⟨⟨k2, w2, u2, lo2, sc2, e1⟩, e2⟩ := h3 t ht
  by_cases q : t = T
  · rw [q]; rw [q] at e2; exact ⟨⟨k, w, u, lo, sc, c0⟩, e2.cg (f _ (by omega)) (f _ (by omega)) rfl (fun k hk => ⟨f _ (by omega), f _ (by omega), f _ (by omega), rfl, rfl, rfl⟩)⟩
  · exact ⟨⟨k2, w2, u2, lo2, sc2, (f _ (by omega)).trans e1⟩, e2.cg (f _ (by omega)) (f _ (by omega)) rfl (fun k hk => ⟨f _ (by omega), f _ (by omega), f _ (by omega), rfl, rfl, rfl⟩)⟩
/-- a tree that stands stays as it is, if its codes do -/
theorem TRp.far {F : TFR} {t : Nat} (h : TRp cT ad g F t) (ht : t < 16) (f : ∀ z8, (z8 = 1000 + t ∨ z8 = 1020 + t ∨ z8 = 1040 + t ∨ (2000 + 32 * t ≤ z8 ∧ z8 < 2032 + 32 * t) ∨ (3000 + 32 * t ≤ z8 ∧ z8 < 3032 + 32 * t) ∨ (4000 + 32 * t ≤ z8 ∧ z8 < 4032 + 32 * t)) → g2 z8 = g z8 ∧ ad2 z8 = ad z8) : TRp cT ad2 g2 F t := by
  obtain ⟨m, a1, ⟨cap, md, lf, b1, b2, b3, b4, b5⟩, a3, a4, a5⟩ := h
  refine ⟨m, by rw [(f _ (by omega)).2]; exact (f _ (by omega)).1.trans a1, ⟨cap, md, lf, by rw [(f _ (by omega)).2]; exact (f _ (by omega)).1.trans b1, (f _ (by omega)).1.trans b2, b3, b4, fun k hk => by rw [(f _ (by omega)).2]; exact b5 k hk⟩, a3, a4, fun k hk => ?_⟩
  obtain ⟨c1, c2⟩ := a5 k hk
  exact ⟨c1.cg (f _ (by omega)).1 (f _ (by omega)).2 (fun _ _ => rfl), (c2.cg (f _ (by omega)).1 (f _ (by omega)).1).ca (f _ (by omega)).2⟩
end FSs
set_option maxHeartbeats 4000000 in
set_option maxRecDepth 100000 in
theorem k_acI (l : Launch) (D : va_G) (cT : Nat → ClassId) (h : Nat) (sz : Nat) : Met l yAC_init WAC_init ({ frames := 1, cells := 0, slots := 0, locals := 12 } : Room) (RW D vwCl [.ref h] [(h, .inr (12, [.null, .int 0, .int 0]))] (TY cT) sz) (va_Qv (fun u9 : Unit => True) (BW D vwCl (va_A [(h, .inr (12, [.null, .int 0, .int 0]))] sz) (fun u9 : Unit => [(h, .inr (12, [.null, .int 0, .int 0]))])) (va_A [(h, .inr (12, [.null, .int 0, .int 0]))] sz)) 0 0 (va_A [(h, .inr (12, [.null, .int 0, .int 0]))] sz) := by
  refine Met.ofW (cc := cAC_init) (maxL := 1) (ret := none) (by decide) rfl ?_
  intro p e s m args below meth c s₁ B hml hv
  obtain ⟨rfl, hsz, hZ, hP, hK, hD0⟩ := hv
  have hx := B.exec
  have hb := B.bytes
  have hr := B.returns
  have hts := atoms_spec (ws := WAC_init) B.pre
  have hT : ∀ w ∈ TB, w.before _ s = true := fun w h => hts w (List.mem_cons_of_mem _ h)
  have hown : s.vm.findClass R_AC = some m.cls := findClass_of_methodNamed B.named
  have hlocks := B.notSynchronized
  have hin : meth.name = "<init>" := (name_of_methodNamed B.named B.method).1
  subst hsz
  have hD := hD0.self (sz := s.heap.size)
  generalize hAe : va_A [(h, .inr (12, [.null, .int 0, .int 0]))] s.heap.size = A at hD hZ ⊢
  have hA : ∀ q : Nat, s.heap.size ≤ q → A q := fun q h => by rw [← hAe]; exact Or.inr h
  have hS : va_S A s.heap s.heap [] := va_S.rf
  have hl := lv_entry ([.ref h]) (n := 1) (Nat.le_of_ble_eq_true rfl)
  rw [lg_entry_eq]
  generalize (lg_sl ([.ref h]) ++ List.replicate (1 - (lg_sl ([.ref h])).length) Slot.unset).toArray = ls at hl ⊢
  have hl : lv_has ls 1 [(0, .ref h)] := hl
  refine lv_aload_n hx hb dAC_init_0 rfl (lv_at hl 0 rfl) ?_
  refine W.objInit hx hb hown (hT _ w265) (hT _ w35) (hT _ w36) rfl (by rw [hml]; exact hl.1) rfl dAC_init_1 (Nat.le_of_ble_eq_true rfl) (Nat.le_of_ble_eq_true rfl) ?_
  refine W.eq (g2 := F0 m 4 ls []) rfl ?_
  have hP9 := hP.sub (ws' := [(h, .inr (12, [.null, .int 0, .int 0]))]) [0] rfl
  have hD9 := hD.sub (ws' := [(h, .inr (12, [.null, .int 0, .int 0]))]) [0] (by decide) rfl
  refine W.widen (k := 0) (n := 0) (Nat.le_of_ble_eq_true rfl) (Nat.le_of_ble_eq_true rfl) ?_
  exact W.vret hx hb hr (fun t9 ht9 hW9 => ⟨⟨(), rfl, (show True from trivial), by rw [ht9]; exact hP9, hD9⟩, hS.F ht9⟩) hS.2.2 dAC_init_4
set_option maxHeartbeats 4000000 in
set_option maxRecDepth 100000 in
theorem k_aaI (l : Launch) (D : va_G) (cT : Nat → ClassId) (h : Nat) (sz : Nat) : Met l yAA_init WAA_init ({ frames := 2, cells := 0, slots := 0, locals := 32 } : Room) (RW D vwCl [.ref h] [(h, .inr (12, [.null, .int 0, .int 0]))] (TY cT) sz) (va_Qv (fun u9 : Unit => True) (BW D vwCl (va_A [(h, .inr (12, [.null, .int 0, .int 0]))] sz) (fun u9 : Unit => [(h, .inr (12, [.null, .int 0, .int 0]))])) (va_A [(h, .inr (12, [.null, .int 0, .int 0]))] sz)) 0 0 (va_A [(h, .inr (12, [.null, .int 0, .int 0]))] sz) := by
  refine Met.ofW (cc := cAA_init) (maxL := 1) (ret := none) (by decide) rfl ?_
  intro p e s m args below meth c s₁ B hml hv
  obtain ⟨rfl, hsz, hZ, hP, hK, hD0⟩ := hv
  have hx := B.exec
  have hb := B.bytes
  have hr := B.returns
  have hts := atoms_spec (ws := WAA_init) B.pre
  have hT : ∀ w ∈ TB, w.before _ s = true := fun w h => hts w (List.mem_cons_of_mem _ h)
  have hown : s.vm.findClass R_AA = some m.cls := findClass_of_methodNamed B.named
  have hlocks := B.notSynchronized
  have hin : meth.name = "<init>" := (name_of_methodNamed B.named B.method).1
  subst hsz
  have hD := hD0.self (sz := s.heap.size)
  generalize hAe : va_A [(h, .inr (12, [.null, .int 0, .int 0]))] s.heap.size = A at hD hZ ⊢
  have hA : ∀ q : Nat, s.heap.size ≤ q → A q := fun q h => by rw [← hAe]; exact Or.inr h
  have hS : va_S A s.heap s.heap [] := va_S.rf
  have hl := lv_entry ([.ref h]) (n := 1) (Nat.le_of_ble_eq_true rfl)
  rw [lg_entry_eq]
  generalize (lg_sl ([.ref h]) ++ List.replicate (1 - (lg_sl ([.ref h])).length) Slot.unset).toArray = ls at hl ⊢
  have hl : lv_has ls 1 [(0, .ref h)] := hl
  refine lv_aload_n hx hb dAA_init_0 rfl (lv_at hl 0 rfl) ?_
  refine rw_v (wc := [(h, .inr (12, [.null, .int 0, .int 0]))]) (wr := []) hP hD hS hA [0] [] rfl rfl (by decide) (by decide) (va_runI (As := []) (rest := []) ⟨hx, hb, hml, hown, hT⟩ (k_acI l D cT h _) ⟨callB_of 0 hT (tb_gd w264) rfl rfl rfl (hT _ w9) (hT _ w262) hAC_init ⟨Nat.le_of_ble_eq_true rfl, Nat.le_of_ble_eq_true rfl⟩, rfl, (hT _ w263)⟩ (RW.preS hZ hS (va_free (wc := [(h, .inr (12, [.null, .int 0, .int 0]))]) hD hS hA [0] rfl) (hP.sub (ws' := [(h, .inr (12, [.null, .int 0, .int 0]))]) [0] rfl) hK (hD.sub (ws' := [(h, .inr (12, [.null, .int 0, .int 0]))]) [0] (by decide) rfl)) rfl rfl hl.1 rfl (lv_room (Nat.le_of_ble_eq_true rfl)) dAA_init_1 ⟨Nat.le_of_ble_eq_true rfl, Nat.le_of_ble_eq_true rfl⟩) (fun u9 H locs hpu1 hP hD hS => ?_)
  have hpu1 : True := hpu1
  have hP : va_P D vwCl [(h, .inr (12, [.null, .int 0, .int 0]))] _ := hP
  have hD : va_D A [(h, .inr (12, [.null, .int 0, .int 0]))] := hD
  refine lv_aload_n hx hb dAA_init_4 rfl (lv_at hl 0 rfl) ?_
  refine lv_iconst (v := 0) hx hb dAA_init_5 (by decide) ?_
  refine va_put (D := D) (ci := 12) (v := .int 0) (ty := .int) (C := R_AL) (T := T_AL) (N := 3) hx hb hT in_AL ty_AL ty_AL_ok m_AL hown hK hP hD hS 0 rfl rfl 2 (by decide) (hT _ w270) (fun _ h9 => h9) rfl (by decide +kernel) rfl rfl (Nat.le_of_ble_eq_true rfl) dAA_init_6 (fun H locs hP hD hS => ?_)
  have hP : va_P D vwCl [(h, .inr (12, [.null, .int 0, .int 0]))] _ := hP
  have hD : va_D A [(h, .inr (12, [.null, .int 0, .int 0]))] := hD
  have hP9 := hP.sub (ws' := [(h, .inr (12, [.null, .int 0, .int 0]))]) [0] rfl
  have hD9 := hD.sub (ws' := [(h, .inr (12, [.null, .int 0, .int 0]))]) [0] (by decide) rfl
  refine W.widen (k := 0) (n := 0) (Nat.le_of_ble_eq_true rfl) (Nat.le_of_ble_eq_true rfl) ?_
  exact W.vret hx hb hr (fun t9 ht9 hW9 => ⟨⟨(), rfl, (show True from trivial), by rw [ht9]; exact hP9, hD9⟩, hS.F ht9⟩) hS.2.2 dAA_init_9
set_option maxHeartbeats 4000000 in
set_option maxRecDepth 100000 in
theorem k_alI (l : Launch) (D : va_G) (cT : Nat → ClassId) (tE : Nat) (mE : Nat) (h : Nat) (sz : Nat) : Met l yAL_init WAL_init ({ frames := 3, cells := 0, slots := 0, locals := 52 } : Room) (RWE tE mE D vwCl [.ref h] [(h, .inr (12, [.null, .int 0, .int 0]))] (TY cT) sz) (va_Qv (fun u9 : Unit => True) (BW D vwCl (va_A [(h, .inr (12, [.null, .int 0, .int 0]))] sz) (fun u9 : Unit => [(h, .inr (12, [.ref tE, .int 0, .int 0]))])) (va_A [(h, .inr (12, [.null, .int 0, .int 0]))] sz)) 0 0 (va_A [(h, .inr (12, [.null, .int 0, .int 0]))] sz) := by
  refine Met.ofW (cc := cAL_init) (maxL := 1) (ret := none) (by decide) rfl ?_
  intro p e s m args below meth c s₁ B hml hv
  obtain ⟨rfl, ⟨hsz, hZ, hP, hK, hD0⟩, hE0⟩ := hv
  have hx := B.exec
  have hb := B.bytes
  have hr := B.returns
  have hts := atoms_spec (ws := WAL_init) B.pre
  have hT : ∀ w ∈ TB, w.before _ s = true := fun w h => hts w (List.mem_cons_of_mem _ h)
  have hown : s.vm.findClass R_AL = some m.cls := findClass_of_methodNamed B.named
  have hlocks := B.notSynchronized
  have hin : meth.name = "<init>" := (name_of_methodNamed B.named B.method).1
  subst hsz
  have hD := hD0.self (sz := s.heap.size)
  generalize hAe : va_A [(h, .inr (12, [.null, .int 0, .int 0]))] s.heap.size = A at hD hZ hE0 ⊢
  have hA : ∀ q : Nat, s.heap.size ≤ q → A q := fun q h => by rw [← hAe]; exact Or.inr h
  have hS : va_S A s.heap s.heap [] := va_S.rf
  have hl := lv_entry ([.ref h]) (n := 1) (Nat.le_of_ble_eq_true rfl)
  rw [lg_entry_eq]
  generalize (lg_sl ([.ref h]) ++ List.replicate (1 - (lg_sl ([.ref h])).length) Slot.unset).toArray = ls at hl ⊢
  have hl : lv_has ls 1 [(0, .ref h)] := hl
  refine lv_aload_n hx hb dAL_init_0 rfl (lv_at hl 0 rfl) ?_
  refine rw_v (wc := [(h, .inr (12, [.null, .int 0, .int 0]))]) (wr := []) hP hD hS hA [0] [] rfl rfl (by decide) (by decide) (va_runI (As := []) (rest := []) ⟨hx, hb, hml, hown, hT⟩ (k_aaI l D cT h _) ⟨callB_of 0 hT (tb_gd w261) rfl rfl rfl (hT _ w10) (hT _ w259) hAA_init ⟨Nat.le_of_ble_eq_true rfl, Nat.le_of_ble_eq_true rfl⟩, rfl, (hT _ w260)⟩ (RW.preS hZ hS (va_free (wc := [(h, .inr (12, [.null, .int 0, .int 0]))]) hD hS hA [0] rfl) (hP.sub (ws' := [(h, .inr (12, [.null, .int 0, .int 0]))]) [0] rfl) hK (hD.sub (ws' := [(h, .inr (12, [.null, .int 0, .int 0]))]) [0] (by decide) rfl)) rfl rfl hl.1 rfl (lv_room (Nat.le_of_ble_eq_true rfl)) dAL_init_1 ⟨Nat.le_of_ble_eq_true rfl, Nat.le_of_ble_eq_true rfl⟩) (fun u9 H locs hpu1 hP hD hS => ?_)
  have hpu1 : True := hpu1
  have hP : va_P D vwCl [(h, .inr (12, [.null, .int 0, .int 0]))] _ := hP
  have hD : va_D A [(h, .inr (12, [.null, .int 0, .int 0]))] := hD
  refine lv_aload_n hx hb dAL_init_4 rfl (lv_at hl 0 rfl) ?_
  refine va_gets hx hb hE0.1 hS hown (hT _ w266) (fun _ h => h) dAL_init_5 ?_
  refine va_put (D := D) (ci := 12) (v := .ref tE) (ty := .array (.object "java/lang/Object")) (C := R_AL) (T := T_AL) (N := 3) hx hb hT in_AL ty_AL ty_AL_ok m_AL hown hK hP hD hS 0 rfl rfl 0 (by decide) (hT _ w268) (fun _ h9 => h9) rfl (by decide +kernel) rfl rfl (Nat.le_of_ble_eq_true rfl) dAL_init_8 (fun H locs hP hD hS => ?_)
  have hP : va_P D vwCl [(h, .inr (12, [.ref tE, .int 0, .int 0]))] _ := hP
  have hD : va_D A [(h, .inr (12, [.ref tE, .int 0, .int 0]))] := hD
  have hP9 := hP.sub (ws' := [(h, .inr (12, [.ref tE, .int 0, .int 0]))]) [0] rfl
  have hD9 := hD.sub (ws' := [(h, .inr (12, [.ref tE, .int 0, .int 0]))]) [0] (by decide) rfl
  refine W.widen (k := 0) (n := 0) (Nat.le_of_ble_eq_true rfl) (Nat.le_of_ble_eq_true rfl) ?_
  exact W.vret hx hb hr (fun t9 ht9 hW9 => ⟨⟨(), rfl, (show True from trivial), by rw [ht9]; exact hP9, hD9⟩, hS.F ht9⟩) hS.2.2 dAL_init_11
set_option maxHeartbeats 4000000 in
set_option maxRecDepth 100000 in
theorem k_trI (l : Launch) (D : va_G) (cT : Nat → ClassId) (tE : Nat) (mE : Nat) (h : Nat) (sz : Nat) : Met l yTr_init WTr_init ({ frames := 4, cells := 1, slots := 3, locals := 72 } : Room) (RWE tE mE D vwCl [.ref h] [(h, .inr (9, [.null, .int 0, .int 0, .int 0, .int 0, .long 0]))] (TY cT) sz) (va_Qv (fun u9 : Nat => True) (BW D vwCl (va_A [(h, .inr (9, [.null, .int 0, .int 0, .int 0, .int 0, .long 0]))] sz) (fun u9 : Nat => [(h, .inr (9, [.ref u9, .int 0, .int 0, .int 0, .int 0, .long 0])), (u9, .inr (12, [.ref tE, .int 0, .int 0]))])) (va_A [(h, .inr (9, [.null, .int 0, .int 0, .int 0, .int 0, .long 0]))] sz)) 1 3 (va_A [(h, .inr (9, [.null, .int 0, .int 0, .int 0, .int 0, .long 0]))] sz) := by
  refine Met.ofW (cc := cTr_init) (maxL := 1) (ret := none) (by decide) rfl ?_
  intro p e s m args below meth c s₁ B hml hv
  obtain ⟨rfl, ⟨hsz, hZ, hP, hK, hD0⟩, hE0⟩ := hv
  have hx := B.exec
  have hb := B.bytes
  have hr := B.returns
  have hts := atoms_spec (ws := WTr_init) B.pre
  have hT : ∀ w ∈ TB, w.before _ s = true := fun w h => hts w (List.mem_cons_of_mem _ h)
  have hown : s.vm.findClass R_Tr = some m.cls := findClass_of_methodNamed B.named
  have hlocks := B.notSynchronized
  have hin : meth.name = "<init>" := (name_of_methodNamed B.named B.method).1
  subst hsz
  have hD := hD0.self (sz := s.heap.size)
  generalize hAe : va_A [(h, .inr (9, [.null, .int 0, .int 0, .int 0, .int 0, .long 0]))] s.heap.size = A at hD hZ hE0 ⊢
  have hA : ∀ q : Nat, s.heap.size ≤ q → A q := fun q h => by rw [← hAe]; exact Or.inr h
  have hS : va_S A s.heap s.heap [] := va_S.rf
  have hl := lv_entry ([.ref h]) (n := 1) (Nat.le_of_ble_eq_true rfl)
  rw [lg_entry_eq]
  generalize (lg_sl ([.ref h]) ++ List.replicate (1 - (lg_sl ([.ref h])).length) Slot.unset).toArray = ls at hl ⊢
  have hl : lv_has ls 1 [(0, .ref h)] := hl
  refine lv_aload_n hx hb dTr_init_0 rfl (lv_at hl 0 rfl) ?_
  refine W.objInit hx hb hown (hT _ w727) (hT _ w35) (hT _ w36) rfl (by rw [hml]; exact hl.1) rfl dTr_init_1 (Nat.le_of_ble_eq_true rfl) (Nat.le_of_ble_eq_true rfl) ?_
  refine W.eq (g2 := F0 m 4 ls []) rfl ?_
  refine lv_aload_n hx hb dTr_init_4 rfl (lv_at hl 0 rfl) ?_
  refine va_new (ci := 12) (fs := [.null, .int 0, .int 0]) (C := R_AL) (T := T_AL) (N := 3) hx hb hT in_AL ty_AL ty_AL_ok hown (hT _ w728) (hT _ w255) (hT _ w11) hK hP hD hS hA rfl (fun j hj => match j, hj with | 0, _ => rfl | 1, _ => rfl | 2, _ => rfl | _ + 3, hj => absurd hj (by omega)) (Nat.le_of_ble_eq_true rfl) (Nat.le_of_ble_eq_true rfl) dTr_init_5 (fun q5 H hP hD hS => ?_)
  have hP : va_P D vwCl [(h, .inr (9, [.null, .int 0, .int 0, .int 0, .int 0, .long 0])), (q5, .inr (12, [.null, .int 0, .int 0]))] _ := hP
  have hD : va_D A [(h, .inr (9, [.null, .int 0, .int 0, .int 0, .int 0, .long 0])), (q5, .inr (12, [.null, .int 0, .int 0]))] := hD
  refine lv_dup hx hb dTr_init_8 rfl ?_
  refine rw_v (wc := [(q5, .inr (12, [.null, .int 0, .int 0]))]) (wr := [(h, .inr (9, [.null, .int 0, .int 0, .int 0, .int 0, .long 0]))]) hP hD hS hA [1] [0] rfl rfl (by decide) (by decide) (va_runI (As := []) (rest := [.ref q5, .ref h]) ⟨hx, hb, hml, hown, hT⟩ (k_alI l D cT tE mE q5 _) ⟨callB_of 0 hT (tb_gd w258) rfl rfl rfl (hT _ w11) (hT _ w729) hAL_init ⟨Nat.le_of_ble_eq_true rfl, Nat.le_of_ble_eq_true rfl⟩, rfl, (hT _ w257)⟩ (RWE.preS hE0 hZ hS (va_free (wc := [(q5, .inr (12, [.null, .int 0, .int 0]))]) hD hS hA [1] rfl) (hP.sub (ws' := [(q5, .inr (12, [.null, .int 0, .int 0]))]) [1] rfl) hK (hD.sub (ws' := [(q5, .inr (12, [.null, .int 0, .int 0]))]) [1] (by decide) rfl)) rfl rfl hl.1 rfl (lv_room (Nat.le_of_ble_eq_true rfl)) dTr_init_9 ⟨Nat.le_of_ble_eq_true rfl, Nat.le_of_ble_eq_true rfl⟩) (fun u9 H locs hpu1 hP hD hS => ?_)
  have hpu1 : True := hpu1
  have hP : va_P D vwCl [(h, .inr (9, [.null, .int 0, .int 0, .int 0, .int 0, .long 0])), (q5, .inr (12, [.ref tE, .int 0, .int 0]))] _ := hP
  have hD : va_D A [(h, .inr (9, [.null, .int 0, .int 0, .int 0, .int 0, .long 0])), (q5, .inr (12, [.ref tE, .int 0, .int 0]))] := hD
  refine va_putF (D := D) (ci := 9) (v := .ref q5) (ty := .object "java/util/ArrayList") (C := R_Tr) (T := T_Tr) (N := 6) hx hb hT in_Tr ty_Tr ty_Tr_ok m_Tr hown hK hP hD hS 0 rfl rfl 0 (by decide) (hT _ w730) (fun _ h9 => h9) rfl hin rfl (by decide +kernel) rfl rfl (Nat.le_of_ble_eq_true rfl) dTr_init_12 (fun H locs hP hD hS => ?_)
  have hP : va_P D vwCl [(h, .inr (9, [.ref q5, .int 0, .int 0, .int 0, .int 0, .long 0])), (q5, .inr (12, [.ref tE, .int 0, .int 0]))] _ := hP
  have hD : va_D A [(h, .inr (9, [.ref q5, .int 0, .int 0, .int 0, .int 0, .long 0])), (q5, .inr (12, [.ref tE, .int 0, .int 0]))] := hD
  have hP9 := hP.sub (ws' := [(h, .inr (9, [.ref q5, .int 0, .int 0, .int 0, .int 0, .long 0])), (q5, .inr (12, [.ref tE, .int 0, .int 0]))]) [0, 1] rfl
  have hD9 := hD.sub (ws' := [(h, .inr (9, [.ref q5, .int 0, .int 0, .int 0, .int 0, .long 0])), (q5, .inr (12, [.ref tE, .int 0, .int 0]))]) [0, 1] (by decide) rfl
  refine W.widen (k := 1) (n := 3) (Nat.le_of_ble_eq_true rfl) (Nat.le_of_ble_eq_true rfl) ?_
  exact W.vret hx hb hr (fun t9 ht9 hW9 => ⟨⟨q5, rfl, (show True from trivial), by rw [ht9]; exact hP9, hD9⟩, hS.F ht9⟩) hS.2.2 dTr_init_15
set_option maxHeartbeats 4000000 in
set_option maxRecDepth 100000 in
theorem k_freshTree (l : Launch) (D : va_G) (cT : Nat → ClassId) (cds : List Nat) (ad : Nat → Nat) (gg : Nat → Option va_E) (tE : Nat) (mE : Nat) (T : Nat) (fm : Nat) (mk : Nat → Nat) (hcd : CD cds) (hob : gg 0 = some (eOB ad (nI T))) (hFT : FST cT ad gg tE fm mk) (hTf : T ≤ fm) (hT16 : T < 16) (sz : Nat) : Met l yR_freshTree WR_freshTree ({ frames := 7, cells := 3 * (max fm (T + 1) - fm), slots := 42 * (max fm (T + 1) - fm), locals := 171 } : Room) (RWE tE mE D vwCl [.ref (ad 0)] ([] ++ pg cds ad gg) (TY cT) sz) (va_Qr (fun u9 : (Nat → Nat) × (Nat → Option va_E) => (∀ z8, z8 ≠ 9 → z8 ≠ 40 → z8 ≠ 1000 + T → z8 ≠ 1020 + T → u9.2 z8 = gg z8) ∧ (∀ z8, z8 ≠ 40 → z8 ≠ 1000 + T → z8 ≠ 1020 + T → u9.1 z8 = ad z8) ∧ (T < fm → (∀ z8, u9.1 z8 = ad z8) ∧ u9.2 9 = gg 9 ∧ u9.2 40 = gg 40 ∧ u9.2 (1020 + T) = gg (1020 + T)) ∧ FST cT u9.1 u9.2 tE (max fm (T + 1)) mk ∧ ∃ (w8 u8 l8 : Int32) (s8 : Int64), u9.2 (1000 + T) = some (eTR (u9.1 (1020 + T)) (nI 0) w8 u8 l8 s8)) (fun u9 q9 t9 => q9 = u9.1 (1000 + T) ∧ BW D vwCl (va_A ([] ++ pg cds ad gg) sz) (fun u9 : (Nat → Nat) × (Nat → Option va_E) => ([] ++ pg cds u9.1 u9.2)) u9 t9) (va_A ([] ++ pg cds ad gg) sz)) (3 * (max fm (T + 1) - fm)) (42 * (max fm (T + 1) - fm)) (va_A ([] ++ pg cds ad gg) sz) := by
  refine Met.ofW (cc := cR_freshTree) (maxL := 2) (ret := (some (.object "ResidualTrees$Tree"))) (by decide) rfl ?_
  intro p e s m args below meth c s₁ B hml hv
  obtain ⟨rfl, ⟨hsz, hZ, hP, hK, hD0⟩, hE0⟩ := hv
  have hx := B.exec
  have hb := B.bytes
  have hr := B.returns
  have hts := atoms_spec (ws := WR_freshTree) B.pre
  have hT : ∀ w ∈ TB, w.before _ s = true := fun w h => hts w (List.mem_cons_of_mem _ h)
  have hown : s.vm.findClass R_R = some m.cls := findClass_of_methodNamed B.named
  have hlocks := B.notSynchronized
  subst hsz
  have hD := hD0.self (sz := s.heap.size)
  generalize hAe : va_A ([] ++ pg cds ad gg) s.heap.size = A at hD hZ hE0 ⊢
  have hA : ∀ q : Nat, s.heap.size ≤ q → A q := fun q h => by rw [← hAe]; exact Or.inr h
  have hS : va_S A s.heap s.heap [] := va_S.rf
  have hl := lv_entry ([.ref (ad 0)]) (n := 2) (Nat.le_of_ble_eq_true rfl)
  rw [lg_entry_eq]
  generalize (lg_sl ([.ref (ad 0)]) ++ List.replicate (2 - (lg_sl ([.ref (ad 0)])).length) Slot.unset).toArray = ls at hl ⊢
  have hl : lv_has ls 2 [(0, .ref (ad 0))] := hl
  obtain ⟨hLQ0, hf16, hTs0, hTn0⟩ := id hFT
  obtain ⟨la0, md0, hli⟩ := hLQ0.li
  refine lv_aload_n hx hb dR_freshTree_0 rfl (lv_at hl 0 rfl) ?_
  refine va_get (D := D) (ci := 0) (v := .int (nI T)) (C := R_R) (T := T_R) (N := 13) hx hb hT in_R hown hK (pg_1 (x := 0) hcd hP (by decide) hob) 0 rfl rfl 5 (by decide) (hT _ w329) (fun _ h9 => h9) rfl dR_freshTree_1 ?_
  refine lv_aload_n hx hb dR_freshTree_4 rfl (lv_at hl 0 rfl) ?_
  refine va_get (D := D) (ci := 0) (v := .ref (ad 9)) (C := R_R) (T := T_R) (N := 13) hx hb hT in_R hown hK (pg_1 (x := 0) hcd hP (by decide) hob) 0 rfl rfl 4 (by decide) (hT _ w328) (fun _ h9 => h9) rfl dR_freshTree_5 ?_
  refine ro_i (va_Run.run (va_runV (As := []) (rest := [.int (nI T)]) ⟨hx, hb, hml, hown, hT⟩ (k_alSize l D cT (ad 9) la0 fm md0) ⟨callB_of 0 hT (tb_gd w722) rfl rfl rfl (hT _ w11) (hT _ w719) hAL_size ⟨Nat.le_of_ble_eq_true rfl, Nat.le_of_ble_eq_true rfl⟩, (hT _ w720), (hT _ w721)⟩ (RO.preV (ci := 12) (q0 := 0) hZ hS ((show va_P D vwCl [(ad 9, .inr (12, [.ref la0, .int (nI fm), .int md0]))] _ from (pv_c (pg_1 (x := 9) hcd hP (by decide) hli) pv_0))) hK rfl rfl) rfl rfl hl.1 rfl (lv_room (Nat.le_of_ble_eq_true rfl)) dR_freshTree_8 ⟨(by show 0 + 0 ≤ (3 * (max fm (T + 1) - fm)); omega), (by show 0 + 0 ≤ (42 * (max fm (T + 1) - fm)); omega)⟩)) ?_
  refine lv_icmp_ne (tgt := 29) hx hb dR_freshTree_11 rfl (fun h1 => ?_) (fun h1 => ?_)
  · have gh1 : ¬ (T = fm) := fun q => h1 (congrArg nI q)
    have hFT2 := hFT
    have hob2 := hob
    obtain ⟨hLQ9, hm9, hTs9, hTn9⟩ := id hFT2
    obtain ⟨cap9, md9, lf9, l1, l2, l3, l4, l5⟩ := hLQ9.full (by omega)
    obtain ⟨⟨k9, w9, u9, lo9, s9, htr9⟩, hTM9⟩ := hTs9 T (by omega)
    refine lv_aload_n hx hb dR_freshTree_29 rfl (lv_at hl 0 rfl) ?_
    refine va_get (D := D) (ci := 0) (v := .ref (ad 9)) (C := R_R) (T := T_R) (N := 13) hx hb hT in_R hown hK (pg_1 (x := 0) hcd hP (by decide) hob2) 0 rfl rfl 4 (by decide) (hT _ w328) (fun _ h9 => h9) rfl dR_freshTree_30 ?_
    refine lv_aload_n hx hb dR_freshTree_33 rfl (lv_at hl 0 rfl) ?_
    refine va_get (D := D) (ci := 0) (v := .int (nI T)) (C := R_R) (T := T_R) (N := 13) hx hb hT in_R hown hK (pg_1 (x := 0) hcd hP (by decide) hob2) 0 rfl rfl 5 (by decide) (hT _ w329) (fun _ h9 => h9) rfl dR_freshTree_34 ?_
    refine ro_r (va_Run.run (va_runV (As := [.int (nI T)]) (rest := []) ⟨hx, hb, hml, hown, hT⟩ (k_alGet l D cT (ad 9) (ad 40) fm md9 cap9 lf9 T (ad (1000 + T)) (by omega) l3 (by omega) (l5 _ (by omega))) ⟨callB_of 1 hT (tb_gd w401) rfl rfl rfl (hT _ w11) (hT _ w398) hAL_get ⟨Nat.le_of_ble_eq_true rfl, Nat.le_of_ble_eq_true rfl⟩, (hT _ w399), (hT _ w400)⟩ (RO.preV (ci := 12) (q0 := 0) hZ hS ((show va_P D vwCl [(ad 9, .inr (12, [.ref (ad 40), .int (nI fm), .int md9])), (ad 40, .inl (cT 7, cap9, .inr (.inr (.inr (.inr lf9)))))] _ from (pv_c (pg_1 (x := 9) hcd hP (by decide) l1) (pv_c (pg_1 (x := 40) hcd hP (by decide) l2) pv_0)))) hK rfl rfl) rfl rfl hl.1 rfl (lv_room (Nat.le_of_ble_eq_true rfl)) dR_freshTree_37 ⟨(by show 0 + 0 ≤ (3 * (max fm (T + 1) - fm)); omega), (by show 0 + 0 ≤ (42 * (max fm (T + 1) - fm)); omega)⟩)) ?_
    refine va_castY (C := "ResidualTrees$Tree") hx hb hown (hT _ w412) (hZ.1.1 ("ResidualTrees$Tree", "ResidualTrees$Tree") (List.mem_of_getElem? (i := 2) rfl)) (va_recv (ci := 9) (q0 := 0) hK (pg_1 (x := 1000 + T) hcd hP (by omega) htr9) rfl rfl) dR_freshTree_40 ?_
    refine lv_astore_n hx hb dR_freshTree_43 rfl hl (by decide) rfl (fun ls hl => ?_)
    have hl : lv_has ls 2 [(1, .ref (ad (1000 + T))), (0, .ref (ad 0))] := hl
    refine lv_aload_n hx hb dR_freshTree_44 rfl (lv_at hl 0 rfl) ?_
    refine lv_iconst (v := 0) hx hb dR_freshTree_45 (by decide) ?_
    have hB9 : QI gg [(1000 + T, .inr (9, [.ref (ad (1020 + T)), .int k9, .int w9, .int u9, .int lo9, .long s9]))] := (qi_c (by omega) htr9 qi_0)
    have hN9 := (show NDc [1000 + T] from (nd_c na_0 nd_0))
    have hP := bo_P (wc := [(1000 + T, .inr (9, [.ref (ad (1020 + T)), .int k9, .int w9, .int u9, .int lo9, .long s9]))]) (X := []) hcd hN9 hB9 hP
    have hD := bo_D (wc := [(1000 + T, .inr (9, [.ref (ad (1020 + T)), .int k9, .int w9, .int u9, .int lo9, .long s9]))]) (X := []) hcd hN9 hB9 hD
    have hP : va_P D vwCl ([(ad (1000 + T), .inr (9, [.ref (ad (1020 + T)), .int k9, .int w9, .int u9, .int lo9, .long s9]))] ++ pg cds ad (upo gg [1000 + T])) _ := hP
    have hD : va_D A ([(ad (1000 + T), .inr (9, [.ref (ad (1020 + T)), .int k9, .int w9, .int u9, .int lo9, .long s9]))] ++ pg cds ad (upo gg [1000 + T])) := hD
    refine va_put (D := D) (ci := 9) (v := .int 0) (ty := .int) (C := R_Tr) (T := T_Tr) (N := 6) hx hb hT in_Tr ty_Tr ty_Tr_ok m_Tr hown hK hP hD hS 0 rfl rfl 1 (by decide) (hT _ w732) (fun _ h9 => h9) rfl (by decide +kernel) rfl rfl (Nat.le_of_ble_eq_true rfl) dR_freshTree_46 (fun H locs hP hD hS => ?_)
    have hP : va_P D vwCl ([(ad (1000 + T), .inr (9, [.ref (ad (1020 + T)), .int 0, .int w9, .int u9, .int lo9, .long s9]))] ++ pg cds ad (upo gg [1000 + T])) _ := hP
    have hD : va_D A ([(ad (1000 + T), .inr (9, [.ref (ad (1020 + T)), .int 0, .int w9, .int u9, .int lo9, .long s9]))] ++ pg cds ad (upo gg [1000 + T])) := hD
    have hN9 := (show NDc [1000 + T] from (nd_c na_0 nd_0))
    have hP := gb_P (w9 := [(1000 + T, .inr (9, [.ref (ad (1020 + T)), .int 0, .int w9, .int u9, .int lo9, .long s9]))]) (X := []) (g := gg) hcd hN9 (show QB [(1000 + T, .inr (9, [.ref (ad (1020 + T)), .int 0, .int w9, .int u9, .int lo9, .long s9]))] from (qb_c (by omega) qb_0)) (hP.part (cx := [(ad (1000 + T), .inr (9, [.ref (ad (1020 + T)), .int 0, .int w9, .int u9, .int lo9, .long s9]))]) [0] rfl)
    have hD := gb_D (w9 := [(1000 + T, .inr (9, [.ref (ad (1020 + T)), .int 0, .int w9, .int u9, .int lo9, .long s9]))]) (X := []) (g := gg) hcd hN9 (show QB [(1000 + T, .inr (9, [.ref (ad (1020 + T)), .int 0, .int w9, .int u9, .int lo9, .long s9]))] from (qb_c (by omega) qb_0)) (hD.part (cx := [(ad (1000 + T), .inr (9, [.ref (ad (1020 + T)), .int 0, .int w9, .int u9, .int lo9, .long s9]))]) [0] (by decide) rfl)
    obtain ⟨g3, hg3⟩ : ∃ q9, q9 = ups gg [(1000 + T, .inr (9, [.ref (ad (1020 + T)), .int 0, .int w9, .int u9, .int lo9, .long s9]))] := ⟨_, rfl⟩
    rw [← hg3] at hP hD
    have hP : va_P D vwCl ([] ++ pg cds ad g3) _ := hP
    have hD : va_D A ([] ++ pg cds ad g3) := hD
    have fg3 : ∀ z8, z8 ≠ 1000 + T → g3 z8 = gg z8 := fun z8 z1 => by rw [hg3]; exact ups_k (kp_n z1 kp_0)
    have g3_0 : g3 (1000 + T) = some (.inr (9, [.ref (ad (1020 + T)), .int 0, .int w9, .int u9, .int lo9, .long s9])) := by rw [hg3]; exact ups_1
    refine lv_aload_n hx hb dR_freshTree_49 rfl (lv_at hl 0 rfl) ?_
    have hP9 : va_P D vwCl ([] ++ pg cds ad g3) _ := hP.part (cx := []) [] rfl
    have hD9 : va_D A ([] ++ pg cds ad g3) := hD.part (cx := []) [] (by decide) rfl
    refine W.widen (k := 3 * (max fm (T + 1) - fm)) (n := 42 * (max fm (T + 1) - fm)) ((by show 0 ≤ 3 * (max fm (T + 1) - fm); omega)) ((by show 0 ≤ 42 * (max fm (T + 1) - fm); omega)) ?_
    exact W.aret (v := .ref (ad (1000 + T))) hx hb hr (Or.inl ⟨_, rfl⟩) (Or.inr ⟨_, rfl⟩) (fun t9 ht9 hW9 => ⟨⟨(ad, g3), ad (1000 + T), rfl, (show (∀ z8, z8 ≠ 9 → z8 ≠ 40 → z8 ≠ 1000 + T → z8 ≠ 1020 + T → g3 z8 = gg z8) ∧ (∀ z8, z8 ≠ 40 → z8 ≠ 1000 + T → z8 ≠ 1020 + T → ad z8 = ad z8) ∧ (T < fm → (∀ z8, ad z8 = ad z8) ∧ g3 9 = gg 9 ∧ g3 40 = gg 40 ∧ g3 (1020 + T) = gg (1020 + T)) ∧ FST cT ad g3 tE (max fm (T + 1)) mk ∧ ∃ (w8 u8 l8 : Int32) (s8 : Int64), g3 (1000 + T) = some (eTR (ad (1020 + T)) (nI 0) w8 u8 l8 s8) from ⟨(fun z8 n1 n2 n3 n4 => (fg3 z8 n3).trans (rfl)), (fun _ _ _ _ => rfl), (fun _ => ⟨fun _ => rfl, fg3 _ (by omega), fg3 _ (by omega), fg3 _ (by omega)⟩), (by rw [show max fm (T + 1) = fm by omega]; exact fst_tc hFT2 (T := T) (by omega) (fun z8 n1 => fg3 z8 n1) g3_0), _, _, _, _, g3_0⟩), rfl, by rw [ht9]; exact hP9, hD9⟩, hS.F ht9⟩) hS.2.2 dR_freshTree_50
  · have gh1 : T = fm := (nI_eq (a := T) (b := fm) (by omega) (by omega)).mp h1
    refine lv_aload_n hx hb dR_freshTree_14 rfl (lv_at hl 0 rfl) ?_
    refine va_get (D := D) (ci := 0) (v := .ref (ad 9)) (C := R_R) (T := T_R) (N := 13) hx hb hT in_R hown hK (pg_1 (x := 0) hcd hP (by decide) hob) 0 rfl rfl 4 (by decide) (hT _ w328) (fun _ h9 => h9) rfl dR_freshTree_15 ?_
    refine va_new (ci := 9) (fs := [.null, .int 0, .int 0, .int 0, .int 0, .long 0]) (C := R_Tr) (T := T_Tr) (N := 6) hx hb hT in_Tr ty_Tr ty_Tr_ok hown (hT _ w412) (hT _ w723) (hT _ w24) hK hP hD hS hA rfl (fun j hj => match j, hj with | 0, _ => rfl | 1, _ => rfl | 2, _ => rfl | 3, _ => rfl | 4, _ => rfl | 5, _ => rfl | _ + 6, hj => absurd hj (by omega)) ((by show 0 + 1 ≤ (3 * (max fm (T + 1) - fm)); omega)) ((by show 0 + 6 ≤ (42 * (max fm (T + 1) - fm)); omega)) dR_freshTree_18 (fun q18 H hP hD hS => ?_)
    have hP := hy_push hP
    have hD := hy_pushD hD
    have hP : va_P D vwCl ([(q18, .inr (9, [.null, .int 0, .int 0, .int 0, .int 0, .long 0]))] ++ pg cds ad gg) _ := hP
    have hD : va_D A ([(q18, .inr (9, [.null, .int 0, .int 0, .int 0, .int 0, .long 0]))] ++ pg cds ad gg) := hD
    refine lv_dup hx hb dR_freshTree_21 rfl ?_
    refine hy_vQ (X := [(q18, .inr (9, [.null, .int 0, .int 0, .int 0, .int 0, .long 0]))]) (pl := pg cds ad gg) (cx := [(q18, .inr (9, [.null, .int 0, .int 0, .int 0, .int 0, .long 0]))]) (wr := []) hP hD hS hA [0] [] rfl rfl (by decide) (by decide) (va_runIN (As := []) (rest := [.ref q18, .ref (ad 9)]) ⟨hx, hb, hml, hown, hT⟩ (k_trI l D cT tE mE q18 _) ⟨va_cnB 0 hT (tb_gd w726) rfl rfl rfl (hZ.1.2.1 ("ResidualTrees", 338, ⟨"ResidualTrees$Tree", "<init>", "()V"⟩, "ResidualTrees") (List.mem_of_getElem? (i := 10) rfl)) (hT _ w24) hTr_init ⟨Nat.le_of_ble_eq_true rfl, Nat.le_of_ble_eq_true rfl⟩, rfl, (hT _ w725)⟩ (RWE.preS hE0 hZ hS (hy_free (cx := [(q18, .inr (9, [.null, .int 0, .int 0, .int 0, .int 0, .long 0]))]) hD hS hA [0] rfl) (hP.sub (ws' := [(q18, .inr (9, [.null, .int 0, .int 0, .int 0, .int 0, .long 0]))]) [0] rfl) hK (hD.sub (ws' := [(q18, .inr (9, [.null, .int 0, .int 0, .int 0, .int 0, .long 0]))]) [0] (by decide) rfl)) rfl rfl hl.1 rfl (lv_room (Nat.le_of_ble_eq_true rfl)) dR_freshTree_22 ⟨(by show 1 + 1 ≤ (3 * (max fm (T + 1) - fm)); omega), (by show 6 + 3 ≤ (42 * (max fm (T + 1) - fm)); omega)⟩) (fun u9 H locs hpu2 hP hD hS => ?_)
    obtain ⟨nlu2, rfl⟩ : ∃ q9, q9 = u9 := ⟨_, rfl⟩
    have hpu2 : True := hpu2
    have hP : va_P D vwCl ([(q18, .inr (9, [.ref nlu2, .int 0, .int 0, .int 0, .int 0, .long 0])), (nlu2, .inr (12, [.ref tE, .int 0, .int 0]))] ++ pg cds ad gg) _ := hP
    have hD : va_D A ([(q18, .inr (9, [.ref nlu2, .int 0, .int 0, .int 0, .int 0, .long 0])), (nlu2, .inr (12, [.ref tE, .int 0, .int 0]))] ++ pg cds ad gg) := hD
    refine hy_iP (X := [(q18, .inr (9, [.ref nlu2, .int 0, .int 0, .int 0, .int 0, .long 0])), (nlu2, .inr (12, [.ref tE, .int 0, .int 0]))]) (pl := pg cds ad gg) (cx := [(q18, .inr (9, [.ref nlu2, .int 0, .int 0, .int 0, .int 0, .long 0]))]) (wr := [(nlu2, .inr (12, [.ref tE, .int 0, .int 0]))]) hP hD hS hA [0] [1] rfl rfl (by decide) (by decide) (va_runV (As := [.ref q18]) (rest := []) ⟨hx, hb, hml, hown, hT⟩ (k_alAddPT l D cT cds ad gg tE mE 9 40 1000 fm q18 nlu2 0 0 0 0 0 hcd (by omega) (by omega) hLQ0 (fun k8 hk8 => (by obtain ⟨⟨k9, w9, u9, l9, s9, e9⟩, _⟩ := hTs0 k8 hk8; exact ⟨_, by omega, e9⟩)) _) ⟨callB_of 1 hT (tb_gd w757) rfl rfl rfl (hT _ w11) (hT _ w754) hAL_add ⟨Nat.le_of_ble_eq_true rfl, Nat.le_of_ble_eq_true rfl⟩, (hT _ w755), (hT _ w756)⟩ (RWE.preW (ci := 12) (q0 := 0) hE0 hZ hS (va_freeP (cx := [(q18, .inr (9, [.ref nlu2, .int 0, .int 0, .int 0, .int 0, .long 0]))]) hD hS hA [0] rfl) (hP.part (cx := [(q18, .inr (9, [.ref nlu2, .int 0, .int 0, .int 0, .int 0, .long 0]))]) [0] rfl) hK (hD.part (cx := [(q18, .inr (9, [.ref nlu2, .int 0, .int 0, .int 0, .int 0, .long 0]))]) [0] (by decide) rfl) (pg_1 (x := 9) hcd hP (by decide) hli) rfl rfl) rfl rfl hl.1 rfl (lv_room (Nat.le_of_ble_eq_true rfl)) dR_freshTree_25 ⟨(by show 2 + 1 ≤ (3 * (max fm (T + 1) - fm)); omega), (by show 9 + 33 ≤ (42 * (max fm (T + 1) - fm)); omega)⟩) (fun ru3 u9 H locs hpu3 hP hD hS => ?_)
    obtain ⟨ad7u3, gg7u3⟩ := u9
    have hpu3 : ru3 = 1 ∧ (∀ z8, z8 ≠ 9 → z8 ≠ 40 → gg7u3 z8 = gg z8) ∧ (∀ z8, z8 ≠ 40 → ad7u3 z8 = ad z8) ∧ LQv cT ad ad7u3 gg7u3 9 40 1000 fm q18 := hpu3
    have hP : va_P D vwCl ([(nlu2, .inr (12, [.ref tE, .int 0, .int 0])), (q18, .inr (9, [.ref nlu2, .int 0, .int 0, .int 0, .int 0, .long 0]))] ++ pg cds ad7u3 gg7u3) _ := hP
    have hD : va_D A ([(nlu2, .inr (12, [.ref tE, .int 0, .int 0])), (q18, .inr (9, [.ref nlu2, .int 0, .int 0, .int 0, .int 0, .long 0]))] ++ pg cds ad7u3 gg7u3) := hD
    obtain ⟨hr1, fr1, fa1, hv1⟩ := hpu3
    have hl : lv_has ls 2 [(0, .ref (ad7u3 0))] := by rw [fa1 0 (by omega)]; exact hl
    refine lv_pop hx hb dR_freshTree_28 rfl ?_
    obtain ⟨hz0, hz1, hz2, hz3, hz4⟩ := hTn0 fm (Nat.le_refl _) (by omega)
    obtain ⟨ad2, had2⟩ : ∃ f9 : Nat → Nat, f9 = va_up (va_up ad7u3 (1000 + fm) q18) (1020 + fm) nlu2 := ⟨_, rfl⟩
    have ead2_0 : ad2 (1000 + fm) = q18 := by rw [had2]; exact (va_up_ne _ _ (by omega)).trans (va_up_self _ _ _)
    have ead2_1 : ad2 (1020 + fm) = nlu2 := by rw [had2]; exact va_up_self _ _ _
    have aad2 : ∀ z8, z8 ≠ 1000 + fm → z8 ≠ 1020 + fm → ad2 z8 = ad7u3 z8 := fun z8 n0 n1 => by rw [had2]; exact (va_up_ne _ _ n1).trans ((va_up_ne _ _ n0).trans (rfl))
    have pad2 : pg cds ad2 gg7u3 = pg cds ad7u3 gg7u3 := by rw [had2]; exact (pg_ad ((fr1 _ (by omega) (by omega)).trans hz2)).trans ((pg_ad ((fr1 _ (by omega) (by omega)).trans hz1)).trans (rfl))
    have hw9 : ([(ad2 (1020 + fm), .inr (12, [.ref tE, .int 0, .int 0])), (ad2 (1000 + fm), .inr (9, [.ref (ad2 (1020 + fm)), .int 0, .int 0, .int 0, .int 0, .long 0]))] ++ pg cds ad2 gg7u3) = ([(nlu2, .inr (12, [.ref tE, .int 0, .int 0])), (q18, .inr (9, [.ref nlu2, .int 0, .int 0, .int 0, .int 0, .long 0]))] ++ pg cds ad7u3 gg7u3) := by rw [pad2, ead2_1, ead2_0]
    have hP := vP_eq hw9 hP
    have hD := vD_eq hw9 hD
    have hP : va_P D vwCl ([(ad2 (1020 + fm), .inr (12, [.ref tE, .int 0, .int 0])), (ad2 (1000 + fm), .inr (9, [.ref (ad2 (1020 + fm)), .int 0, .int 0, .int 0, .int 0, .long 0]))] ++ pg cds ad2 gg7u3) _ := hP
    have hD : va_D A ([(ad2 (1020 + fm), .inr (12, [.ref tE, .int 0, .int 0])), (ad2 (1000 + fm), .inr (9, [.ref (ad2 (1020 + fm)), .int 0, .int 0, .int 0, .int 0, .long 0]))] ++ pg cds ad2 gg7u3) := hD
    have hl : lv_has ls 2 [(0, .ref (ad2 0))] := by rw [aad2 0 (by omega) (by omega)]; exact hl
    have hup : upo gg7u3 [1000 + fm, 1020 + fm] = gg7u3 := upo_nn (nn_c ((fr1 _ (by omega) (by omega)).trans hz1) (nn_c ((fr1 _ (by omega) (by omega)).trans hz2) nn_0))
    have hw9 : ([(ad2 (1020 + fm), .inr (12, [.ref tE, .int 0, .int 0])), (ad2 (1000 + fm), .inr (9, [.ref (ad2 (1020 + fm)), .int 0, .int 0, .int 0, .int 0, .long 0]))] ++ pg cds ad2 (upo gg7u3 [1000 + fm, 1020 + fm])) = ([(ad2 (1020 + fm), .inr (12, [.ref tE, .int 0, .int 0])), (ad2 (1000 + fm), .inr (9, [.ref (ad2 (1020 + fm)), .int 0, .int 0, .int 0, .int 0, .long 0]))] ++ pg cds ad2 gg7u3) := by rw [hup]
    have hP := vP_eq hw9 hP
    have hD := vD_eq hw9 hD
    have hN9 := (show NDc [1000 + fm, 1020 + fm] from (nd_c (na_c (by omega) na_0) (nd_c na_0 nd_0)))
    have hP := gb_P (w9 := [(1000 + fm, .inr (9, [.ref (ad2 (1020 + fm)), .int 0, .int 0, .int 0, .int 0, .long 0])), (1020 + fm, .inr (12, [.ref tE, .int 0, .int 0]))]) (X := []) (g := gg7u3) hcd hN9 (show QB [(1000 + fm, .inr (9, [.ref (ad2 (1020 + fm)), .int 0, .int 0, .int 0, .int 0, .long 0])), (1020 + fm, .inr (12, [.ref tE, .int 0, .int 0]))] from (qb_c (by omega) (qb_c (by omega) qb_0))) (hP.part (cx := [(ad2 (1000 + fm), .inr (9, [.ref (ad2 (1020 + fm)), .int 0, .int 0, .int 0, .int 0, .long 0])), (ad2 (1020 + fm), .inr (12, [.ref tE, .int 0, .int 0]))]) [1, 0] rfl)
    have hD := gb_D (w9 := [(1000 + fm, .inr (9, [.ref (ad2 (1020 + fm)), .int 0, .int 0, .int 0, .int 0, .long 0])), (1020 + fm, .inr (12, [.ref tE, .int 0, .int 0]))]) (X := []) (g := gg7u3) hcd hN9 (show QB [(1000 + fm, .inr (9, [.ref (ad2 (1020 + fm)), .int 0, .int 0, .int 0, .int 0, .long 0])), (1020 + fm, .inr (12, [.ref tE, .int 0, .int 0]))] from (qb_c (by omega) (qb_c (by omega) qb_0))) (hD.part (cx := [(ad2 (1000 + fm), .inr (9, [.ref (ad2 (1020 + fm)), .int 0, .int 0, .int 0, .int 0, .long 0])), (ad2 (1020 + fm), .inr (12, [.ref tE, .int 0, .int 0]))]) [1, 0] (by decide) rfl)
    obtain ⟨g2, hg2⟩ : ∃ q9, q9 = ups gg7u3 [(1000 + fm, .inr (9, [.ref (ad2 (1020 + fm)), .int 0, .int 0, .int 0, .int 0, .long 0])), (1020 + fm, .inr (12, [.ref tE, .int 0, .int 0]))] := ⟨_, rfl⟩
    rw [← hg2] at hP hD
    have hP : va_P D vwCl ([] ++ pg cds ad2 g2) _ := hP
    have hD : va_D A ([] ++ pg cds ad2 g2) := hD
    have fg2 : ∀ z8, z8 ≠ 1000 + fm → z8 ≠ 1020 + fm → g2 z8 = gg7u3 z8 := fun z8 z1 z2 => by rw [hg2]; exact ups_k (kp_n z1 (kp_n z2 kp_0))
    have g2_0 : g2 (1000 + fm) = some (.inr (9, [.ref (ad2 (1020 + fm)), .int 0, .int 0, .int 0, .int 0, .long 0])) := by rw [hg2]; exact ups_1
    have g2_1 : g2 (1020 + fm) = some (.inr (12, [.ref tE, .int 0, .int 0])) := by rw [hg2]; exact ups_2 (by omega)
    have hFT2 : FST cT ad2 g2 tE (fm + 1) mk := fst_add hFT (by omega) fr1 fa1 hv1 fg2 aad2 ead2_0 g2_0 g2_1
    have hob2 : g2 0 = some (eOB ad2 (nI T)) := by rw [eOB_ca (ad2 := ad2) (ad := ad) (fun x x1 x2 => (aad2 x (by omega) (by omega)).trans (fa1 x (by omega)))]; exact (fg2 _ (by omega) (by omega)).trans ((fr1 _ (by omega) (by omega)).trans hob)
    obtain ⟨hLQ9, hm9, hTs9, hTn9⟩ := id hFT2
    obtain ⟨cap9, md9, lf9, l1, l2, l3, l4, l5⟩ := hLQ9.full (by omega)
    obtain ⟨⟨k9, w9, u9, lo9, s9, htr9⟩, hTM9⟩ := hTs9 T (by omega)
    refine lv_aload_n hx hb dR_freshTree_29 rfl (lv_at hl 0 rfl) ?_
    refine va_get (D := D) (ci := 0) (v := .ref (ad2 9)) (C := R_R) (T := T_R) (N := 13) hx hb hT in_R hown hK (pg_1 (x := 0) hcd hP (by decide) hob2) 0 rfl rfl 4 (by decide) (hT _ w328) (fun _ h9 => h9) rfl dR_freshTree_30 ?_
    refine lv_aload_n hx hb dR_freshTree_33 rfl (lv_at hl 0 rfl) ?_
    refine va_get (D := D) (ci := 0) (v := .int (nI T)) (C := R_R) (T := T_R) (N := 13) hx hb hT in_R hown hK (pg_1 (x := 0) hcd hP (by decide) hob2) 0 rfl rfl 5 (by decide) (hT _ w329) (fun _ h9 => h9) rfl dR_freshTree_34 ?_
    refine ro_r (va_Run.run (va_runV (As := [.int (nI T)]) (rest := []) ⟨hx, hb, hml, hown, hT⟩ (k_alGet l D cT (ad2 9) (ad2 40) (fm + 1) md9 cap9 lf9 T (ad2 (1000 + T)) (by omega) l3 (by omega) (l5 _ (by omega))) ⟨callB_of 1 hT (tb_gd w401) rfl rfl rfl (hT _ w11) (hT _ w398) hAL_get ⟨Nat.le_of_ble_eq_true rfl, Nat.le_of_ble_eq_true rfl⟩, (hT _ w399), (hT _ w400)⟩ (RO.preV (ci := 12) (q0 := 0) hZ hS ((show va_P D vwCl [(ad2 9, .inr (12, [.ref (ad2 40), .int (nI (fm + 1)), .int md9])), (ad2 40, .inl (cT 7, cap9, .inr (.inr (.inr (.inr lf9)))))] _ from (pv_c (pg_1 (x := 9) hcd hP (by decide) l1) (pv_c (pg_1 (x := 40) hcd hP (by decide) l2) pv_0)))) hK rfl rfl) rfl rfl hl.1 rfl (lv_room (Nat.le_of_ble_eq_true rfl)) dR_freshTree_37 ⟨(by show 3 + 0 ≤ (3 * (max fm (T + 1) - fm)); omega), (by show 42 + 0 ≤ (42 * (max fm (T + 1) - fm)); omega)⟩)) ?_
    refine va_castY (C := "ResidualTrees$Tree") hx hb hown (hT _ w412) (hZ.1.1 ("ResidualTrees$Tree", "ResidualTrees$Tree") (List.mem_of_getElem? (i := 2) rfl)) (va_recv (ci := 9) (q0 := 0) hK (pg_1 (x := 1000 + T) hcd hP (by omega) htr9) rfl rfl) dR_freshTree_40 ?_
    refine lv_astore_n hx hb dR_freshTree_43 rfl hl (by decide) rfl (fun ls hl => ?_)
    have hl : lv_has ls 2 [(1, .ref (ad2 (1000 + T))), (0, .ref (ad2 0))] := hl
    refine lv_aload_n hx hb dR_freshTree_44 rfl (lv_at hl 0 rfl) ?_
    refine lv_iconst (v := 0) hx hb dR_freshTree_45 (by decide) ?_
    have hB9 : QI g2 [(1000 + T, .inr (9, [.ref (ad2 (1020 + T)), .int k9, .int w9, .int u9, .int lo9, .long s9]))] := (qi_c (by omega) htr9 qi_0)
    have hN9 := (show NDc [1000 + T] from (nd_c na_0 nd_0))
    have hP := bo_P (wc := [(1000 + T, .inr (9, [.ref (ad2 (1020 + T)), .int k9, .int w9, .int u9, .int lo9, .long s9]))]) (X := []) hcd hN9 hB9 hP
    have hD := bo_D (wc := [(1000 + T, .inr (9, [.ref (ad2 (1020 + T)), .int k9, .int w9, .int u9, .int lo9, .long s9]))]) (X := []) hcd hN9 hB9 hD
    have hP : va_P D vwCl ([(ad2 (1000 + T), .inr (9, [.ref (ad2 (1020 + T)), .int k9, .int w9, .int u9, .int lo9, .long s9]))] ++ pg cds ad2 (upo g2 [1000 + T])) _ := hP
    have hD : va_D A ([(ad2 (1000 + T), .inr (9, [.ref (ad2 (1020 + T)), .int k9, .int w9, .int u9, .int lo9, .long s9]))] ++ pg cds ad2 (upo g2 [1000 + T])) := hD
    refine va_put (D := D) (ci := 9) (v := .int 0) (ty := .int) (C := R_Tr) (T := T_Tr) (N := 6) hx hb hT in_Tr ty_Tr ty_Tr_ok m_Tr hown hK hP hD hS 0 rfl rfl 1 (by decide) (hT _ w732) (fun _ h9 => h9) rfl (by decide +kernel) rfl rfl (Nat.le_of_ble_eq_true rfl) dR_freshTree_46 (fun H locs hP hD hS => ?_)
    have hP : va_P D vwCl ([(ad2 (1000 + T), .inr (9, [.ref (ad2 (1020 + T)), .int 0, .int w9, .int u9, .int lo9, .long s9]))] ++ pg cds ad2 (upo g2 [1000 + T])) _ := hP
    have hD : va_D A ([(ad2 (1000 + T), .inr (9, [.ref (ad2 (1020 + T)), .int 0, .int w9, .int u9, .int lo9, .long s9]))] ++ pg cds ad2 (upo g2 [1000 + T])) := hD
    have hN9 := (show NDc [1000 + T] from (nd_c na_0 nd_0))
    have hP := gb_P (w9 := [(1000 + T, .inr (9, [.ref (ad2 (1020 + T)), .int 0, .int w9, .int u9, .int lo9, .long s9]))]) (X := []) (g := g2) hcd hN9 (show QB [(1000 + T, .inr (9, [.ref (ad2 (1020 + T)), .int 0, .int w9, .int u9, .int lo9, .long s9]))] from (qb_c (by omega) qb_0)) (hP.part (cx := [(ad2 (1000 + T), .inr (9, [.ref (ad2 (1020 + T)), .int 0, .int w9, .int u9, .int lo9, .long s9]))]) [0] rfl)
    have hD := gb_D (w9 := [(1000 + T, .inr (9, [.ref (ad2 (1020 + T)), .int 0, .int w9, .int u9, .int lo9, .long s9]))]) (X := []) (g := g2) hcd hN9 (show QB [(1000 + T, .inr (9, [.ref (ad2 (1020 + T)), .int 0, .int w9, .int u9, .int lo9, .long s9]))] from (qb_c (by omega) qb_0)) (hD.part (cx := [(ad2 (1000 + T), .inr (9, [.ref (ad2 (1020 + T)), .int 0, .int w9, .int u9, .int lo9, .long s9]))]) [0] (by decide) rfl)
    obtain ⟨g3, hg3⟩ : ∃ q9, q9 = ups g2 [(1000 + T, .inr (9, [.ref (ad2 (1020 + T)), .int 0, .int w9, .int u9, .int lo9, .long s9]))] := ⟨_, rfl⟩
    rw [← hg3] at hP hD
    have hP : va_P D vwCl ([] ++ pg cds ad2 g3) _ := hP
    have hD : va_D A ([] ++ pg cds ad2 g3) := hD
    have fg3 : ∀ z8, z8 ≠ 1000 + T → g3 z8 = g2 z8 := fun z8 z1 => by rw [hg3]; exact ups_k (kp_n z1 kp_0)
    have g3_0 : g3 (1000 + T) = some (.inr (9, [.ref (ad2 (1020 + T)), .int 0, .int w9, .int u9, .int lo9, .long s9])) := by rw [hg3]; exact ups_1
    refine lv_aload_n hx hb dR_freshTree_49 rfl (lv_at hl 0 rfl) ?_
    have hP9 : va_P D vwCl ([] ++ pg cds ad2 g3) _ := hP.part (cx := []) [] rfl
    have hD9 : va_D A ([] ++ pg cds ad2 g3) := hD.part (cx := []) [] (by decide) rfl
    refine W.widen (k := 3 * (max fm (T + 1) - fm)) (n := 42 * (max fm (T + 1) - fm)) ((by show 3 ≤ 3 * (max fm (T + 1) - fm); omega)) ((by show 42 ≤ 42 * (max fm (T + 1) - fm); omega)) ?_
    exact W.aret (v := .ref (ad2 (1000 + T))) hx hb hr (Or.inl ⟨_, rfl⟩) (Or.inr ⟨_, rfl⟩) (fun t9 ht9 hW9 => ⟨⟨(ad2, g3), ad2 (1000 + T), rfl, (show (∀ z8, z8 ≠ 9 → z8 ≠ 40 → z8 ≠ 1000 + T → z8 ≠ 1020 + T → g3 z8 = gg z8) ∧ (∀ z8, z8 ≠ 40 → z8 ≠ 1000 + T → z8 ≠ 1020 + T → ad2 z8 = ad z8) ∧ (T < fm → (∀ z8, ad2 z8 = ad z8) ∧ g3 9 = gg 9 ∧ g3 40 = gg 40 ∧ g3 (1020 + T) = gg (1020 + T)) ∧ FST cT ad2 g3 tE (max fm (T + 1)) mk ∧ ∃ (w8 u8 l8 : Int32) (s8 : Int64), g3 (1000 + T) = some (eTR (ad2 (1020 + T)) (nI 0) w8 u8 l8 s8) from ⟨(fun z8 n1 n2 n3 n4 => (fg3 z8 n3).trans ((fg2 z8 (by omega) (by omega)).trans (fr1 z8 n1 n2))), (fun z8 n1 n2 n3 => (aad2 z8 (by omega) (by omega)).trans (fa1 z8 n1)), (fun q => absurd q (by omega)), (by rw [show max fm (T + 1) = fm + 1 by omega]; exact fst_tc hFT2 (T := T) (by omega) (fun z8 n1 => fg3 z8 n1) g3_0), _, _, _, _, g3_0⟩), rfl, by rw [ht9]; exact hP9, hD9⟩, hS.F ht9⟩) hS.2.2 dR_freshTree_50
