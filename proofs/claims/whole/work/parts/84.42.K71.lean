set_option maxHeartbeats 4000000 in
set_option maxRecDepth 100000 in
theorem k_alAdd3T (l : Launch) (D : va_G) (cT : Nat → ClassId) (h : Nat) (le : Nat) (sq : Nat) (md : Int32) (cap : Nat) (lf : Nat → Option Nat) (v : Nat) (v1 : Nat) (v2 : Int32) (v3 : Int32) (v4 : Int32) (v5 : Int32) (v6 : Int64) (hs9 : sq < cap) (hc9 : cap < 2 ^ 31) (sz : Nat) : Met l yAL_add3 WAL_add3 ({ frames := 0, cells := 0, slots := 0, locals := 0 } : Room) (RW D vwCl [.ref h, .ref v, .ref le, .int (nI sq)] [(h, .inr (12, [.ref le, .int (nI sq), .int md])), (le, .inl (cT 7, cap, .inr (.inr (.inr (.inr lf))))), (v, .inr (9, [.ref v1, .int v2, .int v3, .int v4, .int v5, .long v6]))] (TY cT) sz) (va_Qv (fun u9 : Unit => True) (BW D vwCl (va_A [(h, .inr (12, [.ref le, .int (nI sq), .int md])), (le, .inl (cT 7, cap, .inr (.inr (.inr (.inr lf))))), (v, .inr (9, [.ref v1, .int v2, .int v3, .int v4, .int v5, .long v6]))] sz) (fun u9 : Unit => [(h, .inr (12, [.ref le, .int (nI (sq + 1)), .int md])), (le, .inl (cT 7, cap, .inr (.inr (.inr (.inr (va_up lf sq (some v))))))), (v, .inr (9, [.ref v1, .int v2, .int v3, .int v4, .int v5, .long v6]))])) (va_A [(h, .inr (12, [.ref le, .int (nI sq), .int md])), (le, .inl (cT 7, cap, .inr (.inr (.inr (.inr lf))))), (v, .inr (9, [.ref v1, .int v2, .int v3, .int v4, .int v5, .long v6]))] sz)) 0 0 (va_A [(h, .inr (12, [.ref le, .int (nI sq), .int md])), (le, .inl (cT 7, cap, .inr (.inr (.inr (.inr lf))))), (v, .inr (9, [.ref v1, .int v2, .int v3, .int v4, .int v5, .long v6]))] sz) := by
  refine Met.ofW (cc := cAL_add3) (maxL := 4) (ret := none) (by decide) rfl ?_
  intro p e s m args below meth c s₁ B hml hv
  obtain ⟨rfl, hsz, hZ, hP, hK, hD0⟩ := hv
  have hx := B.exec
  have hb := B.bytes
  have hr := B.returns
  have hts := atoms_spec (ws := WAL_add3) B.pre
  have hT : ∀ w ∈ TB, w.before _ s = true := fun w h => hts w (List.mem_cons_of_mem _ h)
  have hown : s.vm.findClass R_AL = some m.cls := findClass_of_methodNamed B.named
  have hlocks := B.notSynchronized
  subst hsz
  have hD := hD0.self (sz := s.heap.size)
  generalize hAe : va_A [(h, .inr (12, [.ref le, .int (nI sq), .int md])), (le, .inl (cT 7, cap, .inr (.inr (.inr (.inr lf))))), (v, .inr (9, [.ref v1, .int v2, .int v3, .int v4, .int v5, .long v6]))] s.heap.size = A at hD hZ ⊢
  have hA : ∀ q : Nat, s.heap.size ≤ q → A q := fun q h => by rw [← hAe]; exact Or.inr h
  have hS : va_S A s.heap s.heap [] := va_S.rf
  have hl := lv_entry ([.ref h, .ref v, .ref le, .int (nI sq)]) (n := 4) (Nat.le_of_ble_eq_true rfl)
  rw [lg_entry_eq]
  generalize (lg_sl ([.ref h, .ref v, .ref le, .int (nI sq)]) ++ List.replicate (4 - (lg_sl ([.ref h, .ref v, .ref le, .int (nI sq)])).length) Slot.unset).toArray = ls at hl ⊢
  have hl : lv_has ls 4 [(0, .ref h), (1, .ref v), (2, .ref le), (3, .int (nI sq))] := hl
  refine lv_iload_n hx hb dAL_add3_0 rfl (lv_at hl 3 rfl) ?_
  refine lv_aload_n hx hb dAL_add3_1 rfl (lv_at hl 2 rfl) ?_
  refine va_alen (v := nI cap) hx hb hK hP 1 7 rfl rfl rfl dAL_add3_2 ?_
  refine lv_icmp_ne (tgt := 11) hx hb dAL_add3_3 rfl (fun _ => ?_) (fun h1 => absurd h1 (fun q => absurd ((nI_eq (a := sq) (b := cap) (by omega) (by omega)).mp q) (by omega)))
  refine lv_aload_n hx hb dAL_add3_11 rfl (lv_at hl 2 rfl) ?_
  refine lv_iload_n hx hb dAL_add3_12 rfl (lv_at hl 3 rfl) ?_
  refine lv_aload_n hx hb dAL_add3_13 rfl (lv_at hl 1 rfl) ?_
  refine va_astqO (E := "java/lang/Object") hx hb hK hP hD hS 1 7 2 9 rfl rfl (by exact hZ.1.1 ("ResidualTrees$Tree", "java/lang/Object") (List.mem_of_getElem? (i := 14) rfl)) rfl rfl (vp_in_nI (by omega) (by omega)) dAL_add3_14 (fun H locs hP hD hS => ?_)
  rw [nI_clamp (by omega)] at hP hD
  have hP : va_P D vwCl [(h, .inr (12, [.ref le, .int (nI sq), .int md])), (le, .inl (cT 7, cap, .inr (.inr (.inr (.inr (va_up lf sq (some v))))))), (v, .inr (9, [.ref v1, .int v2, .int v3, .int v4, .int v5, .long v6]))] _ := hP
  have hD : va_D A [(h, .inr (12, [.ref le, .int (nI sq), .int md])), (le, .inl (cT 7, cap, .inr (.inr (.inr (.inr (va_up lf sq (some v))))))), (v, .inr (9, [.ref v1, .int v2, .int v3, .int v4, .int v5, .long v6]))] := hD
  refine lv_aload_n hx hb dAL_add3_15 rfl (lv_at hl 0 rfl) ?_
  refine lv_iload_n hx hb dAL_add3_16 rfl (lv_at hl 3 rfl) ?_
  refine lv_iconst (v := 1) hx hb dAL_add3_17 (by decide) ?_
  refine lv_iadd hx hb dAL_add3_18 ?_
  refine lv_topi (fun y9 e9 => ?_)
  cases (show y9 = nI (sq + 1) from e9.trans (nI_add sq 1))
  refine va_put (D := D) (ci := 12) (v := .int (nI (sq + 1))) (ty := .int) (C := R_AL) (T := T_AL) (N := 3) hx hb hT in_AL ty_AL ty_AL_ok m_AL hown hK hP hD hS 0 rfl rfl 1 (by decide) (hT _ w269) (fun _ h9 => h9) rfl (by decide +kernel) rfl rfl (Nat.le_of_ble_eq_true rfl) dAL_add3_19 (fun H locs hP hD hS => ?_)
  have hP : va_P D vwCl [(h, .inr (12, [.ref le, .int (nI (sq + 1)), .int md])), (le, .inl (cT 7, cap, .inr (.inr (.inr (.inr (va_up lf sq (some v))))))), (v, .inr (9, [.ref v1, .int v2, .int v3, .int v4, .int v5, .long v6]))] _ := hP
  have hD : va_D A [(h, .inr (12, [.ref le, .int (nI (sq + 1)), .int md])), (le, .inl (cT 7, cap, .inr (.inr (.inr (.inr (va_up lf sq (some v))))))), (v, .inr (9, [.ref v1, .int v2, .int v3, .int v4, .int v5, .long v6]))] := hD
  have hP9 := hP.sub (ws' := [(h, .inr (12, [.ref le, .int (nI (sq + 1)), .int md])), (le, .inl (cT 7, cap, .inr (.inr (.inr (.inr (va_up lf sq (some v))))))), (v, .inr (9, [.ref v1, .int v2, .int v3, .int v4, .int v5, .long v6]))]) [0, 1, 2] rfl
  have hD9 := hD.sub (ws' := [(h, .inr (12, [.ref le, .int (nI (sq + 1)), .int md])), (le, .inl (cT 7, cap, .inr (.inr (.inr (.inr (va_up lf sq (some v))))))), (v, .inr (9, [.ref v1, .int v2, .int v3, .int v4, .int v5, .long v6]))]) [0, 1, 2] (by decide) rfl
  refine W.widen (k := 0) (n := 0) (Nat.le_of_ble_eq_true rfl) (Nat.le_of_ble_eq_true rfl) ?_
  exact W.vret hx hb hr (fun t9 ht9 hW9 => ⟨⟨(), rfl, (show True from trivial), by rw [ht9]; exact hP9, hD9⟩, hS.F ht9⟩) hS.2.2 dAL_add3_22
set_option maxHeartbeats 4000000 in
set_option maxRecDepth 100000 in
theorem k_alAddT (l : Launch) (D : va_G) (cT : Nat → ClassId) (h : Nat) (le : Nat) (sq : Nat) (md : Int32) (cap : Nat) (lf : Nat → Option Nat) (v : Nat) (v1 : Nat) (v2 : Int32) (v3 : Int32) (v4 : Int32) (v5 : Int32) (v6 : Int64) (hs9 : sq < cap) (hc9 : cap < 2 ^ 31) (sz : Nat) : Met l yAL_add WAL_add ({ frames := 1, cells := 0, slots := 0, locals := 23 } : Room) (RW D vwCl [.ref h, .ref v] [(h, .inr (12, [.ref le, .int (nI sq), .int md])), (le, .inl (cT 7, cap, .inr (.inr (.inr (.inr lf))))), (v, .inr (9, [.ref v1, .int v2, .int v3, .int v4, .int v5, .long v6]))] (TY cT) sz) (va_Qi (fun (r9 : Int32) (u9 : Unit) => r9 = 1) (BW D vwCl (va_A [(h, .inr (12, [.ref le, .int (nI sq), .int md])), (le, .inl (cT 7, cap, .inr (.inr (.inr (.inr lf))))), (v, .inr (9, [.ref v1, .int v2, .int v3, .int v4, .int v5, .long v6]))] sz) (fun u9 : Unit => [(h, .inr (12, [.ref le, .int (nI (sq + 1)), .int (md + 1)])), (le, .inl (cT 7, cap, .inr (.inr (.inr (.inr (va_up lf sq (some v))))))), (v, .inr (9, [.ref v1, .int v2, .int v3, .int v4, .int v5, .long v6]))])) (va_A [(h, .inr (12, [.ref le, .int (nI sq), .int md])), (le, .inl (cT 7, cap, .inr (.inr (.inr (.inr lf))))), (v, .inr (9, [.ref v1, .int v2, .int v3, .int v4, .int v5, .long v6]))] sz)) 0 0 (va_A [(h, .inr (12, [.ref le, .int (nI sq), .int md])), (le, .inl (cT 7, cap, .inr (.inr (.inr (.inr lf))))), (v, .inr (9, [.ref v1, .int v2, .int v3, .int v4, .int v5, .long v6]))] sz) := by
  refine Met.ofW (cc := cAL_add) (maxL := 2) (ret := (some .boolean)) (by decide) rfl ?_
  intro p e s m args below meth c s₁ B hml hv
  obtain ⟨rfl, hsz, hZ, hP, hK, hD0⟩ := hv
  have hx := B.exec
  have hb := B.bytes
  have hr := B.returns
  have hts := atoms_spec (ws := WAL_add) B.pre
  have hT : ∀ w ∈ TB, w.before _ s = true := fun w h => hts w (List.mem_cons_of_mem _ h)
  have hown : s.vm.findClass R_AL = some m.cls := findClass_of_methodNamed B.named
  have hlocks := B.notSynchronized
  subst hsz
  have hD := hD0.self (sz := s.heap.size)
  generalize hAe : va_A [(h, .inr (12, [.ref le, .int (nI sq), .int md])), (le, .inl (cT 7, cap, .inr (.inr (.inr (.inr lf))))), (v, .inr (9, [.ref v1, .int v2, .int v3, .int v4, .int v5, .long v6]))] s.heap.size = A at hD hZ ⊢
  have hA : ∀ q : Nat, s.heap.size ≤ q → A q := fun q h => by rw [← hAe]; exact Or.inr h
  have hS : va_S A s.heap s.heap [] := va_S.rf
  have hl := lv_entry ([.ref h, .ref v]) (n := 2) (Nat.le_of_ble_eq_true rfl)
  rw [lg_entry_eq]
  generalize (lg_sl ([.ref h, .ref v]) ++ List.replicate (2 - (lg_sl ([.ref h, .ref v])).length) Slot.unset).toArray = ls at hl ⊢
  have hl : lv_has ls 2 [(0, .ref h), (1, .ref v)] := hl
  refine lv_aload_n hx hb dAL_add_0 rfl (lv_at hl 0 rfl) ?_
  refine lv_dup hx hb dAL_add_1 rfl ?_
  refine va_get (D := D) (ci := 12) (v := .int md) (C := R_AL) (T := T_AL) (N := 3) hx hb hT in_AL hown hK hP 0 rfl rfl 2 (by decide) (hT _ w271) (u_same (hT _ w272)) rfl dAL_add_2 ?_
  refine lv_iconst (v := 1) hx hb dAL_add_5 (by decide) ?_
  refine lv_iadd hx hb dAL_add_6 ?_
  refine va_put (D := D) (ci := 12) (v := .int (md + 1)) (ty := .int) (C := R_AL) (T := T_AL) (N := 3) hx hb hT in_AL ty_AL ty_AL_ok m_AL hown hK hP hD hS 0 rfl rfl 2 (by decide) (hT _ w271) (u_same (hT _ w272)) rfl (by decide +kernel) rfl rfl (Nat.le_of_ble_eq_true rfl) dAL_add_7 (fun H locs hP hD hS => ?_)
  have hP : va_P D vwCl [(h, .inr (12, [.ref le, .int (nI sq), .int (md + 1)])), (le, .inl (cT 7, cap, .inr (.inr (.inr (.inr lf))))), (v, .inr (9, [.ref v1, .int v2, .int v3, .int v4, .int v5, .long v6]))] _ := hP
  have hD : va_D A [(h, .inr (12, [.ref le, .int (nI sq), .int (md + 1)])), (le, .inl (cT 7, cap, .inr (.inr (.inr (.inr lf))))), (v, .inr (9, [.ref v1, .int v2, .int v3, .int v4, .int v5, .long v6]))] := hD
  refine lv_aload_n hx hb dAL_add_10 rfl (lv_at hl 0 rfl) ?_
  refine lv_aload_n hx hb dAL_add_11 rfl (lv_at hl 1 rfl) ?_
  refine lv_aload_n hx hb dAL_add_12 rfl (lv_at hl 0 rfl) ?_
  refine va_get (D := D) (ci := 12) (v := .ref le) (C := R_AL) (T := T_AL) (N := 3) hx hb hT in_AL hown hK hP 0 rfl rfl 0 (by decide) (hT _ w268) (fun _ h9 => h9) rfl dAL_add_13 ?_
  refine lv_aload_n hx hb dAL_add_16 rfl (lv_at hl 0 rfl) ?_
  refine va_get (D := D) (ci := 12) (v := .int (nI sq)) (C := R_AL) (T := T_AL) (N := 3) hx hb hT in_AL hown hK hP 0 rfl rfl 1 (by decide) (hT _ w269) (fun _ h9 => h9) rfl dAL_add_17 ?_
  refine rw_v (wc := [(h, .inr (12, [.ref le, .int (nI sq), .int (md + 1)])), (le, .inl (cT 7, cap, .inr (.inr (.inr (.inr lf))))), (v, .inr (9, [.ref v1, .int v2, .int v3, .int v4, .int v5, .long v6]))]) (wr := []) hP hD hS hA [0, 1, 2] [] rfl rfl (by decide) (by decide) (va_runV (As := [.ref v, .ref le, .int (nI sq)]) (rest := []) ⟨hx, hb, hml, hown, hT⟩ (k_alAdd3T l D cT h le sq (md + 1) cap lf v v1 v2 v3 v4 v5 v6 hs9 hc9 _) ⟨callB_of 3 hT (tb_gd w761) rfl rfl rfl (hT _ w11) (hT _ w758) hAL_add3 ⟨Nat.le_of_ble_eq_true rfl, Nat.le_of_ble_eq_true rfl⟩, (hT _ w760), (hT _ wp9)⟩ (RW.preV (ci := 12) (q0 := 0) hZ hS (va_free (wc := [(h, .inr (12, [.ref le, .int (nI sq), .int (md + 1)])), (le, .inl (cT 7, cap, .inr (.inr (.inr (.inr lf))))), (v, .inr (9, [.ref v1, .int v2, .int v3, .int v4, .int v5, .long v6]))]) hD hS hA [0, 1, 2] rfl) (hP.sub (ws' := [(h, .inr (12, [.ref le, .int (nI sq), .int (md + 1)])), (le, .inl (cT 7, cap, .inr (.inr (.inr (.inr lf))))), (v, .inr (9, [.ref v1, .int v2, .int v3, .int v4, .int v5, .long v6]))]) [0, 1, 2] rfl) hK (hD.sub (ws' := [(h, .inr (12, [.ref le, .int (nI sq), .int (md + 1)])), (le, .inl (cT 7, cap, .inr (.inr (.inr (.inr lf))))), (v, .inr (9, [.ref v1, .int v2, .int v3, .int v4, .int v5, .long v6]))]) [0, 1, 2] (by decide) rfl) rfl rfl) rfl rfl hl.1 rfl (lv_room (Nat.le_of_ble_eq_true rfl)) dAL_add_20 ⟨Nat.le_of_ble_eq_true rfl, Nat.le_of_ble_eq_true rfl⟩) (fun u9 H locs hpu1 hP hD hS => ?_)
  have hpu1 : True := hpu1
  have hP : va_P D vwCl [(h, .inr (12, [.ref le, .int (nI (sq + 1)), .int (md + 1)])), (le, .inl (cT 7, cap, .inr (.inr (.inr (.inr (va_up lf sq (some v))))))), (v, .inr (9, [.ref v1, .int v2, .int v3, .int v4, .int v5, .long v6]))] _ := hP
  have hD : va_D A [(h, .inr (12, [.ref le, .int (nI (sq + 1)), .int (md + 1)])), (le, .inl (cT 7, cap, .inr (.inr (.inr (.inr (va_up lf sq (some v))))))), (v, .inr (9, [.ref v1, .int v2, .int v3, .int v4, .int v5, .long v6]))] := hD
  refine lv_iconst (v := 1) hx hb dAL_add_23 (by decide) ?_
  have hP9 := hP.sub (ws' := [(h, .inr (12, [.ref le, .int (nI (sq + 1)), .int (md + 1)])), (le, .inl (cT 7, cap, .inr (.inr (.inr (.inr (va_up lf sq (some v))))))), (v, .inr (9, [.ref v1, .int v2, .int v3, .int v4, .int v5, .long v6]))]) [0, 1, 2] rfl
  have hD9 := hD.sub (ws' := [(h, .inr (12, [.ref le, .int (nI (sq + 1)), .int (md + 1)])), (le, .inl (cT 7, cap, .inr (.inr (.inr (.inr (va_up lf sq (some v))))))), (v, .inr (9, [.ref v1, .int v2, .int v3, .int v4, .int v5, .long v6]))]) [0, 1, 2] (by decide) rfl
  refine W.widen (k := 0) (n := 0) (Nat.le_of_ble_eq_true rfl) (Nat.le_of_ble_eq_true rfl) ?_
  exact W.zret (v := 1) hx hb hr rfl (fun t9 ht9 hW9 => ⟨⟨1, (), rfl, (show 1 = 1 from rfl), by rw [ht9]; exact hP9, hD9⟩, hS.F ht9⟩) hS.2.2 dAL_add_24
set_option maxHeartbeats 4000000 in
set_option maxRecDepth 100000 in
theorem k_alAdd3N (l : Launch) (D : va_G) (cT : Nat → ClassId) (h : Nat) (le : Nat) (sq : Nat) (md : Int32) (cap : Nat) (lf : Nat → Option Nat) (v : Nat) (v1 : Int32) (v2 : Int32) (v3 : Int32) (v4 : Int32) (v5 : Int32) (v6 : Int32) (v7 : Int32) (v8 : Int32) (v9 : Nat) (hs9 : sq < cap) (hc9 : cap < 2 ^ 31) (sz : Nat) : Met l yAL_add3 WAL_add3 ({ frames := 0, cells := 0, slots := 0, locals := 0 } : Room) (RW D vwCl [.ref h, .ref v, .ref le, .int (nI sq)] [(h, .inr (12, [.ref le, .int (nI sq), .int md])), (le, .inl (cT 7, cap, .inr (.inr (.inr (.inr lf))))), (v, .inr (10, [.int v1, .int v2, .int v3, .int v4, .int v5, .int v6, .int v7, .int v8, .ref v9]))] (TY cT) sz) (va_Qv (fun u9 : Unit => True) (BW D vwCl (va_A [(h, .inr (12, [.ref le, .int (nI sq), .int md])), (le, .inl (cT 7, cap, .inr (.inr (.inr (.inr lf))))), (v, .inr (10, [.int v1, .int v2, .int v3, .int v4, .int v5, .int v6, .int v7, .int v8, .ref v9]))] sz) (fun u9 : Unit => [(h, .inr (12, [.ref le, .int (nI (sq + 1)), .int md])), (le, .inl (cT 7, cap, .inr (.inr (.inr (.inr (va_up lf sq (some v))))))), (v, .inr (10, [.int v1, .int v2, .int v3, .int v4, .int v5, .int v6, .int v7, .int v8, .ref v9]))])) (va_A [(h, .inr (12, [.ref le, .int (nI sq), .int md])), (le, .inl (cT 7, cap, .inr (.inr (.inr (.inr lf))))), (v, .inr (10, [.int v1, .int v2, .int v3, .int v4, .int v5, .int v6, .int v7, .int v8, .ref v9]))] sz)) 0 0 (va_A [(h, .inr (12, [.ref le, .int (nI sq), .int md])), (le, .inl (cT 7, cap, .inr (.inr (.inr (.inr lf))))), (v, .inr (10, [.int v1, .int v2, .int v3, .int v4, .int v5, .int v6, .int v7, .int v8, .ref v9]))] sz) := by
  refine Met.ofW (cc := cAL_add3) (maxL := 4) (ret := none) (by decide) rfl ?_
  intro p e s m args below meth c s₁ B hml hv
  obtain ⟨rfl, hsz, hZ, hP, hK, hD0⟩ := hv
  have hx := B.exec
  have hb := B.bytes
  have hr := B.returns
  have hts := atoms_spec (ws := WAL_add3) B.pre
  have hT : ∀ w ∈ TB, w.before _ s = true := fun w h => hts w (List.mem_cons_of_mem _ h)
  have hown : s.vm.findClass R_AL = some m.cls := findClass_of_methodNamed B.named
  have hlocks := B.notSynchronized
  subst hsz
  have hD := hD0.self (sz := s.heap.size)
  generalize hAe : va_A [(h, .inr (12, [.ref le, .int (nI sq), .int md])), (le, .inl (cT 7, cap, .inr (.inr (.inr (.inr lf))))), (v, .inr (10, [.int v1, .int v2, .int v3, .int v4, .int v5, .int v6, .int v7, .int v8, .ref v9]))] s.heap.size = A at hD hZ ⊢
  have hA : ∀ q : Nat, s.heap.size ≤ q → A q := fun q h => by rw [← hAe]; exact Or.inr h
  have hS : va_S A s.heap s.heap [] := va_S.rf
  have hl := lv_entry ([.ref h, .ref v, .ref le, .int (nI sq)]) (n := 4) (Nat.le_of_ble_eq_true rfl)
  rw [lg_entry_eq]
  generalize (lg_sl ([.ref h, .ref v, .ref le, .int (nI sq)]) ++ List.replicate (4 - (lg_sl ([.ref h, .ref v, .ref le, .int (nI sq)])).length) Slot.unset).toArray = ls at hl ⊢
  have hl : lv_has ls 4 [(0, .ref h), (1, .ref v), (2, .ref le), (3, .int (nI sq))] := hl
  refine lv_iload_n hx hb dAL_add3_0 rfl (lv_at hl 3 rfl) ?_
  refine lv_aload_n hx hb dAL_add3_1 rfl (lv_at hl 2 rfl) ?_
  refine va_alen (v := nI cap) hx hb hK hP 1 7 rfl rfl rfl dAL_add3_2 ?_
  refine lv_icmp_ne (tgt := 11) hx hb dAL_add3_3 rfl (fun _ => ?_) (fun h1 => absurd h1 (fun q => absurd ((nI_eq (a := sq) (b := cap) (by omega) (by omega)).mp q) (by omega)))
  refine lv_aload_n hx hb dAL_add3_11 rfl (lv_at hl 2 rfl) ?_
  refine lv_iload_n hx hb dAL_add3_12 rfl (lv_at hl 3 rfl) ?_
  refine lv_aload_n hx hb dAL_add3_13 rfl (lv_at hl 1 rfl) ?_
  refine va_astqO (E := "java/lang/Object") hx hb hK hP hD hS 1 7 2 10 rfl rfl (by exact hZ.1.1 ("ResidualTrees$Node", "java/lang/Object") (List.mem_of_getElem? (i := 15) rfl)) rfl rfl (vp_in_nI (by omega) (by omega)) dAL_add3_14 (fun H locs hP hD hS => ?_)
  rw [nI_clamp (by omega)] at hP hD
  have hP : va_P D vwCl [(h, .inr (12, [.ref le, .int (nI sq), .int md])), (le, .inl (cT 7, cap, .inr (.inr (.inr (.inr (va_up lf sq (some v))))))), (v, .inr (10, [.int v1, .int v2, .int v3, .int v4, .int v5, .int v6, .int v7, .int v8, .ref v9]))] _ := hP
  have hD : va_D A [(h, .inr (12, [.ref le, .int (nI sq), .int md])), (le, .inl (cT 7, cap, .inr (.inr (.inr (.inr (va_up lf sq (some v))))))), (v, .inr (10, [.int v1, .int v2, .int v3, .int v4, .int v5, .int v6, .int v7, .int v8, .ref v9]))] := hD
  refine lv_aload_n hx hb dAL_add3_15 rfl (lv_at hl 0 rfl) ?_
  refine lv_iload_n hx hb dAL_add3_16 rfl (lv_at hl 3 rfl) ?_
  refine lv_iconst (v := 1) hx hb dAL_add3_17 (by decide) ?_
  refine lv_iadd hx hb dAL_add3_18 ?_
  refine lv_topi (fun y9 e9 => ?_)
  cases (show y9 = nI (sq + 1) from e9.trans (nI_add sq 1))
  refine va_put (D := D) (ci := 12) (v := .int (nI (sq + 1))) (ty := .int) (C := R_AL) (T := T_AL) (N := 3) hx hb hT in_AL ty_AL ty_AL_ok m_AL hown hK hP hD hS 0 rfl rfl 1 (by decide) (hT _ w269) (fun _ h9 => h9) rfl (by decide +kernel) rfl rfl (Nat.le_of_ble_eq_true rfl) dAL_add3_19 (fun H locs hP hD hS => ?_)
  have hP : va_P D vwCl [(h, .inr (12, [.ref le, .int (nI (sq + 1)), .int md])), (le, .inl (cT 7, cap, .inr (.inr (.inr (.inr (va_up lf sq (some v))))))), (v, .inr (10, [.int v1, .int v2, .int v3, .int v4, .int v5, .int v6, .int v7, .int v8, .ref v9]))] _ := hP
  have hD : va_D A [(h, .inr (12, [.ref le, .int (nI (sq + 1)), .int md])), (le, .inl (cT 7, cap, .inr (.inr (.inr (.inr (va_up lf sq (some v))))))), (v, .inr (10, [.int v1, .int v2, .int v3, .int v4, .int v5, .int v6, .int v7, .int v8, .ref v9]))] := hD
  have hP9 := hP.sub (ws' := [(h, .inr (12, [.ref le, .int (nI (sq + 1)), .int md])), (le, .inl (cT 7, cap, .inr (.inr (.inr (.inr (va_up lf sq (some v))))))), (v, .inr (10, [.int v1, .int v2, .int v3, .int v4, .int v5, .int v6, .int v7, .int v8, .ref v9]))]) [0, 1, 2] rfl
  have hD9 := hD.sub (ws' := [(h, .inr (12, [.ref le, .int (nI (sq + 1)), .int md])), (le, .inl (cT 7, cap, .inr (.inr (.inr (.inr (va_up lf sq (some v))))))), (v, .inr (10, [.int v1, .int v2, .int v3, .int v4, .int v5, .int v6, .int v7, .int v8, .ref v9]))]) [0, 1, 2] (by decide) rfl
  refine W.widen (k := 0) (n := 0) (Nat.le_of_ble_eq_true rfl) (Nat.le_of_ble_eq_true rfl) ?_
  exact W.vret hx hb hr (fun t9 ht9 hW9 => ⟨⟨(), rfl, (show True from trivial), by rw [ht9]; exact hP9, hD9⟩, hS.F ht9⟩) hS.2.2 dAL_add3_22
set_option maxHeartbeats 4000000 in
set_option maxRecDepth 100000 in
theorem k_alAddN (l : Launch) (D : va_G) (cT : Nat → ClassId) (h : Nat) (le : Nat) (sq : Nat) (md : Int32) (cap : Nat) (lf : Nat → Option Nat) (v : Nat) (v1 : Int32) (v2 : Int32) (v3 : Int32) (v4 : Int32) (v5 : Int32) (v6 : Int32) (v7 : Int32) (v8 : Int32) (v9 : Nat) (hs9 : sq < cap) (hc9 : cap < 2 ^ 31) (sz : Nat) : Met l yAL_add WAL_add ({ frames := 1, cells := 0, slots := 0, locals := 23 } : Room) (RW D vwCl [.ref h, .ref v] [(h, .inr (12, [.ref le, .int (nI sq), .int md])), (le, .inl (cT 7, cap, .inr (.inr (.inr (.inr lf))))), (v, .inr (10, [.int v1, .int v2, .int v3, .int v4, .int v5, .int v6, .int v7, .int v8, .ref v9]))] (TY cT) sz) (va_Qi (fun (r9 : Int32) (u9 : Unit) => r9 = 1) (BW D vwCl (va_A [(h, .inr (12, [.ref le, .int (nI sq), .int md])), (le, .inl (cT 7, cap, .inr (.inr (.inr (.inr lf))))), (v, .inr (10, [.int v1, .int v2, .int v3, .int v4, .int v5, .int v6, .int v7, .int v8, .ref v9]))] sz) (fun u9 : Unit => [(h, .inr (12, [.ref le, .int (nI (sq + 1)), .int (md + 1)])), (le, .inl (cT 7, cap, .inr (.inr (.inr (.inr (va_up lf sq (some v))))))), (v, .inr (10, [.int v1, .int v2, .int v3, .int v4, .int v5, .int v6, .int v7, .int v8, .ref v9]))])) (va_A [(h, .inr (12, [.ref le, .int (nI sq), .int md])), (le, .inl (cT 7, cap, .inr (.inr (.inr (.inr lf))))), (v, .inr (10, [.int v1, .int v2, .int v3, .int v4, .int v5, .int v6, .int v7, .int v8, .ref v9]))] sz)) 0 0 (va_A [(h, .inr (12, [.ref le, .int (nI sq), .int md])), (le, .inl (cT 7, cap, .inr (.inr (.inr (.inr lf))))), (v, .inr (10, [.int v1, .int v2, .int v3, .int v4, .int v5, .int v6, .int v7, .int v8, .ref v9]))] sz) := by
  refine Met.ofW (cc := cAL_add) (maxL := 2) (ret := (some .boolean)) (by decide) rfl ?_
  intro p e s m args below meth c s₁ B hml hv
  obtain ⟨rfl, hsz, hZ, hP, hK, hD0⟩ := hv
  have hx := B.exec
  have hb := B.bytes
  have hr := B.returns
  have hts := atoms_spec (ws := WAL_add) B.pre
  have hT : ∀ w ∈ TB, w.before _ s = true := fun w h => hts w (List.mem_cons_of_mem _ h)
  have hown : s.vm.findClass R_AL = some m.cls := findClass_of_methodNamed B.named
  have hlocks := B.notSynchronized
  subst hsz
  have hD := hD0.self (sz := s.heap.size)
  generalize hAe : va_A [(h, .inr (12, [.ref le, .int (nI sq), .int md])), (le, .inl (cT 7, cap, .inr (.inr (.inr (.inr lf))))), (v, .inr (10, [.int v1, .int v2, .int v3, .int v4, .int v5, .int v6, .int v7, .int v8, .ref v9]))] s.heap.size = A at hD hZ ⊢
  have hA : ∀ q : Nat, s.heap.size ≤ q → A q := fun q h => by rw [← hAe]; exact Or.inr h
  have hS : va_S A s.heap s.heap [] := va_S.rf
  have hl := lv_entry ([.ref h, .ref v]) (n := 2) (Nat.le_of_ble_eq_true rfl)
  rw [lg_entry_eq]
  generalize (lg_sl ([.ref h, .ref v]) ++ List.replicate (2 - (lg_sl ([.ref h, .ref v])).length) Slot.unset).toArray = ls at hl ⊢
  have hl : lv_has ls 2 [(0, .ref h), (1, .ref v)] := hl
  refine lv_aload_n hx hb dAL_add_0 rfl (lv_at hl 0 rfl) ?_
  refine lv_dup hx hb dAL_add_1 rfl ?_
  refine va_get (D := D) (ci := 12) (v := .int md) (C := R_AL) (T := T_AL) (N := 3) hx hb hT in_AL hown hK hP 0 rfl rfl 2 (by decide) (hT _ w271) (u_same (hT _ w272)) rfl dAL_add_2 ?_
  refine lv_iconst (v := 1) hx hb dAL_add_5 (by decide) ?_
  refine lv_iadd hx hb dAL_add_6 ?_
  refine va_put (D := D) (ci := 12) (v := .int (md + 1)) (ty := .int) (C := R_AL) (T := T_AL) (N := 3) hx hb hT in_AL ty_AL ty_AL_ok m_AL hown hK hP hD hS 0 rfl rfl 2 (by decide) (hT _ w271) (u_same (hT _ w272)) rfl (by decide +kernel) rfl rfl (Nat.le_of_ble_eq_true rfl) dAL_add_7 (fun H locs hP hD hS => ?_)
  have hP : va_P D vwCl [(h, .inr (12, [.ref le, .int (nI sq), .int (md + 1)])), (le, .inl (cT 7, cap, .inr (.inr (.inr (.inr lf))))), (v, .inr (10, [.int v1, .int v2, .int v3, .int v4, .int v5, .int v6, .int v7, .int v8, .ref v9]))] _ := hP
  have hD : va_D A [(h, .inr (12, [.ref le, .int (nI sq), .int (md + 1)])), (le, .inl (cT 7, cap, .inr (.inr (.inr (.inr lf))))), (v, .inr (10, [.int v1, .int v2, .int v3, .int v4, .int v5, .int v6, .int v7, .int v8, .ref v9]))] := hD
  refine lv_aload_n hx hb dAL_add_10 rfl (lv_at hl 0 rfl) ?_
  refine lv_aload_n hx hb dAL_add_11 rfl (lv_at hl 1 rfl) ?_
  refine lv_aload_n hx hb dAL_add_12 rfl (lv_at hl 0 rfl) ?_
  refine va_get (D := D) (ci := 12) (v := .ref le) (C := R_AL) (T := T_AL) (N := 3) hx hb hT in_AL hown hK hP 0 rfl rfl 0 (by decide) (hT _ w268) (fun _ h9 => h9) rfl dAL_add_13 ?_
  refine lv_aload_n hx hb dAL_add_16 rfl (lv_at hl 0 rfl) ?_
  refine va_get (D := D) (ci := 12) (v := .int (nI sq)) (C := R_AL) (T := T_AL) (N := 3) hx hb hT in_AL hown hK hP 0 rfl rfl 1 (by decide) (hT _ w269) (fun _ h9 => h9) rfl dAL_add_17 ?_
  refine rw_v (wc := [(h, .inr (12, [.ref le, .int (nI sq), .int (md + 1)])), (le, .inl (cT 7, cap, .inr (.inr (.inr (.inr lf))))), (v, .inr (10, [.int v1, .int v2, .int v3, .int v4, .int v5, .int v6, .int v7, .int v8, .ref v9]))]) (wr := []) hP hD hS hA [0, 1, 2] [] rfl rfl (by decide) (by decide) (va_runV (As := [.ref v, .ref le, .int (nI sq)]) (rest := []) ⟨hx, hb, hml, hown, hT⟩ (k_alAdd3N l D cT h le sq (md + 1) cap lf v v1 v2 v3 v4 v5 v6 v7 v8 v9 hs9 hc9 _) ⟨callB_of 3 hT (tb_gd w761) rfl rfl rfl (hT _ w11) (hT _ w758) hAL_add3 ⟨Nat.le_of_ble_eq_true rfl, Nat.le_of_ble_eq_true rfl⟩, (hT _ w760), (hT _ wp9)⟩ (RW.preV (ci := 12) (q0 := 0) hZ hS (va_free (wc := [(h, .inr (12, [.ref le, .int (nI sq), .int (md + 1)])), (le, .inl (cT 7, cap, .inr (.inr (.inr (.inr lf))))), (v, .inr (10, [.int v1, .int v2, .int v3, .int v4, .int v5, .int v6, .int v7, .int v8, .ref v9]))]) hD hS hA [0, 1, 2] rfl) (hP.sub (ws' := [(h, .inr (12, [.ref le, .int (nI sq), .int (md + 1)])), (le, .inl (cT 7, cap, .inr (.inr (.inr (.inr lf))))), (v, .inr (10, [.int v1, .int v2, .int v3, .int v4, .int v5, .int v6, .int v7, .int v8, .ref v9]))]) [0, 1, 2] rfl) hK (hD.sub (ws' := [(h, .inr (12, [.ref le, .int (nI sq), .int (md + 1)])), (le, .inl (cT 7, cap, .inr (.inr (.inr (.inr lf))))), (v, .inr (10, [.int v1, .int v2, .int v3, .int v4, .int v5, .int v6, .int v7, .int v8, .ref v9]))]) [0, 1, 2] (by decide) rfl) rfl rfl) rfl rfl hl.1 rfl (lv_room (Nat.le_of_ble_eq_true rfl)) dAL_add_20 ⟨Nat.le_of_ble_eq_true rfl, Nat.le_of_ble_eq_true rfl⟩) (fun u9 H locs hpu1 hP hD hS => ?_)
  have hpu1 : True := hpu1
  have hP : va_P D vwCl [(h, .inr (12, [.ref le, .int (nI (sq + 1)), .int (md + 1)])), (le, .inl (cT 7, cap, .inr (.inr (.inr (.inr (va_up lf sq (some v))))))), (v, .inr (10, [.int v1, .int v2, .int v3, .int v4, .int v5, .int v6, .int v7, .int v8, .ref v9]))] _ := hP
  have hD : va_D A [(h, .inr (12, [.ref le, .int (nI (sq + 1)), .int (md + 1)])), (le, .inl (cT 7, cap, .inr (.inr (.inr (.inr (va_up lf sq (some v))))))), (v, .inr (10, [.int v1, .int v2, .int v3, .int v4, .int v5, .int v6, .int v7, .int v8, .ref v9]))] := hD
  refine lv_iconst (v := 1) hx hb dAL_add_23 (by decide) ?_
  have hP9 := hP.sub (ws' := [(h, .inr (12, [.ref le, .int (nI (sq + 1)), .int (md + 1)])), (le, .inl (cT 7, cap, .inr (.inr (.inr (.inr (va_up lf sq (some v))))))), (v, .inr (10, [.int v1, .int v2, .int v3, .int v4, .int v5, .int v6, .int v7, .int v8, .ref v9]))]) [0, 1, 2] rfl
  have hD9 := hD.sub (ws' := [(h, .inr (12, [.ref le, .int (nI (sq + 1)), .int (md + 1)])), (le, .inl (cT 7, cap, .inr (.inr (.inr (.inr (va_up lf sq (some v))))))), (v, .inr (10, [.int v1, .int v2, .int v3, .int v4, .int v5, .int v6, .int v7, .int v8, .ref v9]))]) [0, 1, 2] (by decide) rfl
  refine W.widen (k := 0) (n := 0) (Nat.le_of_ble_eq_true rfl) (Nat.le_of_ble_eq_true rfl) ?_
  exact W.zret (v := 1) hx hb hr rfl (fun t9 ht9 hW9 => ⟨⟨1, (), rfl, (show 1 = 1 from rfl), by rw [ht9]; exact hP9, hD9⟩, hS.F ht9⟩) hS.2.2 dAL_add_24
