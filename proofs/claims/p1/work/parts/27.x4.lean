set_option maxHeartbeats 4000000 in
set_option maxRecDepth 100000 in
theorem k_become (l : Launch) (D : va_G) (cT : Nat → ClassId) (h : Nat) (cv : Nat) (ce : Nat) (cn : Int32) (ck : Int32) (b : Int32) (hk : narrow .boolean (.int ck) = .int ck) (hb1 : narrow .boolean (.int b) = .int b) (hb2 : fits .boolean (.int b) = true) (sz : Nat) : Met l yC_become WC_become ({ frames := 0, cells := 0, slots := 0, locals := 0 } : Room) (RW D vwCl [.ref h, .int b] [(h, .inr (1, [.ref cv, .ref ce, .int cn, .int ck]))] (TY cT) sz) (va_Qi (fun (r : Int32) (_ : Nat → Nat) => r = ck) (BW D vwCl (va_A [(h, .inr (1, [.ref cv, .ref ce, .int cn, .int ck]))] sz) (fun u => [(h, .inr (1, [.ref cv, .ref ce, .int 0, .int b]))])) (va_A [(h, .inr (1, [.ref cv, .ref ce, .int cn, .int ck]))] sz)) 0 0 (va_A [(h, .inr (1, [.ref cv, .ref ce, .int cn, .int ck]))] sz) := by
  refine Met.ofW (cc := cC_become) (maxL := 3) (ret := (some .boolean)) (by decide) rfl ?_
  intro p e s m args below meth c s₁ B hml hv
  obtain ⟨rfl, hsz, hZ, hP, hK, hD0⟩ := hv
  have hx := B.exec
  have hb := B.bytes
  have hr := B.returns
  have hts := atoms_spec (ws := WC_become) B.pre
  have hT : ∀ w ∈ TB, w.before _ s = true := fun w h => hts w (List.mem_cons_of_mem _ h)
  have hown : s.vm.findClass R_C = some m.cls := findClass_of_methodNamed B.named
  have hlocks := B.notSynchronized
  subst hsz
  have hD := hD0.self (sz := s.heap.size)
  generalize hAe : va_A [(h, .inr (1, [.ref cv, .ref ce, .int cn, .int ck]))] s.heap.size = A at hD hZ ⊢
  have hA : ∀ q : Nat, s.heap.size ≤ q → A q := fun q h => by rw [← hAe]; exact Or.inr h
  have hS : va_S A s.heap s.heap [] := va_S.rf
  have hl := lv_entry ([.ref h, .int b]) (n := 3) (Nat.le_of_ble_eq_true rfl)
  rw [lg_entry_eq]
  generalize (lg_sl ([.ref h, .int b]) ++ List.replicate (3 - (lg_sl ([.ref h, .int b])).length) Slot.unset).toArray = ls at hl ⊢
  have hl : lv_has ls 3 [(0, .ref h), (1, .int b)] := hl
  refine lv_aload_n hx hb dC_become_0 rfl (lv_at hl 0 rfl) ?_
  refine va_get (D := D) (ci := 1) (v := .int ck) (C := R_C) (T := T_C) (N := 4) hx hb hT in_C hown hK hP 0 rfl rfl 3 (by decide) (hT _ w60) (fun _ h9 => h9) rfl dC_become_1 ?_
  refine lv_istore_n hx hb dC_become_4 rfl hl (by decide) rfl (fun ls hl => ?_)
  have hl : lv_has ls 3 [(2, .int ck), (0, .ref h), (1, .int b)] := hl
  refine lv_aload_n hx hb dC_become_5 rfl (lv_at hl 1 rfl) ?_
  refine lv_iload_n hx hb dC_become_6 rfl (lv_at hl 2 rfl) ?_
  refine va_put (D := D) (ci := 1) (v := .int b) (ty := .boolean) (C := R_C) (T := T_C) (N := 4) hx hb hT in_C ty_C ty_C_ok m_C hown hK hP hD hS 0 rfl rfl 3 (by decide) (hT _ w60) (fun _ h9 => h9) rfl (by decide +kernel) hb1 hb2 (Nat.le_of_ble_eq_true rfl) dC_become_7 (fun H locs hP hD hS => ?_)
  have hP : va_P D vwCl [(h, .inr (1, [.ref cv, .ref ce, .int cn, .int b]))] H := hP
  have hD : va_D A [(h, .inr (1, [.ref cv, .ref ce, .int cn, .int b]))] := hD
  refine lv_aload_n hx hb dC_become_10 rfl (lv_at hl 1 rfl) ?_
  refine lv_iconst (v := 0) hx hb dC_become_11 (by decide) ?_
  refine va_put (D := D) (ci := 1) (v := .int 0) (ty := .int) (C := R_C) (T := T_C) (N := 4) hx hb hT in_C ty_C ty_C_ok m_C hown hK hP hD hS 0 rfl rfl 2 (by decide) (hT _ w57) (fun _ h9 => h9) rfl (by decide +kernel) rfl rfl (Nat.le_of_ble_eq_true rfl) dC_become_12 (fun H locs hP hD hS => ?_)
  have hP : va_P D vwCl [(h, .inr (1, [.ref cv, .ref ce, .int 0, .int b]))] H := hP
  have hD : va_D A [(h, .inr (1, [.ref cv, .ref ce, .int 0, .int b]))] := hD
  refine lv_iload_n hx hb dC_become_15 rfl (lv_at hl 0 rfl) ?_
  have hP9 := hP.sub (ws' := [(h, .inr (1, [.ref cv, .ref ce, .int 0, .int b]))]) [0] rfl
  have hD9 := hD.sub (ws' := [(h, .inr (1, [.ref cv, .ref ce, .int 0, .int b]))]) [0] (by decide) rfl
  refine W.widen (k := 0) (n := 0) (Nat.le_of_ble_eq_true rfl) (Nat.le_of_ble_eq_true rfl) ?_
  exact W.zret (v := ck) hx hb hr hk (fun t ht hW => ⟨⟨ck, (fun _ => 0), rfl, rfl, by rw [ht]; exact hP9, hD9⟩, hS.F ht⟩) hS.2.2 dC_become_16
set_option maxHeartbeats 4000000 in
set_option maxRecDepth 100000 in
theorem k_exchangeQ (l : Launch) (D : va_G) (cT : Nat → ClassId) (h : Nat) (cv : Nat) (ce : Nat) (cn : Int32) (ck : Int32) (cf : Nat → Int32) (v : Int32) (sz : Nat) : Met l yC_exchange WC_exchange ({ frames := 0, cells := 0, slots := 0, locals := 0 } : Room) (RW D vwCl [.ref h, .int 48, .int v] [(h, .inr (1, [.ref cv, .ref ce, .int cn, .int ck])), (cv, .inl (cT 0, 49, .inl cf))] (TY cT) sz) (va_Qi (fun (r : Int32) (_ : Nat → Nat) => r = cf 48) (BW D vwCl (va_A [(h, .inr (1, [.ref cv, .ref ce, .int cn, .int ck])), (cv, .inl (cT 0, 49, .inl cf))] sz) (fun u => [(h, .inr (1, [.ref cv, .ref ce, .int cn, .int ck])), (cv, .inl (cT 0, 49, .inl (upd cf 48 v)))])) (va_A [(h, .inr (1, [.ref cv, .ref ce, .int cn, .int ck])), (cv, .inl (cT 0, 49, .inl cf))] sz)) 0 0 (va_A [(h, .inr (1, [.ref cv, .ref ce, .int cn, .int ck])), (cv, .inl (cT 0, 49, .inl cf))] sz) := by
  refine Met.ofW (cc := cC_exchange) (maxL := 4) (ret := (some .int)) (by decide) rfl ?_
  intro p e s m args below meth c s₁ B hml hv
  obtain ⟨rfl, hsz, hZ, hP, hK, hD0⟩ := hv
  have hx := B.exec
  have hb := B.bytes
  have hr := B.returns
  have hts := atoms_spec (ws := WC_exchange) B.pre
  have hT : ∀ w ∈ TB, w.before _ s = true := fun w h => hts w (List.mem_cons_of_mem _ h)
  have hown : s.vm.findClass R_C = some m.cls := findClass_of_methodNamed B.named
  have hlocks := B.notSynchronized
  subst hsz
  have hD := hD0.self (sz := s.heap.size)
  generalize hAe : va_A [(h, .inr (1, [.ref cv, .ref ce, .int cn, .int ck])), (cv, .inl (cT 0, 49, .inl cf))] s.heap.size = A at hD hZ ⊢
  have hA : ∀ q : Nat, s.heap.size ≤ q → A q := fun q h => by rw [← hAe]; exact Or.inr h
  have hS : va_S A s.heap s.heap [] := va_S.rf
  have hl := lv_entry ([.ref h, .int 48, .int v]) (n := 4) (Nat.le_of_ble_eq_true rfl)
  rw [lg_entry_eq]
  generalize (lg_sl ([.ref h, .int 48, .int v]) ++ List.replicate (4 - (lg_sl ([.ref h, .int 48, .int v])).length) Slot.unset).toArray = ls at hl ⊢
  have hl : lv_has ls 4 [(0, .ref h), (1, .int 48), (2, .int v)] := hl
  refine lv_aload_n hx hb dC_exchange_0 rfl (lv_at hl 0 rfl) ?_
  refine va_get (D := D) (ci := 1) (v := .ref cv) (C := R_C) (T := T_C) (N := 4) hx hb hT in_C hown hK hP 0 rfl rfl 0 (by decide) (hT _ w50) (fun _ h9 => h9) rfl dC_exchange_1 ?_
  refine lv_iload_n hx hb dC_exchange_4 rfl (lv_at hl 1 rfl) ?_
  refine va_iald hx hb hK hP 1 0 rfl rfl (by unfold vp_in; decide) dC_exchange_5 ?_
  refine lv_istore_n hx hb dC_exchange_6 rfl hl (by decide) rfl (fun ls hl => ?_)
  have hl : lv_has ls 4 [(3, .int (cf 48)), (0, .ref h), (1, .int 48), (2, .int v)] := hl
  refine lv_aload_n hx hb dC_exchange_7 rfl (lv_at hl 1 rfl) ?_
  refine va_get (D := D) (ci := 1) (v := .ref cv) (C := R_C) (T := T_C) (N := 4) hx hb hT in_C hown hK hP 0 rfl rfl 0 (by decide) (hT _ w50) (fun _ h9 => h9) rfl dC_exchange_8 ?_
  refine lv_iload_n hx hb dC_exchange_11 rfl (lv_at hl 2 rfl) ?_
  refine lv_iload_n hx hb dC_exchange_12 rfl (lv_at hl 3 rfl) ?_
  refine va_iast hx hb hK hP hD hS 1 0 rfl rfl (by unfold vp_in; decide) dC_exchange_13 (fun H locs hP hD hS => ?_)
  have hP : va_P D vwCl [(h, .inr (1, [.ref cv, .ref ce, .int cn, .int ck])), (cv, .inl (cT 0, 49, .inl (upd cf 48 v)))] H := hP
  have hD : va_D A [(h, .inr (1, [.ref cv, .ref ce, .int cn, .int ck])), (cv, .inl (cT 0, 49, .inl (upd cf 48 v)))] := hD
  refine lv_iload_n hx hb dC_exchange_14 rfl (lv_at hl 0 rfl) ?_
  have hP9 := hP.sub (ws' := [(h, .inr (1, [.ref cv, .ref ce, .int cn, .int ck])), (cv, .inl (cT 0, 49, .inl (upd cf 48 v)))]) [0, 1] rfl
  have hD9 := hD.sub (ws' := [(h, .inr (1, [.ref cv, .ref ce, .int cn, .int ck])), (cv, .inl (cT 0, 49, .inl (upd cf 48 v)))]) [0, 1] (by decide) rfl
  refine W.widen (k := 0) (n := 0) (Nat.le_of_ble_eq_true rfl) (Nat.le_of_ble_eq_true rfl) ?_
  exact W.iret (v := cf 48) hx hb hr (fun t ht hW => ⟨⟨cf 48, (fun _ => 0), rfl, rfl, by rw [ht]; exact hP9, hD9⟩, hS.F ht⟩) hS.2.2 dC_exchange_15
set_option maxHeartbeats 4000000 in
set_option maxRecDepth 100000 in
theorem k_cutEdges0 (l : Launch) (D : va_G) (cT : Nat → ClassId) (h : Nat) (cv : Nat) (ce : Nat) (cn : Int32) (ck : Int32) (b : Int32) (n : Int32) (so : Nat) (sz : Nat) : Met l yC_cutEdges WC_cutEdges ({ frames := 0, cells := 0, slots := 0, locals := 0 } : Room) (RW D vwCl [.ref h, .int b, .int n, .ref so, .int 0] [(h, .inr (1, [.ref cv, .ref ce, .int cn, .int ck]))] (TY cT) sz) (va_Qi (fun (r : Int32) (_ : Nat → Nat) => r = 0) (BW D vwCl (va_A [(h, .inr (1, [.ref cv, .ref ce, .int cn, .int ck]))] sz) (fun u => [(h, .inr (1, [.ref cv, .ref ce, .int 0, .int ck]))])) (va_A [(h, .inr (1, [.ref cv, .ref ce, .int cn, .int ck]))] sz)) 0 0 (va_A [(h, .inr (1, [.ref cv, .ref ce, .int cn, .int ck]))] sz) := by
  refine Met.ofW (cc := cC_cutEdges) (maxL := 10) (ret := (some .int)) (by decide) rfl ?_
  intro p e s m args below meth c s₁ B hml hv
  obtain ⟨rfl, hsz, hZ, hP, hK, hD0⟩ := hv
  have hx := B.exec
  have hb := B.bytes
  have hr := B.returns
  have hts := atoms_spec (ws := WC_cutEdges) B.pre
  have hT : ∀ w ∈ TB, w.before _ s = true := fun w h => hts w (List.mem_cons_of_mem _ h)
  have hown : s.vm.findClass R_C = some m.cls := findClass_of_methodNamed B.named
  have hlocks := B.notSynchronized
  subst hsz
  have hD := hD0.self (sz := s.heap.size)
  generalize hAe : va_A [(h, .inr (1, [.ref cv, .ref ce, .int cn, .int ck]))] s.heap.size = A at hD hZ ⊢
  have hA : ∀ q : Nat, s.heap.size ≤ q → A q := fun q h => by rw [← hAe]; exact Or.inr h
  have hS : va_S A s.heap s.heap [] := va_S.rf
  have hl := lv_entry ([.ref h, .int b, .int n, .ref so, .int 0]) (n := 10) (Nat.le_of_ble_eq_true rfl)
  rw [lg_entry_eq]
  generalize (lg_sl ([.ref h, .int b, .int n, .ref so, .int 0]) ++ List.replicate (10 - (lg_sl ([.ref h, .int b, .int n, .ref so, .int 0])).length) Slot.unset).toArray = ls at hl ⊢
  have hl : lv_has ls 10 [(0, .ref h), (1, .int b), (2, .int n), (3, .ref so), (4, .int 0)] := hl
  refine lv_aload_n hx hb dC_cutEdges_0 rfl (lv_at hl 0 rfl) ?_
  refine lv_iconst (v := 0) hx hb dC_cutEdges_1 (by decide) ?_
  refine va_put (D := D) (ci := 1) (v := .int 0) (ty := .int) (C := R_C) (T := T_C) (N := 4) hx hb hT in_C ty_C ty_C_ok m_C hown hK hP hD hS 0 rfl rfl 2 (by decide) (hT _ w57) (fun _ h9 => h9) rfl (by decide +kernel) rfl rfl (Nat.le_of_ble_eq_true rfl) dC_cutEdges_2 (fun H locs hP hD hS => ?_)
  have hP : va_P D vwCl [(h, .inr (1, [.ref cv, .ref ce, .int 0, .int ck]))] H := hP
  have hD : va_D A [(h, .inr (1, [.ref cv, .ref ce, .int 0, .int ck]))] := hD
  refine lv_iload hx hb dC_cutEdges_5 (lv_at hl 4 rfl) ?_
  refine lv_if_ne (tgt := 12) hx hb dC_cutEdges_7 rfl (fun h1 => absurd (by decide) h1) (fun _ => ?_)
  refine lv_iconst (v := 0) hx hb dC_cutEdges_10 (by decide) ?_
  have hP9 := hP.sub (ws' := [(h, .inr (1, [.ref cv, .ref ce, .int 0, .int ck]))]) [0] rfl
  have hD9 := hD.sub (ws' := [(h, .inr (1, [.ref cv, .ref ce, .int 0, .int ck]))]) [0] (by decide) rfl
  refine W.widen (k := 0) (n := 0) (Nat.le_of_ble_eq_true rfl) (Nat.le_of_ble_eq_true rfl) ?_
  exact W.iret (v := 0) hx hb hr (fun t ht hW => ⟨⟨0, (fun _ => 0), rfl, rfl, by rw [ht]; exact hP9, hD9⟩, hS.F ht⟩) hS.2.2 dC_cutEdges_11
set_option maxHeartbeats 4000000 in
set_option maxRecDepth 100000 in
theorem k_sortInto0 (l : Launch) (D : va_G) (cT : Nat → ClassId) (h : Nat) (cv : Nat) (ce : Nat) (cn : Int32) (ck : Int32) (so : Nat) : Met l yC_sortInto WC_sortInto ({ frames := 0, cells := 0, slots := 0, locals := 0 } : Room) (RO D vwCl [.ref h, .ref so, .int 0] [(h, .inr (1, [.ref cv, .ref ce, .int cn, .int ck]))] (TY cT)) (QcRead 0) 0 0 (fun _ => False) := by
  refine Met.ofW (cc := cC_sortInto) (maxL := 6) (ret := (some .int)) (by decide) rfl ?_
  intro p e s m args below meth c s₁ B hml hv
  obtain ⟨rfl, hZ, hP, hK⟩ := hv
  have hx := B.exec
  have hb := B.bytes
  have hr := B.returns
  have hts := atoms_spec (ws := WC_sortInto) B.pre
  have hT : ∀ w ∈ TB, w.before _ s = true := fun w h => hts w (List.mem_cons_of_mem _ h)
  have hown : s.vm.findClass R_C = some m.cls := findClass_of_methodNamed B.named
  have hlocks := B.notSynchronized
  have hS : va_S (fun _ => False) s.heap s.heap [] := va_S.rf
  have hl := lv_entry ([.ref h, .ref so, .int 0]) (n := 6) (Nat.le_of_ble_eq_true rfl)
  rw [lg_entry_eq]
  generalize (lg_sl ([.ref h, .ref so, .int 0]) ++ List.replicate (6 - (lg_sl ([.ref h, .ref so, .int 0])).length) Slot.unset).toArray = ls at hl ⊢
  have hl : lv_has ls 6 [(0, .ref h), (1, .ref so), (2, .int 0)] := hl
  refine lv_iconst (v := 0) hx hb dC_sortInto_0 (by decide) ?_
  refine lv_istore_n hx hb dC_sortInto_1 rfl hl (by decide) rfl (fun ls hl => ?_)
  have hl : lv_has ls 6 [(3, .int 0), (0, .ref h), (1, .ref so), (2, .int 0)] := hl
  refine lv_iconst (v := 0) hx hb dC_sortInto_2 (by decide) ?_
  refine lv_istore hx hb dC_sortInto_3 hl (by decide) rfl (fun ls hl => ?_)
  have hl : lv_has ls 6 [(4, .int 0), (3, .int 0), (0, .ref h), (1, .ref so), (2, .int 0)] := hl
  refine lv_iload hx hb dC_sortInto_5 (lv_at hl 0 rfl) ?_
  refine lv_iload_n hx hb dC_sortInto_7 rfl (lv_at hl 4 rfl) ?_
  refine lv_icmp_ge (tgt := 83) hx hb dC_sortInto_8 rfl (fun _ => ?_) (fun h1 => absurd (by decide) h1)
  refine lv_iload_n hx hb dC_sortInto_83 rfl (lv_at hl 1 rfl) ?_
  exact W.iret (v := 0) hx hb hr (fun t ht hW => ⟨rfl, ht⟩) (fun q h => nomatch h) dC_sortInto_84
set_option maxHeartbeats 4000000 in
set_option maxRecDepth 100000 in
theorem k_hasKinds0 (l : Launch) (D : va_G) (cT : Nat → ClassId) (h : Nat) (cv : Nat) (ce : Nat) (cn : Int32) (ck : Int32) : Met l yC_hasKindsAlone WC_hasKindsAlone ({ frames := 0, cells := 0, slots := 0, locals := 0 } : Room) (RO D vwCl [.ref h, .int 0] [(h, .inr (1, [.ref cv, .ref ce, .int cn, .int ck]))] (TY cT)) (QcRead 1) 0 0 (fun _ => False) := by
  refine Met.ofW (cc := cC_hasKindsAlone) (maxL := 4) (ret := (some .boolean)) (by decide) rfl ?_
  intro p e s m args below meth c s₁ B hml hv
  obtain ⟨rfl, hZ, hP, hK⟩ := hv
  have hx := B.exec
  have hb := B.bytes
  have hr := B.returns
  have hts := atoms_spec (ws := WC_hasKindsAlone) B.pre
  have hT : ∀ w ∈ TB, w.before _ s = true := fun w h => hts w (List.mem_cons_of_mem _ h)
  have hown : s.vm.findClass R_C = some m.cls := findClass_of_methodNamed B.named
  have hlocks := B.notSynchronized
  have hS : va_S (fun _ => False) s.heap s.heap [] := va_S.rf
  have hl := lv_entry ([.ref h, .int 0]) (n := 4) (Nat.le_of_ble_eq_true rfl)
  rw [lg_entry_eq]
  generalize (lg_sl ([.ref h, .int 0]) ++ List.replicate (4 - (lg_sl ([.ref h, .int 0])).length) Slot.unset).toArray = ls at hl ⊢
  have hl : lv_has ls 4 [(0, .ref h), (1, .int 0)] := hl
  refine lv_iconst (v := 1) hx hb dC_hasKindsAlone_0 (by decide) ?_
  refine lv_istore_n hx hb dC_hasKindsAlone_1 rfl hl (by decide) rfl (fun ls hl => ?_)
  have hl : lv_has ls 4 [(2, .int 1), (0, .ref h), (1, .int 0)] := hl
  refine lv_iconst (v := 0) hx hb dC_hasKindsAlone_2 (by decide) ?_
  refine lv_istore_n hx hb dC_hasKindsAlone_3 rfl hl (by decide) rfl (fun ls hl => ?_)
  have hl : lv_has ls 4 [(3, .int 0), (2, .int 1), (0, .ref h), (1, .int 0)] := hl
  refine lv_iload_n hx hb dC_hasKindsAlone_4 rfl (lv_at hl 0 rfl) ?_
  refine lv_iload_n hx hb dC_hasKindsAlone_5 rfl (lv_at hl 3 rfl) ?_
  refine lv_icmp_ge (tgt := 48) hx hb dC_hasKindsAlone_6 rfl (fun _ => ?_) (fun h1 => absurd (by decide) h1)
  refine lv_iload_n hx hb dC_hasKindsAlone_48 rfl (lv_at hl 1 rfl) ?_
  exact W.zret (v := 1) hx hb hr rfl (fun t ht hW => ⟨rfl, ht⟩) (fun q h => nomatch h) dC_hasKindsAlone_49
set_option maxHeartbeats 4000000 in
set_option maxRecDepth 100000 in
theorem k_binOf0 (l : Launch) (D : va_G) (cT : Nat → ClassId) (h : Nat) (cv : Nat) (ce : Nat) (v : Int32) : Met l yC_binOf WC_binOf ({ frames := 0, cells := 0, slots := 0, locals := 0 } : Room) (RO D vwCl [.ref h, .int v] [(h, .inr (1, [.ref cv, .ref ce, .int 0, .int 0]))] (TY cT)) (QcRead 0) 0 0 (fun _ => False) := by
  refine Met.ofW (cc := cC_binOf) (maxL := 3) (ret := (some .int)) (by decide) rfl ?_
  intro p e s m args below meth c s₁ B hml hv
  obtain ⟨rfl, hZ, hP, hK⟩ := hv
  have hx := B.exec
  have hb := B.bytes
  have hr := B.returns
  have hts := atoms_spec (ws := WC_binOf) B.pre
  have hT : ∀ w ∈ TB, w.before _ s = true := fun w h => hts w (List.mem_cons_of_mem _ h)
  have hown : s.vm.findClass R_C = some m.cls := findClass_of_methodNamed B.named
  have hlocks := B.notSynchronized
  have hS : va_S (fun _ => False) s.heap s.heap [] := va_S.rf
  have hl := lv_entry ([.ref h, .int v]) (n := 3) (Nat.le_of_ble_eq_true rfl)
  rw [lg_entry_eq]
  generalize (lg_sl ([.ref h, .int v]) ++ List.replicate (3 - (lg_sl ([.ref h, .int v])).length) Slot.unset).toArray = ls at hl ⊢
  have hl : lv_has ls 3 [(0, .ref h), (1, .int v)] := hl
  refine lv_aload_n hx hb dC_binOf_0 rfl (lv_at hl 0 rfl) ?_
  refine va_get (D := D) (ci := 1) (v := .int 0) (C := R_C) (T := T_C) (N := 4) hx hb hT in_C hown hK hP 0 rfl rfl 3 (by decide) (hT _ w60) (fun _ h9 => h9) rfl dC_binOf_1 ?_
  refine lv_if_eq (tgt := 9) hx hb dC_binOf_4 rfl (fun _ => ?_) (fun h1 => absurd (by decide) h1)
  refine lv_iconst (v := 0) hx hb dC_binOf_9 (by decide) ?_
  refine lv_istore_n hx hb dC_binOf_10 rfl hl (by decide) rfl (fun ls hl => ?_)
  have hl : lv_has ls 3 [(2, .int 0), (0, .ref h), (1, .int v)] := hl
  refine lv_iload_n hx hb dC_binOf_11 rfl (lv_at hl 0 rfl) ?_
  refine lv_aload_n hx hb dC_binOf_12 rfl (lv_at hl 1 rfl) ?_
  refine va_get (D := D) (ci := 1) (v := .int 0) (C := R_C) (T := T_C) (N := 4) hx hb hT in_C hown hK hP 0 rfl rfl 2 (by decide) (hT _ w57) (fun _ h9 => h9) rfl dC_binOf_13 ?_
  refine lv_icmp_ge (tgt := 35) hx hb dC_binOf_16 rfl (fun _ => ?_) (fun h2 => absurd (by decide) h2)
  refine lv_iload_n hx hb dC_binOf_35 rfl (lv_at hl 0 rfl) ?_
  exact W.iret (v := 0) hx hb hr (fun t ht hW => ⟨rfl, ht⟩) (fun q h => nomatch h) dC_binOf_36
set_option maxHeartbeats 4000000 in
set_option maxRecDepth 100000 in
theorem k_takes0 (l : Launch) (D : va_G) (cT : Nat → ClassId) (h : Nat) (cv : Nat) (ce : Nat) (cn : Int32) (v : Int32) : Met l yC_takes WC_takes ({ frames := 2, cells := 0, slots := 0, locals := 42 } : Room) (RO D vwCl [.ref h, .int v] [(h, .inr (1, [.ref cv, .ref ce, .int cn, .int 0]))] (TY cT)) (QcRead (bi (v = (-2147483648) ∨ ((-1000000) ≤ v ∧ v ≤ 1000000)))) 0 0 (fun _ => False) := by
  refine Met.ofW (cc := cC_takes) (maxL := 2) (ret := (some .boolean)) (by decide) rfl ?_
  intro p e s m args below meth c s₁ B hml hv
  obtain ⟨rfl, hZ, hP, hK⟩ := hv
  have hx := B.exec
  have hb := B.bytes
  have hr := B.returns
  have hts := atoms_spec (ws := WC_takes) B.pre
  have hT : ∀ w ∈ TB, w.before _ s = true := fun w h => hts w (List.mem_cons_of_mem _ h)
  have hown : s.vm.findClass R_C = some m.cls := findClass_of_methodNamed B.named
  have hlocks := B.notSynchronized
  have hS : va_S (fun _ => False) s.heap s.heap [] := va_S.rf
  have hl := lv_entry ([.ref h, .int v]) (n := 2) (Nat.le_of_ble_eq_true rfl)
  rw [lg_entry_eq]
  generalize (lg_sl ([.ref h, .int v]) ++ List.replicate (2 - (lg_sl ([.ref h, .int v])).length) Slot.unset).toArray = ls at hl ⊢
  have hl : lv_has ls 2 [(0, .ref h), (1, .int v)] := hl
  refine lv_iload_n hx hb dC_takes_0 rfl (lv_at hl 1 rfl) ?_
  refine lv_ldc (v := (-2147483648)) hx hb hown (hT _ w626) dC_takes_1 ?_
  refine lv_icmp_eq (tgt := 30) hx hb dC_takes_3 rfl (fun h1 => ?_) (fun h1 => ?_)
  · refine lv_iconst (v := 1) hx hb dC_takes_30 (by decide) ?_
    refine lv_goto (tgt := 35) hx hb dC_takes_31 rfl ?_
    exact W.zret (v := 1) hx hb hr rfl (fun t ht hW => ⟨by rw [bi_t (Or.inl h1)], ht⟩) (fun q h => nomatch h) dC_takes_35
  · refine lv_aload_n hx hb dC_takes_6 rfl (lv_at hl 0 rfl) ?_
    refine va_get (D := D) (ci := 1) (v := .int 0) (C := R_C) (T := T_C) (N := 4) hx hb hT in_C hown hK hP 0 rfl rfl 3 (by decide) (hT _ w60) (fun _ h9 => h9) rfl dC_takes_7 ?_
    refine lv_if_eq (tgt := 23) hx hb dC_takes_10 rfl (fun _ => ?_) (fun h2 => absurd (by decide) h2)
    refine lv_iload_n hx hb dC_takes_23 rfl (lv_at hl 1 rfl) ?_
    refine ro_i (va_Run.run (va_runSN (As := [.int v]) (rest := []) ⟨hx, hb, hml, hown, hT⟩ (k_isNumber l D cT v) ⟨va_cnB 1 hT (tb_gd w630) rfl rfl rfl (hZ.1.2.1 ("ResidualTrees$Column", 27, ⟨"ResidualTrees", "isNumber", "(I)Z"⟩, "ResidualTrees") (List.mem_of_getElem? (i := 9) rfl)) (hT _ w1) hR_isNumber ⟨Nat.le_of_ble_eq_true rfl, Nat.le_of_ble_eq_true rfl⟩, (hT _ w629), trivial⟩ (RO.preS hZ hS ((show va_P D vwCl [] _ from fun _ _ h => nomatch h)) hK) rfl rfl hl.1 rfl (lv_room (Nat.le_of_ble_eq_true rfl)) dC_takes_24 ⟨Nat.le_of_ble_eq_true rfl, Nat.le_of_ble_eq_true rfl⟩)) ?_
    refine lv_if_eq (tgt := 34) hx hb dC_takes_27 rfl (fun h3 => ?_) (fun h3 => ?_)
    · refine lv_iconst (v := 0) hx hb dC_takes_34 (by decide) ?_
      exact W.zret (v := 0) hx hb hr rfl (fun t ht hW => ⟨by rw [bi_f (fun q => q.elim h1 (bi_0 h3))], ht⟩) (fun q h => nomatch h) dC_takes_35
    · refine lv_iconst (v := 1) hx hb dC_takes_30 (by decide) ?_
      refine lv_goto (tgt := 35) hx hb dC_takes_31 rfl ?_
      exact W.zret (v := 1) hx hb hr rfl (fun t ht hW => ⟨by rw [bi_t (Or.inr (bi_1 h3))], ht⟩) (fun q h => nomatch h) dC_takes_35
set_option maxHeartbeats 4000000 in
set_option maxRecDepth 100000 in
theorem k_Table (l : Launch) (D : va_G) (cT : Nat → ClassId) (h : Nat) (sz : Nat) : Met l yT_init WT_init ({ frames := 2, cells := 20, slots := 439, locals := 32 } : Room) (RW D vwCl [.ref h] [(h, .inr (2, [.null, .null, .int 0, .int 0]))] (TY cT) sz) (va_Qv (fun _ : Nat → Nat => True) (BW D vwCl (va_A [(h, .inr (2, [.null, .null, .int 0, .int 0]))] sz) (fun u => [(h, .inr (2, [.ref (u 0), .ref (u 1), .int 0, .int 0])), ((u 0), .inl (cT 5, 6, .inr (.inr (.inr (.inr (va_up (va_up (va_up (va_up (va_up (va_up (fun _ => none) 0 (some (u 2))) 1 (some (u 5))) 2 (some (u 8))) 3 (some (u 11))) 4 (some (u 14))) 5 (some (u 17)))))))), ((u 1), .inl (cT 0, 49, .inl (fun _ => 0))), ((u 2), .inr (1, [.ref (u 3), .ref (u 4), .int 0, .int 0])), ((u 3), .inl (cT 0, 49, .inl (fun _ => 0))), ((u 4), .inl (cT 0, 11, .inl (fun _ => 0))), ((u 5), .inr (1, [.ref (u 6), .ref (u 7), .int 0, .int 0])), ((u 6), .inl (cT 0, 49, .inl (fun _ => 0))), ((u 7), .inl (cT 0, 11, .inl (fun _ => 0))), ((u 8), .inr (1, [.ref (u 9), .ref (u 10), .int 0, .int 0])), ((u 9), .inl (cT 0, 49, .inl (fun _ => 0))), ((u 10), .inl (cT 0, 11, .inl (fun _ => 0))), ((u 11), .inr (1, [.ref (u 12), .ref (u 13), .int 0, .int 0])), ((u 12), .inl (cT 0, 49, .inl (fun _ => 0))), ((u 13), .inl (cT 0, 11, .inl (fun _ => 0))), ((u 14), .inr (1, [.ref (u 15), .ref (u 16), .int 0, .int 0])), ((u 15), .inl (cT 0, 49, .inl (fun _ => 0))), ((u 16), .inl (cT 0, 11, .inl (fun _ => 0))), ((u 17), .inr (1, [.ref (u 18), .ref (u 19), .int 0, .int 0])), ((u 18), .inl (cT 0, 49, .inl (fun _ => 0))), ((u 19), .inl (cT 0, 11, .inl (fun _ => 0)))])) (va_A [(h, .inr (2, [.null, .null, .int 0, .int 0]))] sz)) 20 439 (va_A [(h, .inr (2, [.null, .null, .int 0, .int 0]))] sz) := by
  refine Met.ofW (cc := cT_init) (maxL := 2) (ret := none) (by decide) rfl ?_
  intro p e s m args below meth c s₁ B hml hv
  obtain ⟨rfl, hsz, hZ, hP, hK, hD0⟩ := hv
  have hx := B.exec
  have hb := B.bytes
  have hr := B.returns
  have hts := atoms_spec (ws := WT_init) B.pre
  have hT : ∀ w ∈ TB, w.before _ s = true := fun w h => hts w (List.mem_cons_of_mem _ h)
  have hown : s.vm.findClass R_T = some m.cls := findClass_of_methodNamed B.named
  have hlocks := B.notSynchronized
  have hin : meth.name = "<init>" := (name_of_methodNamed B.named B.method).1
  subst hsz
  have hD := hD0.self (sz := s.heap.size)
  generalize hAe : va_A [(h, .inr (2, [.null, .null, .int 0, .int 0]))] s.heap.size = A at hD hZ ⊢
  have hA : ∀ q : Nat, s.heap.size ≤ q → A q := fun q h => by rw [← hAe]; exact Or.inr h
  have hS : va_S A s.heap s.heap [] := va_S.rf
  have hl := lv_entry ([.ref h]) (n := 2) (Nat.le_of_ble_eq_true rfl)
  rw [lg_entry_eq]
  generalize (lg_sl ([.ref h]) ++ List.replicate (2 - (lg_sl ([.ref h])).length) Slot.unset).toArray = ls at hl ⊢
  have hl : lv_has ls 2 [(0, .ref h)] := hl
  refine lv_aload_n hx hb dT_init_0 rfl (lv_at hl 0 rfl) ?_
  refine W.objInit hx hb hown (hT _ w42) (hT _ w35) (hT _ w36) rfl (by rw [hml]; exact hl.1) rfl dT_init_1 (Nat.le_of_ble_eq_true rfl) (Nat.le_of_ble_eq_true rfl) ?_
  refine W.eq (g2 := F0 m 4 ls []) rfl ?_
  refine lv_aload_n hx hb dT_init_4 rfl (lv_at hl 0 rfl) ?_
  refine lv_bipush (v := 6) hx hb dT_init_5 (by decide) ?_
  refine nw_q (C := "ResidualTrees$Column") (N' := 6) hx hb hown (hT _ w43) (hZ.1.2.2.2.1 "ResidualTrees$Column" (List.mem_of_getElem? (i := 0) rfl)) hK hP hD hS hA 5 rfl (by decide +kernel) (by decide +kernel) (by decide +kernel) (Nat.le_of_ble_eq_true rfl) (Nat.le_of_ble_eq_true rfl) dT_init_7 (fun q7 H hP hD hS => ?_)
  have hP : va_P D vwCl [(h, .inr (2, [.null, .null, .int 0, .int 0])), (q7, .inl (cT 5, 6, .inr (.inr (.inr (.inr (fun _ => none))))))] H := hP
  have hD : va_D A [(h, .inr (2, [.null, .null, .int 0, .int 0])), (q7, .inl (cT 5, 6, .inr (.inr (.inr (.inr (fun _ => none))))))] := hD
  refine va_putF (D := D) (ci := 2) (v := .ref q7) (ty := .array (.object "ResidualTrees$Column")) (C := R_T) (T := T_T) (N := 4) hx hb hT in_T ty_T ty_T_ok m_T hown hK hP hD hS 0 rfl rfl 0 (by decide) (hT _ w73) (fun _ h9 => h9) rfl hin rfl (by decide +kernel) rfl rfl (Nat.le_of_ble_eq_true rfl) dT_init_10 (fun H locs hP hD hS => ?_)
  have hP : va_P D vwCl [(h, .inr (2, [.ref q7, .null, .int 0, .int 0])), (q7, .inl (cT 5, 6, .inr (.inr (.inr (.inr (fun _ => none))))))] H := hP
  have hD : va_D A [(h, .inr (2, [.ref q7, .null, .int 0, .int 0])), (q7, .inl (cT 5, 6, .inr (.inr (.inr (.inr (fun _ => none))))))] := hD
  refine lv_aload_n hx hb dT_init_13 rfl (lv_at hl 0 rfl) ?_
  refine lv_bipush (v := 49) hx hb dT_init_14 (by decide) ?_
  refine nw_a (atype := .int) (ty := .int) (a0 := (49, .inl (fun _ => 0))) (N' := 49) hx hb (hT _ w72) rfl hK hP hD hS hA 0 rfl (fun _ => rfl) (by decide +kernel) (by decide +kernel) (by decide +kernel) (Nat.le_of_ble_eq_true rfl) (Nat.le_of_ble_eq_true rfl) dT_init_16 (fun q16 H hP hD hS => ?_)
  have hP : va_P D vwCl [(h, .inr (2, [.ref q7, .null, .int 0, .int 0])), (q7, .inl (cT 5, 6, .inr (.inr (.inr (.inr (fun _ => none)))))), (q16, .inl (cT 0, 49, .inl (fun _ => 0)))] H := hP
  have hD : va_D A [(h, .inr (2, [.ref q7, .null, .int 0, .int 0])), (q7, .inl (cT 5, 6, .inr (.inr (.inr (.inr (fun _ => none)))))), (q16, .inl (cT 0, 49, .inl (fun _ => 0)))] := hD
  refine va_putF (D := D) (ci := 2) (v := .ref q16) (ty := .array .int) (C := R_T) (T := T_T) (N := 4) hx hb hT in_T ty_T ty_T_ok m_T hown hK hP hD hS 0 rfl rfl 1 (by decide) (hT _ w76) (fun _ h9 => h9) rfl hin rfl (by decide +kernel) rfl rfl (Nat.le_of_ble_eq_true rfl) dT_init_18 (fun H locs hP hD hS => ?_)
  have hP : va_P D vwCl [(h, .inr (2, [.ref q7, .ref q16, .int 0, .int 0])), (q7, .inl (cT 5, 6, .inr (.inr (.inr (.inr (fun _ => none)))))), (q16, .inl (cT 0, 49, .inl (fun _ => 0)))] H := hP
  have hD : va_D A [(h, .inr (2, [.ref q7, .ref q16, .int 0, .int 0])), (q7, .inl (cT 5, 6, .inr (.inr (.inr (.inr (fun _ => none)))))), (q16, .inl (cT 0, 49, .inl (fun _ => 0)))] := hD
  refine lv_iconst (v := 0) hx hb dT_init_21 (by decide) ?_
  refine lv_istore_n hx hb dT_init_22 rfl hl (by decide) rfl (fun ls hl => ?_)
  have hl : lv_has ls 2 [(1, .int 0), (0, .ref h)] := hl
  refine lv_iload_n hx hb dT_init_23 rfl (lv_at hl 0 rfl) ?_
  refine lv_bipush (v := 6) hx hb dT_init_24 (by decide) ?_
  refine lv_icmp_ge (tgt := 48) hx hb dT_init_26 rfl (fun h1 => absurd h1 (by decide)) (fun _ => ?_)
  refine lv_aload_n hx hb dT_init_29 rfl (lv_at hl 1 rfl) ?_
  refine va_get (D := D) (ci := 2) (v := .ref q7) (C := R_T) (T := T_T) (N := 4) hx hb hT in_T hown hK hP 0 rfl rfl 0 (by decide) (hT _ w73) (fun _ h9 => h9) rfl dT_init_30 ?_
  refine lv_iload_n hx hb dT_init_33 rfl (lv_at hl 0 rfl) ?_
  refine va_new (ci := 1) (fs := [.null, .null, .int 0, .int 0]) (C := R_C) (T := T_C) (N := 4) hx hb hT in_C ty_C ty_C_ok hown (hT _ w43) (hT _ w45) (hT _ w3) hK hP hD hS hA rfl (fun j hj => match j, hj with | 0, _ => rfl | 1, _ => rfl | 2, _ => rfl | 3, _ => rfl | _ + 4, hj => absurd hj (by omega)) (Nat.le_of_ble_eq_true rfl) (Nat.le_of_ble_eq_true rfl) dT_init_34 (fun q34 H hP hD hS => ?_)
  have hP : va_P D vwCl [(h, .inr (2, [.ref q7, .ref q16, .int 0, .int 0])), (q7, .inl (cT 5, 6, .inr (.inr (.inr (.inr (fun _ => none)))))), (q16, .inl (cT 0, 49, .inl (fun _ => 0))), (q34, .inr (1, [.null, .null, .int 0, .int 0]))] H := hP
  have hD : va_D A [(h, .inr (2, [.ref q7, .ref q16, .int 0, .int 0])), (q7, .inl (cT 5, 6, .inr (.inr (.inr (.inr (fun _ => none)))))), (q16, .inl (cT 0, 49, .inl (fun _ => 0))), (q34, .inr (1, [.null, .null, .int 0, .int 0]))] := hD
  refine lv_dup hx hb dT_init_37 rfl ?_
  refine rw_v (wc := [(q34, .inr (1, [.null, .null, .int 0, .int 0]))]) (wr := [(h, .inr (2, [.ref q7, .ref q16, .int 0, .int 0])), (q7, .inl (cT 5, 6, .inr (.inr (.inr (.inr (fun _ => none)))))), (q16, .inl (cT 0, 49, .inl (fun _ => 0)))]) hP hD hS hA [3] [0, 1, 2] rfl rfl (by decide) (by decide) (va_runIN (As := []) (rest := [.ref q34, .int 0, .ref q7]) ⟨hx, hb, hml, hown, hT⟩ (k_Column l D cT q34 _) ⟨va_cnB 0 hT (tb_gd w48) rfl rfl rfl (hZ.1.2.1 ("ResidualTrees$Table", 21, ⟨"ResidualTrees$Column", "<init>", "()V"⟩, "ResidualTrees") (List.mem_of_getElem? (i := 0) rfl)) (hT _ w3) hC_init ⟨Nat.le_of_ble_eq_true rfl, Nat.le_of_ble_eq_true rfl⟩, rfl, (hT _ w47)⟩ (RW.preS hZ hS (va_free (wc := [(q34, .inr (1, [.null, .null, .int 0, .int 0]))]) hD hS hA [3] rfl) (hP.sub (ws' := [(q34, .inr (1, [.null, .null, .int 0, .int 0]))]) [3] rfl) hK (hD.sub (ws' := [(q34, .inr (1, [.null, .null, .int 0, .int 0]))]) [3] (by decide) rfl)) rfl rfl hl.1 rfl (lv_room (Nat.le_of_ble_eq_true rfl)) dT_init_38 ⟨Nat.le_of_ble_eq_true rfl, Nat.le_of_ble_eq_true rfl⟩) (fun u2 H locs hpu2 hP hD hS => ?_)
  generalize u2 0 = u2x0 at hP hD
  generalize u2 1 = u2x1 at hP hD
  have hP : va_P D vwCl [(h, .inr (2, [.ref q7, .ref q16, .int 0, .int 0])), (q7, .inl (cT 5, 6, .inr (.inr (.inr (.inr (fun _ => none)))))), (q16, .inl (cT 0, 49, .inl (fun _ => 0))), (q34, .inr (1, [.ref u2x0, .ref u2x1, .int 0, .int 0])), (u2x0, .inl (cT 0, 49, .inl (fun _ => 0))), (u2x1, .inl (cT 0, 11, .inl (fun _ => 0)))] H := hP
  have hD : va_D A [(h, .inr (2, [.ref q7, .ref q16, .int 0, .int 0])), (q7, .inl (cT 5, 6, .inr (.inr (.inr (.inr (fun _ => none)))))), (q16, .inl (cT 0, 49, .inl (fun _ => 0))), (q34, .inr (1, [.ref u2x0, .ref u2x1, .int 0, .int 0])), (u2x0, .inl (cT 0, 49, .inl (fun _ => 0))), (u2x1, .inl (cT 0, 11, .inl (fun _ => 0)))] := hD
  refine va_astq hx hb hK hP hD hS 1 5 3 1 rfl rfl rfl rfl (by unfold vp_in; decide) dT_init_41 (fun H locs hP hD hS => ?_)
  have hP : va_P D vwCl [(h, .inr (2, [.ref q7, .ref q16, .int 0, .int 0])), (q7, .inl (cT 5, 6, .inr (.inr (.inr (.inr (va_up (fun _ => none) 0 (some q34))))))), (q16, .inl (cT 0, 49, .inl (fun _ => 0))), (q34, .inr (1, [.ref u2x0, .ref u2x1, .int 0, .int 0])), (u2x0, .inl (cT 0, 49, .inl (fun _ => 0))), (u2x1, .inl (cT 0, 11, .inl (fun _ => 0)))] H := hP
  have hD : va_D A [(h, .inr (2, [.ref q7, .ref q16, .int 0, .int 0])), (q7, .inl (cT 5, 6, .inr (.inr (.inr (.inr (va_up (fun _ => none) 0 (some q34))))))), (q16, .inl (cT 0, 49, .inl (fun _ => 0))), (q34, .inr (1, [.ref u2x0, .ref u2x1, .int 0, .int 0])), (u2x0, .inl (cT 0, 49, .inl (fun _ => 0))), (u2x1, .inl (cT 0, 11, .inl (fun _ => 0)))] := hD
  refine lv_iinc (k := 0) (v := 1) hx hb dT_init_42 hl rfl (by decide) (by decide) rfl (fun ls hl => ?_)
  have hl : lv_has ls 2 [(1, .int 1), (0, .ref h)] := hl
  refine lv_goto (tgt := 23) hx hb dT_init_45 rfl ?_
  refine lv_iload_n hx hb dT_init_23 rfl (lv_at hl 0 rfl) ?_
  refine lv_bipush (v := 6) hx hb dT_init_24 (by decide) ?_
  refine lv_icmp_ge (tgt := 48) hx hb dT_init_26 rfl (fun h3 => absurd h3 (by decide)) (fun _ => ?_)
  refine lv_aload_n hx hb dT_init_29 rfl (lv_at hl 1 rfl) ?_
  refine va_get (D := D) (ci := 2) (v := .ref q7) (C := R_T) (T := T_T) (N := 4) hx hb hT in_T hown hK hP 0 rfl rfl 0 (by decide) (hT _ w73) (fun _ h9 => h9) rfl dT_init_30 ?_
  refine lv_iload_n hx hb dT_init_33 rfl (lv_at hl 0 rfl) ?_
  refine va_new (ci := 1) (fs := [.null, .null, .int 0, .int 0]) (C := R_C) (T := T_C) (N := 4) hx hb hT in_C ty_C ty_C_ok hown (hT _ w43) (hT _ w45) (hT _ w3) hK hP hD hS hA rfl (fun j hj => match j, hj with | 0, _ => rfl | 1, _ => rfl | 2, _ => rfl | 3, _ => rfl | _ + 4, hj => absurd hj (by omega)) (Nat.le_of_ble_eq_true rfl) (Nat.le_of_ble_eq_true rfl) dT_init_34 (fun q34_1 H hP hD hS => ?_)
  have hP : va_P D vwCl [(h, .inr (2, [.ref q7, .ref q16, .int 0, .int 0])), (q7, .inl (cT 5, 6, .inr (.inr (.inr (.inr (va_up (fun _ => none) 0 (some q34))))))), (q16, .inl (cT 0, 49, .inl (fun _ => 0))), (q34, .inr (1, [.ref u2x0, .ref u2x1, .int 0, .int 0])), (u2x0, .inl (cT 0, 49, .inl (fun _ => 0))), (u2x1, .inl (cT 0, 11, .inl (fun _ => 0))), (q34_1, .inr (1, [.null, .null, .int 0, .int 0]))] H := hP
  have hD : va_D A [(h, .inr (2, [.ref q7, .ref q16, .int 0, .int 0])), (q7, .inl (cT 5, 6, .inr (.inr (.inr (.inr (va_up (fun _ => none) 0 (some q34))))))), (q16, .inl (cT 0, 49, .inl (fun _ => 0))), (q34, .inr (1, [.ref u2x0, .ref u2x1, .int 0, .int 0])), (u2x0, .inl (cT 0, 49, .inl (fun _ => 0))), (u2x1, .inl (cT 0, 11, .inl (fun _ => 0))), (q34_1, .inr (1, [.null, .null, .int 0, .int 0]))] := hD
  refine lv_dup hx hb dT_init_37 rfl ?_
  refine rw_v (wc := [(q34_1, .inr (1, [.null, .null, .int 0, .int 0]))]) (wr := [(h, .inr (2, [.ref q7, .ref q16, .int 0, .int 0])), (q7, .inl (cT 5, 6, .inr (.inr (.inr (.inr (va_up (fun _ => none) 0 (some q34))))))), (q16, .inl (cT 0, 49, .inl (fun _ => 0))), (q34, .inr (1, [.ref u2x0, .ref u2x1, .int 0, .int 0])), (u2x0, .inl (cT 0, 49, .inl (fun _ => 0))), (u2x1, .inl (cT 0, 11, .inl (fun _ => 0)))]) hP hD hS hA [6] [0, 1, 2, 3, 4, 5] rfl rfl (by decide) (by decide) (va_runIN (As := []) (rest := [.ref q34_1, .int 1, .ref q7]) ⟨hx, hb, hml, hown, hT⟩ (k_Column l D cT q34_1 _) ⟨va_cnB 0 hT (tb_gd w48) rfl rfl rfl (hZ.1.2.1 ("ResidualTrees$Table", 21, ⟨"ResidualTrees$Column", "<init>", "()V"⟩, "ResidualTrees") (List.mem_of_getElem? (i := 0) rfl)) (hT _ w3) hC_init ⟨Nat.le_of_ble_eq_true rfl, Nat.le_of_ble_eq_true rfl⟩, rfl, (hT _ w47)⟩ (RW.preS hZ hS (va_free (wc := [(q34_1, .inr (1, [.null, .null, .int 0, .int 0]))]) hD hS hA [6] rfl) (hP.sub (ws' := [(q34_1, .inr (1, [.null, .null, .int 0, .int 0]))]) [6] rfl) hK (hD.sub (ws' := [(q34_1, .inr (1, [.null, .null, .int 0, .int 0]))]) [6] (by decide) rfl)) rfl rfl hl.1 rfl (lv_room (Nat.le_of_ble_eq_true rfl)) dT_init_38 ⟨Nat.le_of_ble_eq_true rfl, Nat.le_of_ble_eq_true rfl⟩) (fun u4 H locs hpu4 hP hD hS => ?_)
  generalize u4 0 = u4x0 at hP hD
  generalize u4 1 = u4x1 at hP hD
  have hP : va_P D vwCl [(h, .inr (2, [.ref q7, .ref q16, .int 0, .int 0])), (q7, .inl (cT 5, 6, .inr (.inr (.inr (.inr (va_up (fun _ => none) 0 (some q34))))))), (q16, .inl (cT 0, 49, .inl (fun _ => 0))), (q34, .inr (1, [.ref u2x0, .ref u2x1, .int 0, .int 0])), (u2x0, .inl (cT 0, 49, .inl (fun _ => 0))), (u2x1, .inl (cT 0, 11, .inl (fun _ => 0))), (q34_1, .inr (1, [.ref u4x0, .ref u4x1, .int 0, .int 0])), (u4x0, .inl (cT 0, 49, .inl (fun _ => 0))), (u4x1, .inl (cT 0, 11, .inl (fun _ => 0)))] H := hP
  have hD : va_D A [(h, .inr (2, [.ref q7, .ref q16, .int 0, .int 0])), (q7, .inl (cT 5, 6, .inr (.inr (.inr (.inr (va_up (fun _ => none) 0 (some q34))))))), (q16, .inl (cT 0, 49, .inl (fun _ => 0))), (q34, .inr (1, [.ref u2x0, .ref u2x1, .int 0, .int 0])), (u2x0, .inl (cT 0, 49, .inl (fun _ => 0))), (u2x1, .inl (cT 0, 11, .inl (fun _ => 0))), (q34_1, .inr (1, [.ref u4x0, .ref u4x1, .int 0, .int 0])), (u4x0, .inl (cT 0, 49, .inl (fun _ => 0))), (u4x1, .inl (cT 0, 11, .inl (fun _ => 0)))] := hD
  refine va_astq hx hb hK hP hD hS 1 5 6 1 rfl rfl rfl rfl (by unfold vp_in; decide) dT_init_41 (fun H locs hP hD hS => ?_)
  have hP : va_P D vwCl [(h, .inr (2, [.ref q7, .ref q16, .int 0, .int 0])), (q7, .inl (cT 5, 6, .inr (.inr (.inr (.inr (va_up (va_up (fun _ => none) 0 (some q34)) 1 (some q34_1))))))), (q16, .inl (cT 0, 49, .inl (fun _ => 0))), (q34, .inr (1, [.ref u2x0, .ref u2x1, .int 0, .int 0])), (u2x0, .inl (cT 0, 49, .inl (fun _ => 0))), (u2x1, .inl (cT 0, 11, .inl (fun _ => 0))), (q34_1, .inr (1, [.ref u4x0, .ref u4x1, .int 0, .int 0])), (u4x0, .inl (cT 0, 49, .inl (fun _ => 0))), (u4x1, .inl (cT 0, 11, .inl (fun _ => 0)))] H := hP
  have hD : va_D A [(h, .inr (2, [.ref q7, .ref q16, .int 0, .int 0])), (q7, .inl (cT 5, 6, .inr (.inr (.inr (.inr (va_up (va_up (fun _ => none) 0 (some q34)) 1 (some q34_1))))))), (q16, .inl (cT 0, 49, .inl (fun _ => 0))), (q34, .inr (1, [.ref u2x0, .ref u2x1, .int 0, .int 0])), (u2x0, .inl (cT 0, 49, .inl (fun _ => 0))), (u2x1, .inl (cT 0, 11, .inl (fun _ => 0))), (q34_1, .inr (1, [.ref u4x0, .ref u4x1, .int 0, .int 0])), (u4x0, .inl (cT 0, 49, .inl (fun _ => 0))), (u4x1, .inl (cT 0, 11, .inl (fun _ => 0)))] := hD
  refine lv_iinc (k := 0) (v := 2) hx hb dT_init_42 hl rfl (by decide) (by decide) rfl (fun ls hl => ?_)
  have hl : lv_has ls 2 [(1, .int 2), (0, .ref h)] := hl
  refine lv_goto (tgt := 23) hx hb dT_init_45 rfl ?_
  refine lv_iload_n hx hb dT_init_23 rfl (lv_at hl 0 rfl) ?_
  refine lv_bipush (v := 6) hx hb dT_init_24 (by decide) ?_
  refine lv_icmp_ge (tgt := 48) hx hb dT_init_26 rfl (fun h5 => absurd h5 (by decide)) (fun _ => ?_)
  refine lv_aload_n hx hb dT_init_29 rfl (lv_at hl 1 rfl) ?_
  refine va_get (D := D) (ci := 2) (v := .ref q7) (C := R_T) (T := T_T) (N := 4) hx hb hT in_T hown hK hP 0 rfl rfl 0 (by decide) (hT _ w73) (fun _ h9 => h9) rfl dT_init_30 ?_
  refine lv_iload_n hx hb dT_init_33 rfl (lv_at hl 0 rfl) ?_
  refine va_new (ci := 1) (fs := [.null, .null, .int 0, .int 0]) (C := R_C) (T := T_C) (N := 4) hx hb hT in_C ty_C ty_C_ok hown (hT _ w43) (hT _ w45) (hT _ w3) hK hP hD hS hA rfl (fun j hj => match j, hj with | 0, _ => rfl | 1, _ => rfl | 2, _ => rfl | 3, _ => rfl | _ + 4, hj => absurd hj (by omega)) (Nat.le_of_ble_eq_true rfl) (Nat.le_of_ble_eq_true rfl) dT_init_34 (fun q34_2 H hP hD hS => ?_)
  have hP : va_P D vwCl [(h, .inr (2, [.ref q7, .ref q16, .int 0, .int 0])), (q7, .inl (cT 5, 6, .inr (.inr (.inr (.inr (va_up (va_up (fun _ => none) 0 (some q34)) 1 (some q34_1))))))), (q16, .inl (cT 0, 49, .inl (fun _ => 0))), (q34, .inr (1, [.ref u2x0, .ref u2x1, .int 0, .int 0])), (u2x0, .inl (cT 0, 49, .inl (fun _ => 0))), (u2x1, .inl (cT 0, 11, .inl (fun _ => 0))), (q34_1, .inr (1, [.ref u4x0, .ref u4x1, .int 0, .int 0])), (u4x0, .inl (cT 0, 49, .inl (fun _ => 0))), (u4x1, .inl (cT 0, 11, .inl (fun _ => 0))), (q34_2, .inr (1, [.null, .null, .int 0, .int 0]))] H := hP
  have hD : va_D A [(h, .inr (2, [.ref q7, .ref q16, .int 0, .int 0])), (q7, .inl (cT 5, 6, .inr (.inr (.inr (.inr (va_up (va_up (fun _ => none) 0 (some q34)) 1 (some q34_1))))))), (q16, .inl (cT 0, 49, .inl (fun _ => 0))), (q34, .inr (1, [.ref u2x0, .ref u2x1, .int 0, .int 0])), (u2x0, .inl (cT 0, 49, .inl (fun _ => 0))), (u2x1, .inl (cT 0, 11, .inl (fun _ => 0))), (q34_1, .inr (1, [.ref u4x0, .ref u4x1, .int 0, .int 0])), (u4x0, .inl (cT 0, 49, .inl (fun _ => 0))), (u4x1, .inl (cT 0, 11, .inl (fun _ => 0))), (q34_2, .inr (1, [.null, .null, .int 0, .int 0]))] := hD
  refine lv_dup hx hb dT_init_37 rfl ?_
  refine rw_v (wc := [(q34_2, .inr (1, [.null, .null, .int 0, .int 0]))]) (wr := [(h, .inr (2, [.ref q7, .ref q16, .int 0, .int 0])), (q7, .inl (cT 5, 6, .inr (.inr (.inr (.inr (va_up (va_up (fun _ => none) 0 (some q34)) 1 (some q34_1))))))), (q16, .inl (cT 0, 49, .inl (fun _ => 0))), (q34, .inr (1, [.ref u2x0, .ref u2x1, .int 0, .int 0])), (u2x0, .inl (cT 0, 49, .inl (fun _ => 0))), (u2x1, .inl (cT 0, 11, .inl (fun _ => 0))), (q34_1, .inr (1, [.ref u4x0, .ref u4x1, .int 0, .int 0])), (u4x0, .inl (cT 0, 49, .inl (fun _ => 0))), (u4x1, .inl (cT 0, 11, .inl (fun _ => 0)))]) hP hD hS hA [9] [0, 1, 2, 3, 4, 5, 6, 7, 8] rfl rfl (by decide) (by decide) (va_runIN (As := []) (rest := [.ref q34_2, .int 2, .ref q7]) ⟨hx, hb, hml, hown, hT⟩ (k_Column l D cT q34_2 _) ⟨va_cnB 0 hT (tb_gd w48) rfl rfl rfl (hZ.1.2.1 ("ResidualTrees$Table", 21, ⟨"ResidualTrees$Column", "<init>", "()V"⟩, "ResidualTrees") (List.mem_of_getElem? (i := 0) rfl)) (hT _ w3) hC_init ⟨Nat.le_of_ble_eq_true rfl, Nat.le_of_ble_eq_true rfl⟩, rfl, (hT _ w47)⟩ (RW.preS hZ hS (va_free (wc := [(q34_2, .inr (1, [.null, .null, .int 0, .int 0]))]) hD hS hA [9] rfl) (hP.sub (ws' := [(q34_2, .inr (1, [.null, .null, .int 0, .int 0]))]) [9] rfl) hK (hD.sub (ws' := [(q34_2, .inr (1, [.null, .null, .int 0, .int 0]))]) [9] (by decide) rfl)) rfl rfl hl.1 rfl (lv_room (Nat.le_of_ble_eq_true rfl)) dT_init_38 ⟨Nat.le_of_ble_eq_true rfl, Nat.le_of_ble_eq_true rfl⟩) (fun u6 H locs hpu6 hP hD hS => ?_)
  generalize u6 0 = u6x0 at hP hD
  generalize u6 1 = u6x1 at hP hD
  have hP : va_P D vwCl [(h, .inr (2, [.ref q7, .ref q16, .int 0, .int 0])), (q7, .inl (cT 5, 6, .inr (.inr (.inr (.inr (va_up (va_up (fun _ => none) 0 (some q34)) 1 (some q34_1))))))), (q16, .inl (cT 0, 49, .inl (fun _ => 0))), (q34, .inr (1, [.ref u2x0, .ref u2x1, .int 0, .int 0])), (u2x0, .inl (cT 0, 49, .inl (fun _ => 0))), (u2x1, .inl (cT 0, 11, .inl (fun _ => 0))), (q34_1, .inr (1, [.ref u4x0, .ref u4x1, .int 0, .int 0])), (u4x0, .inl (cT 0, 49, .inl (fun _ => 0))), (u4x1, .inl (cT 0, 11, .inl (fun _ => 0))), (q34_2, .inr (1, [.ref u6x0, .ref u6x1, .int 0, .int 0])), (u6x0, .inl (cT 0, 49, .inl (fun _ => 0))), (u6x1, .inl (cT 0, 11, .inl (fun _ => 0)))] H := hP
  have hD : va_D A [(h, .inr (2, [.ref q7, .ref q16, .int 0, .int 0])), (q7, .inl (cT 5, 6, .inr (.inr (.inr (.inr (va_up (va_up (fun _ => none) 0 (some q34)) 1 (some q34_1))))))), (q16, .inl (cT 0, 49, .inl (fun _ => 0))), (q34, .inr (1, [.ref u2x0, .ref u2x1, .int 0, .int 0])), (u2x0, .inl (cT 0, 49, .inl (fun _ => 0))), (u2x1, .inl (cT 0, 11, .inl (fun _ => 0))), (q34_1, .inr (1, [.ref u4x0, .ref u4x1, .int 0, .int 0])), (u4x0, .inl (cT 0, 49, .inl (fun _ => 0))), (u4x1, .inl (cT 0, 11, .inl (fun _ => 0))), (q34_2, .inr (1, [.ref u6x0, .ref u6x1, .int 0, .int 0])), (u6x0, .inl (cT 0, 49, .inl (fun _ => 0))), (u6x1, .inl (cT 0, 11, .inl (fun _ => 0)))] := hD
  refine va_astq hx hb hK hP hD hS 1 5 9 1 rfl rfl rfl rfl (by unfold vp_in; decide) dT_init_41 (fun H locs hP hD hS => ?_)
  have hP : va_P D vwCl [(h, .inr (2, [.ref q7, .ref q16, .int 0, .int 0])), (q7, .inl (cT 5, 6, .inr (.inr (.inr (.inr (va_up (va_up (va_up (fun _ => none) 0 (some q34)) 1 (some q34_1)) 2 (some q34_2))))))), (q16, .inl (cT 0, 49, .inl (fun _ => 0))), (q34, .inr (1, [.ref u2x0, .ref u2x1, .int 0, .int 0])), (u2x0, .inl (cT 0, 49, .inl (fun _ => 0))), (u2x1, .inl (cT 0, 11, .inl (fun _ => 0))), (q34_1, .inr (1, [.ref u4x0, .ref u4x1, .int 0, .int 0])), (u4x0, .inl (cT 0, 49, .inl (fun _ => 0))), (u4x1, .inl (cT 0, 11, .inl (fun _ => 0))), (q34_2, .inr (1, [.ref u6x0, .ref u6x1, .int 0, .int 0])), (u6x0, .inl (cT 0, 49, .inl (fun _ => 0))), (u6x1, .inl (cT 0, 11, .inl (fun _ => 0)))] H := hP
  have hD : va_D A [(h, .inr (2, [.ref q7, .ref q16, .int 0, .int 0])), (q7, .inl (cT 5, 6, .inr (.inr (.inr (.inr (va_up (va_up (va_up (fun _ => none) 0 (some q34)) 1 (some q34_1)) 2 (some q34_2))))))), (q16, .inl (cT 0, 49, .inl (fun _ => 0))), (q34, .inr (1, [.ref u2x0, .ref u2x1, .int 0, .int 0])), (u2x0, .inl (cT 0, 49, .inl (fun _ => 0))), (u2x1, .inl (cT 0, 11, .inl (fun _ => 0))), (q34_1, .inr (1, [.ref u4x0, .ref u4x1, .int 0, .int 0])), (u4x0, .inl (cT 0, 49, .inl (fun _ => 0))), (u4x1, .inl (cT 0, 11, .inl (fun _ => 0))), (q34_2, .inr (1, [.ref u6x0, .ref u6x1, .int 0, .int 0])), (u6x0, .inl (cT 0, 49, .inl (fun _ => 0))), (u6x1, .inl (cT 0, 11, .inl (fun _ => 0)))] := hD
  refine lv_iinc (k := 0) (v := 3) hx hb dT_init_42 hl rfl (by decide) (by decide) rfl (fun ls hl => ?_)
  have hl : lv_has ls 2 [(1, .int 3), (0, .ref h)] := hl
  refine lv_goto (tgt := 23) hx hb dT_init_45 rfl ?_
  refine lv_iload_n hx hb dT_init_23 rfl (lv_at hl 0 rfl) ?_
  refine lv_bipush (v := 6) hx hb dT_init_24 (by decide) ?_
  refine lv_icmp_ge (tgt := 48) hx hb dT_init_26 rfl (fun h7 => absurd h7 (by decide)) (fun _ => ?_)
  refine lv_aload_n hx hb dT_init_29 rfl (lv_at hl 1 rfl) ?_
  refine va_get (D := D) (ci := 2) (v := .ref q7) (C := R_T) (T := T_T) (N := 4) hx hb hT in_T hown hK hP 0 rfl rfl 0 (by decide) (hT _ w73) (fun _ h9 => h9) rfl dT_init_30 ?_
  refine lv_iload_n hx hb dT_init_33 rfl (lv_at hl 0 rfl) ?_
  refine va_new (ci := 1) (fs := [.null, .null, .int 0, .int 0]) (C := R_C) (T := T_C) (N := 4) hx hb hT in_C ty_C ty_C_ok hown (hT _ w43) (hT _ w45) (hT _ w3) hK hP hD hS hA rfl (fun j hj => match j, hj with | 0, _ => rfl | 1, _ => rfl | 2, _ => rfl | 3, _ => rfl | _ + 4, hj => absurd hj (by omega)) (Nat.le_of_ble_eq_true rfl) (Nat.le_of_ble_eq_true rfl) dT_init_34 (fun q34_3 H hP hD hS => ?_)
  have hP : va_P D vwCl [(h, .inr (2, [.ref q7, .ref q16, .int 0, .int 0])), (q7, .inl (cT 5, 6, .inr (.inr (.inr (.inr (va_up (va_up (va_up (fun _ => none) 0 (some q34)) 1 (some q34_1)) 2 (some q34_2))))))), (q16, .inl (cT 0, 49, .inl (fun _ => 0))), (q34, .inr (1, [.ref u2x0, .ref u2x1, .int 0, .int 0])), (u2x0, .inl (cT 0, 49, .inl (fun _ => 0))), (u2x1, .inl (cT 0, 11, .inl (fun _ => 0))), (q34_1, .inr (1, [.ref u4x0, .ref u4x1, .int 0, .int 0])), (u4x0, .inl (cT 0, 49, .inl (fun _ => 0))), (u4x1, .inl (cT 0, 11, .inl (fun _ => 0))), (q34_2, .inr (1, [.ref u6x0, .ref u6x1, .int 0, .int 0])), (u6x0, .inl (cT 0, 49, .inl (fun _ => 0))), (u6x1, .inl (cT 0, 11, .inl (fun _ => 0))), (q34_3, .inr (1, [.null, .null, .int 0, .int 0]))] H := hP
  have hD : va_D A [(h, .inr (2, [.ref q7, .ref q16, .int 0, .int 0])), (q7, .inl (cT 5, 6, .inr (.inr (.inr (.inr (va_up (va_up (va_up (fun _ => none) 0 (some q34)) 1 (some q34_1)) 2 (some q34_2))))))), (q16, .inl (cT 0, 49, .inl (fun _ => 0))), (q34, .inr (1, [.ref u2x0, .ref u2x1, .int 0, .int 0])), (u2x0, .inl (cT 0, 49, .inl (fun _ => 0))), (u2x1, .inl (cT 0, 11, .inl (fun _ => 0))), (q34_1, .inr (1, [.ref u4x0, .ref u4x1, .int 0, .int 0])), (u4x0, .inl (cT 0, 49, .inl (fun _ => 0))), (u4x1, .inl (cT 0, 11, .inl (fun _ => 0))), (q34_2, .inr (1, [.ref u6x0, .ref u6x1, .int 0, .int 0])), (u6x0, .inl (cT 0, 49, .inl (fun _ => 0))), (u6x1, .inl (cT 0, 11, .inl (fun _ => 0))), (q34_3, .inr (1, [.null, .null, .int 0, .int 0]))] := hD
  refine lv_dup hx hb dT_init_37 rfl ?_
  refine rw_v (wc := [(q34_3, .inr (1, [.null, .null, .int 0, .int 0]))]) (wr := [(h, .inr (2, [.ref q7, .ref q16, .int 0, .int 0])), (q7, .inl (cT 5, 6, .inr (.inr (.inr (.inr (va_up (va_up (va_up (fun _ => none) 0 (some q34)) 1 (some q34_1)) 2 (some q34_2))))))), (q16, .inl (cT 0, 49, .inl (fun _ => 0))), (q34, .inr (1, [.ref u2x0, .ref u2x1, .int 0, .int 0])), (u2x0, .inl (cT 0, 49, .inl (fun _ => 0))), (u2x1, .inl (cT 0, 11, .inl (fun _ => 0))), (q34_1, .inr (1, [.ref u4x0, .ref u4x1, .int 0, .int 0])), (u4x0, .inl (cT 0, 49, .inl (fun _ => 0))), (u4x1, .inl (cT 0, 11, .inl (fun _ => 0))), (q34_2, .inr (1, [.ref u6x0, .ref u6x1, .int 0, .int 0])), (u6x0, .inl (cT 0, 49, .inl (fun _ => 0))), (u6x1, .inl (cT 0, 11, .inl (fun _ => 0)))]) hP hD hS hA [12] [0, 1, 2, 3, 4, 5, 6, 7, 8, 9, 10, 11] rfl rfl (by decide) (by decide) (va_runIN (As := []) (rest := [.ref q34_3, .int 3, .ref q7]) ⟨hx, hb, hml, hown, hT⟩ (k_Column l D cT q34_3 _) ⟨va_cnB 0 hT (tb_gd w48) rfl rfl rfl (hZ.1.2.1 ("ResidualTrees$Table", 21, ⟨"ResidualTrees$Column", "<init>", "()V"⟩, "ResidualTrees") (List.mem_of_getElem? (i := 0) rfl)) (hT _ w3) hC_init ⟨Nat.le_of_ble_eq_true rfl, Nat.le_of_ble_eq_true rfl⟩, rfl, (hT _ w47)⟩ (RW.preS hZ hS (va_free (wc := [(q34_3, .inr (1, [.null, .null, .int 0, .int 0]))]) hD hS hA [12] rfl) (hP.sub (ws' := [(q34_3, .inr (1, [.null, .null, .int 0, .int 0]))]) [12] rfl) hK (hD.sub (ws' := [(q34_3, .inr (1, [.null, .null, .int 0, .int 0]))]) [12] (by decide) rfl)) rfl rfl hl.1 rfl (lv_room (Nat.le_of_ble_eq_true rfl)) dT_init_38 ⟨Nat.le_of_ble_eq_true rfl, Nat.le_of_ble_eq_true rfl⟩) (fun u8 H locs hpu8 hP hD hS => ?_)
  generalize u8 0 = u8x0 at hP hD
  generalize u8 1 = u8x1 at hP hD
  have hP : va_P D vwCl [(h, .inr (2, [.ref q7, .ref q16, .int 0, .int 0])), (q7, .inl (cT 5, 6, .inr (.inr (.inr (.inr (va_up (va_up (va_up (fun _ => none) 0 (some q34)) 1 (some q34_1)) 2 (some q34_2))))))), (q16, .inl (cT 0, 49, .inl (fun _ => 0))), (q34, .inr (1, [.ref u2x0, .ref u2x1, .int 0, .int 0])), (u2x0, .inl (cT 0, 49, .inl (fun _ => 0))), (u2x1, .inl (cT 0, 11, .inl (fun _ => 0))), (q34_1, .inr (1, [.ref u4x0, .ref u4x1, .int 0, .int 0])), (u4x0, .inl (cT 0, 49, .inl (fun _ => 0))), (u4x1, .inl (cT 0, 11, .inl (fun _ => 0))), (q34_2, .inr (1, [.ref u6x0, .ref u6x1, .int 0, .int 0])), (u6x0, .inl (cT 0, 49, .inl (fun _ => 0))), (u6x1, .inl (cT 0, 11, .inl (fun _ => 0))), (q34_3, .inr (1, [.ref u8x0, .ref u8x1, .int 0, .int 0])), (u8x0, .inl (cT 0, 49, .inl (fun _ => 0))), (u8x1, .inl (cT 0, 11, .inl (fun _ => 0)))] H := hP
  have hD : va_D A [(h, .inr (2, [.ref q7, .ref q16, .int 0, .int 0])), (q7, .inl (cT 5, 6, .inr (.inr (.inr (.inr (va_up (va_up (va_up (fun _ => none) 0 (some q34)) 1 (some q34_1)) 2 (some q34_2))))))), (q16, .inl (cT 0, 49, .inl (fun _ => 0))), (q34, .inr (1, [.ref u2x0, .ref u2x1, .int 0, .int 0])), (u2x0, .inl (cT 0, 49, .inl (fun _ => 0))), (u2x1, .inl (cT 0, 11, .inl (fun _ => 0))), (q34_1, .inr (1, [.ref u4x0, .ref u4x1, .int 0, .int 0])), (u4x0, .inl (cT 0, 49, .inl (fun _ => 0))), (u4x1, .inl (cT 0, 11, .inl (fun _ => 0))), (q34_2, .inr (1, [.ref u6x0, .ref u6x1, .int 0, .int 0])), (u6x0, .inl (cT 0, 49, .inl (fun _ => 0))), (u6x1, .inl (cT 0, 11, .inl (fun _ => 0))), (q34_3, .inr (1, [.ref u8x0, .ref u8x1, .int 0, .int 0])), (u8x0, .inl (cT 0, 49, .inl (fun _ => 0))), (u8x1, .inl (cT 0, 11, .inl (fun _ => 0)))] := hD
  refine va_astq hx hb hK hP hD hS 1 5 12 1 rfl rfl rfl rfl (by unfold vp_in; decide) dT_init_41 (fun H locs hP hD hS => ?_)
  have hP : va_P D vwCl [(h, .inr (2, [.ref q7, .ref q16, .int 0, .int 0])), (q7, .inl (cT 5, 6, .inr (.inr (.inr (.inr (va_up (va_up (va_up (va_up (fun _ => none) 0 (some q34)) 1 (some q34_1)) 2 (some q34_2)) 3 (some q34_3))))))), (q16, .inl (cT 0, 49, .inl (fun _ => 0))), (q34, .inr (1, [.ref u2x0, .ref u2x1, .int 0, .int 0])), (u2x0, .inl (cT 0, 49, .inl (fun _ => 0))), (u2x1, .inl (cT 0, 11, .inl (fun _ => 0))), (q34_1, .inr (1, [.ref u4x0, .ref u4x1, .int 0, .int 0])), (u4x0, .inl (cT 0, 49, .inl (fun _ => 0))), (u4x1, .inl (cT 0, 11, .inl (fun _ => 0))), (q34_2, .inr (1, [.ref u6x0, .ref u6x1, .int 0, .int 0])), (u6x0, .inl (cT 0, 49, .inl (fun _ => 0))), (u6x1, .inl (cT 0, 11, .inl (fun _ => 0))), (q34_3, .inr (1, [.ref u8x0, .ref u8x1, .int 0, .int 0])), (u8x0, .inl (cT 0, 49, .inl (fun _ => 0))), (u8x1, .inl (cT 0, 11, .inl (fun _ => 0)))] H := hP
  have hD : va_D A [(h, .inr (2, [.ref q7, .ref q16, .int 0, .int 0])), (q7, .inl (cT 5, 6, .inr (.inr (.inr (.inr (va_up (va_up (va_up (va_up (fun _ => none) 0 (some q34)) 1 (some q34_1)) 2 (some q34_2)) 3 (some q34_3))))))), (q16, .inl (cT 0, 49, .inl (fun _ => 0))), (q34, .inr (1, [.ref u2x0, .ref u2x1, .int 0, .int 0])), (u2x0, .inl (cT 0, 49, .inl (fun _ => 0))), (u2x1, .inl (cT 0, 11, .inl (fun _ => 0))), (q34_1, .inr (1, [.ref u4x0, .ref u4x1, .int 0, .int 0])), (u4x0, .inl (cT 0, 49, .inl (fun _ => 0))), (u4x1, .inl (cT 0, 11, .inl (fun _ => 0))), (q34_2, .inr (1, [.ref u6x0, .ref u6x1, .int 0, .int 0])), (u6x0, .inl (cT 0, 49, .inl (fun _ => 0))), (u6x1, .inl (cT 0, 11, .inl (fun _ => 0))), (q34_3, .inr (1, [.ref u8x0, .ref u8x1, .int 0, .int 0])), (u8x0, .inl (cT 0, 49, .inl (fun _ => 0))), (u8x1, .inl (cT 0, 11, .inl (fun _ => 0)))] := hD
  refine lv_iinc (k := 0) (v := 4) hx hb dT_init_42 hl rfl (by decide) (by decide) rfl (fun ls hl => ?_)
  have hl : lv_has ls 2 [(1, .int 4), (0, .ref h)] := hl
  refine lv_goto (tgt := 23) hx hb dT_init_45 rfl ?_
  refine lv_iload_n hx hb dT_init_23 rfl (lv_at hl 0 rfl) ?_
  refine lv_bipush (v := 6) hx hb dT_init_24 (by decide) ?_
  refine lv_icmp_ge (tgt := 48) hx hb dT_init_26 rfl (fun h9 => absurd h9 (by decide)) (fun _ => ?_)
  refine lv_aload_n hx hb dT_init_29 rfl (lv_at hl 1 rfl) ?_
  refine va_get (D := D) (ci := 2) (v := .ref q7) (C := R_T) (T := T_T) (N := 4) hx hb hT in_T hown hK hP 0 rfl rfl 0 (by decide) (hT _ w73) (fun _ h9 => h9) rfl dT_init_30 ?_
  refine lv_iload_n hx hb dT_init_33 rfl (lv_at hl 0 rfl) ?_
  refine va_new (ci := 1) (fs := [.null, .null, .int 0, .int 0]) (C := R_C) (T := T_C) (N := 4) hx hb hT in_C ty_C ty_C_ok hown (hT _ w43) (hT _ w45) (hT _ w3) hK hP hD hS hA rfl (fun j hj => match j, hj with | 0, _ => rfl | 1, _ => rfl | 2, _ => rfl | 3, _ => rfl | _ + 4, hj => absurd hj (by omega)) (Nat.le_of_ble_eq_true rfl) (Nat.le_of_ble_eq_true rfl) dT_init_34 (fun q34_4 H hP hD hS => ?_)
  have hP : va_P D vwCl [(h, .inr (2, [.ref q7, .ref q16, .int 0, .int 0])), (q7, .inl (cT 5, 6, .inr (.inr (.inr (.inr (va_up (va_up (va_up (va_up (fun _ => none) 0 (some q34)) 1 (some q34_1)) 2 (some q34_2)) 3 (some q34_3))))))), (q16, .inl (cT 0, 49, .inl (fun _ => 0))), (q34, .inr (1, [.ref u2x0, .ref u2x1, .int 0, .int 0])), (u2x0, .inl (cT 0, 49, .inl (fun _ => 0))), (u2x1, .inl (cT 0, 11, .inl (fun _ => 0))), (q34_1, .inr (1, [.ref u4x0, .ref u4x1, .int 0, .int 0])), (u4x0, .inl (cT 0, 49, .inl (fun _ => 0))), (u4x1, .inl (cT 0, 11, .inl (fun _ => 0))), (q34_2, .inr (1, [.ref u6x0, .ref u6x1, .int 0, .int 0])), (u6x0, .inl (cT 0, 49, .inl (fun _ => 0))), (u6x1, .inl (cT 0, 11, .inl (fun _ => 0))), (q34_3, .inr (1, [.ref u8x0, .ref u8x1, .int 0, .int 0])), (u8x0, .inl (cT 0, 49, .inl (fun _ => 0))), (u8x1, .inl (cT 0, 11, .inl (fun _ => 0))), (q34_4, .inr (1, [.null, .null, .int 0, .int 0]))] H := hP
  have hD : va_D A [(h, .inr (2, [.ref q7, .ref q16, .int 0, .int 0])), (q7, .inl (cT 5, 6, .inr (.inr (.inr (.inr (va_up (va_up (va_up (va_up (fun _ => none) 0 (some q34)) 1 (some q34_1)) 2 (some q34_2)) 3 (some q34_3))))))), (q16, .inl (cT 0, 49, .inl (fun _ => 0))), (q34, .inr (1, [.ref u2x0, .ref u2x1, .int 0, .int 0])), (u2x0, .inl (cT 0, 49, .inl (fun _ => 0))), (u2x1, .inl (cT 0, 11, .inl (fun _ => 0))), (q34_1, .inr (1, [.ref u4x0, .ref u4x1, .int 0, .int 0])), (u4x0, .inl (cT 0, 49, .inl (fun _ => 0))), (u4x1, .inl (cT 0, 11, .inl (fun _ => 0))), (q34_2, .inr (1, [.ref u6x0, .ref u6x1, .int 0, .int 0])), (u6x0, .inl (cT 0, 49, .inl (fun _ => 0))), (u6x1, .inl (cT 0, 11, .inl (fun _ => 0))), (q34_3, .inr (1, [.ref u8x0, .ref u8x1, .int 0, .int 0])), (u8x0, .inl (cT 0, 49, .inl (fun _ => 0))), (u8x1, .inl (cT 0, 11, .inl (fun _ => 0))), (q34_4, .inr (1, [.null, .null, .int 0, .int 0]))] := hD
  refine lv_dup hx hb dT_init_37 rfl ?_
  refine rw_v (wc := [(q34_4, .inr (1, [.null, .null, .int 0, .int 0]))]) (wr := [(h, .inr (2, [.ref q7, .ref q16, .int 0, .int 0])), (q7, .inl (cT 5, 6, .inr (.inr (.inr (.inr (va_up (va_up (va_up (va_up (fun _ => none) 0 (some q34)) 1 (some q34_1)) 2 (some q34_2)) 3 (some q34_3))))))), (q16, .inl (cT 0, 49, .inl (fun _ => 0))), (q34, .inr (1, [.ref u2x0, .ref u2x1, .int 0, .int 0])), (u2x0, .inl (cT 0, 49, .inl (fun _ => 0))), (u2x1, .inl (cT 0, 11, .inl (fun _ => 0))), (q34_1, .inr (1, [.ref u4x0, .ref u4x1, .int 0, .int 0])), (u4x0, .inl (cT 0, 49, .inl (fun _ => 0))), (u4x1, .inl (cT 0, 11, .inl (fun _ => 0))), (q34_2, .inr (1, [.ref u6x0, .ref u6x1, .int 0, .int 0])), (u6x0, .inl (cT 0, 49, .inl (fun _ => 0))), (u6x1, .inl (cT 0, 11, .inl (fun _ => 0))), (q34_3, .inr (1, [.ref u8x0, .ref u8x1, .int 0, .int 0])), (u8x0, .inl (cT 0, 49, .inl (fun _ => 0))), (u8x1, .inl (cT 0, 11, .inl (fun _ => 0)))]) hP hD hS hA [15] [0, 1, 2, 3, 4, 5, 6, 7, 8, 9, 10, 11, 12, 13, 14] rfl rfl (by decide) (by decide) (va_runIN (As := []) (rest := [.ref q34_4, .int 4, .ref q7]) ⟨hx, hb, hml, hown, hT⟩ (k_Column l D cT q34_4 _) ⟨va_cnB 0 hT (tb_gd w48) rfl rfl rfl (hZ.1.2.1 ("ResidualTrees$Table", 21, ⟨"ResidualTrees$Column", "<init>", "()V"⟩, "ResidualTrees") (List.mem_of_getElem? (i := 0) rfl)) (hT _ w3) hC_init ⟨Nat.le_of_ble_eq_true rfl, Nat.le_of_ble_eq_true rfl⟩, rfl, (hT _ w47)⟩ (RW.preS hZ hS (va_free (wc := [(q34_4, .inr (1, [.null, .null, .int 0, .int 0]))]) hD hS hA [15] rfl) (hP.sub (ws' := [(q34_4, .inr (1, [.null, .null, .int 0, .int 0]))]) [15] rfl) hK (hD.sub (ws' := [(q34_4, .inr (1, [.null, .null, .int 0, .int 0]))]) [15] (by decide) rfl)) rfl rfl hl.1 rfl (lv_room (Nat.le_of_ble_eq_true rfl)) dT_init_38 ⟨Nat.le_of_ble_eq_true rfl, Nat.le_of_ble_eq_true rfl⟩) (fun u10 H locs hpu10 hP hD hS => ?_)
  generalize u10 0 = u10x0 at hP hD
  generalize u10 1 = u10x1 at hP hD
  have hP : va_P D vwCl [(h, .inr (2, [.ref q7, .ref q16, .int 0, .int 0])), (q7, .inl (cT 5, 6, .inr (.inr (.inr (.inr (va_up (va_up (va_up (va_up (fun _ => none) 0 (some q34)) 1 (some q34_1)) 2 (some q34_2)) 3 (some q34_3))))))), (q16, .inl (cT 0, 49, .inl (fun _ => 0))), (q34, .inr (1, [.ref u2x0, .ref u2x1, .int 0, .int 0])), (u2x0, .inl (cT 0, 49, .inl (fun _ => 0))), (u2x1, .inl (cT 0, 11, .inl (fun _ => 0))), (q34_1, .inr (1, [.ref u4x0, .ref u4x1, .int 0, .int 0])), (u4x0, .inl (cT 0, 49, .inl (fun _ => 0))), (u4x1, .inl (cT 0, 11, .inl (fun _ => 0))), (q34_2, .inr (1, [.ref u6x0, .ref u6x1, .int 0, .int 0])), (u6x0, .inl (cT 0, 49, .inl (fun _ => 0))), (u6x1, .inl (cT 0, 11, .inl (fun _ => 0))), (q34_3, .inr (1, [.ref u8x0, .ref u8x1, .int 0, .int 0])), (u8x0, .inl (cT 0, 49, .inl (fun _ => 0))), (u8x1, .inl (cT 0, 11, .inl (fun _ => 0))), (q34_4, .inr (1, [.ref u10x0, .ref u10x1, .int 0, .int 0])), (u10x0, .inl (cT 0, 49, .inl (fun _ => 0))), (u10x1, .inl (cT 0, 11, .inl (fun _ => 0)))] H := hP
  have hD : va_D A [(h, .inr (2, [.ref q7, .ref q16, .int 0, .int 0])), (q7, .inl (cT 5, 6, .inr (.inr (.inr (.inr (va_up (va_up (va_up (va_up (fun _ => none) 0 (some q34)) 1 (some q34_1)) 2 (some q34_2)) 3 (some q34_3))))))), (q16, .inl (cT 0, 49, .inl (fun _ => 0))), (q34, .inr (1, [.ref u2x0, .ref u2x1, .int 0, .int 0])), (u2x0, .inl (cT 0, 49, .inl (fun _ => 0))), (u2x1, .inl (cT 0, 11, .inl (fun _ => 0))), (q34_1, .inr (1, [.ref u4x0, .ref u4x1, .int 0, .int 0])), (u4x0, .inl (cT 0, 49, .inl (fun _ => 0))), (u4x1, .inl (cT 0, 11, .inl (fun _ => 0))), (q34_2, .inr (1, [.ref u6x0, .ref u6x1, .int 0, .int 0])), (u6x0, .inl (cT 0, 49, .inl (fun _ => 0))), (u6x1, .inl (cT 0, 11, .inl (fun _ => 0))), (q34_3, .inr (1, [.ref u8x0, .ref u8x1, .int 0, .int 0])), (u8x0, .inl (cT 0, 49, .inl (fun _ => 0))), (u8x1, .inl (cT 0, 11, .inl (fun _ => 0))), (q34_4, .inr (1, [.ref u10x0, .ref u10x1, .int 0, .int 0])), (u10x0, .inl (cT 0, 49, .inl (fun _ => 0))), (u10x1, .inl (cT 0, 11, .inl (fun _ => 0)))] := hD
  refine va_astq hx hb hK hP hD hS 1 5 15 1 rfl rfl rfl rfl (by unfold vp_in; decide) dT_init_41 (fun H locs hP hD hS => ?_)
  have hP : va_P D vwCl [(h, .inr (2, [.ref q7, .ref q16, .int 0, .int 0])), (q7, .inl (cT 5, 6, .inr (.inr (.inr (.inr (va_up (va_up (va_up (va_up (va_up (fun _ => none) 0 (some q34)) 1 (some q34_1)) 2 (some q34_2)) 3 (some q34_3)) 4 (some q34_4))))))), (q16, .inl (cT 0, 49, .inl (fun _ => 0))), (q34, .inr (1, [.ref u2x0, .ref u2x1, .int 0, .int 0])), (u2x0, .inl (cT 0, 49, .inl (fun _ => 0))), (u2x1, .inl (cT 0, 11, .inl (fun _ => 0))), (q34_1, .inr (1, [.ref u4x0, .ref u4x1, .int 0, .int 0])), (u4x0, .inl (cT 0, 49, .inl (fun _ => 0))), (u4x1, .inl (cT 0, 11, .inl (fun _ => 0))), (q34_2, .inr (1, [.ref u6x0, .ref u6x1, .int 0, .int 0])), (u6x0, .inl (cT 0, 49, .inl (fun _ => 0))), (u6x1, .inl (cT 0, 11, .inl (fun _ => 0))), (q34_3, .inr (1, [.ref u8x0, .ref u8x1, .int 0, .int 0])), (u8x0, .inl (cT 0, 49, .inl (fun _ => 0))), (u8x1, .inl (cT 0, 11, .inl (fun _ => 0))), (q34_4, .inr (1, [.ref u10x0, .ref u10x1, .int 0, .int 0])), (u10x0, .inl (cT 0, 49, .inl (fun _ => 0))), (u10x1, .inl (cT 0, 11, .inl (fun _ => 0)))] H := hP
  have hD : va_D A [(h, .inr (2, [.ref q7, .ref q16, .int 0, .int 0])), (q7, .inl (cT 5, 6, .inr (.inr (.inr (.inr (va_up (va_up (va_up (va_up (va_up (fun _ => none) 0 (some q34)) 1 (some q34_1)) 2 (some q34_2)) 3 (some q34_3)) 4 (some q34_4))))))), (q16, .inl (cT 0, 49, .inl (fun _ => 0))), (q34, .inr (1, [.ref u2x0, .ref u2x1, .int 0, .int 0])), (u2x0, .inl (cT 0, 49, .inl (fun _ => 0))), (u2x1, .inl (cT 0, 11, .inl (fun _ => 0))), (q34_1, .inr (1, [.ref u4x0, .ref u4x1, .int 0, .int 0])), (u4x0, .inl (cT 0, 49, .inl (fun _ => 0))), (u4x1, .inl (cT 0, 11, .inl (fun _ => 0))), (q34_2, .inr (1, [.ref u6x0, .ref u6x1, .int 0, .int 0])), (u6x0, .inl (cT 0, 49, .inl (fun _ => 0))), (u6x1, .inl (cT 0, 11, .inl (fun _ => 0))), (q34_3, .inr (1, [.ref u8x0, .ref u8x1, .int 0, .int 0])), (u8x0, .inl (cT 0, 49, .inl (fun _ => 0))), (u8x1, .inl (cT 0, 11, .inl (fun _ => 0))), (q34_4, .inr (1, [.ref u10x0, .ref u10x1, .int 0, .int 0])), (u10x0, .inl (cT 0, 49, .inl (fun _ => 0))), (u10x1, .inl (cT 0, 11, .inl (fun _ => 0)))] := hD
  refine lv_iinc (k := 0) (v := 5) hx hb dT_init_42 hl rfl (by decide) (by decide) rfl (fun ls hl => ?_)
  have hl : lv_has ls 2 [(1, .int 5), (0, .ref h)] := hl
  refine lv_goto (tgt := 23) hx hb dT_init_45 rfl ?_
  refine lv_iload_n hx hb dT_init_23 rfl (lv_at hl 0 rfl) ?_
  refine lv_bipush (v := 6) hx hb dT_init_24 (by decide) ?_
  refine lv_icmp_ge (tgt := 48) hx hb dT_init_26 rfl (fun h11 => absurd h11 (by decide)) (fun _ => ?_)
  refine lv_aload_n hx hb dT_init_29 rfl (lv_at hl 1 rfl) ?_
  refine va_get (D := D) (ci := 2) (v := .ref q7) (C := R_T) (T := T_T) (N := 4) hx hb hT in_T hown hK hP 0 rfl rfl 0 (by decide) (hT _ w73) (fun _ h9 => h9) rfl dT_init_30 ?_
  refine lv_iload_n hx hb dT_init_33 rfl (lv_at hl 0 rfl) ?_
  refine va_new (ci := 1) (fs := [.null, .null, .int 0, .int 0]) (C := R_C) (T := T_C) (N := 4) hx hb hT in_C ty_C ty_C_ok hown (hT _ w43) (hT _ w45) (hT _ w3) hK hP hD hS hA rfl (fun j hj => match j, hj with | 0, _ => rfl | 1, _ => rfl | 2, _ => rfl | 3, _ => rfl | _ + 4, hj => absurd hj (by omega)) (Nat.le_of_ble_eq_true rfl) (Nat.le_of_ble_eq_true rfl) dT_init_34 (fun q34_5 H hP hD hS => ?_)
  have hP : va_P D vwCl [(h, .inr (2, [.ref q7, .ref q16, .int 0, .int 0])), (q7, .inl (cT 5, 6, .inr (.inr (.inr (.inr (va_up (va_up (va_up (va_up (va_up (fun _ => none) 0 (some q34)) 1 (some q34_1)) 2 (some q34_2)) 3 (some q34_3)) 4 (some q34_4))))))), (q16, .inl (cT 0, 49, .inl (fun _ => 0))), (q34, .inr (1, [.ref u2x0, .ref u2x1, .int 0, .int 0])), (u2x0, .inl (cT 0, 49, .inl (fun _ => 0))), (u2x1, .inl (cT 0, 11, .inl (fun _ => 0))), (q34_1, .inr (1, [.ref u4x0, .ref u4x1, .int 0, .int 0])), (u4x0, .inl (cT 0, 49, .inl (fun _ => 0))), (u4x1, .inl (cT 0, 11, .inl (fun _ => 0))), (q34_2, .inr (1, [.ref u6x0, .ref u6x1, .int 0, .int 0])), (u6x0, .inl (cT 0, 49, .inl (fun _ => 0))), (u6x1, .inl (cT 0, 11, .inl (fun _ => 0))), (q34_3, .inr (1, [.ref u8x0, .ref u8x1, .int 0, .int 0])), (u8x0, .inl (cT 0, 49, .inl (fun _ => 0))), (u8x1, .inl (cT 0, 11, .inl (fun _ => 0))), (q34_4, .inr (1, [.ref u10x0, .ref u10x1, .int 0, .int 0])), (u10x0, .inl (cT 0, 49, .inl (fun _ => 0))), (u10x1, .inl (cT 0, 11, .inl (fun _ => 0))), (q34_5, .inr (1, [.null, .null, .int 0, .int 0]))] H := hP
  have hD : va_D A [(h, .inr (2, [.ref q7, .ref q16, .int 0, .int 0])), (q7, .inl (cT 5, 6, .inr (.inr (.inr (.inr (va_up (va_up (va_up (va_up (va_up (fun _ => none) 0 (some q34)) 1 (some q34_1)) 2 (some q34_2)) 3 (some q34_3)) 4 (some q34_4))))))), (q16, .inl (cT 0, 49, .inl (fun _ => 0))), (q34, .inr (1, [.ref u2x0, .ref u2x1, .int 0, .int 0])), (u2x0, .inl (cT 0, 49, .inl (fun _ => 0))), (u2x1, .inl (cT 0, 11, .inl (fun _ => 0))), (q34_1, .inr (1, [.ref u4x0, .ref u4x1, .int 0, .int 0])), (u4x0, .inl (cT 0, 49, .inl (fun _ => 0))), (u4x1, .inl (cT 0, 11, .inl (fun _ => 0))), (q34_2, .inr (1, [.ref u6x0, .ref u6x1, .int 0, .int 0])), (u6x0, .inl (cT 0, 49, .inl (fun _ => 0))), (u6x1, .inl (cT 0, 11, .inl (fun _ => 0))), (q34_3, .inr (1, [.ref u8x0, .ref u8x1, .int 0, .int 0])), (u8x0, .inl (cT 0, 49, .inl (fun _ => 0))), (u8x1, .inl (cT 0, 11, .inl (fun _ => 0))), (q34_4, .inr (1, [.ref u10x0, .ref u10x1, .int 0, .int 0])), (u10x0, .inl (cT 0, 49, .inl (fun _ => 0))), (u10x1, .inl (cT 0, 11, .inl (fun _ => 0))), (q34_5, .inr (1, [.null, .null, .int 0, .int 0]))] := hD
  refine lv_dup hx hb dT_init_37 rfl ?_
  refine rw_v (wc := [(q34_5, .inr (1, [.null, .null, .int 0, .int 0]))]) (wr := [(h, .inr (2, [.ref q7, .ref q16, .int 0, .int 0])), (q7, .inl (cT 5, 6, .inr (.inr (.inr (.inr (va_up (va_up (va_up (va_up (va_up (fun _ => none) 0 (some q34)) 1 (some q34_1)) 2 (some q34_2)) 3 (some q34_3)) 4 (some q34_4))))))), (q16, .inl (cT 0, 49, .inl (fun _ => 0))), (q34, .inr (1, [.ref u2x0, .ref u2x1, .int 0, .int 0])), (u2x0, .inl (cT 0, 49, .inl (fun _ => 0))), (u2x1, .inl (cT 0, 11, .inl (fun _ => 0))), (q34_1, .inr (1, [.ref u4x0, .ref u4x1, .int 0, .int 0])), (u4x0, .inl (cT 0, 49, .inl (fun _ => 0))), (u4x1, .inl (cT 0, 11, .inl (fun _ => 0))), (q34_2, .inr (1, [.ref u6x0, .ref u6x1, .int 0, .int 0])), (u6x0, .inl (cT 0, 49, .inl (fun _ => 0))), (u6x1, .inl (cT 0, 11, .inl (fun _ => 0))), (q34_3, .inr (1, [.ref u8x0, .ref u8x1, .int 0, .int 0])), (u8x0, .inl (cT 0, 49, .inl (fun _ => 0))), (u8x1, .inl (cT 0, 11, .inl (fun _ => 0))), (q34_4, .inr (1, [.ref u10x0, .ref u10x1, .int 0, .int 0])), (u10x0, .inl (cT 0, 49, .inl (fun _ => 0))), (u10x1, .inl (cT 0, 11, .inl (fun _ => 0)))]) hP hD hS hA [18] [0, 1, 2, 3, 4, 5, 6, 7, 8, 9, 10, 11, 12, 13, 14, 15, 16, 17] rfl rfl (by decide) (by decide) (va_runIN (As := []) (rest := [.ref q34_5, .int 5, .ref q7]) ⟨hx, hb, hml, hown, hT⟩ (k_Column l D cT q34_5 _) ⟨va_cnB 0 hT (tb_gd w48) rfl rfl rfl (hZ.1.2.1 ("ResidualTrees$Table", 21, ⟨"ResidualTrees$Column", "<init>", "()V"⟩, "ResidualTrees") (List.mem_of_getElem? (i := 0) rfl)) (hT _ w3) hC_init ⟨Nat.le_of_ble_eq_true rfl, Nat.le_of_ble_eq_true rfl⟩, rfl, (hT _ w47)⟩ (RW.preS hZ hS (va_free (wc := [(q34_5, .inr (1, [.null, .null, .int 0, .int 0]))]) hD hS hA [18] rfl) (hP.sub (ws' := [(q34_5, .inr (1, [.null, .null, .int 0, .int 0]))]) [18] rfl) hK (hD.sub (ws' := [(q34_5, .inr (1, [.null, .null, .int 0, .int 0]))]) [18] (by decide) rfl)) rfl rfl hl.1 rfl (lv_room (Nat.le_of_ble_eq_true rfl)) dT_init_38 ⟨Nat.le_of_ble_eq_true rfl, Nat.le_of_ble_eq_true rfl⟩) (fun u12 H locs hpu12 hP hD hS => ?_)
  generalize u12 0 = u12x0 at hP hD
  generalize u12 1 = u12x1 at hP hD
  have hP : va_P D vwCl [(h, .inr (2, [.ref q7, .ref q16, .int 0, .int 0])), (q7, .inl (cT 5, 6, .inr (.inr (.inr (.inr (va_up (va_up (va_up (va_up (va_up (fun _ => none) 0 (some q34)) 1 (some q34_1)) 2 (some q34_2)) 3 (some q34_3)) 4 (some q34_4))))))), (q16, .inl (cT 0, 49, .inl (fun _ => 0))), (q34, .inr (1, [.ref u2x0, .ref u2x1, .int 0, .int 0])), (u2x0, .inl (cT 0, 49, .inl (fun _ => 0))), (u2x1, .inl (cT 0, 11, .inl (fun _ => 0))), (q34_1, .inr (1, [.ref u4x0, .ref u4x1, .int 0, .int 0])), (u4x0, .inl (cT 0, 49, .inl (fun _ => 0))), (u4x1, .inl (cT 0, 11, .inl (fun _ => 0))), (q34_2, .inr (1, [.ref u6x0, .ref u6x1, .int 0, .int 0])), (u6x0, .inl (cT 0, 49, .inl (fun _ => 0))), (u6x1, .inl (cT 0, 11, .inl (fun _ => 0))), (q34_3, .inr (1, [.ref u8x0, .ref u8x1, .int 0, .int 0])), (u8x0, .inl (cT 0, 49, .inl (fun _ => 0))), (u8x1, .inl (cT 0, 11, .inl (fun _ => 0))), (q34_4, .inr (1, [.ref u10x0, .ref u10x1, .int 0, .int 0])), (u10x0, .inl (cT 0, 49, .inl (fun _ => 0))), (u10x1, .inl (cT 0, 11, .inl (fun _ => 0))), (q34_5, .inr (1, [.ref u12x0, .ref u12x1, .int 0, .int 0])), (u12x0, .inl (cT 0, 49, .inl (fun _ => 0))), (u12x1, .inl (cT 0, 11, .inl (fun _ => 0)))] H := hP
  have hD : va_D A [(h, .inr (2, [.ref q7, .ref q16, .int 0, .int 0])), (q7, .inl (cT 5, 6, .inr (.inr (.inr (.inr (va_up (va_up (va_up (va_up (va_up (fun _ => none) 0 (some q34)) 1 (some q34_1)) 2 (some q34_2)) 3 (some q34_3)) 4 (some q34_4))))))), (q16, .inl (cT 0, 49, .inl (fun _ => 0))), (q34, .inr (1, [.ref u2x0, .ref u2x1, .int 0, .int 0])), (u2x0, .inl (cT 0, 49, .inl (fun _ => 0))), (u2x1, .inl (cT 0, 11, .inl (fun _ => 0))), (q34_1, .inr (1, [.ref u4x0, .ref u4x1, .int 0, .int 0])), (u4x0, .inl (cT 0, 49, .inl (fun _ => 0))), (u4x1, .inl (cT 0, 11, .inl (fun _ => 0))), (q34_2, .inr (1, [.ref u6x0, .ref u6x1, .int 0, .int 0])), (u6x0, .inl (cT 0, 49, .inl (fun _ => 0))), (u6x1, .inl (cT 0, 11, .inl (fun _ => 0))), (q34_3, .inr (1, [.ref u8x0, .ref u8x1, .int 0, .int 0])), (u8x0, .inl (cT 0, 49, .inl (fun _ => 0))), (u8x1, .inl (cT 0, 11, .inl (fun _ => 0))), (q34_4, .inr (1, [.ref u10x0, .ref u10x1, .int 0, .int 0])), (u10x0, .inl (cT 0, 49, .inl (fun _ => 0))), (u10x1, .inl (cT 0, 11, .inl (fun _ => 0))), (q34_5, .inr (1, [.ref u12x0, .ref u12x1, .int 0, .int 0])), (u12x0, .inl (cT 0, 49, .inl (fun _ => 0))), (u12x1, .inl (cT 0, 11, .inl (fun _ => 0)))] := hD
  refine va_astq hx hb hK hP hD hS 1 5 18 1 rfl rfl rfl rfl (by unfold vp_in; decide) dT_init_41 (fun H locs hP hD hS => ?_)
  have hP : va_P D vwCl [(h, .inr (2, [.ref q7, .ref q16, .int 0, .int 0])), (q7, .inl (cT 5, 6, .inr (.inr (.inr (.inr (va_up (va_up (va_up (va_up (va_up (va_up (fun _ => none) 0 (some q34)) 1 (some q34_1)) 2 (some q34_2)) 3 (some q34_3)) 4 (some q34_4)) 5 (some q34_5))))))), (q16, .inl (cT 0, 49, .inl (fun _ => 0))), (q34, .inr (1, [.ref u2x0, .ref u2x1, .int 0, .int 0])), (u2x0, .inl (cT 0, 49, .inl (fun _ => 0))), (u2x1, .inl (cT 0, 11, .inl (fun _ => 0))), (q34_1, .inr (1, [.ref u4x0, .ref u4x1, .int 0, .int 0])), (u4x0, .inl (cT 0, 49, .inl (fun _ => 0))), (u4x1, .inl (cT 0, 11, .inl (fun _ => 0))), (q34_2, .inr (1, [.ref u6x0, .ref u6x1, .int 0, .int 0])), (u6x0, .inl (cT 0, 49, .inl (fun _ => 0))), (u6x1, .inl (cT 0, 11, .inl (fun _ => 0))), (q34_3, .inr (1, [.ref u8x0, .ref u8x1, .int 0, .int 0])), (u8x0, .inl (cT 0, 49, .inl (fun _ => 0))), (u8x1, .inl (cT 0, 11, .inl (fun _ => 0))), (q34_4, .inr (1, [.ref u10x0, .ref u10x1, .int 0, .int 0])), (u10x0, .inl (cT 0, 49, .inl (fun _ => 0))), (u10x1, .inl (cT 0, 11, .inl (fun _ => 0))), (q34_5, .inr (1, [.ref u12x0, .ref u12x1, .int 0, .int 0])), (u12x0, .inl (cT 0, 49, .inl (fun _ => 0))), (u12x1, .inl (cT 0, 11, .inl (fun _ => 0)))] H := hP
  have hD : va_D A [(h, .inr (2, [.ref q7, .ref q16, .int 0, .int 0])), (q7, .inl (cT 5, 6, .inr (.inr (.inr (.inr (va_up (va_up (va_up (va_up (va_up (va_up (fun _ => none) 0 (some q34)) 1 (some q34_1)) 2 (some q34_2)) 3 (some q34_3)) 4 (some q34_4)) 5 (some q34_5))))))), (q16, .inl (cT 0, 49, .inl (fun _ => 0))), (q34, .inr (1, [.ref u2x0, .ref u2x1, .int 0, .int 0])), (u2x0, .inl (cT 0, 49, .inl (fun _ => 0))), (u2x1, .inl (cT 0, 11, .inl (fun _ => 0))), (q34_1, .inr (1, [.ref u4x0, .ref u4x1, .int 0, .int 0])), (u4x0, .inl (cT 0, 49, .inl (fun _ => 0))), (u4x1, .inl (cT 0, 11, .inl (fun _ => 0))), (q34_2, .inr (1, [.ref u6x0, .ref u6x1, .int 0, .int 0])), (u6x0, .inl (cT 0, 49, .inl (fun _ => 0))), (u6x1, .inl (cT 0, 11, .inl (fun _ => 0))), (q34_3, .inr (1, [.ref u8x0, .ref u8x1, .int 0, .int 0])), (u8x0, .inl (cT 0, 49, .inl (fun _ => 0))), (u8x1, .inl (cT 0, 11, .inl (fun _ => 0))), (q34_4, .inr (1, [.ref u10x0, .ref u10x1, .int 0, .int 0])), (u10x0, .inl (cT 0, 49, .inl (fun _ => 0))), (u10x1, .inl (cT 0, 11, .inl (fun _ => 0))), (q34_5, .inr (1, [.ref u12x0, .ref u12x1, .int 0, .int 0])), (u12x0, .inl (cT 0, 49, .inl (fun _ => 0))), (u12x1, .inl (cT 0, 11, .inl (fun _ => 0)))] := hD
  refine lv_iinc (k := 0) (v := 6) hx hb dT_init_42 hl rfl (by decide) (by decide) rfl (fun ls hl => ?_)
  have hl : lv_has ls 2 [(1, .int 6), (0, .ref h)] := hl
  refine lv_goto (tgt := 23) hx hb dT_init_45 rfl ?_
  refine lv_iload_n hx hb dT_init_23 rfl (lv_at hl 0 rfl) ?_
  refine lv_bipush (v := 6) hx hb dT_init_24 (by decide) ?_
  refine lv_icmp_ge (tgt := 48) hx hb dT_init_26 rfl (fun _ => ?_) (fun h13 => absurd (by decide) h13)
  have hP9 := hP.sub (ws' := [(h, .inr (2, [.ref q7, .ref q16, .int 0, .int 0])), (q7, .inl (cT 5, 6, .inr (.inr (.inr (.inr (va_up (va_up (va_up (va_up (va_up (va_up (fun _ => none) 0 (some q34)) 1 (some q34_1)) 2 (some q34_2)) 3 (some q34_3)) 4 (some q34_4)) 5 (some q34_5))))))), (q16, .inl (cT 0, 49, .inl (fun _ => 0))), (q34, .inr (1, [.ref u2x0, .ref u2x1, .int 0, .int 0])), (u2x0, .inl (cT 0, 49, .inl (fun _ => 0))), (u2x1, .inl (cT 0, 11, .inl (fun _ => 0))), (q34_1, .inr (1, [.ref u4x0, .ref u4x1, .int 0, .int 0])), (u4x0, .inl (cT 0, 49, .inl (fun _ => 0))), (u4x1, .inl (cT 0, 11, .inl (fun _ => 0))), (q34_2, .inr (1, [.ref u6x0, .ref u6x1, .int 0, .int 0])), (u6x0, .inl (cT 0, 49, .inl (fun _ => 0))), (u6x1, .inl (cT 0, 11, .inl (fun _ => 0))), (q34_3, .inr (1, [.ref u8x0, .ref u8x1, .int 0, .int 0])), (u8x0, .inl (cT 0, 49, .inl (fun _ => 0))), (u8x1, .inl (cT 0, 11, .inl (fun _ => 0))), (q34_4, .inr (1, [.ref u10x0, .ref u10x1, .int 0, .int 0])), (u10x0, .inl (cT 0, 49, .inl (fun _ => 0))), (u10x1, .inl (cT 0, 11, .inl (fun _ => 0))), (q34_5, .inr (1, [.ref u12x0, .ref u12x1, .int 0, .int 0])), (u12x0, .inl (cT 0, 49, .inl (fun _ => 0))), (u12x1, .inl (cT 0, 11, .inl (fun _ => 0)))]) [0, 1, 2, 3, 4, 5, 6, 7, 8, 9, 10, 11, 12, 13, 14, 15, 16, 17, 18, 19, 20] rfl
  have hD9 := hD.sub (ws' := [(h, .inr (2, [.ref q7, .ref q16, .int 0, .int 0])), (q7, .inl (cT 5, 6, .inr (.inr (.inr (.inr (va_up (va_up (va_up (va_up (va_up (va_up (fun _ => none) 0 (some q34)) 1 (some q34_1)) 2 (some q34_2)) 3 (some q34_3)) 4 (some q34_4)) 5 (some q34_5))))))), (q16, .inl (cT 0, 49, .inl (fun _ => 0))), (q34, .inr (1, [.ref u2x0, .ref u2x1, .int 0, .int 0])), (u2x0, .inl (cT 0, 49, .inl (fun _ => 0))), (u2x1, .inl (cT 0, 11, .inl (fun _ => 0))), (q34_1, .inr (1, [.ref u4x0, .ref u4x1, .int 0, .int 0])), (u4x0, .inl (cT 0, 49, .inl (fun _ => 0))), (u4x1, .inl (cT 0, 11, .inl (fun _ => 0))), (q34_2, .inr (1, [.ref u6x0, .ref u6x1, .int 0, .int 0])), (u6x0, .inl (cT 0, 49, .inl (fun _ => 0))), (u6x1, .inl (cT 0, 11, .inl (fun _ => 0))), (q34_3, .inr (1, [.ref u8x0, .ref u8x1, .int 0, .int 0])), (u8x0, .inl (cT 0, 49, .inl (fun _ => 0))), (u8x1, .inl (cT 0, 11, .inl (fun _ => 0))), (q34_4, .inr (1, [.ref u10x0, .ref u10x1, .int 0, .int 0])), (u10x0, .inl (cT 0, 49, .inl (fun _ => 0))), (u10x1, .inl (cT 0, 11, .inl (fun _ => 0))), (q34_5, .inr (1, [.ref u12x0, .ref u12x1, .int 0, .int 0])), (u12x0, .inl (cT 0, 49, .inl (fun _ => 0))), (u12x1, .inl (cT 0, 11, .inl (fun _ => 0)))]) [0, 1, 2, 3, 4, 5, 6, 7, 8, 9, 10, 11, 12, 13, 14, 15, 16, 17, 18, 19, 20] (by decide) rfl
  refine W.widen (k := 20) (n := 439) (Nat.le_of_ble_eq_true rfl) (Nat.le_of_ble_eq_true rfl) ?_
  exact W.vret hx hb hr (fun t ht hW => ⟨⟨(fun k => match k with | 0 => q7 | 1 => q16 | 2 => q34 | 3 => u2x0 | 4 => u2x1 | 5 => q34_1 | 6 => u4x0 | 7 => u4x1 | 8 => q34_2 | 9 => u6x0 | 10 => u6x1 | 11 => q34_3 | 12 => u8x0 | 13 => u8x1 | 14 => q34_4 | 15 => u10x0 | 16 => u10x1 | 17 => q34_5 | 18 => u12x0 | 19 => u12x1 | _ => 0), rfl, trivial, by rw [ht]; exact hP9, hD9⟩, hS.F ht⟩) hS.2.2 dT_init_48
set_option maxHeartbeats 4000000 in
set_option maxRecDepth 100000 in
theorem k_Group (l : Launch) (D : va_G) (cT : Nat → ClassId) (h : Nat) (sz : Nat) : Met l yG_init WG_init ({ frames := 2, cells := 2, slots := 27, locals := 33 } : Room) (RW D vwCl [.ref h] [(h, .inr (5, [.long 0, .null]))] (TY cT) sz) (va_Qv (fun _ : Nat → Nat => True) (BW D vwCl (va_A [(h, .inr (5, [.long 0, .null]))] sz) (fun u => [(h, .inr (5, [.long 0, .ref (u 0)])), ((u 0), .inr (4, [.ref (u 1), .int 0, .int 0])), ((u 1), .inl (cT 0, 24, .inl (fun _ => 0)))])) (va_A [(h, .inr (5, [.long 0, .null]))] sz)) 2 27 (va_A [(h, .inr (5, [.long 0, .null]))] sz) := by
  refine Met.ofW (cc := cG_init) (maxL := 1) (ret := none) (by decide) rfl ?_
  intro p e s m args below meth c s₁ B hml hv
  obtain ⟨rfl, hsz, hZ, hP, hK, hD0⟩ := hv
  have hx := B.exec
  have hb := B.bytes
  have hr := B.returns
  have hts := atoms_spec (ws := WG_init) B.pre
  have hT : ∀ w ∈ TB, w.before _ s = true := fun w h => hts w (List.mem_cons_of_mem _ h)
  have hown : s.vm.findClass R_G = some m.cls := findClass_of_methodNamed B.named
  have hlocks := B.notSynchronized
  have hin : meth.name = "<init>" := (name_of_methodNamed B.named B.method).1
  subst hsz
  have hD := hD0.self (sz := s.heap.size)
  generalize hAe : va_A [(h, .inr (5, [.long 0, .null]))] s.heap.size = A at hD hZ ⊢
  have hA : ∀ q : Nat, s.heap.size ≤ q → A q := fun q h => by rw [← hAe]; exact Or.inr h
  have hS : va_S A s.heap s.heap [] := va_S.rf
  have hl := lv_entry ([.ref h]) (n := 1) (Nat.le_of_ble_eq_true rfl)
  rw [lg_entry_eq]
  generalize (lg_sl ([.ref h]) ++ List.replicate (1 - (lg_sl ([.ref h])).length) Slot.unset).toArray = ls at hl ⊢
  have hl : lv_has ls 1 [(0, .ref h)] := hl
  refine lv_aload_n hx hb dG_init_0 rfl (lv_at hl 0 rfl) ?_
  refine W.objInit hx hb hown (hT _ w169) (hT _ w35) (hT _ w36) rfl (by rw [hml]; exact hl.1) rfl dG_init_1 (Nat.le_of_ble_eq_true rfl) (Nat.le_of_ble_eq_true rfl) ?_
  refine W.eq (g2 := F0 m 4 ls []) rfl ?_
  refine lv_aload_n hx hb dG_init_4 rfl (lv_at hl 0 rfl) ?_
  refine va_new (ci := 4) (fs := [.null, .int 0, .int 0]) (C := R_W) (T := T_W) (N := 3) hx hb hT in_W ty_W ty_W_ok hown (hT _ w170) (hT _ w140) (hT _ w5) hK hP hD hS hA rfl (fun j hj => match j, hj with | 0, _ => rfl | 1, _ => rfl | 2, _ => rfl | _ + 3, hj => absurd hj (by omega)) (Nat.le_of_ble_eq_true rfl) (Nat.le_of_ble_eq_true rfl) dG_init_5 (fun q5 H hP hD hS => ?_)
  have hP : va_P D vwCl [(h, .inr (5, [.long 0, .null])), (q5, .inr (4, [.null, .int 0, .int 0]))] H := hP
  have hD : va_D A [(h, .inr (5, [.long 0, .null])), (q5, .inr (4, [.null, .int 0, .int 0]))] := hD
  refine lv_dup hx hb dG_init_8 rfl ?_
  refine lv_bipush (v := 24) hx hb dG_init_9 (by decide) ?_
  refine rw_v (wc := [(q5, .inr (4, [.null, .int 0, .int 0]))]) (wr := [(h, .inr (5, [.long 0, .null]))]) hP hD hS hA [1] [0] rfl rfl (by decide) (by decide) (va_runI (As := [.int 24]) (rest := [.ref q5, .ref h]) ⟨hx, hb, hml, hown, hT⟩ (k_Whole24 l D cT q5 _) ⟨callB_of 1 hT (tb_gd w143) rfl rfl rfl (hT _ w5) (hT _ w171) hW_init ⟨Nat.le_of_ble_eq_true rfl, Nat.le_of_ble_eq_true rfl⟩, rfl, (hT _ w142)⟩ (RW.preS hZ hS (va_free (wc := [(q5, .inr (4, [.null, .int 0, .int 0]))]) hD hS hA [1] rfl) (hP.sub (ws' := [(q5, .inr (4, [.null, .int 0, .int 0]))]) [1] rfl) hK (hD.sub (ws' := [(q5, .inr (4, [.null, .int 0, .int 0]))]) [1] (by decide) rfl)) rfl rfl hl.1 rfl (lv_room (Nat.le_of_ble_eq_true rfl)) dG_init_11 ⟨Nat.le_of_ble_eq_true rfl, Nat.le_of_ble_eq_true rfl⟩) (fun u1 H locs hpu1 hP hD hS => ?_)
  generalize u1 0 = u1x0 at hP hD
  have hP : va_P D vwCl [(h, .inr (5, [.long 0, .null])), (q5, .inr (4, [.ref u1x0, .int 0, .int 0])), (u1x0, .inl (cT 0, 24, .inl (fun _ => 0)))] H := hP
  have hD : va_D A [(h, .inr (5, [.long 0, .null])), (q5, .inr (4, [.ref u1x0, .int 0, .int 0])), (u1x0, .inl (cT 0, 24, .inl (fun _ => 0)))] := hD
  refine va_putF (D := D) (ci := 5) (v := .ref q5) (ty := .object "ResidualTrees$Whole") (C := R_G) (T := T_G) (N := 2) hx hb hT in_G ty_G ty_G_ok m_G hown hK hP hD hS 0 rfl rfl 1 (by decide) (hT _ w174) (fun _ h9 => h9) rfl hin rfl (by decide +kernel) rfl rfl (Nat.le_of_ble_eq_true rfl) dG_init_14 (fun H locs hP hD hS => ?_)
  have hP : va_P D vwCl [(h, .inr (5, [.long 0, .ref q5])), (q5, .inr (4, [.ref u1x0, .int 0, .int 0])), (u1x0, .inl (cT 0, 24, .inl (fun _ => 0)))] H := hP
  have hD : va_D A [(h, .inr (5, [.long 0, .ref q5])), (q5, .inr (4, [.ref u1x0, .int 0, .int 0])), (u1x0, .inl (cT 0, 24, .inl (fun _ => 0)))] := hD
  have hP9 := hP.sub (ws' := [(h, .inr (5, [.long 0, .ref q5])), (q5, .inr (4, [.ref u1x0, .int 0, .int 0])), (u1x0, .inl (cT 0, 24, .inl (fun _ => 0)))]) [0, 1, 2] rfl
  have hD9 := hD.sub (ws' := [(h, .inr (5, [.long 0, .ref q5])), (q5, .inr (4, [.ref u1x0, .int 0, .int 0])), (u1x0, .inl (cT 0, 24, .inl (fun _ => 0)))]) [0, 1, 2] (by decide) rfl
  refine W.widen (k := 2) (n := 27) (Nat.le_of_ble_eq_true rfl) (Nat.le_of_ble_eq_true rfl) ?_
  exact W.vret hx hb hr (fun t ht hW => ⟨⟨(fun k => match k with | 0 => q5 | 1 => u1x0 | _ => 0), rfl, trivial, by rw [ht]; exact hP9, hD9⟩, hS.F ht⟩) hS.2.2 dG_init_17
set_option maxHeartbeats 4000000 in
set_option maxRecDepth 100000 in
theorem k_Split (l : Launch) (D : va_G) (cT : Nat → ClassId) (h : Nat) (sz : Nat) : Met l yS_init WS_init ({ frames := 2, cells := 2, slots := 51, locals := 33 } : Room) (RW D vwCl [.ref h] [(h, .inr (6, [.int 0, .int 0, .int 0, .int 0, .long 0, .null, .int 0]))] (TY cT) sz) (va_Qv (fun _ : Nat → Nat => True) (BW D vwCl (va_A [(h, .inr (6, [.int 0, .int 0, .int 0, .int 0, .long 0, .null, .int 0]))] sz) (fun u => [(h, .inr (6, [.int 0, .int 0, .int 0, .int 0, .long 0, .ref (u 0), .int 0])), ((u 0), .inr (4, [.ref (u 1), .int 0, .int 0])), ((u 1), .inl (cT 0, 48, .inl (fun _ => 0)))])) (va_A [(h, .inr (6, [.int 0, .int 0, .int 0, .int 0, .long 0, .null, .int 0]))] sz)) 2 51 (va_A [(h, .inr (6, [.int 0, .int 0, .int 0, .int 0, .long 0, .null, .int 0]))] sz) := by
  refine Met.ofW (cc := cS_init) (maxL := 1) (ret := none) (by decide) rfl ?_
  intro p e s m args below meth c s₁ B hml hv
  obtain ⟨rfl, hsz, hZ, hP, hK, hD0⟩ := hv
  have hx := B.exec
  have hb := B.bytes
  have hr := B.returns
  have hts := atoms_spec (ws := WS_init) B.pre
  have hT : ∀ w ∈ TB, w.before _ s = true := fun w h => hts w (List.mem_cons_of_mem _ h)
  have hown : s.vm.findClass R_S = some m.cls := findClass_of_methodNamed B.named
  have hlocks := B.notSynchronized
  have hin : meth.name = "<init>" := (name_of_methodNamed B.named B.method).1
  subst hsz
  have hD := hD0.self (sz := s.heap.size)
  generalize hAe : va_A [(h, .inr (6, [.int 0, .int 0, .int 0, .int 0, .long 0, .null, .int 0]))] s.heap.size = A at hD hZ ⊢
  have hA : ∀ q : Nat, s.heap.size ≤ q → A q := fun q h => by rw [← hAe]; exact Or.inr h
  have hS : va_S A s.heap s.heap [] := va_S.rf
  have hl := lv_entry ([.ref h]) (n := 1) (Nat.le_of_ble_eq_true rfl)
  rw [lg_entry_eq]
  generalize (lg_sl ([.ref h]) ++ List.replicate (1 - (lg_sl ([.ref h])).length) Slot.unset).toArray = ls at hl ⊢
  have hl : lv_has ls 1 [(0, .ref h)] := hl
  refine lv_aload_n hx hb dS_init_0 rfl (lv_at hl 0 rfl) ?_
  refine W.objInit hx hb hown (hT _ w188) (hT _ w35) (hT _ w36) rfl (by rw [hml]; exact hl.1) rfl dS_init_1 (Nat.le_of_ble_eq_true rfl) (Nat.le_of_ble_eq_true rfl) ?_
  refine W.eq (g2 := F0 m 4 ls []) rfl ?_
  refine lv_aload_n hx hb dS_init_4 rfl (lv_at hl 0 rfl) ?_
  refine va_new (ci := 4) (fs := [.null, .int 0, .int 0]) (C := R_W) (T := T_W) (N := 3) hx hb hT in_W ty_W ty_W_ok hown (hT _ w189) (hT _ w140) (hT _ w5) hK hP hD hS hA rfl (fun j hj => match j, hj with | 0, _ => rfl | 1, _ => rfl | 2, _ => rfl | _ + 3, hj => absurd hj (by omega)) (Nat.le_of_ble_eq_true rfl) (Nat.le_of_ble_eq_true rfl) dS_init_5 (fun q5 H hP hD hS => ?_)
  have hP : va_P D vwCl [(h, .inr (6, [.int 0, .int 0, .int 0, .int 0, .long 0, .null, .int 0])), (q5, .inr (4, [.null, .int 0, .int 0]))] H := hP
  have hD : va_D A [(h, .inr (6, [.int 0, .int 0, .int 0, .int 0, .long 0, .null, .int 0])), (q5, .inr (4, [.null, .int 0, .int 0]))] := hD
  refine lv_dup hx hb dS_init_8 rfl ?_
  refine lv_bipush (v := 48) hx hb dS_init_9 (by decide) ?_
  refine rw_v (wc := [(q5, .inr (4, [.null, .int 0, .int 0]))]) (wr := [(h, .inr (6, [.int 0, .int 0, .int 0, .int 0, .long 0, .null, .int 0]))]) hP hD hS hA [1] [0] rfl rfl (by decide) (by decide) (va_runI (As := [.int 48]) (rest := [.ref q5, .ref h]) ⟨hx, hb, hml, hown, hT⟩ (k_Whole48 l D cT q5 _) ⟨callB_of 1 hT (tb_gd w143) rfl rfl rfl (hT _ w5) (hT _ w190) hW_init ⟨Nat.le_of_ble_eq_true rfl, Nat.le_of_ble_eq_true rfl⟩, rfl, (hT _ w142)⟩ (RW.preS hZ hS (va_free (wc := [(q5, .inr (4, [.null, .int 0, .int 0]))]) hD hS hA [1] rfl) (hP.sub (ws' := [(q5, .inr (4, [.null, .int 0, .int 0]))]) [1] rfl) hK (hD.sub (ws' := [(q5, .inr (4, [.null, .int 0, .int 0]))]) [1] (by decide) rfl)) rfl rfl hl.1 rfl (lv_room (Nat.le_of_ble_eq_true rfl)) dS_init_11 ⟨Nat.le_of_ble_eq_true rfl, Nat.le_of_ble_eq_true rfl⟩) (fun u1 H locs hpu1 hP hD hS => ?_)
  generalize u1 0 = u1x0 at hP hD
  have hP : va_P D vwCl [(h, .inr (6, [.int 0, .int 0, .int 0, .int 0, .long 0, .null, .int 0])), (q5, .inr (4, [.ref u1x0, .int 0, .int 0])), (u1x0, .inl (cT 0, 48, .inl (fun _ => 0)))] H := hP
  have hD : va_D A [(h, .inr (6, [.int 0, .int 0, .int 0, .int 0, .long 0, .null, .int 0])), (q5, .inr (4, [.ref u1x0, .int 0, .int 0])), (u1x0, .inl (cT 0, 48, .inl (fun _ => 0)))] := hD
  refine va_putF (D := D) (ci := 6) (v := .ref q5) (ty := .object "ResidualTrees$Whole") (C := R_S) (T := T_S) (N := 7) hx hb hT in_S ty_S ty_S_ok m_S hown hK hP hD hS 0 rfl rfl 5 (by decide) (hT _ w196) (fun _ h9 => h9) rfl hin rfl (by decide +kernel) rfl rfl (Nat.le_of_ble_eq_true rfl) dS_init_14 (fun H locs hP hD hS => ?_)
  have hP : va_P D vwCl [(h, .inr (6, [.int 0, .int 0, .int 0, .int 0, .long 0, .ref q5, .int 0])), (q5, .inr (4, [.ref u1x0, .int 0, .int 0])), (u1x0, .inl (cT 0, 48, .inl (fun _ => 0)))] H := hP
  have hD : va_D A [(h, .inr (6, [.int 0, .int 0, .int 0, .int 0, .long 0, .ref q5, .int 0])), (q5, .inr (4, [.ref u1x0, .int 0, .int 0])), (u1x0, .inl (cT 0, 48, .inl (fun _ => 0)))] := hD
  have hP9 := hP.sub (ws' := [(h, .inr (6, [.int 0, .int 0, .int 0, .int 0, .long 0, .ref q5, .int 0])), (q5, .inr (4, [.ref u1x0, .int 0, .int 0])), (u1x0, .inl (cT 0, 48, .inl (fun _ => 0)))]) [0, 1, 2] rfl
  have hD9 := hD.sub (ws' := [(h, .inr (6, [.int 0, .int 0, .int 0, .int 0, .long 0, .ref q5, .int 0])), (q5, .inr (4, [.ref u1x0, .int 0, .int 0])), (u1x0, .inl (cT 0, 48, .inl (fun _ => 0)))]) [0, 1, 2] (by decide) rfl
  refine W.widen (k := 2) (n := 51) (Nat.le_of_ble_eq_true rfl) (Nat.le_of_ble_eq_true rfl) ?_
  exact W.vret hx hb hr (fun t ht hW => ⟨⟨(fun k => match k with | 0 => q5 | 1 => u1x0 | _ => 0), rfl, trivial, by rw [ht]; exact hP9, hD9⟩, hS.F ht⟩) hS.2.2 dS_init_17
set_option maxHeartbeats 4000000 in
set_option maxRecDepth 100000 in
theorem k_Out (l : Launch) (D : va_G) (cT : Nat → ClassId) (h : Nat) (sz : Nat) : Met l yO_init WO_init ({ frames := 2, cells := 6, slots := 969, locals := 33 } : Room) (RW D vwCl [.ref h] [(h, .inr (8, [.null, .int 0, .null, .null]))] (TY cT) sz) (va_Qv (fun _ : Nat → Nat => True) (BW D vwCl (va_A [(h, .inr (8, [.null, .int 0, .null, .null]))] sz) (fun u => [(h, .inr (8, [.ref (u 0), .int 0, .ref (u 1), .ref (u 4)])), ((u 0), .inl (cT 2, 866, .inl (fun _ => 0))), ((u 1), .inl (cT 4, 1, .inr (.inr (.inr (.inr (va_up (fun _ => none) 0 (some (u 2)))))))), ((u 2), .inr (4, [.ref (u 3), .int 0, .int 0])), ((u 3), .inl (cT 0, 48, .inl (fun _ => 0))), ((u 4), .inr (4, [.ref (u 5), .int 0, .int 0])), ((u 5), .inl (cT 0, 48, .inl (fun _ => 0)))])) (va_A [(h, .inr (8, [.null, .int 0, .null, .null]))] sz)) 6 969 (va_A [(h, .inr (8, [.null, .int 0, .null, .null]))] sz) := by
  refine Met.ofW (cc := cO_init) (maxL := 1) (ret := none) (by decide) rfl ?_
  intro p e s m args below meth c s₁ B hml hv
  obtain ⟨rfl, hsz, hZ, hP, hK, hD0⟩ := hv
  have hx := B.exec
  have hb := B.bytes
  have hr := B.returns
  have hts := atoms_spec (ws := WO_init) B.pre
  have hT : ∀ w ∈ TB, w.before _ s = true := fun w h => hts w (List.mem_cons_of_mem _ h)
  have hown : s.vm.findClass R_O = some m.cls := findClass_of_methodNamed B.named
  have hlocks := B.notSynchronized
  have hin : meth.name = "<init>" := (name_of_methodNamed B.named B.method).1
  subst hsz
  have hD := hD0.self (sz := s.heap.size)
  generalize hAe : va_A [(h, .inr (8, [.null, .int 0, .null, .null]))] s.heap.size = A at hD hZ ⊢
  have hA : ∀ q : Nat, s.heap.size ≤ q → A q := fun q h => by rw [← hAe]; exact Or.inr h
  have hS : va_S A s.heap s.heap [] := va_S.rf
  have hl := lv_entry ([.ref h]) (n := 1) (Nat.le_of_ble_eq_true rfl)
  rw [lg_entry_eq]
  generalize (lg_sl ([.ref h]) ++ List.replicate (1 - (lg_sl ([.ref h])).length) Slot.unset).toArray = ls at hl ⊢
  have hl : lv_has ls 1 [(0, .ref h)] := hl
  refine lv_aload_n hx hb dO_init_0 rfl (lv_at hl 0 rfl) ?_
  refine W.objInit hx hb hown (hT _ w285) (hT _ w35) (hT _ w36) rfl (by rw [hml]; exact hl.1) rfl dO_init_1 (Nat.le_of_ble_eq_true rfl) (Nat.le_of_ble_eq_true rfl) ?_
  refine W.eq (g2 := F0 m 4 ls []) rfl ?_
  refine lv_aload_n hx hb dO_init_4 rfl (lv_at hl 0 rfl) ?_
  refine lv_sipush (v := 866) hx hb dO_init_5 (by decide) ?_
  refine nw_a (atype := .byte) (ty := .byte) (a0 := (866, .inl (fun _ => 0))) (N' := 866) hx hb (hT _ w305) rfl hK hP hD hS hA 2 rfl (fun _ => rfl) (by decide +kernel) (by decide +kernel) (by decide +kernel) (Nat.le_of_ble_eq_true rfl) (Nat.le_of_ble_eq_true rfl) dO_init_8 (fun q8 H hP hD hS => ?_)
  have hP : va_P D vwCl [(h, .inr (8, [.null, .int 0, .null, .null])), (q8, .inl (cT 2, 866, .inl (fun _ => 0)))] H := hP
  have hD : va_D A [(h, .inr (8, [.null, .int 0, .null, .null])), (q8, .inl (cT 2, 866, .inl (fun _ => 0)))] := hD
  refine va_putF (D := D) (ci := 8) (v := .ref q8) (ty := .array .byte) (C := R_O) (T := T_O) (N := 4) hx hb hT in_O ty_O ty_O_ok m_O hown hK hP hD hS 0 rfl rfl 0 (by decide) (hT _ w288) (fun _ h9 => h9) rfl hin rfl (by decide +kernel) rfl rfl (Nat.le_of_ble_eq_true rfl) dO_init_10 (fun H locs hP hD hS => ?_)
  have hP : va_P D vwCl [(h, .inr (8, [.ref q8, .int 0, .null, .null])), (q8, .inl (cT 2, 866, .inl (fun _ => 0)))] H := hP
  have hD : va_D A [(h, .inr (8, [.ref q8, .int 0, .null, .null])), (q8, .inl (cT 2, 866, .inl (fun _ => 0)))] := hD
  refine lv_aload_n hx hb dO_init_13 rfl (lv_at hl 0 rfl) ?_
  refine lv_iconst (v := 1) hx hb dO_init_14 (by decide) ?_
  refine nw_q (C := "ResidualTrees$Whole") (N' := 1) hx hb hown (hT _ w286) (hZ.1.2.2.2.1 "ResidualTrees$Whole" (List.mem_of_getElem? (i := 1) rfl)) hK hP hD hS hA 4 rfl (by decide +kernel) (by decide +kernel) (by decide +kernel) (Nat.le_of_ble_eq_true rfl) (Nat.le_of_ble_eq_true rfl) dO_init_15 (fun q15 H hP hD hS => ?_)
  have hP : va_P D vwCl [(h, .inr (8, [.ref q8, .int 0, .null, .null])), (q8, .inl (cT 2, 866, .inl (fun _ => 0))), (q15, .inl (cT 4, 1, .inr (.inr (.inr (.inr (fun _ => none))))))] H := hP
  have hD : va_D A [(h, .inr (8, [.ref q8, .int 0, .null, .null])), (q8, .inl (cT 2, 866, .inl (fun _ => 0))), (q15, .inl (cT 4, 1, .inr (.inr (.inr (.inr (fun _ => none))))))] := hD
  refine lv_dup hx hb dO_init_18 rfl ?_
  refine lv_iconst (v := 0) hx hb dO_init_19 (by decide) ?_
  refine va_new (ci := 4) (fs := [.null, .int 0, .int 0]) (C := R_W) (T := T_W) (N := 3) hx hb hT in_W ty_W ty_W_ok hown (hT _ w286) (hT _ w140) (hT _ w5) hK hP hD hS hA rfl (fun j hj => match j, hj with | 0, _ => rfl | 1, _ => rfl | 2, _ => rfl | _ + 3, hj => absurd hj (by omega)) (Nat.le_of_ble_eq_true rfl) (Nat.le_of_ble_eq_true rfl) dO_init_20 (fun q20 H hP hD hS => ?_)
  have hP : va_P D vwCl [(h, .inr (8, [.ref q8, .int 0, .null, .null])), (q8, .inl (cT 2, 866, .inl (fun _ => 0))), (q15, .inl (cT 4, 1, .inr (.inr (.inr (.inr (fun _ => none)))))), (q20, .inr (4, [.null, .int 0, .int 0]))] H := hP
  have hD : va_D A [(h, .inr (8, [.ref q8, .int 0, .null, .null])), (q8, .inl (cT 2, 866, .inl (fun _ => 0))), (q15, .inl (cT 4, 1, .inr (.inr (.inr (.inr (fun _ => none)))))), (q20, .inr (4, [.null, .int 0, .int 0]))] := hD
  refine lv_dup hx hb dO_init_23 rfl ?_
  refine lv_bipush (v := 48) hx hb dO_init_24 (by decide) ?_
  refine rw_v (wc := [(q20, .inr (4, [.null, .int 0, .int 0]))]) (wr := [(h, .inr (8, [.ref q8, .int 0, .null, .null])), (q8, .inl (cT 2, 866, .inl (fun _ => 0))), (q15, .inl (cT 4, 1, .inr (.inr (.inr (.inr (fun _ => none))))))]) hP hD hS hA [3] [0, 1, 2] rfl rfl (by decide) (by decide) (va_runI (As := [.int 48]) (rest := [.ref q20, .int 0, .ref q15, .ref q15, .ref h]) ⟨hx, hb, hml, hown, hT⟩ (k_Whole48 l D cT q20 _) ⟨callB_of 1 hT (tb_gd w143) rfl rfl rfl (hT _ w5) (hT _ w287) hW_init ⟨Nat.le_of_ble_eq_true rfl, Nat.le_of_ble_eq_true rfl⟩, rfl, (hT _ w142)⟩ (RW.preS hZ hS (va_free (wc := [(q20, .inr (4, [.null, .int 0, .int 0]))]) hD hS hA [3] rfl) (hP.sub (ws' := [(q20, .inr (4, [.null, .int 0, .int 0]))]) [3] rfl) hK (hD.sub (ws' := [(q20, .inr (4, [.null, .int 0, .int 0]))]) [3] (by decide) rfl)) rfl rfl hl.1 rfl (lv_room (Nat.le_of_ble_eq_true rfl)) dO_init_26 ⟨Nat.le_of_ble_eq_true rfl, Nat.le_of_ble_eq_true rfl⟩) (fun u1 H locs hpu1 hP hD hS => ?_)
  generalize u1 0 = u1x0 at hP hD
  have hP : va_P D vwCl [(h, .inr (8, [.ref q8, .int 0, .null, .null])), (q8, .inl (cT 2, 866, .inl (fun _ => 0))), (q15, .inl (cT 4, 1, .inr (.inr (.inr (.inr (fun _ => none)))))), (q20, .inr (4, [.ref u1x0, .int 0, .int 0])), (u1x0, .inl (cT 0, 48, .inl (fun _ => 0)))] H := hP
  have hD : va_D A [(h, .inr (8, [.ref q8, .int 0, .null, .null])), (q8, .inl (cT 2, 866, .inl (fun _ => 0))), (q15, .inl (cT 4, 1, .inr (.inr (.inr (.inr (fun _ => none)))))), (q20, .inr (4, [.ref u1x0, .int 0, .int 0])), (u1x0, .inl (cT 0, 48, .inl (fun _ => 0)))] := hD
  refine va_astq hx hb hK hP hD hS 2 4 3 4 rfl rfl rfl rfl (by unfold vp_in; decide) dO_init_29 (fun H locs hP hD hS => ?_)
  have hP : va_P D vwCl [(h, .inr (8, [.ref q8, .int 0, .null, .null])), (q8, .inl (cT 2, 866, .inl (fun _ => 0))), (q15, .inl (cT 4, 1, .inr (.inr (.inr (.inr (va_up (fun _ => none) 0 (some q20))))))), (q20, .inr (4, [.ref u1x0, .int 0, .int 0])), (u1x0, .inl (cT 0, 48, .inl (fun _ => 0)))] H := hP
  have hD : va_D A [(h, .inr (8, [.ref q8, .int 0, .null, .null])), (q8, .inl (cT 2, 866, .inl (fun _ => 0))), (q15, .inl (cT 4, 1, .inr (.inr (.inr (.inr (va_up (fun _ => none) 0 (some q20))))))), (q20, .inr (4, [.ref u1x0, .int 0, .int 0])), (u1x0, .inl (cT 0, 48, .inl (fun _ => 0)))] := hD
  refine va_putF (D := D) (ci := 8) (v := .ref q15) (ty := .array (.object "ResidualTrees$Whole")) (C := R_O) (T := T_O) (N := 4) hx hb hT in_O ty_O ty_O_ok m_O hown hK hP hD hS 0 rfl rfl 2 (by decide) (hT _ w292) (fun _ h9 => h9) rfl hin rfl (by decide +kernel) rfl rfl (Nat.le_of_ble_eq_true rfl) dO_init_30 (fun H locs hP hD hS => ?_)
  have hP : va_P D vwCl [(h, .inr (8, [.ref q8, .int 0, .ref q15, .null])), (q8, .inl (cT 2, 866, .inl (fun _ => 0))), (q15, .inl (cT 4, 1, .inr (.inr (.inr (.inr (va_up (fun _ => none) 0 (some q20))))))), (q20, .inr (4, [.ref u1x0, .int 0, .int 0])), (u1x0, .inl (cT 0, 48, .inl (fun _ => 0)))] H := hP
  have hD : va_D A [(h, .inr (8, [.ref q8, .int 0, .ref q15, .null])), (q8, .inl (cT 2, 866, .inl (fun _ => 0))), (q15, .inl (cT 4, 1, .inr (.inr (.inr (.inr (va_up (fun _ => none) 0 (some q20))))))), (q20, .inr (4, [.ref u1x0, .int 0, .int 0])), (u1x0, .inl (cT 0, 48, .inl (fun _ => 0)))] := hD
  refine lv_aload_n hx hb dO_init_33 rfl (lv_at hl 0 rfl) ?_
  refine va_new (ci := 4) (fs := [.null, .int 0, .int 0]) (C := R_W) (T := T_W) (N := 3) hx hb hT in_W ty_W ty_W_ok hown (hT _ w286) (hT _ w140) (hT _ w5) hK hP hD hS hA rfl (fun j hj => match j, hj with | 0, _ => rfl | 1, _ => rfl | 2, _ => rfl | _ + 3, hj => absurd hj (by omega)) (Nat.le_of_ble_eq_true rfl) (Nat.le_of_ble_eq_true rfl) dO_init_34 (fun q34 H hP hD hS => ?_)
  have hP : va_P D vwCl [(h, .inr (8, [.ref q8, .int 0, .ref q15, .null])), (q8, .inl (cT 2, 866, .inl (fun _ => 0))), (q15, .inl (cT 4, 1, .inr (.inr (.inr (.inr (va_up (fun _ => none) 0 (some q20))))))), (q20, .inr (4, [.ref u1x0, .int 0, .int 0])), (u1x0, .inl (cT 0, 48, .inl (fun _ => 0))), (q34, .inr (4, [.null, .int 0, .int 0]))] H := hP
  have hD : va_D A [(h, .inr (8, [.ref q8, .int 0, .ref q15, .null])), (q8, .inl (cT 2, 866, .inl (fun _ => 0))), (q15, .inl (cT 4, 1, .inr (.inr (.inr (.inr (va_up (fun _ => none) 0 (some q20))))))), (q20, .inr (4, [.ref u1x0, .int 0, .int 0])), (u1x0, .inl (cT 0, 48, .inl (fun _ => 0))), (q34, .inr (4, [.null, .int 0, .int 0]))] := hD
  refine lv_dup hx hb dO_init_37 rfl ?_
  refine lv_bipush (v := 48) hx hb dO_init_38 (by decide) ?_
  refine rw_v (wc := [(q34, .inr (4, [.null, .int 0, .int 0]))]) (wr := [(h, .inr (8, [.ref q8, .int 0, .ref q15, .null])), (q8, .inl (cT 2, 866, .inl (fun _ => 0))), (q15, .inl (cT 4, 1, .inr (.inr (.inr (.inr (va_up (fun _ => none) 0 (some q20))))))), (q20, .inr (4, [.ref u1x0, .int 0, .int 0])), (u1x0, .inl (cT 0, 48, .inl (fun _ => 0)))]) hP hD hS hA [5] [0, 1, 2, 3, 4] rfl rfl (by decide) (by decide) (va_runI (As := [.int 48]) (rest := [.ref q34, .ref h]) ⟨hx, hb, hml, hown, hT⟩ (k_Whole48 l D cT q34 _) ⟨callB_of 1 hT (tb_gd w143) rfl rfl rfl (hT _ w5) (hT _ w287) hW_init ⟨Nat.le_of_ble_eq_true rfl, Nat.le_of_ble_eq_true rfl⟩, rfl, (hT _ w142)⟩ (RW.preS hZ hS (va_free (wc := [(q34, .inr (4, [.null, .int 0, .int 0]))]) hD hS hA [5] rfl) (hP.sub (ws' := [(q34, .inr (4, [.null, .int 0, .int 0]))]) [5] rfl) hK (hD.sub (ws' := [(q34, .inr (4, [.null, .int 0, .int 0]))]) [5] (by decide) rfl)) rfl rfl hl.1 rfl (lv_room (Nat.le_of_ble_eq_true rfl)) dO_init_40 ⟨Nat.le_of_ble_eq_true rfl, Nat.le_of_ble_eq_true rfl⟩) (fun u2 H locs hpu2 hP hD hS => ?_)
  generalize u2 0 = u2x0 at hP hD
  have hP : va_P D vwCl [(h, .inr (8, [.ref q8, .int 0, .ref q15, .null])), (q8, .inl (cT 2, 866, .inl (fun _ => 0))), (q15, .inl (cT 4, 1, .inr (.inr (.inr (.inr (va_up (fun _ => none) 0 (some q20))))))), (q20, .inr (4, [.ref u1x0, .int 0, .int 0])), (u1x0, .inl (cT 0, 48, .inl (fun _ => 0))), (q34, .inr (4, [.ref u2x0, .int 0, .int 0])), (u2x0, .inl (cT 0, 48, .inl (fun _ => 0)))] H := hP
  have hD : va_D A [(h, .inr (8, [.ref q8, .int 0, .ref q15, .null])), (q8, .inl (cT 2, 866, .inl (fun _ => 0))), (q15, .inl (cT 4, 1, .inr (.inr (.inr (.inr (va_up (fun _ => none) 0 (some q20))))))), (q20, .inr (4, [.ref u1x0, .int 0, .int 0])), (u1x0, .inl (cT 0, 48, .inl (fun _ => 0))), (q34, .inr (4, [.ref u2x0, .int 0, .int 0])), (u2x0, .inl (cT 0, 48, .inl (fun _ => 0)))] := hD
  refine va_putF (D := D) (ci := 8) (v := .ref q34) (ty := .object "ResidualTrees$Whole") (C := R_O) (T := T_O) (N := 4) hx hb hT in_O ty_O ty_O_ok m_O hown hK hP hD hS 0 rfl rfl 3 (by decide) (hT _ w294) (fun _ h9 => h9) rfl hin rfl (by decide +kernel) rfl rfl (Nat.le_of_ble_eq_true rfl) dO_init_43 (fun H locs hP hD hS => ?_)
  have hP : va_P D vwCl [(h, .inr (8, [.ref q8, .int 0, .ref q15, .ref q34])), (q8, .inl (cT 2, 866, .inl (fun _ => 0))), (q15, .inl (cT 4, 1, .inr (.inr (.inr (.inr (va_up (fun _ => none) 0 (some q20))))))), (q20, .inr (4, [.ref u1x0, .int 0, .int 0])), (u1x0, .inl (cT 0, 48, .inl (fun _ => 0))), (q34, .inr (4, [.ref u2x0, .int 0, .int 0])), (u2x0, .inl (cT 0, 48, .inl (fun _ => 0)))] H := hP
  have hD : va_D A [(h, .inr (8, [.ref q8, .int 0, .ref q15, .ref q34])), (q8, .inl (cT 2, 866, .inl (fun _ => 0))), (q15, .inl (cT 4, 1, .inr (.inr (.inr (.inr (va_up (fun _ => none) 0 (some q20))))))), (q20, .inr (4, [.ref u1x0, .int 0, .int 0])), (u1x0, .inl (cT 0, 48, .inl (fun _ => 0))), (q34, .inr (4, [.ref u2x0, .int 0, .int 0])), (u2x0, .inl (cT 0, 48, .inl (fun _ => 0)))] := hD
  have hP9 := hP.sub (ws' := [(h, .inr (8, [.ref q8, .int 0, .ref q15, .ref q34])), (q8, .inl (cT 2, 866, .inl (fun _ => 0))), (q15, .inl (cT 4, 1, .inr (.inr (.inr (.inr (va_up (fun _ => none) 0 (some q20))))))), (q20, .inr (4, [.ref u1x0, .int 0, .int 0])), (u1x0, .inl (cT 0, 48, .inl (fun _ => 0))), (q34, .inr (4, [.ref u2x0, .int 0, .int 0])), (u2x0, .inl (cT 0, 48, .inl (fun _ => 0)))]) [0, 1, 2, 3, 4, 5, 6] rfl
  have hD9 := hD.sub (ws' := [(h, .inr (8, [.ref q8, .int 0, .ref q15, .ref q34])), (q8, .inl (cT 2, 866, .inl (fun _ => 0))), (q15, .inl (cT 4, 1, .inr (.inr (.inr (.inr (va_up (fun _ => none) 0 (some q20))))))), (q20, .inr (4, [.ref u1x0, .int 0, .int 0])), (u1x0, .inl (cT 0, 48, .inl (fun _ => 0))), (q34, .inr (4, [.ref u2x0, .int 0, .int 0])), (u2x0, .inl (cT 0, 48, .inl (fun _ => 0)))]) [0, 1, 2, 3, 4, 5, 6] (by decide) rfl
  refine W.widen (k := 6) (n := 969) (Nat.le_of_ble_eq_true rfl) (Nat.le_of_ble_eq_true rfl) ?_
  exact W.vret hx hb hr (fun t ht hW => ⟨⟨(fun k => match k with | 0 => q8 | 1 => q15 | 2 => q20 | 3 => u1x0 | 4 => q34 | 5 => u2x0 | _ => 0), rfl, trivial, by rw [ht]; exact hP9, hD9⟩, hS.F ht⟩) hS.2.2 dO_init_46
