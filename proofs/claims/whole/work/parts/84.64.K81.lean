set_option maxHeartbeats 4000000 in
set_option maxRecDepth 100000 in
theorem k_acI (l : Launch) (D : va_G) (cT : Nat → ClassId) (h : Nat) (sz : Nat) : Met l yAC_init WAC_init ({ frames := 1, cells := 0, slots := 0, locals := 12 } : Room) (RW D vwCl [.ref h] [(h, .inr (12, [.null, .int 0, .int 0]))] (TY cT) sz) (va_Qv (fun u9 : Unit => True) (BW D vwCl (va_A [(h, .inr (12, [.null, .int 0, .int 0]))] sz) (fun u9 : Unit => [(h, .inr (12, [.null, .int 0, .int 0]))])) (va_A [(h, .inr (12, [.null, .int 0, .int 0]))] sz)) 0 0 (va_A [(h, .inr (12, [.null, .int 0, .int 0]))] sz) := by
  refine Met.ofW (cc := cAC_init) (maxL := 1) (ret := none) (by decide) rfl ?_
  intro p e s m args below meth c s₁ B hml hv
  obtain ⟨rfl, hsz, hZ, hP, hK, hD0⟩ := hv
  have hx := B.exec
  have hb := B.bytes
  have hr := B.returns
  have hts := atoms_spec (ws := WAC_init) B.pre
  have hT : ∀ w ∈ TB, w.before _ s = true := fun w h => hts w (List.mem_cons_of_mem _ h)
  have hown : s.vm.findClass R_AC = some m.cls := findClass_of_methodNamed B.named
  have hlocks := B.notSynchronized
  have hin : meth.name = "<init>" := (name_of_methodNamed B.named B.method).1
  subst hsz
  have hD := hD0.self (sz := s.heap.size)
  generalize hAe : va_A [(h, .inr (12, [.null, .int 0, .int 0]))] s.heap.size = A at hD hZ ⊢
  have hA : ∀ q : Nat, s.heap.size ≤ q → A q := fun q h => by rw [← hAe]; exact Or.inr h
  have hS : va_S A s.heap s.heap [] := va_S.rf
  have hl := lv_entry ([.ref h]) (n := 1) (Nat.le_of_ble_eq_true rfl)
  rw [lg_entry_eq]
  generalize (lg_sl ([.ref h]) ++ List.replicate (1 - (lg_sl ([.ref h])).length) Slot.unset).toArray = ls at hl ⊢
  have hl : lv_has ls 1 [(0, .ref h)] := hl
  refine lv_aload_n hx hb dAC_init_0 rfl (lv_at hl 0 rfl) ?_
  refine W.objInit hx hb hown (hT _ w265) (hT _ w35) (hT _ w36) rfl (by rw [hml]; exact hl.1) rfl dAC_init_1 (Nat.le_of_ble_eq_true rfl) (Nat.le_of_ble_eq_true rfl) ?_
  refine W.eq (g2 := F0 m 4 ls []) rfl ?_
  have hP9 := hP.sub (ws' := [(h, .inr (12, [.null, .int 0, .int 0]))]) [0] rfl
  have hD9 := hD.sub (ws' := [(h, .inr (12, [.null, .int 0, .int 0]))]) [0] (by decide) rfl
  refine W.widen (k := 0) (n := 0) (Nat.le_of_ble_eq_true rfl) (Nat.le_of_ble_eq_true rfl) ?_
  exact W.vret hx hb hr (fun t9 ht9 hW9 => ⟨⟨(), rfl, (show True from trivial), by rw [ht9]; exact hP9, hD9⟩, hS.F ht9⟩) hS.2.2 dAC_init_4
set_option maxHeartbeats 4000000 in
set_option maxRecDepth 100000 in
theorem k_aaI (l : Launch) (D : va_G) (cT : Nat → ClassId) (h : Nat) (sz : Nat) : Met l yAA_init WAA_init ({ frames := 2, cells := 0, slots := 0, locals := 32 } : Room) (RW D vwCl [.ref h] [(h, .inr (12, [.null, .int 0, .int 0]))] (TY cT) sz) (va_Qv (fun u9 : Unit => True) (BW D vwCl (va_A [(h, .inr (12, [.null, .int 0, .int 0]))] sz) (fun u9 : Unit => [(h, .inr (12, [.null, .int 0, .int 0]))])) (va_A [(h, .inr (12, [.null, .int 0, .int 0]))] sz)) 0 0 (va_A [(h, .inr (12, [.null, .int 0, .int 0]))] sz) := by
  refine Met.ofW (cc := cAA_init) (maxL := 1) (ret := none) (by decide) rfl ?_
  intro p e s m args below meth c s₁ B hml hv
  obtain ⟨rfl, hsz, hZ, hP, hK, hD0⟩ := hv
  have hx := B.exec
  have hb := B.bytes
  have hr := B.returns
  have hts := atoms_spec (ws := WAA_init) B.pre
  have hT : ∀ w ∈ TB, w.before _ s = true := fun w h => hts w (List.mem_cons_of_mem _ h)
  have hown : s.vm.findClass R_AA = some m.cls := findClass_of_methodNamed B.named
  have hlocks := B.notSynchronized
  have hin : meth.name = "<init>" := (name_of_methodNamed B.named B.method).1
  subst hsz
  have hD := hD0.self (sz := s.heap.size)
  generalize hAe : va_A [(h, .inr (12, [.null, .int 0, .int 0]))] s.heap.size = A at hD hZ ⊢
  have hA : ∀ q : Nat, s.heap.size ≤ q → A q := fun q h => by rw [← hAe]; exact Or.inr h
  have hS : va_S A s.heap s.heap [] := va_S.rf
  have hl := lv_entry ([.ref h]) (n := 1) (Nat.le_of_ble_eq_true rfl)
  rw [lg_entry_eq]
  generalize (lg_sl ([.ref h]) ++ List.replicate (1 - (lg_sl ([.ref h])).length) Slot.unset).toArray = ls at hl ⊢
  have hl : lv_has ls 1 [(0, .ref h)] := hl
  refine lv_aload_n hx hb dAA_init_0 rfl (lv_at hl 0 rfl) ?_
  refine rw_v (wc := [(h, .inr (12, [.null, .int 0, .int 0]))]) (wr := []) hP hD hS hA [0] [] rfl rfl (by decide) (by decide) (va_runI (As := []) (rest := []) ⟨hx, hb, hml, hown, hT⟩ (k_acI l D cT h _) ⟨callB_of 0 hT (tb_gd w264) rfl rfl rfl (hT _ w9) (hT _ w262) hAC_init ⟨Nat.le_of_ble_eq_true rfl, Nat.le_of_ble_eq_true rfl⟩, rfl, (hT _ w263)⟩ (RW.preS hZ hS (va_free (wc := [(h, .inr (12, [.null, .int 0, .int 0]))]) hD hS hA [0] rfl) (hP.sub (ws' := [(h, .inr (12, [.null, .int 0, .int 0]))]) [0] rfl) hK (hD.sub (ws' := [(h, .inr (12, [.null, .int 0, .int 0]))]) [0] (by decide) rfl)) rfl rfl hl.1 rfl (lv_room (Nat.le_of_ble_eq_true rfl)) dAA_init_1 ⟨Nat.le_of_ble_eq_true rfl, Nat.le_of_ble_eq_true rfl⟩) (fun u9 H locs hpu1 hP hD hS => ?_)
  have hpu1 : True := hpu1
  have hP : va_P D vwCl [(h, .inr (12, [.null, .int 0, .int 0]))] _ := hP
  have hD : va_D A [(h, .inr (12, [.null, .int 0, .int 0]))] := hD
  refine lv_aload_n hx hb dAA_init_4 rfl (lv_at hl 0 rfl) ?_
  refine lv_iconst (v := 0) hx hb dAA_init_5 (by decide) ?_
  refine va_put (D := D) (ci := 12) (v := .int 0) (ty := .int) (C := R_AL) (T := T_AL) (N := 3) hx hb hT in_AL ty_AL ty_AL_ok m_AL hown hK hP hD hS 0 rfl rfl 2 (by decide) (hT _ w270) (fun _ h9 => h9) rfl (by decide +kernel) rfl rfl (Nat.le_of_ble_eq_true rfl) dAA_init_6 (fun H locs hP hD hS => ?_)
  have hP : va_P D vwCl [(h, .inr (12, [.null, .int 0, .int 0]))] _ := hP
  have hD : va_D A [(h, .inr (12, [.null, .int 0, .int 0]))] := hD
  have hP9 := hP.sub (ws' := [(h, .inr (12, [.null, .int 0, .int 0]))]) [0] rfl
  have hD9 := hD.sub (ws' := [(h, .inr (12, [.null, .int 0, .int 0]))]) [0] (by decide) rfl
  refine W.widen (k := 0) (n := 0) (Nat.le_of_ble_eq_true rfl) (Nat.le_of_ble_eq_true rfl) ?_
  exact W.vret hx hb hr (fun t9 ht9 hW9 => ⟨⟨(), rfl, (show True from trivial), by rw [ht9]; exact hP9, hD9⟩, hS.F ht9⟩) hS.2.2 dAA_init_9
set_option maxHeartbeats 4000000 in
set_option maxRecDepth 100000 in
theorem k_alI (l : Launch) (D : va_G) (cT : Nat → ClassId) (tE : Nat) (mE : Nat) (h : Nat) (sz : Nat) : Met l yAL_init WAL_init ({ frames := 3, cells := 0, slots := 0, locals := 52 } : Room) (RWE tE mE D vwCl [.ref h] [(h, .inr (12, [.null, .int 0, .int 0]))] (TY cT) sz) (va_Qv (fun u9 : Unit => True) (BW D vwCl (va_A [(h, .inr (12, [.null, .int 0, .int 0]))] sz) (fun u9 : Unit => [(h, .inr (12, [.ref tE, .int 0, .int 0]))])) (va_A [(h, .inr (12, [.null, .int 0, .int 0]))] sz)) 0 0 (va_A [(h, .inr (12, [.null, .int 0, .int 0]))] sz) := by
  refine Met.ofW (cc := cAL_init) (maxL := 1) (ret := none) (by decide) rfl ?_
  intro p e s m args below meth c s₁ B hml hv
  obtain ⟨rfl, ⟨hsz, hZ, hP, hK, hD0⟩, hE0⟩ := hv
  have hx := B.exec
  have hb := B.bytes
  have hr := B.returns
  have hts := atoms_spec (ws := WAL_init) B.pre
  have hT : ∀ w ∈ TB, w.before _ s = true := fun w h => hts w (List.mem_cons_of_mem _ h)
  have hown : s.vm.findClass R_AL = some m.cls := findClass_of_methodNamed B.named
  have hlocks := B.notSynchronized
  have hin : meth.name = "<init>" := (name_of_methodNamed B.named B.method).1
  subst hsz
  have hD := hD0.self (sz := s.heap.size)
  generalize hAe : va_A [(h, .inr (12, [.null, .int 0, .int 0]))] s.heap.size = A at hD hZ hE0 ⊢
  have hA : ∀ q : Nat, s.heap.size ≤ q → A q := fun q h => by rw [← hAe]; exact Or.inr h
  have hS : va_S A s.heap s.heap [] := va_S.rf
  have hl := lv_entry ([.ref h]) (n := 1) (Nat.le_of_ble_eq_true rfl)
  rw [lg_entry_eq]
  generalize (lg_sl ([.ref h]) ++ List.replicate (1 - (lg_sl ([.ref h])).length) Slot.unset).toArray = ls at hl ⊢
  have hl : lv_has ls 1 [(0, .ref h)] := hl
  refine lv_aload_n hx hb dAL_init_0 rfl (lv_at hl 0 rfl) ?_
  refine rw_v (wc := [(h, .inr (12, [.null, .int 0, .int 0]))]) (wr := []) hP hD hS hA [0] [] rfl rfl (by decide) (by decide) (va_runI (As := []) (rest := []) ⟨hx, hb, hml, hown, hT⟩ (k_aaI l D cT h _) ⟨callB_of 0 hT (tb_gd w261) rfl rfl rfl (hT _ w10) (hT _ w259) hAA_init ⟨Nat.le_of_ble_eq_true rfl, Nat.le_of_ble_eq_true rfl⟩, rfl, (hT _ w260)⟩ (RW.preS hZ hS (va_free (wc := [(h, .inr (12, [.null, .int 0, .int 0]))]) hD hS hA [0] rfl) (hP.sub (ws' := [(h, .inr (12, [.null, .int 0, .int 0]))]) [0] rfl) hK (hD.sub (ws' := [(h, .inr (12, [.null, .int 0, .int 0]))]) [0] (by decide) rfl)) rfl rfl hl.1 rfl (lv_room (Nat.le_of_ble_eq_true rfl)) dAL_init_1 ⟨Nat.le_of_ble_eq_true rfl, Nat.le_of_ble_eq_true rfl⟩) (fun u9 H locs hpu1 hP hD hS => ?_)
  have hpu1 : True := hpu1
  have hP : va_P D vwCl [(h, .inr (12, [.null, .int 0, .int 0]))] _ := hP
  have hD : va_D A [(h, .inr (12, [.null, .int 0, .int 0]))] := hD
  refine lv_aload_n hx hb dAL_init_4 rfl (lv_at hl 0 rfl) ?_
  refine va_gets hx hb hE0.1 hS hown (hT _ w266) (fun _ h => h) dAL_init_5 ?_
  refine va_put (D := D) (ci := 12) (v := .ref tE) (ty := .array (.object "java/lang/Object")) (C := R_AL) (T := T_AL) (N := 3) hx hb hT in_AL ty_AL ty_AL_ok m_AL hown hK hP hD hS 0 rfl rfl 0 (by decide) (hT _ w268) (fun _ h9 => h9) rfl (by decide +kernel) rfl rfl (Nat.le_of_ble_eq_true rfl) dAL_init_8 (fun H locs hP hD hS => ?_)
  have hP : va_P D vwCl [(h, .inr (12, [.ref tE, .int 0, .int 0]))] _ := hP
  have hD : va_D A [(h, .inr (12, [.ref tE, .int 0, .int 0]))] := hD
  have hP9 := hP.sub (ws' := [(h, .inr (12, [.ref tE, .int 0, .int 0]))]) [0] rfl
  have hD9 := hD.sub (ws' := [(h, .inr (12, [.ref tE, .int 0, .int 0]))]) [0] (by decide) rfl
  refine W.widen (k := 0) (n := 0) (Nat.le_of_ble_eq_true rfl) (Nat.le_of_ble_eq_true rfl) ?_
  exact W.vret hx hb hr (fun t9 ht9 hW9 => ⟨⟨(), rfl, (show True from trivial), by rw [ht9]; exact hP9, hD9⟩, hS.F ht9⟩) hS.2.2 dAL_init_11
set_option maxHeartbeats 4000000 in
set_option maxRecDepth 100000 in
theorem k_trI (l : Launch) (D : va_G) (cT : Nat → ClassId) (tE : Nat) (mE : Nat) (h : Nat) (sz : Nat) : Met l yTr_init WTr_init ({ frames := 4, cells := 1, slots := 3, locals := 72 } : Room) (RWE tE mE D vwCl [.ref h] [(h, .inr (9, [.null, .int 0, .int 0, .int 0, .int 0, .long 0]))] (TY cT) sz) (va_Qv (fun u9 : Nat => True) (BW D vwCl (va_A [(h, .inr (9, [.null, .int 0, .int 0, .int 0, .int 0, .long 0]))] sz) (fun u9 : Nat => [(h, .inr (9, [.ref u9, .int 0, .int 0, .int 0, .int 0, .long 0])), (u9, .inr (12, [.ref tE, .int 0, .int 0]))])) (va_A [(h, .inr (9, [.null, .int 0, .int 0, .int 0, .int 0, .long 0]))] sz)) 1 3 (va_A [(h, .inr (9, [.null, .int 0, .int 0, .int 0, .int 0, .long 0]))] sz) := by
  refine Met.ofW (cc := cTr_init) (maxL := 1) (ret := none) (by decide) rfl ?_
  intro p e s m args below meth c s₁ B hml hv
  obtain ⟨rfl, ⟨hsz, hZ, hP, hK, hD0⟩, hE0⟩ := hv
  have hx := B.exec
  have hb := B.bytes
  have hr := B.returns
  have hts := atoms_spec (ws := WTr_init) B.pre
  have hT : ∀ w ∈ TB, w.before _ s = true := fun w h => hts w (List.mem_cons_of_mem _ h)
  have hown : s.vm.findClass R_Tr = some m.cls := findClass_of_methodNamed B.named
  have hlocks := B.notSynchronized
  have hin : meth.name = "<init>" := (name_of_methodNamed B.named B.method).1
  subst hsz
  have hD := hD0.self (sz := s.heap.size)
  generalize hAe : va_A [(h, .inr (9, [.null, .int 0, .int 0, .int 0, .int 0, .long 0]))] s.heap.size = A at hD hZ hE0 ⊢
  have hA : ∀ q : Nat, s.heap.size ≤ q → A q := fun q h => by rw [← hAe]; exact Or.inr h
  have hS : va_S A s.heap s.heap [] := va_S.rf
  have hl := lv_entry ([.ref h]) (n := 1) (Nat.le_of_ble_eq_true rfl)
  rw [lg_entry_eq]
  generalize (lg_sl ([.ref h]) ++ List.replicate (1 - (lg_sl ([.ref h])).length) Slot.unset).toArray = ls at hl ⊢
  have hl : lv_has ls 1 [(0, .ref h)] := hl
  refine lv_aload_n hx hb dTr_init_0 rfl (lv_at hl 0 rfl) ?_
  refine W.objInit hx hb hown (hT _ w727) (hT _ w35) (hT _ w36) rfl (by rw [hml]; exact hl.1) rfl dTr_init_1 (Nat.le_of_ble_eq_true rfl) (Nat.le_of_ble_eq_true rfl) ?_
  refine W.eq (g2 := F0 m 4 ls []) rfl ?_
  refine lv_aload_n hx hb dTr_init_4 rfl (lv_at hl 0 rfl) ?_
  refine va_new (ci := 12) (fs := [.null, .int 0, .int 0]) (C := R_AL) (T := T_AL) (N := 3) hx hb hT in_AL ty_AL ty_AL_ok hown (hT _ w728) (hT _ w255) (hT _ w11) hK hP hD hS hA rfl (fun j hj => match j, hj with | 0, _ => rfl | 1, _ => rfl | 2, _ => rfl | _ + 3, hj => absurd hj (by omega)) (Nat.le_of_ble_eq_true rfl) (Nat.le_of_ble_eq_true rfl) dTr_init_5 (fun q5 H hP hD hS => ?_)
  have hP : va_P D vwCl [(h, .inr (9, [.null, .int 0, .int 0, .int 0, .int 0, .long 0])), (q5, .inr (12, [.null, .int 0, .int 0]))] _ := hP
  have hD : va_D A [(h, .inr (9, [.null, .int 0, .int 0, .int 0, .int 0, .long 0])), (q5, .inr (12, [.null, .int 0, .int 0]))] := hD
  refine lv_dup hx hb dTr_init_8 rfl ?_
  refine rw_v (wc := [(q5, .inr (12, [.null, .int 0, .int 0]))]) (wr := [(h, .inr (9, [.null, .int 0, .int 0, .int 0, .int 0, .long 0]))]) hP hD hS hA [1] [0] rfl rfl (by decide) (by decide) (va_runI (As := []) (rest := [.ref q5, .ref h]) ⟨hx, hb, hml, hown, hT⟩ (k_alI l D cT tE mE q5 _) ⟨callB_of 0 hT (tb_gd w258) rfl rfl rfl (hT _ w11) (hT _ w729) hAL_init ⟨Nat.le_of_ble_eq_true rfl, Nat.le_of_ble_eq_true rfl⟩, rfl, (hT _ w257)⟩ (RWE.preS hE0 hZ hS (va_free (wc := [(q5, .inr (12, [.null, .int 0, .int 0]))]) hD hS hA [1] rfl) (hP.sub (ws' := [(q5, .inr (12, [.null, .int 0, .int 0]))]) [1] rfl) hK (hD.sub (ws' := [(q5, .inr (12, [.null, .int 0, .int 0]))]) [1] (by decide) rfl)) rfl rfl hl.1 rfl (lv_room (Nat.le_of_ble_eq_true rfl)) dTr_init_9 ⟨Nat.le_of_ble_eq_true rfl, Nat.le_of_ble_eq_true rfl⟩) (fun u9 H locs hpu1 hP hD hS => ?_)
  have hpu1 : True := hpu1
  have hP : va_P D vwCl [(h, .inr (9, [.null, .int 0, .int 0, .int 0, .int 0, .long 0])), (q5, .inr (12, [.ref tE, .int 0, .int 0]))] _ := hP
  have hD : va_D A [(h, .inr (9, [.null, .int 0, .int 0, .int 0, .int 0, .long 0])), (q5, .inr (12, [.ref tE, .int 0, .int 0]))] := hD
  refine va_putF (D := D) (ci := 9) (v := .ref q5) (ty := .object "java/util/ArrayList") (C := R_Tr) (T := T_Tr) (N := 6) hx hb hT in_Tr ty_Tr ty_Tr_ok m_Tr hown hK hP hD hS 0 rfl rfl 0 (by decide) (hT _ w730) (fun _ h9 => h9) rfl hin rfl (by decide +kernel) rfl rfl (Nat.le_of_ble_eq_true rfl) dTr_init_12 (fun H locs hP hD hS => ?_)
  have hP : va_P D vwCl [(h, .inr (9, [.ref q5, .int 0, .int 0, .int 0, .int 0, .long 0])), (q5, .inr (12, [.ref tE, .int 0, .int 0]))] _ := hP
  have hD : va_D A [(h, .inr (9, [.ref q5, .int 0, .int 0, .int 0, .int 0, .long 0])), (q5, .inr (12, [.ref tE, .int 0, .int 0]))] := hD
  have hP9 := hP.sub (ws' := [(h, .inr (9, [.ref q5, .int 0, .int 0, .int 0, .int 0, .long 0])), (q5, .inr (12, [.ref tE, .int 0, .int 0]))]) [0, 1] rfl
  have hD9 := hD.sub (ws' := [(h, .inr (9, [.ref q5, .int 0, .int 0, .int 0, .int 0, .long 0])), (q5, .inr (12, [.ref tE, .int 0, .int 0]))]) [0, 1] (by decide) rfl
  refine W.widen (k := 1) (n := 3) (Nat.le_of_ble_eq_true rfl) (Nat.le_of_ble_eq_true rfl) ?_
  exact W.vret hx hb hr (fun t9 ht9 hW9 => ⟨⟨q5, rfl, (show True from trivial), by rw [ht9]; exact hP9, hD9⟩, hS.F ht9⟩) hS.2.2 dTr_init_15
set_option maxHeartbeats 4000000 in
set_option maxRecDepth 100000 in
theorem k_freshTree (l : Launch) (D : va_G) (cT : Nat → ClassId) (cds : List Nat) (ad : Nat → Nat) (gg : Nat → Option va_E) (tE : Nat) (mE : Nat) (T : Nat) (fm : Nat) (mk : Nat → Nat) (hcd : CD cds) (hob : gg 0 = some (eOB ad (nI T))) (hFT : FST cT ad gg tE fm mk) (hTf : T ≤ fm) (hT16 : T < 16) (sz : Nat) : Met l yR_freshTree WR_freshTree ({ frames := 7, cells := 3 * (max fm (T + 1) - fm), slots := 42 * (max fm (T + 1) - fm), locals := 171 } : Room) (RWE tE mE D vwCl [.ref (ad 0)] ([] ++ pg cds ad gg) (TY cT) sz) (va_Qr (fun u9 : (Nat → Nat) × (Nat → Option va_E) => (∀ z8, z8 ≠ 9 → z8 ≠ 40 → z8 ≠ 1000 + T → z8 ≠ 1020 + T → u9.2 z8 = gg z8) ∧ (∀ z8, z8 ≠ 40 → z8 ≠ 1000 + T → z8 ≠ 1020 + T → u9.1 z8 = ad z8) ∧ (T < fm → (∀ z8, u9.1 z8 = ad z8) ∧ u9.2 9 = gg 9 ∧ u9.2 40 = gg 40 ∧ u9.2 (1020 + T) = gg (1020 + T)) ∧ FST cT u9.1 u9.2 tE (max fm (T + 1)) mk ∧ ∃ (w8 u8 l8 : Int32) (s8 : Int64), u9.2 (1000 + T) = some (eTR (u9.1 (1020 + T)) (nI 0) w8 u8 l8 s8)) (fun u9 q9 t9 => q9 = u9.1 (1000 + T) ∧ BW D vwCl (va_A ([] ++ pg cds ad gg) sz) (fun u9 : (Nat → Nat) × (Nat → Option va_E) => ([] ++ pg cds u9.1 u9.2)) u9 t9) (va_A ([] ++ pg cds ad gg) sz)) (3 * (max fm (T + 1) - fm)) (42 * (max fm (T + 1) - fm)) (va_A ([] ++ pg cds ad gg) sz) := by
  refine Met.ofW (cc := cR_freshTree) (maxL := 2) (ret := (some (.object "ResidualTrees$Tree"))) (by decide) rfl ?_
  intro p e s m args below meth c s₁ B hml hv
  obtain ⟨rfl, ⟨hsz, hZ, hP, hK, hD0⟩, hE0⟩ := hv
  have hx := B.exec
  have hb := B.bytes
  have hr := B.returns
  have hts := atoms_spec (ws := WR_freshTree) B.pre
  have hT : ∀ w ∈ TB, w.before _ s = true := fun w h => hts w (List.mem_cons_of_mem _ h)
  have hown : s.vm.findClass R_R = some m.cls := findClass_of_methodNamed B.named
  have hlocks := B.notSynchronized
  subst hsz
  have hD := hD0.self (sz := s.heap.size)
  generalize hAe : va_A ([] ++ pg cds ad gg) s.heap.size = A at hD hZ hE0 ⊢
  have hA : ∀ q : Nat, s.heap.size ≤ q → A q := fun q h => by rw [← hAe]; exact Or.inr h
  have hS : va_S A s.heap s.heap [] := va_S.rf
  have hl := lv_entry ([.ref (ad 0)]) (n := 2) (Nat.le_of_ble_eq_true rfl)
  rw [lg_entry_eq]
  generalize (lg_sl ([.ref (ad 0)]) ++ List.replicate (2 - (lg_sl ([.ref (ad 0)])).length) Slot.unset).toArray = ls at hl ⊢
  have hl : lv_has ls 2 [(0, .ref (ad 0))] := hl
  obtain ⟨hLQ0, hf16, hTs0, hTn0⟩ := id hFT
  obtain ⟨la0, md0, hli⟩ := hLQ0.li
  refine lv_aload_n hx hb dR_freshTree_0 rfl (lv_at hl 0 rfl) ?_
  refine va_get (D := D) (ci := 0) (v := .int (nI T)) (C := R_R) (T := T_R) (N := 13) hx hb hT in_R hown hK (pg_1 (x := 0) hcd hP (by decide) hob) 0 rfl rfl 5 (by decide) (hT _ w329) (fun _ h9 => h9) rfl dR_freshTree_1 ?_
  refine lv_aload_n hx hb dR_freshTree_4 rfl (lv_at hl 0 rfl) ?_
  refine va_get (D := D) (ci := 0) (v := .ref (ad 9)) (C := R_R) (T := T_R) (N := 13) hx hb hT in_R hown hK (pg_1 (x := 0) hcd hP (by decide) hob) 0 rfl rfl 4 (by decide) (hT _ w328) (fun _ h9 => h9) rfl dR_freshTree_5 ?_
  refine ro_i (va_Run.run (va_runV (As := []) (rest := [.int (nI T)]) ⟨hx, hb, hml, hown, hT⟩ (k_alSize l D cT (ad 9) la0 fm md0) ⟨callB_of 0 hT (tb_gd w722) rfl rfl rfl (hT _ w11) (hT _ w719) hAL_size ⟨Nat.le_of_ble_eq_true rfl, Nat.le_of_ble_eq_true rfl⟩, (hT _ w720), (hT _ w721)⟩ (RO.preV (ci := 12) (q0 := 0) hZ hS ((show va_P D vwCl [(ad 9, .inr (12, [.ref la0, .int (nI fm), .int md0]))] _ from (pv_c (pg_1 (x := 9) hcd hP (by decide) hli) pv_0))) hK rfl rfl) rfl rfl hl.1 rfl (lv_room (Nat.le_of_ble_eq_true rfl)) dR_freshTree_8 ⟨(by show 0 + 0 ≤ (3 * (max fm (T + 1) - fm)); omega), (by show 0 + 0 ≤ (42 * (max fm (T + 1) - fm)); omega)⟩)) ?_
  refine lv_icmp_ne (tgt := 29) hx hb dR_freshTree_11 rfl (fun h1 => ?_) (fun h1 => ?_)
  · have gh1 : ¬ (T = fm) := fun q => h1 (congrArg nI q)
    have hFT2 := hFT
    have hob2 := hob
    obtain ⟨hLQ9, hm9, hTs9, hTn9⟩ := id hFT2
    obtain ⟨cap9, md9, lf9, l1, l2, l3, l4, l5⟩ := hLQ9.full (by omega)
    obtain ⟨⟨k9, w9, u9, lo9, s9, htr9⟩, hTM9⟩ := hTs9 T (by omega)
    refine lv_aload_n hx hb dR_freshTree_29 rfl (lv_at hl 0 rfl) ?_
    refine va_get (D := D) (ci := 0) (v := .ref (ad 9)) (C := R_R) (T := T_R) (N := 13) hx hb hT in_R hown hK (pg_1 (x := 0) hcd hP (by decide) hob2) 0 rfl rfl 4 (by decide) (hT _ w328) (fun _ h9 => h9) rfl dR_freshTree_30 ?_
    refine lv_aload_n hx hb dR_freshTree_33 rfl (lv_at hl 0 rfl) ?_
    refine va_get (D := D) (ci := 0) (v := .int (nI T)) (C := R_R) (T := T_R) (N := 13) hx hb hT in_R hown hK (pg_1 (x := 0) hcd hP (by decide) hob2) 0 rfl rfl 5 (by decide) (hT _ w329) (fun _ h9 => h9) rfl dR_freshTree_34 ?_
    refine ro_r (va_Run.run (va_runV (As := [.int (nI T)]) (rest := []) ⟨hx, hb, hml, hown, hT⟩ (k_alGet l D cT (ad 9) (ad 40) fm md9 cap9 lf9 T (ad (1000 + T)) (by omega) l3 (by omega) (l5 _ (by omega))) ⟨callB_of 1 hT (tb_gd w401) rfl rfl rfl (hT _ w11) (hT _ w398) hAL_get ⟨Nat.le_of_ble_eq_true rfl, Nat.le_of_ble_eq_true rfl⟩, (hT _ w399), (hT _ w400)⟩ (RO.preV (ci := 12) (q0 := 0) hZ hS ((show va_P D vwCl [(ad 9, .inr (12, [.ref (ad 40), .int (nI fm), .int md9])), (ad 40, .inl (cT 7, cap9, .inr (.inr (.inr (.inr lf9)))))] _ from (pv_c (pg_1 (x := 9) hcd hP (by decide) l1) (pv_c (pg_1 (x := 40) hcd hP (by decide) l2) pv_0)))) hK rfl rfl) rfl rfl hl.1 rfl (lv_room (Nat.le_of_ble_eq_true rfl)) dR_freshTree_37 ⟨(by show 0 + 0 ≤ (3 * (max fm (T + 1) - fm)); omega), (by show 0 + 0 ≤ (42 * (max fm (T + 1) - fm)); omega)⟩)) ?_
    refine va_castY (C := "ResidualTrees$Tree") hx hb hown (hT _ w412) (hZ.1.1 ("ResidualTrees$Tree", "ResidualTrees$Tree") (List.mem_of_getElem? (i := 2) rfl)) (va_recv (ci := 9) (q0 := 0) hK (pg_1 (x := 1000 + T) hcd hP (by omega) htr9) rfl rfl) dR_freshTree_40 ?_
    refine lv_astore_n hx hb dR_freshTree_43 rfl hl (by decide) rfl (fun ls hl => ?_)
    have hl : lv_has ls 2 [(1, .ref (ad (1000 + T))), (0, .ref (ad 0))] := hl
    refine lv_aload_n hx hb dR_freshTree_44 rfl (lv_at hl 0 rfl) ?_
    refine lv_iconst (v := 0) hx hb dR_freshTree_45 (by decide) ?_
    have hB9 : QI gg [(1000 + T, .inr (9, [.ref (ad (1020 + T)), .int k9, .int w9, .int u9, .int lo9, .long s9]))] := (qi_c (by omega) htr9 qi_0)
    have hN9 := (show NDc [1000 + T] from (nd_c na_0 nd_0))
    have hP := bo_P (wc := [(1000 + T, .inr (9, [.ref (ad (1020 + T)), .int k9, .int w9, .int u9, .int lo9, .long s9]))]) (X := []) hcd hN9 hB9 hP
    have hD := bo_D (wc := [(1000 + T, .inr (9, [.ref (ad (1020 + T)), .int k9, .int w9, .int u9, .int lo9, .long s9]))]) (X := []) hcd hN9 hB9 hD
    have hP : va_P D vwCl ([(ad (1000 + T), .inr (9, [.ref (ad (1020 + T)), .int k9, .int w9, .int u9, .int lo9, .long s9]))] ++ pg cds ad (upo gg [1000 + T])) _ := hP
    have hD : va_D A ([(ad (1000 + T), .inr (9, [.ref (ad (1020 + T)), .int k9, .int w9, .int u9, .int lo9, .long s9]))] ++ pg cds ad (upo gg [1000 + T])) := hD
    refine va_put (D := D) (ci := 9) (v := .int 0) (ty := .int) (C := R_Tr) (T := T_Tr) (N := 6) hx hb hT in_Tr ty_Tr ty_Tr_ok m_Tr hown hK hP hD hS 0 rfl rfl 1 (by decide) (hT _ w732) (fun _ h9 => h9) rfl (by decide +kernel) rfl rfl (Nat.le_of_ble_eq_true rfl) dR_freshTree_46 (fun H locs hP hD hS => ?_)
    have hP : va_P D vwCl ([(ad (1000 + T), .inr (9, [.ref (ad (1020 + T)), .int 0, .int w9, .int u9, .int lo9, .long s9]))] ++ pg cds ad (upo gg [1000 + T])) _ := hP
    have hD : va_D A ([(ad (1000 + T), .inr (9, [.ref (ad (1020 + T)), .int 0, .int w9, .int u9, .int lo9, .long s9]))] ++ pg cds ad (upo gg [1000 + T])) := hD
    have hN9 := (show NDc [1000 + T] from (nd_c na_0 nd_0))
    have hP := gb_P (w9 := [(1000 + T, .inr (9, [.ref (ad (1020 + T)), .int 0, .int w9, .int u9, .int lo9, .long s9]))]) (X := []) (g := gg) hcd hN9 (show QB [(1000 + T, .inr (9, [.ref (ad (1020 + T)), .int 0, .int w9, .int u9, .int lo9, .long s9]))] from (qb_c (by omega) qb_0)) (hP.part (cx := [(ad (1000 + T), .inr (9, [.ref (ad (1020 + T)), .int 0, .int w9, .int u9, .int lo9, .long s9]))]) [0] rfl)
    have hD := gb_D (w9 := [(1000 + T, .inr (9, [.ref (ad (1020 + T)), .int 0, .int w9, .int u9, .int lo9, .long s9]))]) (X := []) (g := gg) hcd hN9 (show QB [(1000 + T, .inr (9, [.ref (ad (1020 + T)), .int 0, .int w9, .int u9, .int lo9, .long s9]))] from (qb_c (by omega) qb_0)) (hD.part (cx := [(ad (1000 + T), .inr (9, [.ref (ad (1020 + T)), .int 0, .int w9, .int u9, .int lo9, .long s9]))]) [0] (by decide) rfl)
    obtain ⟨g3, hg3⟩ : ∃ q9, q9 = ups gg [(1000 + T, .inr (9, [.ref (ad (1020 + T)), .int 0, .int w9, .int u9, .int lo9, .long s9]))] := ⟨_, rfl⟩
    rw [← hg3] at hP hD
    have hP : va_P D vwCl ([] ++ pg cds ad g3) _ := hP
    have hD : va_D A ([] ++ pg cds ad g3) := hD
    have fg3 : ∀ z8, z8 ≠ 1000 + T → g3 z8 = gg z8 := fun z8 z1 => by rw [hg3]; exact ups_k (kp_n z1 kp_0)
    have g3_0 : g3 (1000 + T) = some (.inr (9, [.ref (ad (1020 + T)), .int 0, .int w9, .int u9, .int lo9, .long s9])) := by rw [hg3]; exact ups_1
    refine lv_aload_n hx hb dR_freshTree_49 rfl (lv_at hl 0 rfl) ?_
    have hP9 : va_P D vwCl ([] ++ pg cds ad g3) _ := hP.part (cx := []) [] rfl
    have hD9 : va_D A ([] ++ pg cds ad g3) := hD.part (cx := []) [] (by decide) rfl
    refine W.widen (k := 3 * (max fm (T + 1) - fm)) (n := 42 * (max fm (T + 1) - fm)) ((by show 0 ≤ 3 * (max fm (T + 1) - fm); omega)) ((by show 0 ≤ 42 * (max fm (T + 1) - fm); omega)) ?_
    exact W.aret (v := .ref (ad (1000 + T))) hx hb hr (Or.inl ⟨_, rfl⟩) (Or.inr ⟨_, rfl⟩) (fun t9 ht9 hW9 => ⟨⟨(ad, g3), ad (1000 + T), rfl, (show (∀ z8, z8 ≠ 9 → z8 ≠ 40 → z8 ≠ 1000 + T → z8 ≠ 1020 + T → g3 z8 = gg z8) ∧ (∀ z8, z8 ≠ 40 → z8 ≠ 1000 + T → z8 ≠ 1020 + T → ad z8 = ad z8) ∧ (T < fm → (∀ z8, ad z8 = ad z8) ∧ g3 9 = gg 9 ∧ g3 40 = gg 40 ∧ g3 (1020 + T) = gg (1020 + T)) ∧ FST cT ad g3 tE (max fm (T + 1)) mk ∧ ∃ (w8 u8 l8 : Int32) (s8 : Int64), g3 (1000 + T) = some (eTR (ad (1020 + T)) (nI 0) w8 u8 l8 s8) from ⟨(fun z8 n1 n2 n3 n4 => (fg3 z8 n3).trans (rfl)), (fun _ _ _ _ => rfl), (fun _ => ⟨fun _ => rfl, fg3 _ (by omega), fg3 _ (by omega), fg3 _ (by omega)⟩), (by rw [show max fm (T + 1) = fm by omega]; exact fst_tc hFT2 (T := T) (by omega) (fun z8 n1 => fg3 z8 n1) g3_0), _, _, _, _, g3_0⟩), rfl, by rw [ht9]; exact hP9, hD9⟩, hS.F ht9⟩) hS.2.2 dR_freshTree_50
  · have gh1 : T = fm := (nI_eq (a := T) (b := fm) (by omega) (by omega)).mp h1
    refine lv_aload_n hx hb dR_freshTree_14 rfl (lv_at hl 0 rfl) ?_
    refine va_get (D := D) (ci := 0) (v := .ref (ad 9)) (C := R_R) (T := T_R) (N := 13) hx hb hT in_R hown hK (pg_1 (x := 0) hcd hP (by decide) hob) 0 rfl rfl 4 (by decide) (hT _ w328) (fun _ h9 => h9) rfl dR_freshTree_15 ?_
    refine va_new (ci := 9) (fs := [.null, .int 0, .int 0, .int 0, .int 0, .long 0]) (C := R_Tr) (T := T_Tr) (N := 6) hx hb hT in_Tr ty_Tr ty_Tr_ok hown (hT _ w412) (hT _ w723) (hT _ w24) hK hP hD hS hA rfl (fun j hj => match j, hj with | 0, _ => rfl | 1, _ => rfl | 2, _ => rfl | 3, _ => rfl | 4, _ => rfl | 5, _ => rfl | _ + 6, hj => absurd hj (by omega)) ((by show 0 + 1 ≤ (3 * (max fm (T + 1) - fm)); omega)) ((by show 0 + 6 ≤ (42 * (max fm (T + 1) - fm)); omega)) dR_freshTree_18 (fun q18 H hP hD hS => ?_)
    have hP := hy_push hP
    have hD := hy_pushD hD
    have hP : va_P D vwCl ([(q18, .inr (9, [.null, .int 0, .int 0, .int 0, .int 0, .long 0]))] ++ pg cds ad gg) _ := hP
    have hD : va_D A ([(q18, .inr (9, [.null, .int 0, .int 0, .int 0, .int 0, .long 0]))] ++ pg cds ad gg) := hD
    refine lv_dup hx hb dR_freshTree_21 rfl ?_
    refine hy_vQ (X := [(q18, .inr (9, [.null, .int 0, .int 0, .int 0, .int 0, .long 0]))]) (pl := pg cds ad gg) (cx := [(q18, .inr (9, [.null, .int 0, .int 0, .int 0, .int 0, .long 0]))]) (wr := []) hP hD hS hA [0] [] rfl rfl (by decide) (by decide) (va_runIN (As := []) (rest := [.ref q18, .ref (ad 9)]) ⟨hx, hb, hml, hown, hT⟩ (k_trI l D cT tE mE q18 _) ⟨va_cnB 0 hT (tb_gd w726) rfl rfl rfl (hZ.1.2.1 ("ResidualTrees", 338, ⟨"ResidualTrees$Tree", "<init>", "()V"⟩, "ResidualTrees") (List.mem_of_getElem? (i := 10) rfl)) (hT _ w24) hTr_init ⟨Nat.le_of_ble_eq_true rfl, Nat.le_of_ble_eq_true rfl⟩, rfl, (hT _ w725)⟩ (RWE.preS hE0 hZ hS (hy_free (cx := [(q18, .inr (9, [.null, .int 0, .int 0, .int 0, .int 0, .long 0]))]) hD hS hA [0] rfl) (hP.sub (ws' := [(q18, .inr (9, [.null, .int 0, .int 0, .int 0, .int 0, .long 0]))]) [0] rfl) hK (hD.sub (ws' := [(q18, .inr (9, [.null, .int 0, .int 0, .int 0, .int 0, .long 0]))]) [0] (by decide) rfl)) rfl rfl hl.1 rfl (lv_room (Nat.le_of_ble_eq_true rfl)) dR_freshTree_22 ⟨(by show 1 + 1 ≤ (3 * (max fm (T + 1) - fm)); omega), (by show 6 + 3 ≤ (42 * (max fm (T + 1) - fm)); omega)⟩) (fun u9 H locs hpu2 hP hD hS => ?_)
    obtain ⟨nlu2, rfl⟩ : ∃ q9, q9 = u9 := ⟨_, rfl⟩
    have hpu2 : True := hpu2
    have hP : va_P D vwCl ([(q18, .inr (9, [.ref nlu2, .int 0, .int 0, .int 0, .int 0, .long 0])), (nlu2, .inr (12, [.ref tE, .int 0, .int 0]))] ++ pg cds ad gg) _ := hP
    have hD : va_D A ([(q18, .inr (9, [.ref nlu2, .int 0, .int 0, .int 0, .int 0, .long 0])), (nlu2, .inr (12, [.ref tE, .int 0, .int 0]))] ++ pg cds ad gg) := hD
    refine hy_iP (X := [(q18, .inr (9, [.ref nlu2, .int 0, .int 0, .int 0, .int 0, .long 0])), (nlu2, .inr (12, [.ref tE, .int 0, .int 0]))]) (pl := pg cds ad gg) (cx := [(q18, .inr (9, [.ref nlu2, .int 0, .int 0, .int 0, .int 0, .long 0]))]) (wr := [(nlu2, .inr (12, [.ref tE, .int 0, .int 0]))]) hP hD hS hA [0] [1] rfl rfl (by decide) (by decide) (va_runV (As := [.ref q18]) (rest := []) ⟨hx, hb, hml, hown, hT⟩ (k_alAddPT l D cT cds ad gg tE mE 9 40 1000 fm q18 nlu2 0 0 0 0 0 hcd (by omega) (by omega) hLQ0 (fun k8 hk8 => (by obtain ⟨⟨k9, w9, u9, l9, s9, e9⟩, _⟩ := hTs0 k8 hk8; exact ⟨_, by omega, e9⟩)) _) ⟨callB_of 1 hT (tb_gd w757) rfl rfl rfl (hT _ w11) (hT _ w754) hAL_add ⟨Nat.le_of_ble_eq_true rfl, Nat.le_of_ble_eq_true rfl⟩, (hT _ w755), (hT _ w756)⟩ (RWE.preW (ci := 12) (q0 := 0) hE0 hZ hS (va_freeP (cx := [(q18, .inr (9, [.ref nlu2, .int 0, .int 0, .int 0, .int 0, .long 0]))]) hD hS hA [0] rfl) (hP.part (cx := [(q18, .inr (9, [.ref nlu2, .int 0, .int 0, .int 0, .int 0, .long 0]))]) [0] rfl) hK (hD.part (cx := [(q18, .inr (9, [.ref nlu2, .int 0, .int 0, .int 0, .int 0, .long 0]))]) [0] (by decide) rfl) (pg_1 (x := 9) hcd hP (by decide) hli) rfl rfl) rfl rfl hl.1 rfl (lv_room (Nat.le_of_ble_eq_true rfl)) dR_freshTree_25 ⟨(by show 2 + 1 ≤ (3 * (max fm (T + 1) - fm)); omega), (by show 9 + 33 ≤ (42 * (max fm (T + 1) - fm)); omega)⟩) (fun ru3 u9 H locs hpu3 hP hD hS => ?_)
    obtain ⟨ad7u3, gg7u3⟩ := u9
    have hpu3 : ru3 = 1 ∧ (∀ z8, z8 ≠ 9 → z8 ≠ 40 → gg7u3 z8 = gg z8) ∧ (∀ z8, z8 ≠ 40 → ad7u3 z8 = ad z8) ∧ LQv cT ad ad7u3 gg7u3 9 40 1000 fm q18 := hpu3
    have hP : va_P D vwCl ([(nlu2, .inr (12, [.ref tE, .int 0, .int 0])), (q18, .inr (9, [.ref nlu2, .int 0, .int 0, .int 0, .int 0, .long 0]))] ++ pg cds ad7u3 gg7u3) _ := hP
    have hD : va_D A ([(nlu2, .inr (12, [.ref tE, .int 0, .int 0])), (q18, .inr (9, [.ref nlu2, .int 0, .int 0, .int 0, .int 0, .long 0]))] ++ pg cds ad7u3 gg7u3) := hD
    obtain ⟨hr1, fr1, fa1, hv1⟩ := hpu3
    have hl : lv_has ls 2 [(0, .ref (ad7u3 0))] := by rw [fa1 0 (by omega)]; exact hl
    refine lv_pop hx hb dR_freshTree_28 rfl ?_
    obtain ⟨hz0, hz1, hz2, hz3, hz4⟩ := hTn0 fm (Nat.le_refl _) (by omega)
    obtain ⟨ad2, had2⟩ : ∃ f9 : Nat → Nat, f9 = va_up (va_up ad7u3 (1000 + fm) q18) (1020 + fm) nlu2 := ⟨_, rfl⟩
    have ead2_0 : ad2 (1000 + fm) = q18 := by rw [had2]; exact (va_up_ne _ _ (by omega)).trans (va_up_self _ _ _)
    have ead2_1 : ad2 (1020 + fm) = nlu2 := by rw [had2]; exact va_up_self _ _ _
    have aad2 : ∀ z8, z8 ≠ 1000 + fm → z8 ≠ 1020 + fm → ad2 z8 = ad7u3 z8 := fun z8 n0 n1 => by rw [had2]; exact (va_up_ne _ _ n1).trans ((va_up_ne _ _ n0).trans (rfl))
    have pad2 : pg cds ad2 gg7u3 = pg cds ad7u3 gg7u3 := by rw [had2]; exact (pg_ad ((fr1 _ (by omega) (by omega)).trans hz2)).trans ((pg_ad ((fr1 _ (by omega) (by omega)).trans hz1)).trans (rfl))
    have hw9 : ([(ad2 (1020 + fm), .inr (12, [.ref tE, .int 0, .int 0])), (ad2 (1000 + fm), .inr (9, [.ref (ad2 (1020 + fm)), .int 0, .int 0, .int 0, .int 0, .long 0]))] ++ pg cds ad2 gg7u3) = ([(nlu2, .inr (12, [.ref tE, .int 0, .int 0])), (q18, .inr (9, [.ref nlu2, .int 0, .int 0, .int 0, .int 0, .long 0]))] ++ pg cds ad7u3 gg7u3) := by rw [pad2, ead2_1, ead2_0]
    have hP := vP_eq hw9 hP
    have hD := vD_eq hw9 hD
    have hP : va_P D vwCl ([(ad2 (1020 + fm), .inr (12, [.ref tE, .int 0, .int 0])), (ad2 (1000 + fm), .inr (9, [.ref (ad2 (1020 + fm)), .int 0, .int 0, .int 0, .int 0, .long 0]))] ++ pg cds ad2 gg7u3) _ := hP
    have hD : va_D A ([(ad2 (1020 + fm), .inr (12, [.ref tE, .int 0, .int 0])), (ad2 (1000 + fm), .inr (9, [.ref (ad2 (1020 + fm)), .int 0, .int 0, .int 0, .int 0, .long 0]))] ++ pg cds ad2 gg7u3) := hD
    have hl : lv_has ls 2 [(0, .ref (ad2 0))] := by rw [aad2 0 (by omega) (by omega)]; exact hl
    have hup : upo gg7u3 [1000 + fm, 1020 + fm] = gg7u3 := upo_nn (nn_c ((fr1 _ (by omega) (by omega)).trans hz1) (nn_c ((fr1 _ (by omega) (by omega)).trans hz2) nn_0))
    have hw9 : ([(ad2 (1020 + fm), .inr (12, [.ref tE, .int 0, .int 0])), (ad2 (1000 + fm), .inr (9, [.ref (ad2 (1020 + fm)), .int 0, .int 0, .int 0, .int 0, .long 0]))] ++ pg cds ad2 (upo gg7u3 [1000 + fm, 1020 + fm])) = ([(ad2 (1020 + fm), .inr (12, [.ref tE, .int 0, .int 0])), (ad2 (1000 + fm), .inr (9, [.ref (ad2 (1020 + fm)), .int 0, .int 0, .int 0, .int 0, .long 0]))] ++ pg cds ad2 gg7u3) := by rw [hup]
    have hP := vP_eq hw9 hP
    have hD := vD_eq hw9 hD
    have hN9 := (show NDc [1000 + fm, 1020 + fm] from (nd_c (na_c (by omega) na_0) (nd_c na_0 nd_0)))
    have hP := gb_P (w9 := [(1000 + fm, .inr (9, [.ref (ad2 (1020 + fm)), .int 0, .int 0, .int 0, .int 0, .long 0])), (1020 + fm, .inr (12, [.ref tE, .int 0, .int 0]))]) (X := []) (g := gg7u3) hcd hN9 (show QB [(1000 + fm, .inr (9, [.ref (ad2 (1020 + fm)), .int 0, .int 0, .int 0, .int 0, .long 0])), (1020 + fm, .inr (12, [.ref tE, .int 0, .int 0]))] from (qb_c (by omega) (qb_c (by omega) qb_0))) (hP.part (cx := [(ad2 (1000 + fm), .inr (9, [.ref (ad2 (1020 + fm)), .int 0, .int 0, .int 0, .int 0, .long 0])), (ad2 (1020 + fm), .inr (12, [.ref tE, .int 0, .int 0]))]) [1, 0] rfl)
    have hD := gb_D (w9 := [(1000 + fm, .inr (9, [.ref (ad2 (1020 + fm)), .int 0, .int 0, .int 0, .int 0, .long 0])), (1020 + fm, .inr (12, [.ref tE, .int 0, .int 0]))]) (X := []) (g := gg7u3) hcd hN9 (show QB [(1000 + fm, .inr (9, [.ref (ad2 (1020 + fm)), .int 0, .int 0, .int 0, .int 0, .long 0])), (1020 + fm, .inr (12, [.ref tE, .int 0, .int 0]))] from (qb_c (by omega) (qb_c (by omega) qb_0))) (hD.part (cx := [(ad2 (1000 + fm), .inr (9, [.ref (ad2 (1020 + fm)), .int 0, .int 0, .int 0, .int 0, .long 0])), (ad2 (1020 + fm), .inr (12, [.ref tE, .int 0, .int 0]))]) [1, 0] (by decide) rfl)
    obtain ⟨g2, hg2⟩ : ∃ q9, q9 = ups gg7u3 [(1000 + fm, .inr (9, [.ref (ad2 (1020 + fm)), .int 0, .int 0, .int 0, .int 0, .long 0])), (1020 + fm, .inr (12, [.ref tE, .int 0, .int 0]))] := ⟨_, rfl⟩
    rw [← hg2] at hP hD
    have hP : va_P D vwCl ([] ++ pg cds ad2 g2) _ := hP
    have hD : va_D A ([] ++ pg cds ad2 g2) := hD
    have fg2 : ∀ z8, z8 ≠ 1000 + fm → z8 ≠ 1020 + fm → g2 z8 = gg7u3 z8 := fun z8 z1 z2 => by rw [hg2]; exact ups_k (kp_n z1 (kp_n z2 kp_0))
    have g2_0 : g2 (1000 + fm) = some (.inr (9, [.ref (ad2 (1020 + fm)), .int 0, .int 0, .int 0, .int 0, .long 0])) := by rw [hg2]; exact ups_1
    have g2_1 : g2 (1020 + fm) = some (.inr (12, [.ref tE, .int 0, .int 0])) := by rw [hg2]; exact ups_2 (by omega)
    have hFT2 : FST cT ad2 g2 tE (fm + 1) mk := fst_add hFT (by omega) fr1 fa1 hv1 fg2 aad2 ead2_0 g2_0 g2_1
    have hob2 : g2 0 = some (eOB ad2 (nI T)) := by rw [eOB_ca (ad2 := ad2) (ad := ad) (fun x x1 x2 => (aad2 x (by omega) (by omega)).trans (fa1 x (by omega)))]; exact (fg2 _ (by omega) (by omega)).trans ((fr1 _ (by omega) (by omega)).trans hob)
    obtain ⟨hLQ9, hm9, hTs9, hTn9⟩ := id hFT2
    obtain ⟨cap9, md9, lf9, l1, l2, l3, l4, l5⟩ := hLQ9.full (by omega)
    obtain ⟨⟨k9, w9, u9, lo9, s9, htr9⟩, hTM9⟩ := hTs9 T (by omega)
    refine lv_aload_n hx hb dR_freshTree_29 rfl (lv_at hl 0 rfl) ?_
    refine va_get (D := D) (ci := 0) (v := .ref (ad2 9)) (C := R_R) (T := T_R) (N := 13) hx hb hT in_R hown hK (pg_1 (x := 0) hcd hP (by decide) hob2) 0 rfl rfl 4 (by decide) (hT _ w328) (fun _ h9 => h9) rfl dR_freshTree_30 ?_
    refine lv_aload_n hx hb dR_freshTree_33 rfl (lv_at hl 0 rfl) ?_
    refine va_get (D := D) (ci := 0) (v := .int (nI T)) (C := R_R) (T := T_R) (N := 13) hx hb hT in_R hown hK (pg_1 (x := 0) hcd hP (by decide) hob2) 0 rfl rfl 5 (by decide) (hT _ w329) (fun _ h9 => h9) rfl dR_freshTree_34 ?_
    refine ro_r (va_Run.run (va_runV (As := [.int (nI T)]) (rest := []) ⟨hx, hb, hml, hown, hT⟩ (k_alGet l D cT (ad2 9) (ad2 40) (fm + 1) md9 cap9 lf9 T (ad2 (1000 + T)) (by omega) l3 (by omega) (l5 _ (by omega))) ⟨callB_of 1 hT (tb_gd w401) rfl rfl rfl (hT _ w11) (hT _ w398) hAL_get ⟨Nat.le_of_ble_eq_true rfl, Nat.le_of_ble_eq_true rfl⟩, (hT _ w399), (hT _ w400)⟩ (RO.preV (ci := 12) (q0 := 0) hZ hS ((show va_P D vwCl [(ad2 9, .inr (12, [.ref (ad2 40), .int (nI (fm + 1)), .int md9])), (ad2 40, .inl (cT 7, cap9, .inr (.inr (.inr (.inr lf9)))))] _ from (pv_c (pg_1 (x := 9) hcd hP (by decide) l1) (pv_c (pg_1 (x := 40) hcd hP (by decide) l2) pv_0)))) hK rfl rfl) rfl rfl hl.1 rfl (lv_room (Nat.le_of_ble_eq_true rfl)) dR_freshTree_37 ⟨(by show 3 + 0 ≤ (3 * (max fm (T + 1) - fm)); omega), (by show 42 + 0 ≤ (42 * (max fm (T + 1) - fm)); omega)⟩)) ?_
    refine va_castY (C := "ResidualTrees$Tree") hx hb hown (hT _ w412) (hZ.1.1 ("ResidualTrees$Tree", "ResidualTrees$Tree") (List.mem_of_getElem? (i := 2) rfl)) (va_recv (ci := 9) (q0 := 0) hK (pg_1 (x := 1000 + T) hcd hP (by omega) htr9) rfl rfl) dR_freshTree_40 ?_
    refine lv_astore_n hx hb dR_freshTree_43 rfl hl (by decide) rfl (fun ls hl => ?_)
    have hl : lv_has ls 2 [(1, .ref (ad2 (1000 + T))), (0, .ref (ad2 0))] := hl
    refine lv_aload_n hx hb dR_freshTree_44 rfl (lv_at hl 0 rfl) ?_
    refine lv_iconst (v := 0) hx hb dR_freshTree_45 (by decide) ?_
    have hB9 : QI g2 [(1000 + T, .inr (9, [.ref (ad2 (1020 + T)), .int k9, .int w9, .int u9, .int lo9, .long s9]))] := (qi_c (by omega) htr9 qi_0)
    have hN9 := (show NDc [1000 + T] from (nd_c na_0 nd_0))
    have hP := bo_P (wc := [(1000 + T, .inr (9, [.ref (ad2 (1020 + T)), .int k9, .int w9, .int u9, .int lo9, .long s9]))]) (X := []) hcd hN9 hB9 hP
    have hD := bo_D (wc := [(1000 + T, .inr (9, [.ref (ad2 (1020 + T)), .int k9, .int w9, .int u9, .int lo9, .long s9]))]) (X := []) hcd hN9 hB9 hD
    have hP : va_P D vwCl ([(ad2 (1000 + T), .inr (9, [.ref (ad2 (1020 + T)), .int k9, .int w9, .int u9, .int lo9, .long s9]))] ++ pg cds ad2 (upo g2 [1000 + T])) _ := hP
    have hD : va_D A ([(ad2 (1000 + T), .inr (9, [.ref (ad2 (1020 + T)), .int k9, .int w9, .int u9, .int lo9, .long s9]))] ++ pg cds ad2 (upo g2 [1000 + T])) := hD
    refine va_put (D := D) (ci := 9) (v := .int 0) (ty := .int) (C := R_Tr) (T := T_Tr) (N := 6) hx hb hT in_Tr ty_Tr ty_Tr_ok m_Tr hown hK hP hD hS 0 rfl rfl 1 (by decide) (hT _ w732) (fun _ h9 => h9) rfl (by decide +kernel) rfl rfl (Nat.le_of_ble_eq_true rfl) dR_freshTree_46 (fun H locs hP hD hS => ?_)
    have hP : va_P D vwCl ([(ad2 (1000 + T), .inr (9, [.ref (ad2 (1020 + T)), .int 0, .int w9, .int u9, .int lo9, .long s9]))] ++ pg cds ad2 (upo g2 [1000 + T])) _ := hP
    have hD : va_D A ([(ad2 (1000 + T), .inr (9, [.ref (ad2 (1020 + T)), .int 0, .int w9, .int u9, .int lo9, .long s9]))] ++ pg cds ad2 (upo g2 [1000 + T])) := hD
    have hN9 := (show NDc [1000 + T] from (nd_c na_0 nd_0))
    have hP := gb_P (w9 := [(1000 + T, .inr (9, [.ref (ad2 (1020 + T)), .int 0, .int w9, .int u9, .int lo9, .long s9]))]) (X := []) (g := g2) hcd hN9 (show QB [(1000 + T, .inr (9, [.ref (ad2 (1020 + T)), .int 0, .int w9, .int u9, .int lo9, .long s9]))] from (qb_c (by omega) qb_0)) (hP.part (cx := [(ad2 (1000 + T), .inr (9, [.ref (ad2 (1020 + T)), .int 0, .int w9, .int u9, .int lo9, .long s9]))]) [0] rfl)
    have hD := gb_D (w9 := [(1000 + T, .inr (9, [.ref (ad2 (1020 + T)), .int 0, .int w9, .int u9, .int lo9, .long s9]))]) (X := []) (g := g2) hcd hN9 (show QB [(1000 + T, .inr (9, [.ref (ad2 (1020 + T)), .int 0, .int w9, .int u9, .int lo9, .long s9]))] from (qb_c (by omega) qb_0)) (hD.part (cx := [(ad2 (1000 + T), .inr (9, [.ref (ad2 (1020 + T)), .int 0, .int w9, .int u9, .int lo9, .long s9]))]) [0] (by decide) rfl)
    obtain ⟨g3, hg3⟩ : ∃ q9, q9 = ups g2 [(1000 + T, .inr (9, [.ref (ad2 (1020 + T)), .int 0, .int w9, .int u9, .int lo9, .long s9]))] := ⟨_, rfl⟩
    rw [← hg3] at hP hD
    have hP : va_P D vwCl ([] ++ pg cds ad2 g3) _ := hP
    have hD : va_D A ([] ++ pg cds ad2 g3) := hD
    have fg3 : ∀ z8, z8 ≠ 1000 + T → g3 z8 = g2 z8 := fun z8 z1 => by rw [hg3]; exact ups_k (kp_n z1 kp_0)
    have g3_0 : g3 (1000 + T) = some (.inr (9, [.ref (ad2 (1020 + T)), .int 0, .int w9, .int u9, .int lo9, .long s9])) := by rw [hg3]; exact ups_1
    refine lv_aload_n hx hb dR_freshTree_49 rfl (lv_at hl 0 rfl) ?_
    have hP9 : va_P D vwCl ([] ++ pg cds ad2 g3) _ := hP.part (cx := []) [] rfl
    have hD9 : va_D A ([] ++ pg cds ad2 g3) := hD.part (cx := []) [] (by decide) rfl
    refine W.widen (k := 3 * (max fm (T + 1) - fm)) (n := 42 * (max fm (T + 1) - fm)) ((by show 3 ≤ 3 * (max fm (T + 1) - fm); omega)) ((by show 42 ≤ 42 * (max fm (T + 1) - fm); omega)) ?_
    exact W.aret (v := .ref (ad2 (1000 + T))) hx hb hr (Or.inl ⟨_, rfl⟩) (Or.inr ⟨_, rfl⟩) (fun t9 ht9 hW9 => ⟨⟨(ad2, g3), ad2 (1000 + T), rfl, (show (∀ z8, z8 ≠ 9 → z8 ≠ 40 → z8 ≠ 1000 + T → z8 ≠ 1020 + T → g3 z8 = gg z8) ∧ (∀ z8, z8 ≠ 40 → z8 ≠ 1000 + T → z8 ≠ 1020 + T → ad2 z8 = ad z8) ∧ (T < fm → (∀ z8, ad2 z8 = ad z8) ∧ g3 9 = gg 9 ∧ g3 40 = gg 40 ∧ g3 (1020 + T) = gg (1020 + T)) ∧ FST cT ad2 g3 tE (max fm (T + 1)) mk ∧ ∃ (w8 u8 l8 : Int32) (s8 : Int64), g3 (1000 + T) = some (eTR (ad2 (1020 + T)) (nI 0) w8 u8 l8 s8) from ⟨(fun z8 n1 n2 n3 n4 => (fg3 z8 n3).trans ((fg2 z8 (by omega) (by omega)).trans (fr1 z8 n1 n2))), (fun z8 n1 n2 n3 => (aad2 z8 (by omega) (by omega)).trans (fa1 z8 n1)), (fun q => absurd q (by omega)), (by rw [show max fm (T + 1) = fm + 1 by omega]; exact fst_tc hFT2 (T := T) (by omega) (fun z8 n1 => fg3 z8 n1) g3_0), _, _, _, _, g3_0⟩), rfl, by rw [ht9]; exact hP9, hD9⟩, hS.F ht9⟩) hS.2.2 dR_freshTree_50
