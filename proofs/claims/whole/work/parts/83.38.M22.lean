set_option maxHeartbeats 4000000 in
set_option maxRecDepth 100000 in
theorem m_ref0 (l : Launch) (D : va_G) (cT : Nat → ClassId) (y : Nat) (yr : Nat → Nat) (yi : Nat → Int32) (ysb : Int64) (ybs : Int64) (sz : Nat) : Met l yM_refused WM_refused ({ frames := 0, cells := 0, slots := 0, locals := 0 } : Room) (RW D vwCl [.ref y, .int 0] [(y, .inr (11, MO yr yi ysb ybs))] (TY cT) sz) (va_Qi (fun (r9 : Int32) (u9 : Unit) => r9 = 0) (BW D vwCl (va_A [(y, .inr (11, MO yr yi ysb ybs))] sz) (fun u9 : Unit => [(y, .inr (11, MO yr (va_up yi 1 0) ysb ybs))])) (va_A [(y, .inr (11, MO yr yi ysb ybs))] sz)) 0 0 (va_A [(y, .inr (11, MO yr yi ysb ybs))] sz) := by
  refine Met.ofW (cc := cM_refused) (maxL := 2) (ret := (some .boolean)) (by decide) rfl ?_
  intro p e s m args below meth c s₁ B hml hv
  obtain ⟨rfl, hsz, hZ, hP, hK, hD0⟩ := hv
  have hx := B.exec
  have hb := B.bytes
  have hr := B.returns
  have hts := atoms_spec (ws := WM_refused) B.pre
  have hT : ∀ w ∈ TB, w.before _ s = true := fun w h => hts w (List.mem_cons_of_mem _ h)
  have hown : s.vm.findClass R_M = some m.cls := findClass_of_methodNamed B.named
  have hlocks := B.notSynchronized
  subst hsz
  have hD := hD0.self (sz := s.heap.size)
  generalize hAe : va_A [(y, .inr (11, MO yr yi ysb ybs))] s.heap.size = A at hD hZ ⊢
  have hA : ∀ q : Nat, s.heap.size ≤ q → A q := fun q h => by rw [← hAe]; exact Or.inr h
  have hS : va_S A s.heap s.heap [] := va_S.rf
  have hl := lv_entry ([.ref y, .int 0]) (n := 2) (Nat.le_of_ble_eq_true rfl)
  rw [lg_entry_eq]
  generalize (lg_sl ([.ref y, .int 0]) ++ List.replicate (2 - (lg_sl ([.ref y, .int 0])).length) Slot.unset).toArray = ls at hl ⊢
  have hl : lv_has ls 2 [(0, .ref y), (1, .int 0)] := hl
  refine lv_aload_n hx hb dM_refused_0 rfl (lv_at hl 0 rfl) ?_
  refine lv_iload_n hx hb dM_refused_1 rfl (lv_at hl 1 rfl) ?_
  refine va_put (D := D) (ci := 11) (v := .int 0) (ty := .int) (C := R_M) (T := T_M) (N := 60) hx hb hT in_M ty_M ty_M_ok m_M hown hK hP hD hS 0 rfl rfl 1 (by decide) (hT _ w1105) (fun _ h9 => h9) rfl (by decide +kernel) rfl rfl (Nat.le_of_ble_eq_true rfl) dM_refused_2 (fun H locs hP hD hS => ?_)
  have hP : va_P D vwCl [(y, .inr (11, MO yr (va_up yi 1 0) ysb ybs))] _ := hP
  have hD : va_D A [(y, .inr (11, MO yr (va_up yi 1 0) ysb ybs))] := hD
  refine lv_iload_n hx hb dM_refused_5 rfl (lv_at hl 1 rfl) ?_
  refine lv_if_le (tgt := 13) hx hb dM_refused_6 rfl (fun _ => ?_) (fun h1 => absurd (by decide) h1)
  refine lv_iconst (v := 0) hx hb dM_refused_13 (by decide) ?_
  have hP9 := hP.sub (ws' := [(y, .inr (11, MO yr (va_up yi 1 0) ysb ybs))]) [0] rfl
  have hD9 := hD.sub (ws' := [(y, .inr (11, MO yr (va_up yi 1 0) ysb ybs))]) [0] (by decide) rfl
  refine W.widen (k := 0) (n := 0) (Nat.le_of_ble_eq_true rfl) (Nat.le_of_ble_eq_true rfl) ?_
  exact W.zret (v := 0) hx hb hr rfl (fun t9 ht9 hW9 => ⟨⟨0, (), rfl, (show 0 = 0 from rfl), by rw [ht9]; exact hP9, hD9⟩, hS.F ht9⟩) hS.2.2 dM_refused_14
set_option maxHeartbeats 4000000 in
set_option maxRecDepth 100000 in
theorem m_ref1 (l : Launch) (D : va_G) (cT : Nat → ClassId) (y : Nat) (yr : Nat → Nat) (yi : Nat → Int32) (ysb : Int64) (ybs : Int64) (sz : Nat) : Met l yM_refused WM_refused ({ frames := 0, cells := 0, slots := 0, locals := 0 } : Room) (RW D vwCl [.ref y, .int 1] [(y, .inr (11, MO yr yi ysb ybs))] (TY cT) sz) (va_Qi (fun (r9 : Int32) (u9 : Unit) => r9 = 1) (BW D vwCl (va_A [(y, .inr (11, MO yr yi ysb ybs))] sz) (fun u9 : Unit => [(y, .inr (11, MO yr (va_up yi 1 1) ysb ybs))])) (va_A [(y, .inr (11, MO yr yi ysb ybs))] sz)) 0 0 (va_A [(y, .inr (11, MO yr yi ysb ybs))] sz) := by
  refine Met.ofW (cc := cM_refused) (maxL := 2) (ret := (some .boolean)) (by decide) rfl ?_
  intro p e s m args below meth c s₁ B hml hv
  obtain ⟨rfl, hsz, hZ, hP, hK, hD0⟩ := hv
  have hx := B.exec
  have hb := B.bytes
  have hr := B.returns
  have hts := atoms_spec (ws := WM_refused) B.pre
  have hT : ∀ w ∈ TB, w.before _ s = true := fun w h => hts w (List.mem_cons_of_mem _ h)
  have hown : s.vm.findClass R_M = some m.cls := findClass_of_methodNamed B.named
  have hlocks := B.notSynchronized
  subst hsz
  have hD := hD0.self (sz := s.heap.size)
  generalize hAe : va_A [(y, .inr (11, MO yr yi ysb ybs))] s.heap.size = A at hD hZ ⊢
  have hA : ∀ q : Nat, s.heap.size ≤ q → A q := fun q h => by rw [← hAe]; exact Or.inr h
  have hS : va_S A s.heap s.heap [] := va_S.rf
  have hl := lv_entry ([.ref y, .int 1]) (n := 2) (Nat.le_of_ble_eq_true rfl)
  rw [lg_entry_eq]
  generalize (lg_sl ([.ref y, .int 1]) ++ List.replicate (2 - (lg_sl ([.ref y, .int 1])).length) Slot.unset).toArray = ls at hl ⊢
  have hl : lv_has ls 2 [(0, .ref y), (1, .int 1)] := hl
  refine lv_aload_n hx hb dM_refused_0 rfl (lv_at hl 0 rfl) ?_
  refine lv_iload_n hx hb dM_refused_1 rfl (lv_at hl 1 rfl) ?_
  refine va_put (D := D) (ci := 11) (v := .int 1) (ty := .int) (C := R_M) (T := T_M) (N := 60) hx hb hT in_M ty_M ty_M_ok m_M hown hK hP hD hS 0 rfl rfl 1 (by decide) (hT _ w1105) (fun _ h9 => h9) rfl (by decide +kernel) rfl rfl (Nat.le_of_ble_eq_true rfl) dM_refused_2 (fun H locs hP hD hS => ?_)
  have hP : va_P D vwCl [(y, .inr (11, MO yr (va_up yi 1 1) ysb ybs))] _ := hP
  have hD : va_D A [(y, .inr (11, MO yr (va_up yi 1 1) ysb ybs))] := hD
  refine lv_iload_n hx hb dM_refused_5 rfl (lv_at hl 1 rfl) ?_
  refine lv_if_le (tgt := 13) hx hb dM_refused_6 rfl (fun h1 => absurd h1 (by decide)) (fun _ => ?_)
  refine lv_iconst (v := 1) hx hb dM_refused_9 (by decide) ?_
  refine lv_goto (tgt := 14) hx hb dM_refused_10 rfl ?_
  have hP9 := hP.sub (ws' := [(y, .inr (11, MO yr (va_up yi 1 1) ysb ybs))]) [0] rfl
  have hD9 := hD.sub (ws' := [(y, .inr (11, MO yr (va_up yi 1 1) ysb ybs))]) [0] (by decide) rfl
  refine W.widen (k := 0) (n := 0) (Nat.le_of_ble_eq_true rfl) (Nat.le_of_ble_eq_true rfl) ?_
  exact W.zret (v := 1) hx hb hr rfl (fun t9 ht9 hW9 => ⟨⟨1, (), rfl, (show 1 = 1 from rfl), by rw [ht9]; exact hP9, hD9⟩, hS.F ht9⟩) hS.2.2 dM_refused_14
set_option maxHeartbeats 4000000 in
set_option maxRecDepth 100000 in
theorem m_ref2 (l : Launch) (D : va_G) (cT : Nat → ClassId) (y : Nat) (yr : Nat → Nat) (yi : Nat → Int32) (ysb : Int64) (ybs : Int64) (sz : Nat) : Met l yM_refused WM_refused ({ frames := 0, cells := 0, slots := 0, locals := 0 } : Room) (RW D vwCl [.ref y, .int 2] [(y, .inr (11, MO yr yi ysb ybs))] (TY cT) sz) (va_Qi (fun (r9 : Int32) (u9 : Unit) => r9 = 1) (BW D vwCl (va_A [(y, .inr (11, MO yr yi ysb ybs))] sz) (fun u9 : Unit => [(y, .inr (11, MO yr (va_up yi 1 2) ysb ybs))])) (va_A [(y, .inr (11, MO yr yi ysb ybs))] sz)) 0 0 (va_A [(y, .inr (11, MO yr yi ysb ybs))] sz) := by
  refine Met.ofW (cc := cM_refused) (maxL := 2) (ret := (some .boolean)) (by decide) rfl ?_
  intro p e s m args below meth c s₁ B hml hv
  obtain ⟨rfl, hsz, hZ, hP, hK, hD0⟩ := hv
  have hx := B.exec
  have hb := B.bytes
  have hr := B.returns
  have hts := atoms_spec (ws := WM_refused) B.pre
  have hT : ∀ w ∈ TB, w.before _ s = true := fun w h => hts w (List.mem_cons_of_mem _ h)
  have hown : s.vm.findClass R_M = some m.cls := findClass_of_methodNamed B.named
  have hlocks := B.notSynchronized
  subst hsz
  have hD := hD0.self (sz := s.heap.size)
  generalize hAe : va_A [(y, .inr (11, MO yr yi ysb ybs))] s.heap.size = A at hD hZ ⊢
  have hA : ∀ q : Nat, s.heap.size ≤ q → A q := fun q h => by rw [← hAe]; exact Or.inr h
  have hS : va_S A s.heap s.heap [] := va_S.rf
  have hl := lv_entry ([.ref y, .int 2]) (n := 2) (Nat.le_of_ble_eq_true rfl)
  rw [lg_entry_eq]
  generalize (lg_sl ([.ref y, .int 2]) ++ List.replicate (2 - (lg_sl ([.ref y, .int 2])).length) Slot.unset).toArray = ls at hl ⊢
  have hl : lv_has ls 2 [(0, .ref y), (1, .int 2)] := hl
  refine lv_aload_n hx hb dM_refused_0 rfl (lv_at hl 0 rfl) ?_
  refine lv_iload_n hx hb dM_refused_1 rfl (lv_at hl 1 rfl) ?_
  refine va_put (D := D) (ci := 11) (v := .int 2) (ty := .int) (C := R_M) (T := T_M) (N := 60) hx hb hT in_M ty_M ty_M_ok m_M hown hK hP hD hS 0 rfl rfl 1 (by decide) (hT _ w1105) (fun _ h9 => h9) rfl (by decide +kernel) rfl rfl (Nat.le_of_ble_eq_true rfl) dM_refused_2 (fun H locs hP hD hS => ?_)
  have hP : va_P D vwCl [(y, .inr (11, MO yr (va_up yi 1 2) ysb ybs))] _ := hP
  have hD : va_D A [(y, .inr (11, MO yr (va_up yi 1 2) ysb ybs))] := hD
  refine lv_iload_n hx hb dM_refused_5 rfl (lv_at hl 1 rfl) ?_
  refine lv_if_le (tgt := 13) hx hb dM_refused_6 rfl (fun h1 => absurd h1 (by decide)) (fun _ => ?_)
  refine lv_iconst (v := 1) hx hb dM_refused_9 (by decide) ?_
  refine lv_goto (tgt := 14) hx hb dM_refused_10 rfl ?_
  have hP9 := hP.sub (ws' := [(y, .inr (11, MO yr (va_up yi 1 2) ysb ybs))]) [0] rfl
  have hD9 := hD.sub (ws' := [(y, .inr (11, MO yr (va_up yi 1 2) ysb ybs))]) [0] (by decide) rfl
  refine W.widen (k := 0) (n := 0) (Nat.le_of_ble_eq_true rfl) (Nat.le_of_ble_eq_true rfl) ?_
  exact W.zret (v := 1) hx hb hr rfl (fun t9 ht9 hW9 => ⟨⟨1, (), rfl, (show 1 = 1 from rfl), by rw [ht9]; exact hP9, hD9⟩, hS.F ht9⟩) hS.2.2 dM_refused_14
set_option maxHeartbeats 4000000 in
set_option maxRecDepth 100000 in
theorem m_noRow (l : Launch) (D : va_G) (cT : Nat → ClassId) (y : Nat) (yr : Nat → Nat) (yi : Nat → Int32) (ysb : Int64) (ybs : Int64) (v : Int32) : Met l yM_noRow WM_noRow ({ frames := 1, cells := 0, slots := 0, locals := 22 } : Room) (RO D vwCl [.ref y, .int v] [(y, .inr (11, MO yr yi ysb ybs))] (TY cT)) (QcRead (bi (¬ (0 ≤ v ∧ v ≤ yi 3 - 1)))) 0 0 (fun _ => False) := by
  refine Met.ofW (cc := cM_noRow) (maxL := 2) (ret := (some .boolean)) (by decide) rfl ?_
  intro p e s m args below meth c s₁ B hml hv
  obtain ⟨rfl, hZ, hP, hK⟩ := hv
  have hx := B.exec
  have hb := B.bytes
  have hr := B.returns
  have hts := atoms_spec (ws := WM_noRow) B.pre
  have hT : ∀ w ∈ TB, w.before _ s = true := fun w h => hts w (List.mem_cons_of_mem _ h)
  have hown : s.vm.findClass R_M = some m.cls := findClass_of_methodNamed B.named
  have hlocks := B.notSynchronized
  have hS : va_S (fun _ => False) s.heap s.heap [] := va_S.rf
  have hl := lv_entry ([.ref y, .int v]) (n := 2) (Nat.le_of_ble_eq_true rfl)
  rw [lg_entry_eq]
  generalize (lg_sl ([.ref y, .int v]) ++ List.replicate (2 - (lg_sl ([.ref y, .int v])).length) Slot.unset).toArray = ls at hl ⊢
  have hl : lv_has ls 2 [(0, .ref y), (1, .int v)] := hl
  refine lv_iload_n hx hb dM_noRow_0 rfl (lv_at hl 1 rfl) ?_
  refine lv_iconst (v := 0) hx hb dM_noRow_1 (by decide) ?_
  refine lv_aload_n hx hb dM_noRow_2 rfl (lv_at hl 0 rfl) ?_
  refine va_get (D := D) (ci := 11) (v := .int (yi 3)) (C := R_M) (T := T_M) (N := 60) hx hb hT in_M hown hK hP 0 rfl rfl 3 (by decide) (hT _ w1107) (fun _ h9 => h9) rfl dM_noRow_3 ?_
  refine lv_iconst (v := 1) hx hb dM_noRow_6 (by decide) ?_
  refine lv_isub hx hb dM_noRow_7 ?_
  refine ro_i (va_Run.run (va_runS (As := [.int v, .int 0, .int ((yi 3) - 1)]) (rest := []) ⟨hx, hb, hml, hown, hT⟩ (m_in l D cT v 0 ((yi 3) - 1)) ⟨callB_of 3 hT (tb_gd w1297) rfl rfl rfl (hT _ w13) (hT _ w1295) hM_in ⟨Nat.le_of_ble_eq_true rfl, Nat.le_of_ble_eq_true rfl⟩, (hT _ w1296)⟩ (RO.preS hZ hS ((show va_P D vwCl [] _ from fun _ _ h => nomatch h)) hK) rfl rfl hl.1 rfl (lv_room (Nat.le_of_ble_eq_true rfl)) dM_noRow_8 ⟨Nat.le_of_ble_eq_true rfl, Nat.le_of_ble_eq_true rfl⟩)) ?_
  refine lv_if_ne (tgt := 18) hx hb dM_noRow_11 rfl (fun h1 => ?_) (fun h1 => ?_)
  · refine lv_iconst (v := 0) hx hb dM_noRow_18 (by decide) ?_
    exact W.zret (v := 0) hx hb hr rfl (fun t9 ht9 hW9 => ⟨by rw [bi_f (fun q => q (bi_1 h1))], ht9⟩) (fun q h => nomatch h) dM_noRow_19
  · refine lv_iconst (v := 1) hx hb dM_noRow_14 (by decide) ?_
    refine lv_goto (tgt := 19) hx hb dM_noRow_15 rfl ?_
    exact W.zret (v := 1) hx hb hr rfl (fun t9 ht9 hW9 => ⟨by rw [bi_t (bi_0 h1)], ht9⟩) (fun q h => nomatch h) dM_noRow_19
set_option maxHeartbeats 4000000 in
set_option maxRecDepth 100000 in
theorem m_noColumn (l : Launch) (D : va_G) (cT : Nat → ClassId) (y : Nat) (yr : Nat → Nat) (yi : Nat → Int32) (ysb : Int64) (ybs : Int64) (v : Int32) : Met l yM_noColumn WM_noColumn ({ frames := 1, cells := 0, slots := 0, locals := 22 } : Room) (RO D vwCl [.ref y, .int v] [(y, .inr (11, MO yr yi ysb ybs))] (TY cT)) (QcRead (bi (¬ (0 ≤ v ∧ v ≤ yi 2 - 1)))) 0 0 (fun _ => False) := by
  refine Met.ofW (cc := cM_noColumn) (maxL := 2) (ret := (some .boolean)) (by decide) rfl ?_
  intro p e s m args below meth c s₁ B hml hv
  obtain ⟨rfl, hZ, hP, hK⟩ := hv
  have hx := B.exec
  have hb := B.bytes
  have hr := B.returns
  have hts := atoms_spec (ws := WM_noColumn) B.pre
  have hT : ∀ w ∈ TB, w.before _ s = true := fun w h => hts w (List.mem_cons_of_mem _ h)
  have hown : s.vm.findClass R_M = some m.cls := findClass_of_methodNamed B.named
  have hlocks := B.notSynchronized
  have hS : va_S (fun _ => False) s.heap s.heap [] := va_S.rf
  have hl := lv_entry ([.ref y, .int v]) (n := 2) (Nat.le_of_ble_eq_true rfl)
  rw [lg_entry_eq]
  generalize (lg_sl ([.ref y, .int v]) ++ List.replicate (2 - (lg_sl ([.ref y, .int v])).length) Slot.unset).toArray = ls at hl ⊢
  have hl : lv_has ls 2 [(0, .ref y), (1, .int v)] := hl
  refine lv_iload_n hx hb dM_noColumn_0 rfl (lv_at hl 1 rfl) ?_
  refine lv_iconst (v := 0) hx hb dM_noColumn_1 (by decide) ?_
  refine lv_aload_n hx hb dM_noColumn_2 rfl (lv_at hl 0 rfl) ?_
  refine va_get (D := D) (ci := 11) (v := .int (yi 2)) (C := R_M) (T := T_M) (N := 60) hx hb hT in_M hown hK hP 0 rfl rfl 2 (by decide) (hT _ w1106) (fun _ h9 => h9) rfl dM_noColumn_3 ?_
  refine lv_iconst (v := 1) hx hb dM_noColumn_6 (by decide) ?_
  refine lv_isub hx hb dM_noColumn_7 ?_
  refine ro_i (va_Run.run (va_runS (As := [.int v, .int 0, .int ((yi 2) - 1)]) (rest := []) ⟨hx, hb, hml, hown, hT⟩ (m_in l D cT v 0 ((yi 2) - 1)) ⟨callB_of 3 hT (tb_gd w1297) rfl rfl rfl (hT _ w13) (hT _ w1295) hM_in ⟨Nat.le_of_ble_eq_true rfl, Nat.le_of_ble_eq_true rfl⟩, (hT _ w1296)⟩ (RO.preS hZ hS ((show va_P D vwCl [] _ from fun _ _ h => nomatch h)) hK) rfl rfl hl.1 rfl (lv_room (Nat.le_of_ble_eq_true rfl)) dM_noColumn_8 ⟨Nat.le_of_ble_eq_true rfl, Nat.le_of_ble_eq_true rfl⟩)) ?_
  refine lv_if_ne (tgt := 18) hx hb dM_noColumn_11 rfl (fun h1 => ?_) (fun h1 => ?_)
  · refine lv_iconst (v := 0) hx hb dM_noColumn_18 (by decide) ?_
    exact W.zret (v := 0) hx hb hr rfl (fun t9 ht9 hW9 => ⟨by rw [bi_f (fun q => q (bi_1 h1))], ht9⟩) (fun q h => nomatch h) dM_noColumn_19
  · refine lv_iconst (v := 1) hx hb dM_noColumn_14 (by decide) ?_
    refine lv_goto (tgt := 19) hx hb dM_noColumn_15 rfl ?_
    exact W.zret (v := 1) hx hb hr rfl (fun t9 ht9 hW9 => ⟨by rw [bi_t (bi_0 h1)], ht9⟩) (fun q h => nomatch h) dM_noColumn_19
set_option maxHeartbeats 4000000 in
set_option maxRecDepth 100000 in
theorem m_noTree (l : Launch) (D : va_G) (cT : Nat → ClassId) (y : Nat) (yr : Nat → Nat) (yi : Nat → Int32) (ysb : Int64) (ybs : Int64) (v : Int32) : Met l yM_noTree WM_noTree ({ frames := 1, cells := 0, slots := 0, locals := 22 } : Room) (RO D vwCl [.ref y, .int v] [(y, .inr (11, MO yr yi ysb ybs))] (TY cT)) (QcRead (bi (¬ (0 ≤ v ∧ v ≤ yi 17 - 1)))) 0 0 (fun _ => False) := by
  refine Met.ofW (cc := cM_noTree) (maxL := 2) (ret := (some .boolean)) (by decide) rfl ?_
  intro p e s m args below meth c s₁ B hml hv
  obtain ⟨rfl, hZ, hP, hK⟩ := hv
  have hx := B.exec
  have hb := B.bytes
  have hr := B.returns
  have hts := atoms_spec (ws := WM_noTree) B.pre
  have hT : ∀ w ∈ TB, w.before _ s = true := fun w h => hts w (List.mem_cons_of_mem _ h)
  have hown : s.vm.findClass R_M = some m.cls := findClass_of_methodNamed B.named
  have hlocks := B.notSynchronized
  have hS : va_S (fun _ => False) s.heap s.heap [] := va_S.rf
  have hl := lv_entry ([.ref y, .int v]) (n := 2) (Nat.le_of_ble_eq_true rfl)
  rw [lg_entry_eq]
  generalize (lg_sl ([.ref y, .int v]) ++ List.replicate (2 - (lg_sl ([.ref y, .int v])).length) Slot.unset).toArray = ls at hl ⊢
  have hl : lv_has ls 2 [(0, .ref y), (1, .int v)] := hl
  refine lv_iload_n hx hb dM_noTree_0 rfl (lv_at hl 1 rfl) ?_
  refine lv_iconst (v := 0) hx hb dM_noTree_1 (by decide) ?_
  refine lv_aload_n hx hb dM_noTree_2 rfl (lv_at hl 0 rfl) ?_
  refine va_get (D := D) (ci := 11) (v := .int (yi 17)) (C := R_M) (T := T_M) (N := 60) hx hb hT in_M hown hK hP 0 rfl rfl 17 (by decide) (hT _ w1121) (fun _ h9 => h9) rfl dM_noTree_3 ?_
  refine lv_iconst (v := 1) hx hb dM_noTree_6 (by decide) ?_
  refine lv_isub hx hb dM_noTree_7 ?_
  refine ro_i (va_Run.run (va_runS (As := [.int v, .int 0, .int ((yi 17) - 1)]) (rest := []) ⟨hx, hb, hml, hown, hT⟩ (m_in l D cT v 0 ((yi 17) - 1)) ⟨callB_of 3 hT (tb_gd w1297) rfl rfl rfl (hT _ w13) (hT _ w1295) hM_in ⟨Nat.le_of_ble_eq_true rfl, Nat.le_of_ble_eq_true rfl⟩, (hT _ w1296)⟩ (RO.preS hZ hS ((show va_P D vwCl [] _ from fun _ _ h => nomatch h)) hK) rfl rfl hl.1 rfl (lv_room (Nat.le_of_ble_eq_true rfl)) dM_noTree_8 ⟨Nat.le_of_ble_eq_true rfl, Nat.le_of_ble_eq_true rfl⟩)) ?_
  refine lv_if_ne (tgt := 18) hx hb dM_noTree_11 rfl (fun h1 => ?_) (fun h1 => ?_)
  · refine lv_iconst (v := 0) hx hb dM_noTree_18 (by decide) ?_
    exact W.zret (v := 0) hx hb hr rfl (fun t9 ht9 hW9 => ⟨by rw [bi_f (fun q => q (bi_1 h1))], ht9⟩) (fun q h => nomatch h) dM_noTree_19
  · refine lv_iconst (v := 1) hx hb dM_noTree_14 (by decide) ?_
    refine lv_goto (tgt := 19) hx hb dM_noTree_15 rfl ?_
    exact W.zret (v := 1) hx hb hr rfl (fun t9 ht9 hW9 => ⟨by rw [bi_t (bi_0 h1)], ht9⟩) (fun q h => nomatch h) dM_noTree_19
set_option maxHeartbeats 4000000 in
set_option maxRecDepth 100000 in
theorem m_isNum (l : Launch) (D : va_G) (cT : Nat → ClassId) (v : Int32) : Met l yM_isNumber WM_isNumber ({ frames := 1, cells := 0, slots := 0, locals := 22 } : Room) (RO D vwCl [.int v] [] (TY cT)) (QcRead (bi ((-1000000) ≤ v ∧ v ≤ 1000000))) 0 0 (fun _ => False) := by
  refine Met.ofW (cc := cM_isNumber) (maxL := 1) (ret := (some .boolean)) (by decide) rfl ?_
  intro p e s m args below meth c s₁ B hml hv
  obtain ⟨rfl, hZ, hP, hK⟩ := hv
  have hx := B.exec
  have hb := B.bytes
  have hr := B.returns
  have hts := atoms_spec (ws := WM_isNumber) B.pre
  have hT : ∀ w ∈ TB, w.before _ s = true := fun w h => hts w (List.mem_cons_of_mem _ h)
  have hown : s.vm.findClass R_M = some m.cls := findClass_of_methodNamed B.named
  have hlocks := B.notSynchronized
  have hS : va_S (fun _ => False) s.heap s.heap [] := va_S.rf
  have hl := lv_entry ([.int v]) (n := 1) (Nat.le_of_ble_eq_true rfl)
  rw [lg_entry_eq]
  generalize (lg_sl ([.int v]) ++ List.replicate (1 - (lg_sl ([.int v])).length) Slot.unset).toArray = ls at hl ⊢
  have hl : lv_has ls 1 [(0, .int v)] := hl
  refine lv_iload_n hx hb dM_isNumber_0 rfl (lv_at hl 0 rfl) ?_
  refine lv_ldc (v := (-1000000)) hx hb hown (hT _ w1325) dM_isNumber_1 ?_
  refine lv_ldc (v := 1000000) hx hb hown (hT _ w1326) dM_isNumber_3 ?_
  refine ro_i (va_Run.run (va_runS (As := [.int v, .int (-1000000), .int 1000000]) (rest := []) ⟨hx, hb, hml, hown, hT⟩ (m_in l D cT v (-1000000) 1000000) ⟨callB_of 3 hT (tb_gd w1297) rfl rfl rfl (hT _ w13) (hT _ w1295) hM_in ⟨Nat.le_of_ble_eq_true rfl, Nat.le_of_ble_eq_true rfl⟩, (hT _ w1296)⟩ (RO.preS hZ hS ((show va_P D vwCl [] _ from fun _ _ h => nomatch h)) hK) rfl rfl hl.1 rfl (lv_room (Nat.le_of_ble_eq_true rfl)) dM_isNumber_5 ⟨Nat.le_of_ble_eq_true rfl, Nat.le_of_ble_eq_true rfl⟩)) ?_
  exact W.zret (v := bi ((-1000000) ≤ v ∧ v ≤ 1000000)) hx hb hr bi_n (fun t9 ht9 hW9 => ⟨rfl, ht9⟩) (fun q h => nomatch h) dM_isNumber_8
set_option maxHeartbeats 4000000 in
set_option maxRecDepth 100000 in
theorem m_thrown (l : Launch) (D : va_G) (cT : Nat → ClassId) (y : Nat) (yr : Nat → Nat) (yi : Nat → Int32) (ysb : Int64) (ybs : Int64) : Met l yM_thrown WM_thrown ({ frames := 0, cells := 0, slots := 0, locals := 0 } : Room) (RO D vwCl [.ref y] [(y, .inr (11, MO yr yi ysb ybs))] (TY cT)) (QcRead (yi 1)) 0 0 (fun _ => False) := by
  refine Met.ofW (cc := cM_thrown) (maxL := 1) (ret := (some .int)) (by decide) rfl ?_
  intro p e s m args below meth c s₁ B hml hv
  obtain ⟨rfl, hZ, hP, hK⟩ := hv
  have hx := B.exec
  have hb := B.bytes
  have hr := B.returns
  have hts := atoms_spec (ws := WM_thrown) B.pre
  have hT : ∀ w ∈ TB, w.before _ s = true := fun w h => hts w (List.mem_cons_of_mem _ h)
  have hown : s.vm.findClass R_M = some m.cls := findClass_of_methodNamed B.named
  have hlocks := B.notSynchronized
  have hS : va_S (fun _ => False) s.heap s.heap [] := va_S.rf
  have hl := lv_entry ([.ref y]) (n := 1) (Nat.le_of_ble_eq_true rfl)
  rw [lg_entry_eq]
  generalize (lg_sl ([.ref y]) ++ List.replicate (1 - (lg_sl ([.ref y])).length) Slot.unset).toArray = ls at hl ⊢
  have hl : lv_has ls 1 [(0, .ref y)] := hl
  refine lv_aload_n hx hb dM_thrown_0 rfl (lv_at hl 0 rfl) ?_
  refine va_get (D := D) (ci := 11) (v := .int (yi 1)) (C := R_M) (T := T_M) (N := 60) hx hb hT in_M hown hK hP 0 rfl rfl 1 (by decide) (hT _ w1105) (fun _ h9 => h9) rfl dM_thrown_1 ?_
  exact W.iret (v := yi 1) hx hb hr (fun t9 ht9 hW9 => ⟨rfl, ht9⟩) (fun q h => nomatch h) dM_thrown_4
set_option maxHeartbeats 4000000 in
set_option maxRecDepth 100000 in
theorem y_target_ok (l : Launch) (D : va_G) (cT : Nat → ClassId) (y : Nat) (yr : Nat → Nat) (yi : Nat → Int32) (ysb : Int64) (ybs : Int64) (tg : Nat → Int32) (r : Nat) (v : Int32) (hc0 : 0 ≤ nI r ∧ nI r ≤ yi 3 - 1) (hc1 : (-1000) ≤ v ∧ v ≤ 1000) (hr48 : r < 48) (sz : Nat) : Met l yM_target WM_target ({ frames := 2, cells := 0, slots := 0, locals := 43 } : Room) (RW D vwCl [.ref y, .int (nI r), .int v] [(y, .inr (11, MO yr yi ysb ybs)), (yr 4, .inl (cT 0, 48, .inl tg))] (TY cT) sz) (va_Qi (fun (r9 : Int32) (u9 : Unit) => r9 = tg r) (BW D vwCl (va_A [(y, .inr (11, MO yr yi ysb ybs)), (yr 4, .inl (cT 0, 48, .inl tg))] sz) (fun u9 : Unit => [(y, .inr (11, MO yr (va_up yi 1 0) ysb ybs)), (yr 4, .inl (cT 0, 48, .inl (upd tg r v)))])) (va_A [(y, .inr (11, MO yr yi ysb ybs)), (yr 4, .inl (cT 0, 48, .inl tg))] sz)) 0 0 (va_A [(y, .inr (11, MO yr yi ysb ybs)), (yr 4, .inl (cT 0, 48, .inl tg))] sz) := by
  refine Met.ofW (cc := cM_target) (maxL := 4) (ret := (some .int)) (by decide) rfl ?_
  intro p e s m args below meth c s₁ B hml hv
  obtain ⟨rfl, hsz, hZ, hP, hK, hD0⟩ := hv
  have hx := B.exec
  have hb := B.bytes
  have hr := B.returns
  have hts := atoms_spec (ws := WM_target) B.pre
  have hT : ∀ w ∈ TB, w.before _ s = true := fun w h => hts w (List.mem_cons_of_mem _ h)
  have hown : s.vm.findClass R_M = some m.cls := findClass_of_methodNamed B.named
  have hlocks := B.notSynchronized
  subst hsz
  have hD := hD0.self (sz := s.heap.size)
  generalize hAe : va_A [(y, .inr (11, MO yr yi ysb ybs)), (yr 4, .inl (cT 0, 48, .inl tg))] s.heap.size = A at hD hZ ⊢
  have hA : ∀ q : Nat, s.heap.size ≤ q → A q := fun q h => by rw [← hAe]; exact Or.inr h
  have hS : va_S A s.heap s.heap [] := va_S.rf
  have hl := lv_entry ([.ref y, .int (nI r), .int v]) (n := 4) (Nat.le_of_ble_eq_true rfl)
  rw [lg_entry_eq]
  generalize (lg_sl ([.ref y, .int (nI r), .int v]) ++ List.replicate (4 - (lg_sl ([.ref y, .int (nI r), .int v])).length) Slot.unset).toArray = ls at hl ⊢
  have hl : lv_has ls 4 [(0, .ref y), (1, .int (nI r)), (2, .int v)] := hl
  refine lv_aload_n hx hb dM_target_0 rfl (lv_at hl 0 rfl) ?_
  refine lv_aload_n hx hb dM_target_1 rfl (lv_at hl 0 rfl) ?_
  refine lv_iload_n hx hb dM_target_2 rfl (lv_at hl 1 rfl) ?_
  refine ro_i (va_Run.run (va_runV (As := [.int (nI r)]) (rest := [.ref y]) ⟨hx, hb, hml, hown, hT⟩ (m_noRow l D cT y yr yi ysb ybs (nI r)) ⟨callB_of 1 hT (tb_gd w1313) rfl rfl rfl (hT _ w13) (hT _ w1310) hM_noRow ⟨Nat.le_of_ble_eq_true rfl, Nat.le_of_ble_eq_true rfl⟩, (hT _ w1312), (hT _ wp30)⟩ (RO.preV (ci := 11) (q0 := 0) hZ hS (hP.sub (ws' := [(y, .inr (11, MO yr yi ysb ybs))]) [0] rfl) hK rfl rfl) rfl rfl hl.1 rfl (lv_room (Nat.le_of_ble_eq_true rfl)) dM_target_3 ⟨Nat.le_of_ble_eq_true rfl, Nat.le_of_ble_eq_true rfl⟩)) ?_
  refine lv_if_ne (tgt := 22) hx hb dM_target_6 rfl (fun h1 => absurd (bi_f (fun q => q hc0)) h1) (fun _ => ?_)
  refine lv_iload_n hx hb dM_target_9 rfl (lv_at hl 2 rfl) ?_
  refine lv_sipush (v := (-1000)) hx hb dM_target_10 (by decide) ?_
  refine lv_sipush (v := 1000) hx hb dM_target_13 (by decide) ?_
  refine ro_i (va_Run.run (va_runS (As := [.int v, .int (-1000), .int 1000]) (rest := [.ref y]) ⟨hx, hb, hml, hown, hT⟩ (m_in l D cT v (-1000) 1000) ⟨callB_of 3 hT (tb_gd w1297) rfl rfl rfl (hT _ w13) (hT _ w1295) hM_in ⟨Nat.le_of_ble_eq_true rfl, Nat.le_of_ble_eq_true rfl⟩, (hT _ w1296)⟩ (RO.preS hZ hS ((show va_P D vwCl [] _ from fun _ _ h => nomatch h)) hK) rfl rfl hl.1 rfl (lv_room (Nat.le_of_ble_eq_true rfl)) dM_target_16 ⟨Nat.le_of_ble_eq_true rfl, Nat.le_of_ble_eq_true rfl⟩)) ?_
  refine lv_if_ne (tgt := 26) hx hb dM_target_19 rfl (fun _ => ?_) (fun h2 => absurd h2 (by rw [bi_t hc1]; decide))
  refine lv_iconst (v := 0) hx hb dM_target_26 (by decide) ?_
  refine rw_i (wc := [(y, .inr (11, MO yr yi ysb ybs))]) (wr := [(yr 4, .inl (cT 0, 48, .inl tg))]) hP hD hS hA [0] [1] rfl rfl (by decide) (by decide) (va_runV (As := [.int 0]) (rest := []) ⟨hx, hb, hml, hown, hT⟩ (m_ref0 l D cT y yr yi ysb ybs _) ⟨callB_of 1 hT (tb_gd w1301) rfl rfl rfl (hT _ w13) (hT _ w1298) hM_refused ⟨Nat.le_of_ble_eq_true rfl, Nat.le_of_ble_eq_true rfl⟩, (hT _ w1300), (hT _ wp29)⟩ (RW.preV (ci := 11) (q0 := 0) hZ hS (va_free (wc := [(y, .inr (11, MO yr yi ysb ybs))]) hD hS hA [0] rfl) (hP.sub (ws' := [(y, .inr (11, MO yr yi ysb ybs))]) [0] rfl) hK (hD.sub (ws' := [(y, .inr (11, MO yr yi ysb ybs))]) [0] (by decide) rfl) rfl rfl) rfl rfl hl.1 rfl (lv_room (Nat.le_of_ble_eq_true rfl)) dM_target_27 ⟨Nat.le_of_ble_eq_true rfl, Nat.le_of_ble_eq_true rfl⟩) (fun ru3 u9 H locs hpu3 hP hD hS => ?_)
  have hpu3 : ru3 = 0 := hpu3
  have hP : va_P D vwCl [(yr 4, .inl (cT 0, 48, .inl tg)), (y, .inr (11, MO yr (va_up yi 1 0) ysb ybs))] _ := hP
  have hD : va_D A [(yr 4, .inl (cT 0, 48, .inl tg)), (y, .inr (11, MO yr (va_up yi 1 0) ysb ybs))] := hD
  refine lv_topi (fun y9 e9 => ?_)
  cases (show y9 = 0 from e9.trans hpu3)
  refine lv_if_eq (tgt := 35) hx hb dM_target_30 rfl (fun _ => ?_) (fun h4 => absurd (by decide) h4)
  refine lv_aload_n hx hb dM_target_35 rfl (lv_at hl 0 rfl) ?_
  refine va_get (D := D) (ci := 11) (v := .ref (yr 4)) (C := R_M) (T := T_M) (N := 60) hx hb hT in_M hown hK hP 1 rfl rfl 4 (by decide) (hT _ w1108) (fun _ h9 => h9) rfl dM_target_36 ?_
  refine lv_iload_n hx hb dM_target_39 rfl (lv_at hl 1 rfl) ?_
  refine lq_iald (j := r) hx hb hK hP 0 0 rfl rfl rfl (by omega) (by omega) dM_target_40 ?_
  refine lv_istore_n hx hb dM_target_41 rfl hl (by decide) rfl (fun ls hl => ?_)
  have hl : lv_has ls 4 [(3, .int (tg r)), (0, .ref y), (1, .int (nI r)), (2, .int v)] := hl
  refine lv_aload_n hx hb dM_target_42 rfl (lv_at hl 1 rfl) ?_
  refine va_get (D := D) (ci := 11) (v := .ref (yr 4)) (C := R_M) (T := T_M) (N := 60) hx hb hT in_M hown hK hP 1 rfl rfl 4 (by decide) (hT _ w1108) (fun _ h9 => h9) rfl dM_target_43 ?_
  refine lv_iload_n hx hb dM_target_46 rfl (lv_at hl 2 rfl) ?_
  refine lv_iload_n hx hb dM_target_47 rfl (lv_at hl 3 rfl) ?_
  refine lq_iast (j := r) hx hb hK hP hD hS 0 0 rfl rfl rfl (by omega) (by omega) dM_target_48 (fun H locs hP hD hS => ?_)
  have hP : va_P D vwCl [(yr 4, .inl (cT 0, 48, .inl (upd tg r v))), (y, .inr (11, MO yr (va_up yi 1 0) ysb ybs))] _ := hP
  have hD : va_D A [(yr 4, .inl (cT 0, 48, .inl (upd tg r v))), (y, .inr (11, MO yr (va_up yi 1 0) ysb ybs))] := hD
  refine lv_iload_n hx hb dM_target_49 rfl (lv_at hl 0 rfl) ?_
  have hP9 := hP.sub (ws' := [(y, .inr (11, MO yr (va_up yi 1 0) ysb ybs)), (yr 4, .inl (cT 0, 48, .inl (upd tg r v)))]) [1, 0] rfl
  have hD9 := hD.sub (ws' := [(y, .inr (11, MO yr (va_up yi 1 0) ysb ybs)), (yr 4, .inl (cT 0, 48, .inl (upd tg r v)))]) [1, 0] (by decide) rfl
  refine W.widen (k := 0) (n := 0) (Nat.le_of_ble_eq_true rfl) (Nat.le_of_ble_eq_true rfl) ?_
  exact W.iret (v := tg r) hx hb hr (fun t9 ht9 hW9 => ⟨⟨tg r, (), rfl, (show (tg r) = tg r from rfl), by rw [ht9]; exact hP9, hD9⟩, hS.F ht9⟩) hS.2.2 dM_target_50
set_option maxHeartbeats 4000000 in
set_option maxRecDepth 100000 in
theorem y_drop_ok (l : Launch) (D : va_G) (cT : Nat → ClassId) (y : Nat) (yr : Nat → Nat) (yi : Nat → Int32) (ysb : Int64) (ybs : Int64) (v : Int32) (hc0 : 0 ≤ v ∧ v ≤ yi 17) (sz : Nat) : Met l yM_drop WM_drop ({ frames := 1, cells := 0, slots := 0, locals := 22 } : Room) (RW D vwCl [.ref y, .int v] [(y, .inr (11, MO yr yi ysb ybs))] (TY cT) sz) (va_Qi (fun (r9 : Int32) (u9 : Unit) => r9 = yi 17 - v) (BW D vwCl (va_A [(y, .inr (11, MO yr yi ysb ybs))] sz) (fun u9 : Unit => [(y, .inr (11, MO yr (va_up (va_up yi 1 0) 17 v) ysb ybs))])) (va_A [(y, .inr (11, MO yr yi ysb ybs))] sz)) 0 0 (va_A [(y, .inr (11, MO yr yi ysb ybs))] sz) := by
  refine Met.ofW (cc := cM_drop) (maxL := 3) (ret := (some .int)) (by decide) rfl ?_
  intro p e s m args below meth c s₁ B hml hv
  obtain ⟨rfl, hsz, hZ, hP, hK, hD0⟩ := hv
  have hx := B.exec
  have hb := B.bytes
  have hr := B.returns
  have hts := atoms_spec (ws := WM_drop) B.pre
  have hT : ∀ w ∈ TB, w.before _ s = true := fun w h => hts w (List.mem_cons_of_mem _ h)
  have hown : s.vm.findClass R_M = some m.cls := findClass_of_methodNamed B.named
  have hlocks := B.notSynchronized
  subst hsz
  have hD := hD0.self (sz := s.heap.size)
  generalize hAe : va_A [(y, .inr (11, MO yr yi ysb ybs))] s.heap.size = A at hD hZ ⊢
  have hA : ∀ q : Nat, s.heap.size ≤ q → A q := fun q h => by rw [← hAe]; exact Or.inr h
  have hS : va_S A s.heap s.heap [] := va_S.rf
  have hl := lv_entry ([.ref y, .int v]) (n := 3) (Nat.le_of_ble_eq_true rfl)
  rw [lg_entry_eq]
  generalize (lg_sl ([.ref y, .int v]) ++ List.replicate (3 - (lg_sl ([.ref y, .int v])).length) Slot.unset).toArray = ls at hl ⊢
  have hl : lv_has ls 3 [(0, .ref y), (1, .int v)] := hl
  refine lv_aload_n hx hb dM_drop_0 rfl (lv_at hl 0 rfl) ?_
  refine lv_iload_n hx hb dM_drop_1 rfl (lv_at hl 1 rfl) ?_
  refine lv_iconst (v := 0) hx hb dM_drop_2 (by decide) ?_
  refine lv_aload_n hx hb dM_drop_3 rfl (lv_at hl 0 rfl) ?_
  refine va_get (D := D) (ci := 11) (v := .int (yi 17)) (C := R_M) (T := T_M) (N := 60) hx hb hT in_M hown hK hP 0 rfl rfl 17 (by decide) (hT _ w1121) (fun _ h9 => h9) rfl dM_drop_4 ?_
  refine ro_i (va_Run.run (va_runS (As := [.int v, .int 0, .int (yi 17)]) (rest := [.ref y]) ⟨hx, hb, hml, hown, hT⟩ (m_in l D cT v 0 (yi 17)) ⟨callB_of 3 hT (tb_gd w1297) rfl rfl rfl (hT _ w13) (hT _ w1295) hM_in ⟨Nat.le_of_ble_eq_true rfl, Nat.le_of_ble_eq_true rfl⟩, (hT _ w1296)⟩ (RO.preS hZ hS ((show va_P D vwCl [] _ from fun _ _ h => nomatch h)) hK) rfl rfl hl.1 rfl (lv_room (Nat.le_of_ble_eq_true rfl)) dM_drop_7 ⟨Nat.le_of_ble_eq_true rfl, Nat.le_of_ble_eq_true rfl⟩)) ?_
  refine lv_if_eq (tgt := 17) hx hb dM_drop_10 rfl (fun h1 => absurd h1 (by rw [bi_t hc0]; decide)) (fun _ => ?_)
  refine lv_iconst (v := 0) hx hb dM_drop_13 (by decide) ?_
  refine lv_goto (tgt := 18) hx hb dM_drop_14 rfl ?_
  refine rw_i (wc := [(y, .inr (11, MO yr yi ysb ybs))]) (wr := []) hP hD hS hA [0] [] rfl rfl (by decide) (by decide) (va_runV (As := [.int 0]) (rest := []) ⟨hx, hb, hml, hown, hT⟩ (m_ref0 l D cT y yr yi ysb ybs _) ⟨callB_of 1 hT (tb_gd w1301) rfl rfl rfl (hT _ w13) (hT _ w1298) hM_refused ⟨Nat.le_of_ble_eq_true rfl, Nat.le_of_ble_eq_true rfl⟩, (hT _ w1300), (hT _ wp29)⟩ (RW.preV (ci := 11) (q0 := 0) hZ hS (va_free (wc := [(y, .inr (11, MO yr yi ysb ybs))]) hD hS hA [0] rfl) (hP.sub (ws' := [(y, .inr (11, MO yr yi ysb ybs))]) [0] rfl) hK (hD.sub (ws' := [(y, .inr (11, MO yr yi ysb ybs))]) [0] (by decide) rfl) rfl rfl) rfl rfl hl.1 rfl (lv_room (Nat.le_of_ble_eq_true rfl)) dM_drop_18 ⟨Nat.le_of_ble_eq_true rfl, Nat.le_of_ble_eq_true rfl⟩) (fun ru2 u9 H locs hpu2 hP hD hS => ?_)
  have hpu2 : ru2 = 0 := hpu2
  have hP : va_P D vwCl [(y, .inr (11, MO yr (va_up yi 1 0) ysb ybs))] _ := hP
  have hD : va_D A [(y, .inr (11, MO yr (va_up yi 1 0) ysb ybs))] := hD
  refine lv_topi (fun y9 e9 => ?_)
  cases (show y9 = 0 from e9.trans hpu2)
  refine lv_if_eq (tgt := 26) hx hb dM_drop_21 rfl (fun _ => ?_) (fun h3 => absurd (by decide) h3)
  refine lv_aload_n hx hb dM_drop_26 rfl (lv_at hl 0 rfl) ?_
  refine va_get (D := D) (ci := 11) (v := .int (yi 17)) (C := R_M) (T := T_M) (N := 60) hx hb hT in_M hown hK hP 0 rfl rfl 17 (by decide) (hT _ w1121) (fun _ h9 => h9) rfl dM_drop_27 ?_
  refine lv_iload_n hx hb dM_drop_30 rfl (lv_at hl 1 rfl) ?_
  refine lv_isub hx hb dM_drop_31 ?_
  refine lv_istore_n hx hb dM_drop_32 rfl hl (by decide) rfl (fun ls hl => ?_)
  have hl : lv_has ls 3 [(2, .int ((yi 17) - v)), (0, .ref y), (1, .int v)] := hl
  refine lv_aload_n hx hb dM_drop_33 rfl (lv_at hl 1 rfl) ?_
  refine lv_iload_n hx hb dM_drop_34 rfl (lv_at hl 2 rfl) ?_
  refine va_put (D := D) (ci := 11) (v := .int v) (ty := .int) (C := R_M) (T := T_M) (N := 60) hx hb hT in_M ty_M ty_M_ok m_M hown hK hP hD hS 0 rfl rfl 17 (by decide) (hT _ w1121) (fun _ h9 => h9) rfl (by decide +kernel) rfl rfl (Nat.le_of_ble_eq_true rfl) dM_drop_35 (fun H locs hP hD hS => ?_)
  have hP : va_P D vwCl [(y, .inr (11, MO yr (va_up (va_up yi 1 0) 17 v) ysb ybs))] _ := hP
  have hD : va_D A [(y, .inr (11, MO yr (va_up (va_up yi 1 0) 17 v) ysb ybs))] := hD
  refine lv_iload_n hx hb dM_drop_38 rfl (lv_at hl 0 rfl) ?_
  have hP9 := hP.sub (ws' := [(y, .inr (11, MO yr (va_up (va_up yi 1 0) 17 v) ysb ybs))]) [0] rfl
  have hD9 := hD.sub (ws' := [(y, .inr (11, MO yr (va_up (va_up yi 1 0) 17 v) ysb ybs))]) [0] (by decide) rfl
  refine W.widen (k := 0) (n := 0) (Nat.le_of_ble_eq_true rfl) (Nat.le_of_ble_eq_true rfl) ?_
  exact W.iret (v := (yi 17) - v) hx hb hr (fun t9 ht9 hW9 => ⟨⟨(yi 17) - v, (), rfl, (show ((yi 17) - v) = yi 17 - v from rfl), by rw [ht9]; exact hP9, hD9⟩, hS.F ht9⟩) hS.2.2 dM_drop_39
set_option maxHeartbeats 4000000 in
set_option maxRecDepth 100000 in
theorem y_shape_ok (l : Launch) (D : va_G) (cT : Nat → ClassId) (y : Nat) (yr : Nat → Nat) (yi : Nat → Int32) (ysb : Int64) (ybs : Int64) (d0 : Int32) (l0 : Int32) (w0 : Int32) (hc0 : 1 ≤ d0 ∧ d0 ≤ 4) (hc1 : 1 ≤ l0 ∧ l0 ≤ 24) (hc2 : 0 ≤ w0 ∧ w0 ≤ 20) (sz : Nat) : Met l yM_shape WM_shape ({ frames := 1, cells := 0, slots := 0, locals := 22 } : Room) (RW D vwCl [.ref y, .int d0, .int l0, .int w0] [(y, .inr (11, MO yr yi ysb ybs))] (TY cT) sz) (va_Qv (fun u9 : Unit => True) (BW D vwCl (va_A [(y, .inr (11, MO yr yi ysb ybs))] sz) (fun u9 : Unit => [(y, .inr (11, MO yr (va_up (va_up (va_up (va_up yi 1 0) 10 d0) 11 l0) 12 w0) ysb ybs))])) (va_A [(y, .inr (11, MO yr yi ysb ybs))] sz)) 0 0 (va_A [(y, .inr (11, MO yr yi ysb ybs))] sz) := by
  refine Met.ofW (cc := cM_shape) (maxL := 4) (ret := none) (by decide) rfl ?_
  intro p e s m args below meth c s₁ B hml hv
  obtain ⟨rfl, hsz, hZ, hP, hK, hD0⟩ := hv
  have hx := B.exec
  have hb := B.bytes
  have hr := B.returns
  have hts := atoms_spec (ws := WM_shape) B.pre
  have hT : ∀ w ∈ TB, w.before _ s = true := fun w h => hts w (List.mem_cons_of_mem _ h)
  have hown : s.vm.findClass R_M = some m.cls := findClass_of_methodNamed B.named
  have hlocks := B.notSynchronized
  subst hsz
  have hD := hD0.self (sz := s.heap.size)
  generalize hAe : va_A [(y, .inr (11, MO yr yi ysb ybs))] s.heap.size = A at hD hZ ⊢
  have hA : ∀ q : Nat, s.heap.size ≤ q → A q := fun q h => by rw [← hAe]; exact Or.inr h
  have hS : va_S A s.heap s.heap [] := va_S.rf
  have hl := lv_entry ([.ref y, .int d0, .int l0, .int w0]) (n := 4) (Nat.le_of_ble_eq_true rfl)
  rw [lg_entry_eq]
  generalize (lg_sl ([.ref y, .int d0, .int l0, .int w0]) ++ List.replicate (4 - (lg_sl ([.ref y, .int d0, .int l0, .int w0])).length) Slot.unset).toArray = ls at hl ⊢
  have hl : lv_has ls 4 [(0, .ref y), (1, .int d0), (2, .int l0), (3, .int w0)] := hl
  refine lv_aload_n hx hb dM_shape_0 rfl (lv_at hl 0 rfl) ?_
  refine lv_iload_n hx hb dM_shape_1 rfl (lv_at hl 1 rfl) ?_
  refine lv_iconst (v := 1) hx hb dM_shape_2 (by decide) ?_
  refine lv_iconst (v := 4) hx hb dM_shape_3 (by decide) ?_
  refine ro_i (va_Run.run (va_runS (As := [.int d0, .int 1, .int 4]) (rest := [.ref y]) ⟨hx, hb, hml, hown, hT⟩ (m_in l D cT d0 1 4) ⟨callB_of 3 hT (tb_gd w1297) rfl rfl rfl (hT _ w13) (hT _ w1295) hM_in ⟨Nat.le_of_ble_eq_true rfl, Nat.le_of_ble_eq_true rfl⟩, (hT _ w1296)⟩ (RO.preS hZ hS ((show va_P D vwCl [] _ from fun _ _ h => nomatch h)) hK) rfl rfl hl.1 rfl (lv_room (Nat.le_of_ble_eq_true rfl)) dM_shape_4 ⟨Nat.le_of_ble_eq_true rfl, Nat.le_of_ble_eq_true rfl⟩)) ?_
  refine lv_if_eq (tgt := 34) hx hb dM_shape_7 rfl (fun h1 => absurd h1 (by rw [bi_t hc0]; decide)) (fun _ => ?_)
  refine lv_iload_n hx hb dM_shape_10 rfl (lv_at hl 2 rfl) ?_
  refine lv_iconst (v := 1) hx hb dM_shape_11 (by decide) ?_
  refine lv_bipush (v := 24) hx hb dM_shape_12 (by decide) ?_
  refine ro_i (va_Run.run (va_runS (As := [.int l0, .int 1, .int 24]) (rest := [.ref y]) ⟨hx, hb, hml, hown, hT⟩ (m_in l D cT l0 1 24) ⟨callB_of 3 hT (tb_gd w1297) rfl rfl rfl (hT _ w13) (hT _ w1295) hM_in ⟨Nat.le_of_ble_eq_true rfl, Nat.le_of_ble_eq_true rfl⟩, (hT _ w1296)⟩ (RO.preS hZ hS ((show va_P D vwCl [] _ from fun _ _ h => nomatch h)) hK) rfl rfl hl.1 rfl (lv_room (Nat.le_of_ble_eq_true rfl)) dM_shape_14 ⟨Nat.le_of_ble_eq_true rfl, Nat.le_of_ble_eq_true rfl⟩)) ?_
  refine lv_if_eq (tgt := 34) hx hb dM_shape_17 rfl (fun h2 => absurd h2 (by rw [bi_t hc1]; decide)) (fun _ => ?_)
  refine lv_iload_n hx hb dM_shape_20 rfl (lv_at hl 3 rfl) ?_
  refine lv_iconst (v := 0) hx hb dM_shape_21 (by decide) ?_
  refine lv_bipush (v := 20) hx hb dM_shape_22 (by decide) ?_
  refine ro_i (va_Run.run (va_runS (As := [.int w0, .int 0, .int 20]) (rest := [.ref y]) ⟨hx, hb, hml, hown, hT⟩ (m_in l D cT w0 0 20) ⟨callB_of 3 hT (tb_gd w1297) rfl rfl rfl (hT _ w13) (hT _ w1295) hM_in ⟨Nat.le_of_ble_eq_true rfl, Nat.le_of_ble_eq_true rfl⟩, (hT _ w1296)⟩ (RO.preS hZ hS ((show va_P D vwCl [] _ from fun _ _ h => nomatch h)) hK) rfl rfl hl.1 rfl (lv_room (Nat.le_of_ble_eq_true rfl)) dM_shape_24 ⟨Nat.le_of_ble_eq_true rfl, Nat.le_of_ble_eq_true rfl⟩)) ?_
  refine lv_if_eq (tgt := 34) hx hb dM_shape_27 rfl (fun h3 => absurd h3 (by rw [bi_t hc2]; decide)) (fun _ => ?_)
  refine lv_iconst (v := 0) hx hb dM_shape_30 (by decide) ?_
  refine lv_goto (tgt := 35) hx hb dM_shape_31 rfl ?_
  refine rw_i (wc := [(y, .inr (11, MO yr yi ysb ybs))]) (wr := []) hP hD hS hA [0] [] rfl rfl (by decide) (by decide) (va_runV (As := [.int 0]) (rest := []) ⟨hx, hb, hml, hown, hT⟩ (m_ref0 l D cT y yr yi ysb ybs _) ⟨callB_of 1 hT (tb_gd w1301) rfl rfl rfl (hT _ w13) (hT _ w1298) hM_refused ⟨Nat.le_of_ble_eq_true rfl, Nat.le_of_ble_eq_true rfl⟩, (hT _ w1300), (hT _ wp29)⟩ (RW.preV (ci := 11) (q0 := 0) hZ hS (va_free (wc := [(y, .inr (11, MO yr yi ysb ybs))]) hD hS hA [0] rfl) (hP.sub (ws' := [(y, .inr (11, MO yr yi ysb ybs))]) [0] rfl) hK (hD.sub (ws' := [(y, .inr (11, MO yr yi ysb ybs))]) [0] (by decide) rfl) rfl rfl) rfl rfl hl.1 rfl (lv_room (Nat.le_of_ble_eq_true rfl)) dM_shape_35 ⟨Nat.le_of_ble_eq_true rfl, Nat.le_of_ble_eq_true rfl⟩) (fun ru4 u9 H locs hpu4 hP hD hS => ?_)
  have hpu4 : ru4 = 0 := hpu4
  have hP : va_P D vwCl [(y, .inr (11, MO yr (va_up yi 1 0) ysb ybs))] _ := hP
  have hD : va_D A [(y, .inr (11, MO yr (va_up yi 1 0) ysb ybs))] := hD
  refine lv_topi (fun y9 e9 => ?_)
  cases (show y9 = 0 from e9.trans hpu4)
  refine lv_if_ne (tgt := 56) hx hb dM_shape_38 rfl (fun h5 => absurd (by decide) h5) (fun _ => ?_)
  refine lv_aload_n hx hb dM_shape_41 rfl (lv_at hl 0 rfl) ?_
  refine lv_iload_n hx hb dM_shape_42 rfl (lv_at hl 1 rfl) ?_
  refine va_put (D := D) (ci := 11) (v := .int d0) (ty := .int) (C := R_M) (T := T_M) (N := 60) hx hb hT in_M ty_M ty_M_ok m_M hown hK hP hD hS 0 rfl rfl 10 (by decide) (hT _ w1114) (fun _ h9 => h9) rfl (by decide +kernel) rfl rfl (Nat.le_of_ble_eq_true rfl) dM_shape_43 (fun H locs hP hD hS => ?_)
  have hP : va_P D vwCl [(y, .inr (11, MO yr (va_up (va_up yi 1 0) 10 d0) ysb ybs))] _ := hP
  have hD : va_D A [(y, .inr (11, MO yr (va_up (va_up yi 1 0) 10 d0) ysb ybs))] := hD
  refine lv_aload_n hx hb dM_shape_46 rfl (lv_at hl 0 rfl) ?_
  refine lv_iload_n hx hb dM_shape_47 rfl (lv_at hl 2 rfl) ?_
  refine va_put (D := D) (ci := 11) (v := .int l0) (ty := .int) (C := R_M) (T := T_M) (N := 60) hx hb hT in_M ty_M ty_M_ok m_M hown hK hP hD hS 0 rfl rfl 11 (by decide) (hT _ w1115) (fun _ h9 => h9) rfl (by decide +kernel) rfl rfl (Nat.le_of_ble_eq_true rfl) dM_shape_48 (fun H locs hP hD hS => ?_)
  have hP : va_P D vwCl [(y, .inr (11, MO yr (va_up (va_up (va_up yi 1 0) 10 d0) 11 l0) ysb ybs))] _ := hP
  have hD : va_D A [(y, .inr (11, MO yr (va_up (va_up (va_up yi 1 0) 10 d0) 11 l0) ysb ybs))] := hD
  refine lv_aload_n hx hb dM_shape_51 rfl (lv_at hl 0 rfl) ?_
  refine lv_iload_n hx hb dM_shape_52 rfl (lv_at hl 3 rfl) ?_
  refine va_put (D := D) (ci := 11) (v := .int w0) (ty := .int) (C := R_M) (T := T_M) (N := 60) hx hb hT in_M ty_M ty_M_ok m_M hown hK hP hD hS 0 rfl rfl 12 (by decide) (hT _ w1116) (fun _ h9 => h9) rfl (by decide +kernel) rfl rfl (Nat.le_of_ble_eq_true rfl) dM_shape_53 (fun H locs hP hD hS => ?_)
  have hP : va_P D vwCl [(y, .inr (11, MO yr (va_up (va_up (va_up (va_up yi 1 0) 10 d0) 11 l0) 12 w0) ysb ybs))] _ := hP
  have hD : va_D A [(y, .inr (11, MO yr (va_up (va_up (va_up (va_up yi 1 0) 10 d0) 11 l0) 12 w0) ysb ybs))] := hD
  have hP9 := hP.sub (ws' := [(y, .inr (11, MO yr (va_up (va_up (va_up (va_up yi 1 0) 10 d0) 11 l0) 12 w0) ysb ybs))]) [0] rfl
  have hD9 := hD.sub (ws' := [(y, .inr (11, MO yr (va_up (va_up (va_up (va_up yi 1 0) 10 d0) 11 l0) 12 w0) ysb ybs))]) [0] (by decide) rfl
  refine W.widen (k := 0) (n := 0) (Nat.le_of_ble_eq_true rfl) (Nat.le_of_ble_eq_true rfl) ?_
  exact W.vret hx hb hr (fun t9 ht9 hW9 => ⟨⟨(), rfl, (show True from trivial), by rw [ht9]; exact hP9, hD9⟩, hS.F ht9⟩) hS.2.2 dM_shape_56
set_option maxHeartbeats 4000000 in
set_option maxRecDepth 100000 in
theorem y_nodes_ok (l : Launch) (D : va_G) (cT : Nat → ClassId) (y : Nat) (yr : Nat → Nat) (yi : Nat → Int32) (ysb : Int64) (ybs : Int64) (nmA : Nat → Int32) (t : Nat) (hc0 : 0 ≤ nI t ∧ nI t ≤ yi 17 - 1) (ht16 : t < 16) (sz : Nat) : Met l yM_nodes WM_nodes ({ frames := 2, cells := 0, slots := 0, locals := 43 } : Room) (RW D vwCl [.ref y, .int (nI t)] [(y, .inr (11, MO yr yi ysb ybs)), (yr 18, .inl (cT 0, 16, .inl nmA))] (TY cT) sz) (va_Qi (fun (r9 : Int32) (u9 : Unit) => r9 = nmA t) (BW D vwCl (va_A [(y, .inr (11, MO yr yi ysb ybs)), (yr 18, .inl (cT 0, 16, .inl nmA))] sz) (fun u9 : Unit => [(y, .inr (11, MO yr (va_up yi 1 0) ysb ybs)), (yr 18, .inl (cT 0, 16, .inl nmA))])) (va_A [(y, .inr (11, MO yr yi ysb ybs)), (yr 18, .inl (cT 0, 16, .inl nmA))] sz)) 0 0 (va_A [(y, .inr (11, MO yr yi ysb ybs)), (yr 18, .inl (cT 0, 16, .inl nmA))] sz) := by
  refine Met.ofW (cc := cM_nodes) (maxL := 2) (ret := (some .int)) (by decide) rfl ?_
  intro p e s m args below meth c s₁ B hml hv
  obtain ⟨rfl, hsz, hZ, hP, hK, hD0⟩ := hv
  have hx := B.exec
  have hb := B.bytes
  have hr := B.returns
  have hts := atoms_spec (ws := WM_nodes) B.pre
  have hT : ∀ w ∈ TB, w.before _ s = true := fun w h => hts w (List.mem_cons_of_mem _ h)
  have hown : s.vm.findClass R_M = some m.cls := findClass_of_methodNamed B.named
  have hlocks := B.notSynchronized
  subst hsz
  have hD := hD0.self (sz := s.heap.size)
  generalize hAe : va_A [(y, .inr (11, MO yr yi ysb ybs)), (yr 18, .inl (cT 0, 16, .inl nmA))] s.heap.size = A at hD hZ ⊢
  have hA : ∀ q : Nat, s.heap.size ≤ q → A q := fun q h => by rw [← hAe]; exact Or.inr h
  have hS : va_S A s.heap s.heap [] := va_S.rf
  have hl := lv_entry ([.ref y, .int (nI t)]) (n := 2) (Nat.le_of_ble_eq_true rfl)
  rw [lg_entry_eq]
  generalize (lg_sl ([.ref y, .int (nI t)]) ++ List.replicate (2 - (lg_sl ([.ref y, .int (nI t)])).length) Slot.unset).toArray = ls at hl ⊢
  have hl : lv_has ls 2 [(0, .ref y), (1, .int (nI t))] := hl
  refine lv_aload_n hx hb dM_nodes_0 rfl (lv_at hl 0 rfl) ?_
  refine lv_aload_n hx hb dM_nodes_1 rfl (lv_at hl 0 rfl) ?_
  refine lv_iload_n hx hb dM_nodes_2 rfl (lv_at hl 1 rfl) ?_
  refine ro_i (va_Run.run (va_runV (As := [.int (nI t)]) (rest := [.ref y]) ⟨hx, hb, hml, hown, hT⟩ (m_noTree l D cT y yr yi ysb ybs (nI t)) ⟨callB_of 1 hT (tb_gd w1539) rfl rfl rfl (hT _ w13) (hT _ w1536) hM_noTree ⟨Nat.le_of_ble_eq_true rfl, Nat.le_of_ble_eq_true rfl⟩, (hT _ w1538), (hT _ wp61)⟩ (RO.preV (ci := 11) (q0 := 0) hZ hS (hP.sub (ws' := [(y, .inr (11, MO yr yi ysb ybs))]) [0] rfl) hK rfl rfl) rfl rfl hl.1 rfl (lv_room (Nat.le_of_ble_eq_true rfl)) dM_nodes_3 ⟨Nat.le_of_ble_eq_true rfl, Nat.le_of_ble_eq_true rfl⟩)) ?_
  refine lv_if_eq (tgt := 13) hx hb dM_nodes_6 rfl (fun _ => ?_) (fun h1 => absurd (bi_f (fun q => q hc0)) h1)
  refine lv_iconst (v := 0) hx hb dM_nodes_13 (by decide) ?_
  refine rw_i (wc := [(y, .inr (11, MO yr yi ysb ybs))]) (wr := [(yr 18, .inl (cT 0, 16, .inl nmA))]) hP hD hS hA [0] [1] rfl rfl (by decide) (by decide) (va_runV (As := [.int 0]) (rest := []) ⟨hx, hb, hml, hown, hT⟩ (m_ref0 l D cT y yr yi ysb ybs _) ⟨callB_of 1 hT (tb_gd w1301) rfl rfl rfl (hT _ w13) (hT _ w1298) hM_refused ⟨Nat.le_of_ble_eq_true rfl, Nat.le_of_ble_eq_true rfl⟩, (hT _ w1300), (hT _ wp29)⟩ (RW.preV (ci := 11) (q0 := 0) hZ hS (va_free (wc := [(y, .inr (11, MO yr yi ysb ybs))]) hD hS hA [0] rfl) (hP.sub (ws' := [(y, .inr (11, MO yr yi ysb ybs))]) [0] rfl) hK (hD.sub (ws' := [(y, .inr (11, MO yr yi ysb ybs))]) [0] (by decide) rfl) rfl rfl) rfl rfl hl.1 rfl (lv_room (Nat.le_of_ble_eq_true rfl)) dM_nodes_14 ⟨Nat.le_of_ble_eq_true rfl, Nat.le_of_ble_eq_true rfl⟩) (fun ru2 u9 H locs hpu2 hP hD hS => ?_)
  have hpu2 : ru2 = 0 := hpu2
  have hP : va_P D vwCl [(yr 18, .inl (cT 0, 16, .inl nmA)), (y, .inr (11, MO yr (va_up yi 1 0) ysb ybs))] _ := hP
  have hD : va_D A [(yr 18, .inl (cT 0, 16, .inl nmA)), (y, .inr (11, MO yr (va_up yi 1 0) ysb ybs))] := hD
  refine lv_topi (fun y9 e9 => ?_)
  cases (show y9 = 0 from e9.trans hpu2)
  refine lv_if_eq (tgt := 24) hx hb dM_nodes_17 rfl (fun _ => ?_) (fun h3 => absurd (by decide) h3)
  refine lv_aload_n hx hb dM_nodes_24 rfl (lv_at hl 0 rfl) ?_
  refine va_get (D := D) (ci := 11) (v := .ref (yr 18)) (C := R_M) (T := T_M) (N := 60) hx hb hT in_M hown hK hP 1 rfl rfl 18 (by decide) (hT _ w1122) (fun _ h9 => h9) rfl dM_nodes_25 ?_
  refine lv_iload_n hx hb dM_nodes_28 rfl (lv_at hl 1 rfl) ?_
  refine lq_iald (j := t) hx hb hK hP 0 0 rfl rfl rfl (by omega) (by omega) dM_nodes_29 ?_
  have hP9 := hP.sub (ws' := [(y, .inr (11, MO yr (va_up yi 1 0) ysb ybs)), (yr 18, .inl (cT 0, 16, .inl nmA))]) [1, 0] rfl
  have hD9 := hD.sub (ws' := [(y, .inr (11, MO yr (va_up yi 1 0) ysb ybs)), (yr 18, .inl (cT 0, 16, .inl nmA))]) [1, 0] (by decide) rfl
  refine W.widen (k := 0) (n := 0) (Nat.le_of_ble_eq_true rfl) (Nat.le_of_ble_eq_true rfl) ?_
  exact W.iret (v := nmA t) hx hb hr (fun t9 ht9 hW9 => ⟨⟨nmA t, (), rfl, (show (nmA t) = nmA t from rfl), by rw [ht9]; exact hP9, hD9⟩, hS.F ht9⟩) hS.2.2 dM_nodes_30
