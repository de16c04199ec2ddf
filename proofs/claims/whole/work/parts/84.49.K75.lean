set_option maxHeartbeats 4000000 in
set_option maxRecDepth 100000 in
theorem k_arCopy3N10 (l : Launch) (D : va_G) (cT : Nat → ClassId) (cds : List Nat) (ad : Nat → Nat) (gg : Nat → Option va_E) (tE : Nat) (mE : Nat) (le : Nat) (lf : Nat → Option Nat) (bs : Nat) (hcd : CD cds) (hel : ∀ k8, k8 < 10 → ∃ fs8 : List Value, bs + k8 < 8192 ∧ lf k8 = some (ad (bs + k8)) ∧ gg (bs + k8) = some (.inr (10, fs8))) (sz : Nat) : Met l yAr_copyOf3 WAr_copyOf3 ({ frames := 1, cells := 1, slots := 15, locals := 40 } : Room) (RWE tE mE D vwCl [.ref le, .int 15, .ref mE] ([(le, .inl (cT 7, 10, .inr (.inr (.inr (.inr lf)))))] ++ pg cds ad gg) (TY cT) sz) (va_Qr (fun u9 : Nat => True) (fun u9 q9 t9 => q9 = u9 ∧ BW D vwCl (va_A ([(le, .inl (cT 7, 10, .inr (.inr (.inr (.inr lf)))))] ++ pg cds ad gg) sz) (fun u9 : Nat => ([(le, .inl (cT 7, 10, .inr (.inr (.inr (.inr lf))))), (u9, .inl (cT 7, 15, .inr (.inr (.inr (.inr (va_cpy lf (fun _ => none) 0 0 10))))))] ++ pg cds ad gg)) u9 t9) (va_A ([(le, .inl (cT 7, 10, .inr (.inr (.inr (.inr lf)))))] ++ pg cds ad gg) sz)) 1 15 (va_A ([(le, .inl (cT 7, 10, .inr (.inr (.inr (.inr lf)))))] ++ pg cds ad gg) sz) := by
  refine Met.ofW (cc := cAr_copyOf3) (maxL := 4) (ret := (some (.array (.object "java/lang/Object")))) (by decide) rfl ?_
  intro p e s m args below meth c s₁ B hml hv
  obtain ⟨rfl, ⟨hsz, hZ, hP, hK, hD0⟩, hE0⟩ := hv
  have hx := B.exec
  have hb := B.bytes
  have hr := B.returns
  have hts := atoms_spec (ws := WAr_copyOf3) B.pre
  have hT : ∀ w ∈ TB, w.before _ s = true := fun w h => hts w (List.mem_cons_of_mem _ h)
  have hown : s.vm.findClass R_Ar = some m.cls := findClass_of_methodNamed B.named
  have hlocks := B.notSynchronized
  subst hsz
  have hD := hD0.self (sz := s.heap.size)
  generalize hAe : va_A ([(le, .inl (cT 7, 10, .inr (.inr (.inr (.inr lf)))))] ++ pg cds ad gg) s.heap.size = A at hD hZ hE0 ⊢
  have hA : ∀ q : Nat, s.heap.size ≤ q → A q := fun q h => by rw [← hAe]; exact Or.inr h
  have hS : va_S A s.heap s.heap [] := va_S.rf
  have hl := lv_entry ([.ref le, .int 15, .ref mE]) (n := 4) (Nat.le_of_ble_eq_true rfl)
  rw [lg_entry_eq]
  generalize (lg_sl ([.ref le, .int 15, .ref mE]) ++ List.replicate (4 - (lg_sl ([.ref le, .int 15, .ref mE])).length) Slot.unset).toArray = ls at hl ⊢
  have hl : lv_has ls 4 [(0, .ref le), (1, .int 15), (2, .ref mE)] := hl
  refine lv_aload_n hx hb dAr_copyOf3_0 rfl (lv_at hl 2 rfl) ?_
  refine va_ldcM hx hb hown (hT _ w805) hE0.2.2 dAr_copyOf3_1 ?_
  refine lv_acmp_ne (rx := some mE) (ry := some mE) (tgt := 13) hx hb dAr_copyOf3_3 rfl (fun q9 => absurd rfl q9) (fun _ => ?_)
  refine lv_iload_n hx hb dAr_copyOf3_6 rfl (lv_at hl 1 rfl) ?_
  refine nw_q (C := "java/lang/Object") (N' := 15) hx hb hown (hT _ w807) (hZ.1.2.2.2.1 "java/lang/Object" (List.mem_of_getElem? (i := 3) rfl)) hK hP hD hS hA 7 rfl (by decide +kernel) (by decide +kernel) (by decide +kernel) (Nat.le_of_ble_eq_true rfl) (Nat.le_of_ble_eq_true rfl) dAr_copyOf3_7 (fun q7 H hP hD hS => ?_)
  have hP := hy_push hP
  have hD := hy_pushD hD
  have hP : va_P D vwCl ([(le, .inl (cT 7, 10, .inr (.inr (.inr (.inr lf))))), (q7, .inl (cT 7, 15, .inr (.inr (.inr (.inr (fun _ => none))))))] ++ pg cds ad gg) _ := hP
  have hD : va_D A ([(le, .inl (cT 7, 10, .inr (.inr (.inr (.inr lf))))), (q7, .inl (cT 7, 15, .inr (.inr (.inr (.inr (fun _ => none))))))] ++ pg cds ad gg) := hD
  refine lv_goto (tgt := 24) hx hb dAr_copyOf3_10 rfl ?_
  refine lv_astore_n hx hb dAr_copyOf3_24 rfl hl (by decide) rfl (fun ls hl => ?_)
  have hl : lv_has ls 4 [(3, .ref q7), (0, .ref le), (1, .int 15), (2, .ref mE)] := hl
  refine lv_aload_n hx hb dAr_copyOf3_25 rfl (lv_at hl 1 rfl) ?_
  refine lv_iconst (v := 0) hx hb dAr_copyOf3_26 (by decide) ?_
  refine lv_aload_n hx hb dAr_copyOf3_27 rfl (lv_at hl 0 rfl) ?_
  refine lv_iconst (v := 0) hx hb dAr_copyOf3_28 (by decide) ?_
  refine lv_aload_n hx hb dAr_copyOf3_29 rfl (lv_at hl 1 rfl) ?_
  refine va_alen (v := 10) hx hb hK hP 0 7 rfl rfl rfl dAr_copyOf3_30 ?_
  refine lv_iload_n hx hb dAr_copyOf3_31 rfl (lv_at hl 2 rfl) ?_
  refine va_mmin hx hb (hml.trans hl.1.symm) hown (hT _ w808) (hT _ w448) (hT _ w22) (hT _ w449) (Nat.le_of_ble_eq_true rfl) (Nat.le_of_ble_eq_true rfl) (Nat.le_of_ble_eq_true rfl) (Nat.le_of_ble_eq_true rfl) dAr_copyOf3_32 ?_
  refine lv_topi (fun y9 e9 => ?_)
  cases (show y9 = 10 from e9.trans (by decide))
  have hel9 : ∀ i : Nat, i < 10 → ∀ y : Nat, lf i = some y → ∃ cellV : Cell, _[y]? = some cellV ∧ cellV.vm.isStatics = false ∧ s.vm.findClass "ResidualTrees$Node" = some cellV.cls := fun i hi y hy => by obtain ⟨fs, h1, h2, h3⟩ := hel i hi; cases h2.symm.trans hy; exact va_recv (ci := 10) (q0 := 0) hK (pg_1 hcd hP h1 h3) rfl rfl
  refine va_copyq (C := "ResidualTrees$Node") hx hb (hml.trans hl.1.symm) hown (hT _ w809) (hT _ w452) (hT _ w451) (hT _ w23) hK hP hD hS 0 1 7 7 rfl rfl rfl rfl (by decide) (by decide) (by decide) (by decide) (by decide) (fun i hi y hy => hel9 i hi y (by rw [← hy]; exact congrArg lf (Nat.zero_add i).symm)) (asg_of (hZ.1.1 ("ResidualTrees$Node", "java/lang/Object") (List.mem_of_getElem? (i := 15) rfl))) (Nat.le_of_ble_eq_true rfl) (by decide) dAr_copyOf3_35 (fun H locs hP hD hS => ?_)
  have hP : va_P D vwCl ([(le, .inl (cT 7, 10, .inr (.inr (.inr (.inr lf))))), (q7, .inl (cT 7, 15, .inr (.inr (.inr (.inr (va_cpy lf (fun _ => none) 0 0 10))))))] ++ pg cds ad gg) _ := hP
  have hD : va_D A ([(le, .inl (cT 7, 10, .inr (.inr (.inr (.inr lf))))), (q7, .inl (cT 7, 15, .inr (.inr (.inr (.inr (va_cpy lf (fun _ => none) 0 0 10))))))] ++ pg cds ad gg) := hD
  refine lv_aload_n hx hb dAr_copyOf3_38 rfl (lv_at hl 0 rfl) ?_
  have hP9 : va_P D vwCl ([(le, .inl (cT 7, 10, .inr (.inr (.inr (.inr lf))))), (q7, .inl (cT 7, 15, .inr (.inr (.inr (.inr (va_cpy lf (fun _ => none) 0 0 10))))))] ++ pg cds ad gg) _ := hP.part (cx := [(le, .inl (cT 7, 10, .inr (.inr (.inr (.inr lf))))), (q7, .inl (cT 7, 15, .inr (.inr (.inr (.inr (va_cpy lf (fun _ => none) 0 0 10))))))]) [0, 1] rfl
  have hD9 : va_D A ([(le, .inl (cT 7, 10, .inr (.inr (.inr (.inr lf))))), (q7, .inl (cT 7, 15, .inr (.inr (.inr (.inr (va_cpy lf (fun _ => none) 0 0 10))))))] ++ pg cds ad gg) := hD.part (cx := [(le, .inl (cT 7, 10, .inr (.inr (.inr (.inr lf))))), (q7, .inl (cT 7, 15, .inr (.inr (.inr (.inr (va_cpy lf (fun _ => none) 0 0 10))))))]) [0, 1] (by decide) rfl
  refine W.widen (k := 1) (n := 15) (Nat.le_of_ble_eq_true rfl) (Nat.le_of_ble_eq_true rfl) ?_
  exact W.aret (v := .ref q7) hx hb hr (Or.inr ⟨_, rfl⟩) (Or.inr ⟨_, rfl⟩) (fun t9 ht9 hW9 => ⟨⟨q7, q7, rfl, (show True from trivial), rfl, by rw [ht9]; exact hP9, hD9⟩, hS.F ht9⟩) hS.2.2 dAr_copyOf3_39
set_option maxHeartbeats 4000000 in
set_option maxRecDepth 100000 in
theorem k_arCopyN10 (l : Launch) (D : va_G) (cT : Nat → ClassId) (cds : List Nat) (ad : Nat → Nat) (gg : Nat → Option va_E) (tE : Nat) (mE : Nat) (le : Nat) (lf : Nat → Option Nat) (bs : Nat) (hcd : CD cds) (hel : ∀ k8, k8 < 10 → ∃ fs8 : List Value, bs + k8 < 8192 ∧ lf k8 = some (ad (bs + k8)) ∧ gg (bs + k8) = some (.inr (10, fs8))) (sz : Nat) : Met l yAr_copyOf WAr_copyOf ({ frames := 2, cells := 1, slots := 15, locals := 63 } : Room) (RWE tE mE D vwCl [.ref le, .int 15] ([(le, .inl (cT 7, 10, .inr (.inr (.inr (.inr lf)))))] ++ pg cds ad gg) (TY cT) sz) (va_Qr (fun u9 : Nat => True) (fun u9 q9 t9 => q9 = u9 ∧ BW D vwCl (va_A ([(le, .inl (cT 7, 10, .inr (.inr (.inr (.inr lf)))))] ++ pg cds ad gg) sz) (fun u9 : Nat => ([(le, .inl (cT 7, 10, .inr (.inr (.inr (.inr lf))))), (u9, .inl (cT 7, 15, .inr (.inr (.inr (.inr (va_cpy lf (fun _ => none) 0 0 10))))))] ++ pg cds ad gg)) u9 t9) (va_A ([(le, .inl (cT 7, 10, .inr (.inr (.inr (.inr lf)))))] ++ pg cds ad gg) sz)) 1 15 (va_A ([(le, .inl (cT 7, 10, .inr (.inr (.inr (.inr lf)))))] ++ pg cds ad gg) sz) := by
  refine Met.ofW (cc := cAr_copyOf) (maxL := 2) (ret := (some (.array (.object "java/lang/Object")))) (by decide) rfl ?_
  intro p e s m args below meth c s₁ B hml hv
  obtain ⟨rfl, ⟨hsz, hZ, hP, hK, hD0⟩, hE0⟩ := hv
  have hx := B.exec
  have hb := B.bytes
  have hr := B.returns
  have hts := atoms_spec (ws := WAr_copyOf) B.pre
  have hT : ∀ w ∈ TB, w.before _ s = true := fun w h => hts w (List.mem_cons_of_mem _ h)
  have hown : s.vm.findClass R_Ar = some m.cls := findClass_of_methodNamed B.named
  have hlocks := B.notSynchronized
  subst hsz
  have hD := hD0.self (sz := s.heap.size)
  generalize hAe : va_A ([(le, .inl (cT 7, 10, .inr (.inr (.inr (.inr lf)))))] ++ pg cds ad gg) s.heap.size = A at hD hZ hE0 ⊢
  have hA : ∀ q : Nat, s.heap.size ≤ q → A q := fun q h => by rw [← hAe]; exact Or.inr h
  have hS : va_S A s.heap s.heap [] := va_S.rf
  have hl := lv_entry ([.ref le, .int 15]) (n := 2) (Nat.le_of_ble_eq_true rfl)
  rw [lg_entry_eq]
  generalize (lg_sl ([.ref le, .int 15]) ++ List.replicate (2 - (lg_sl ([.ref le, .int 15])).length) Slot.unset).toArray = ls at hl ⊢
  have hl : lv_has ls 2 [(0, .ref le), (1, .int 15)] := hl
  refine lv_aload_n hx hb dAr_copyOf_0 rfl (lv_at hl 0 rfl) ?_
  refine lv_iload_n hx hb dAr_copyOf_1 rfl (lv_at hl 1 rfl) ?_
  refine lv_aload_n hx hb dAr_copyOf_2 rfl (lv_at hl 0 rfl) ?_
  refine va_getC (C := "[Ljava/lang/Object;") hx hb (hml.trans hl.1.symm) hown (hT _ w783) (va_Nw.use rfl (hZ.1.2.2.1 _ (List.mem_of_getElem? (i := 6) rfl))) (hT _ w1597) (hT _ w784) (hT _ w801) hE0.2.2 (arr_cl hK hP 0 7 rfl rfl) (Nat.le_of_ble_eq_true rfl) (Nat.le_of_ble_eq_true rfl) dAr_copyOf_3 ?_
  refine hy_rP (X := [(le, .inl (cT 7, 10, .inr (.inr (.inr (.inr lf)))))]) (pl := pg cds ad gg) (cx := [(le, .inl (cT 7, 10, .inr (.inr (.inr (.inr lf)))))]) (wr := []) hP hD hS hA [0] [] rfl rfl (by decide) (by decide) (va_runS (As := [.ref le, .int 15, .ref mE]) (rest := []) ⟨hx, hb, hml, hown, hT⟩ (k_arCopy3N10 l D cT cds ad gg tE mE le lf bs hcd hel _) ⟨callB_of 3 hT (tb_gd w804) rfl rfl rfl (hT _ w26) (hT _ w802) hAr_copyOf3 ⟨Nat.le_of_ble_eq_true rfl, Nat.le_of_ble_eq_true rfl⟩, (hT _ w803)⟩ (RWE.preS hE0 hZ hS (va_freeP (cx := [(le, .inl (cT 7, 10, .inr (.inr (.inr (.inr lf)))))]) hD hS hA [0] rfl) (hP.part (cx := [(le, .inl (cT 7, 10, .inr (.inr (.inr (.inr lf)))))]) [0] rfl) hK (hD.part (cx := [(le, .inl (cT 7, 10, .inr (.inr (.inr (.inr lf)))))]) [0] (by decide) rfl)) rfl rfl hl.1 rfl (lv_room (Nat.le_of_ble_eq_true rfl)) dAr_copyOf_6 ⟨Nat.le_of_ble_eq_true rfl, Nat.le_of_ble_eq_true rfl⟩) (fun u9 H locs hpu1 hP hD hS => ?_)
  obtain ⟨nqu1, rfl⟩ : ∃ q9, q9 = u9 := ⟨_, rfl⟩
  have hpu1 : True := hpu1
  have hP : va_P D vwCl ([(le, .inl (cT 7, 10, .inr (.inr (.inr (.inr lf))))), (nqu1, .inl (cT 7, 15, .inr (.inr (.inr (.inr (va_cpy lf (fun _ => none) 0 0 10))))))] ++ pg cds ad gg) _ := hP
  have hD : va_D A ([(le, .inl (cT 7, 10, .inr (.inr (.inr (.inr lf))))), (nqu1, .inl (cT 7, 15, .inr (.inr (.inr (.inr (va_cpy lf (fun _ => none) 0 0 10))))))] ++ pg cds ad gg) := hD
  refine W.eq (g2 := F0 m 9 ls [.ref nqu1]) rfl ?_
  have hP9 : va_P D vwCl ([(le, .inl (cT 7, 10, .inr (.inr (.inr (.inr lf))))), (nqu1, .inl (cT 7, 15, .inr (.inr (.inr (.inr (va_cpy lf (fun _ => none) 0 0 10))))))] ++ pg cds ad gg) _ := hP.part (cx := [(le, .inl (cT 7, 10, .inr (.inr (.inr (.inr lf))))), (nqu1, .inl (cT 7, 15, .inr (.inr (.inr (.inr (va_cpy lf (fun _ => none) 0 0 10))))))]) [0, 1] rfl
  have hD9 : va_D A ([(le, .inl (cT 7, 10, .inr (.inr (.inr (.inr lf))))), (nqu1, .inl (cT 7, 15, .inr (.inr (.inr (.inr (va_cpy lf (fun _ => none) 0 0 10))))))] ++ pg cds ad gg) := hD.part (cx := [(le, .inl (cT 7, 10, .inr (.inr (.inr (.inr lf))))), (nqu1, .inl (cT 7, 15, .inr (.inr (.inr (.inr (va_cpy lf (fun _ => none) 0 0 10))))))]) [0, 1] (by decide) rfl
  refine W.widen (k := 1) (n := 15) (Nat.le_of_ble_eq_true rfl) (Nat.le_of_ble_eq_true rfl) ?_
  exact W.aret (v := .ref nqu1) hx hb hr (Or.inr ⟨_, rfl⟩) (Or.inr ⟨_, rfl⟩) (fun t9 ht9 hW9 => ⟨⟨nqu1, nqu1, rfl, (show True from trivial), rfl, by rw [ht9]; exact hP9, hD9⟩, hS.F ht9⟩) hS.2.2 dAr_copyOf_9
set_option maxHeartbeats 4000000 in
set_option maxRecDepth 100000 in
theorem k_alGrowbN10 (l : Launch) (D : va_G) (cT : Nat → ClassId) (cds : List Nat) (ad : Nat → Nat) (gg : Nat → Option va_E) (tE : Nat) (mE : Nat) (h : Nat) (md : Int32) (le : Nat) (lf : Nat → Option Nat) (bs : Nat) (hcd : CD cds) (hel : ∀ k8, k8 < 10 → ∃ fs8 : List Value, bs + k8 < 8192 ∧ lf k8 = some (ad (bs + k8)) ∧ gg (bs + k8) = some (.inr (10, fs8))) (sz : Nat) : Met l yAL_growb WAL_growb ({ frames := 3, cells := 1, slots := 15, locals := 84 } : Room) (RWE tE mE D vwCl [.ref h, .int 11] ([(h, .inr (12, [.ref le, .int (nI 10), .int md])), (le, .inl (cT 7, 10, .inr (.inr (.inr (.inr lf)))))] ++ pg cds ad gg) (TY cT) sz) (va_Qr (fun u9 : Nat => True) (fun u9 q9 t9 => q9 = u9 ∧ BW D vwCl (va_A ([(h, .inr (12, [.ref le, .int (nI 10), .int md])), (le, .inl (cT 7, 10, .inr (.inr (.inr (.inr lf)))))] ++ pg cds ad gg) sz) (fun u9 : Nat => ([(h, .inr (12, [.ref u9, .int (nI 10), .int md])), (le, .inl (cT 7, 10, .inr (.inr (.inr (.inr lf))))), (u9, .inl (cT 7, 15, .inr (.inr (.inr (.inr (va_cpy lf (fun _ => none) 0 0 10))))))] ++ pg cds ad gg)) u9 t9) (va_A ([(h, .inr (12, [.ref le, .int (nI 10), .int md])), (le, .inl (cT 7, 10, .inr (.inr (.inr (.inr lf)))))] ++ pg cds ad gg) sz)) 1 15 (va_A ([(h, .inr (12, [.ref le, .int (nI 10), .int md])), (le, .inl (cT 7, 10, .inr (.inr (.inr (.inr lf)))))] ++ pg cds ad gg) sz) := by
  refine Met.ofW (cc := cAL_growb) (maxL := 4) (ret := (some (.array (.object "java/lang/Object")))) (by decide) rfl ?_
  intro p e s m args below meth c s₁ B hml hv
  obtain ⟨rfl, ⟨hsz, hZ, hP, hK, hD0⟩, hE0⟩ := hv
  have hx := B.exec
  have hb := B.bytes
  have hr := B.returns
  have hts := atoms_spec (ws := WAL_growb) B.pre
  have hT : ∀ w ∈ TB, w.before _ s = true := fun w h => hts w (List.mem_cons_of_mem _ h)
  have hown : s.vm.findClass R_AL = some m.cls := findClass_of_methodNamed B.named
  have hlocks := B.notSynchronized
  subst hsz
  have hD := hD0.self (sz := s.heap.size)
  generalize hAe : va_A ([(h, .inr (12, [.ref le, .int (nI 10), .int md])), (le, .inl (cT 7, 10, .inr (.inr (.inr (.inr lf)))))] ++ pg cds ad gg) s.heap.size = A at hD hZ hE0 ⊢
  have hA : ∀ q : Nat, s.heap.size ≤ q → A q := fun q h => by rw [← hAe]; exact Or.inr h
  have hS : va_S A s.heap s.heap [] := va_S.rf
  have hl := lv_entry ([.ref h, .int 11]) (n := 4) (Nat.le_of_ble_eq_true rfl)
  rw [lg_entry_eq]
  generalize (lg_sl ([.ref h, .int 11]) ++ List.replicate (4 - (lg_sl ([.ref h, .int 11])).length) Slot.unset).toArray = ls at hl ⊢
  have hl : lv_has ls 4 [(0, .ref h), (1, .int 11)] := hl
  refine lv_aload_n hx hb dAL_growb_0 rfl (lv_at hl 0 rfl) ?_
  refine va_get (D := D) (ci := 12) (v := .ref le) (C := R_AL) (T := T_AL) (N := 3) hx hb hT in_AL hown hK hP 0 rfl rfl 0 (by decide) (hT _ w268) (fun _ h9 => h9) rfl dAL_growb_1 ?_
  refine va_alen (v := 10) hx hb hK hP 1 7 rfl rfl rfl dAL_growb_4 ?_
  refine lv_istore_n hx hb dAL_growb_5 rfl hl (by decide) rfl (fun ls hl => ?_)
  have hl : lv_has ls 4 [(2, .int 10), (0, .ref h), (1, .int 11)] := hl
  refine lv_iload_n hx hb dAL_growb_6 rfl (lv_at hl 0 rfl) ?_
  refine lv_if_gt (tgt := 20) hx hb dAL_growb_7 rfl (fun _ => ?_) (fun h1 => absurd (by decide) h1)
  refine lv_iload_n hx hb dAL_growb_20 rfl (lv_at hl 0 rfl) ?_
  refine lv_iload_n hx hb dAL_growb_21 rfl (lv_at hl 2 rfl) ?_
  refine lv_iload_n hx hb dAL_growb_22 rfl (lv_at hl 0 rfl) ?_
  refine lv_isub hx hb dAL_growb_23 ?_
  refine lv_topi (fun y9 e9 => ?_)
  cases (show y9 = 1 from e9.trans (by decide))
  refine lv_iload_n hx hb dAL_growb_24 rfl (lv_at hl 0 rfl) ?_
  refine lv_iconst (v := 1) hx hb dAL_growb_25 (by decide) ?_
  refine lv_ishr hx hb dAL_growb_26 ?_
  refine lv_topi (fun y9 e9 => ?_)
  cases (show y9 = 5 from e9.trans (by decide))
  refine ro_i (va_Run.run (va_runS (As := [.int 10, .int 1, .int 5]) (rest := []) ⟨hx, hb, hml, hown, hT⟩ (k_newLen l D cT 10 1 5 (by decide) (by decide) (by decide)) ⟨callB_of 3 hT (tb_gd w772) rfl rfl rfl (hT _ w25) (hT _ w770) hAs_newLength ⟨Nat.le_of_ble_eq_true rfl, Nat.le_of_ble_eq_true rfl⟩, (hT _ w771)⟩ (RO.preS hZ hS ((show va_P D vwCl [] _ from fun _ _ h => nomatch h)) hK) rfl rfl hl.1 rfl (lv_room (Nat.le_of_ble_eq_true rfl)) dAL_growb_27 ⟨Nat.le_of_ble_eq_true rfl, Nat.le_of_ble_eq_true rfl⟩)) ?_
  refine lv_topi (fun y9 e9 => ?_)
  cases (show y9 = 15 from e9.trans (by decide))
  refine lv_istore_n hx hb dAL_growb_30 rfl hl (by decide) rfl (fun ls hl => ?_)
  have hl : lv_has ls 4 [(3, .int 15), (2, .int 10), (0, .ref h), (1, .int 11)] := hl
  refine lv_aload_n hx hb dAL_growb_31 rfl (lv_at hl 2 rfl) ?_
  refine lv_aload_n hx hb dAL_growb_32 rfl (lv_at hl 2 rfl) ?_
  refine va_get (D := D) (ci := 12) (v := .ref le) (C := R_AL) (T := T_AL) (N := 3) hx hb hT in_AL hown hK hP 0 rfl rfl 0 (by decide) (hT _ w268) (fun _ h9 => h9) rfl dAL_growb_33 ?_
  refine lv_iload_n hx hb dAL_growb_36 rfl (lv_at hl 0 rfl) ?_
  refine hy_rP (X := [(h, .inr (12, [.ref le, .int (nI 10), .int md])), (le, .inl (cT 7, 10, .inr (.inr (.inr (.inr lf)))))]) (pl := pg cds ad gg) (cx := [(le, .inl (cT 7, 10, .inr (.inr (.inr (.inr lf)))))]) (wr := [(h, .inr (12, [.ref le, .int (nI 10), .int md]))]) hP hD hS hA [1] [0] rfl rfl (by decide) (by decide) (va_runS (As := [.ref le, .int 15]) (rest := [.ref h]) ⟨hx, hb, hml, hown, hT⟩ (k_arCopyN10 l D cT cds ad gg tE mE le lf bs hcd hel _) ⟨callB_of 2 hT (tb_gd w782) rfl rfl rfl (hT _ w26) (hT _ w780) hAr_copyOf ⟨Nat.le_of_ble_eq_true rfl, Nat.le_of_ble_eq_true rfl⟩, (hT _ w781)⟩ (RWE.preS hE0 hZ hS (va_freeP (cx := [(le, .inl (cT 7, 10, .inr (.inr (.inr (.inr lf)))))]) hD hS hA [1] rfl) (hP.part (cx := [(le, .inl (cT 7, 10, .inr (.inr (.inr (.inr lf)))))]) [1] rfl) hK (hD.part (cx := [(le, .inl (cT 7, 10, .inr (.inr (.inr (.inr lf)))))]) [1] (by decide) rfl)) rfl rfl hl.1 rfl (lv_room (Nat.le_of_ble_eq_true rfl)) dAL_growb_37 ⟨Nat.le_of_ble_eq_true rfl, Nat.le_of_ble_eq_true rfl⟩) (fun u9 H locs hpu2 hP hD hS => ?_)
  obtain ⟨nqu2, rfl⟩ : ∃ q9, q9 = u9 := ⟨_, rfl⟩
  have hpu2 : True := hpu2
  have hP : va_P D vwCl ([(h, .inr (12, [.ref le, .int (nI 10), .int md])), (le, .inl (cT 7, 10, .inr (.inr (.inr (.inr lf))))), (nqu2, .inl (cT 7, 15, .inr (.inr (.inr (.inr (va_cpy lf (fun _ => none) 0 0 10))))))] ++ pg cds ad gg) _ := hP
  have hD : va_D A ([(h, .inr (12, [.ref le, .int (nI 10), .int md])), (le, .inl (cT 7, 10, .inr (.inr (.inr (.inr lf))))), (nqu2, .inl (cT 7, 15, .inr (.inr (.inr (.inr (va_cpy lf (fun _ => none) 0 0 10))))))] ++ pg cds ad gg) := hD
  refine W.eq (g2 := F0 m 40 ls [.ref nqu2, .ref h]) rfl ?_
  refine lv_dup_x1 hx hb dAL_growb_40 rfl rfl ?_
  refine va_put (D := D) (ci := 12) (v := .ref nqu2) (ty := .array (.object "java/lang/Object")) (C := R_AL) (T := T_AL) (N := 3) hx hb hT in_AL ty_AL ty_AL_ok m_AL hown hK hP hD hS 0 rfl rfl 0 (by decide) (hT _ w268) (fun _ h9 => h9) rfl (by decide +kernel) rfl rfl (Nat.le_of_ble_eq_true rfl) dAL_growb_41 (fun H locs hP hD hS => ?_)
  have hP : va_P D vwCl ([(h, .inr (12, [.ref nqu2, .int (nI 10), .int md])), (le, .inl (cT 7, 10, .inr (.inr (.inr (.inr lf))))), (nqu2, .inl (cT 7, 15, .inr (.inr (.inr (.inr (va_cpy lf (fun _ => none) 0 0 10))))))] ++ pg cds ad gg) _ := hP
  have hD : va_D A ([(h, .inr (12, [.ref nqu2, .int (nI 10), .int md])), (le, .inl (cT 7, 10, .inr (.inr (.inr (.inr lf))))), (nqu2, .inl (cT 7, 15, .inr (.inr (.inr (.inr (va_cpy lf (fun _ => none) 0 0 10))))))] ++ pg cds ad gg) := hD
  have hP9 : va_P D vwCl ([(h, .inr (12, [.ref nqu2, .int (nI 10), .int md])), (le, .inl (cT 7, 10, .inr (.inr (.inr (.inr lf))))), (nqu2, .inl (cT 7, 15, .inr (.inr (.inr (.inr (va_cpy lf (fun _ => none) 0 0 10))))))] ++ pg cds ad gg) _ := hP.part (cx := [(h, .inr (12, [.ref nqu2, .int (nI 10), .int md])), (le, .inl (cT 7, 10, .inr (.inr (.inr (.inr lf))))), (nqu2, .inl (cT 7, 15, .inr (.inr (.inr (.inr (va_cpy lf (fun _ => none) 0 0 10))))))]) [0, 1, 2] rfl
  have hD9 : va_D A ([(h, .inr (12, [.ref nqu2, .int (nI 10), .int md])), (le, .inl (cT 7, 10, .inr (.inr (.inr (.inr lf))))), (nqu2, .inl (cT 7, 15, .inr (.inr (.inr (.inr (va_cpy lf (fun _ => none) 0 0 10))))))] ++ pg cds ad gg) := hD.part (cx := [(h, .inr (12, [.ref nqu2, .int (nI 10), .int md])), (le, .inl (cT 7, 10, .inr (.inr (.inr (.inr lf))))), (nqu2, .inl (cT 7, 15, .inr (.inr (.inr (.inr (va_cpy lf (fun _ => none) 0 0 10))))))]) [0, 1, 2] (by decide) rfl
  refine W.widen (k := 1) (n := 15) (Nat.le_of_ble_eq_true rfl) (Nat.le_of_ble_eq_true rfl) ?_
  exact W.aret (v := .ref nqu2) hx hb hr (Or.inr ⟨_, rfl⟩) (Or.inr ⟨_, rfl⟩) (fun t9 ht9 hW9 => ⟨⟨nqu2, nqu2, rfl, (show True from trivial), rfl, by rw [ht9]; exact hP9, hD9⟩, hS.F ht9⟩) hS.2.2 dAL_growb_44
set_option maxHeartbeats 4000000 in
set_option maxRecDepth 100000 in
theorem k_alGrowN10 (l : Launch) (D : va_G) (cT : Nat → ClassId) (cds : List Nat) (ad : Nat → Nat) (gg : Nat → Option va_E) (tE : Nat) (mE : Nat) (h : Nat) (md : Int32) (le : Nat) (lf : Nat → Option Nat) (bs : Nat) (hcd : CD cds) (hel : ∀ k8, k8 < 10 → ∃ fs8 : List Value, bs + k8 < 8192 ∧ lf k8 = some (ad (bs + k8)) ∧ gg (bs + k8) = some (.inr (10, fs8))) (sz : Nat) : Met l yAL_grow WAL_grow ({ frames := 4, cells := 1, slots := 15, locals := 107 } : Room) (RWE tE mE D vwCl [.ref h] ([(h, .inr (12, [.ref le, .int (nI 10), .int md])), (le, .inl (cT 7, 10, .inr (.inr (.inr (.inr lf)))))] ++ pg cds ad gg) (TY cT) sz) (va_Qr (fun u9 : Nat => True) (fun u9 q9 t9 => q9 = u9 ∧ BW D vwCl (va_A ([(h, .inr (12, [.ref le, .int (nI 10), .int md])), (le, .inl (cT 7, 10, .inr (.inr (.inr (.inr lf)))))] ++ pg cds ad gg) sz) (fun u9 : Nat => ([(h, .inr (12, [.ref u9, .int (nI 10), .int md])), (le, .inl (cT 7, 10, .inr (.inr (.inr (.inr lf))))), (u9, .inl (cT 7, 15, .inr (.inr (.inr (.inr (va_cpy lf (fun _ => none) 0 0 10))))))] ++ pg cds ad gg)) u9 t9) (va_A ([(h, .inr (12, [.ref le, .int (nI 10), .int md])), (le, .inl (cT 7, 10, .inr (.inr (.inr (.inr lf)))))] ++ pg cds ad gg) sz)) 1 15 (va_A ([(h, .inr (12, [.ref le, .int (nI 10), .int md])), (le, .inl (cT 7, 10, .inr (.inr (.inr (.inr lf)))))] ++ pg cds ad gg) sz) := by
  refine Met.ofW (cc := cAL_grow) (maxL := 1) (ret := (some (.array (.object "java/lang/Object")))) (by decide) rfl ?_
  intro p e s m args below meth c s₁ B hml hv
  obtain ⟨rfl, ⟨hsz, hZ, hP, hK, hD0⟩, hE0⟩ := hv
  have hx := B.exec
  have hb := B.bytes
  have hr := B.returns
  have hts := atoms_spec (ws := WAL_grow) B.pre
  have hT : ∀ w ∈ TB, w.before _ s = true := fun w h => hts w (List.mem_cons_of_mem _ h)
  have hown : s.vm.findClass R_AL = some m.cls := findClass_of_methodNamed B.named
  have hlocks := B.notSynchronized
  subst hsz
  have hD := hD0.self (sz := s.heap.size)
  generalize hAe : va_A ([(h, .inr (12, [.ref le, .int (nI 10), .int md])), (le, .inl (cT 7, 10, .inr (.inr (.inr (.inr lf)))))] ++ pg cds ad gg) s.heap.size = A at hD hZ hE0 ⊢
  have hA : ∀ q : Nat, s.heap.size ≤ q → A q := fun q h => by rw [← hAe]; exact Or.inr h
  have hS : va_S A s.heap s.heap [] := va_S.rf
  have hl := lv_entry ([.ref h]) (n := 1) (Nat.le_of_ble_eq_true rfl)
  rw [lg_entry_eq]
  generalize (lg_sl ([.ref h]) ++ List.replicate (1 - (lg_sl ([.ref h])).length) Slot.unset).toArray = ls at hl ⊢
  have hl : lv_has ls 1 [(0, .ref h)] := hl
  refine lv_aload_n hx hb dAL_grow_0 rfl (lv_at hl 0 rfl) ?_
  refine lv_aload_n hx hb dAL_grow_1 rfl (lv_at hl 0 rfl) ?_
  refine va_get (D := D) (ci := 12) (v := .int (nI 10)) (C := R_AL) (T := T_AL) (N := 3) hx hb hT in_AL hown hK hP 0 rfl rfl 1 (by decide) (hT _ w269) (fun _ h9 => h9) rfl dAL_grow_2 ?_
  refine lv_iconst (v := 1) hx hb dAL_grow_5 (by decide) ?_
  refine lv_iadd hx hb dAL_grow_6 ?_
  refine lv_topi (fun y9 e9 => ?_)
  cases (show y9 = 11 from e9.trans (by decide))
  refine hy_rP (X := [(h, .inr (12, [.ref le, .int (nI 10), .int md])), (le, .inl (cT 7, 10, .inr (.inr (.inr (.inr lf)))))]) (pl := pg cds ad gg) (cx := [(h, .inr (12, [.ref le, .int (nI 10), .int md])), (le, .inl (cT 7, 10, .inr (.inr (.inr (.inr lf)))))]) (wr := []) hP hD hS hA [0, 1] [] rfl rfl (by decide) (by decide) (va_runV (As := [.int 11]) (rest := []) ⟨hx, hb, hml, hown, hT⟩ (k_alGrowbN10 l D cT cds ad gg tE mE h md le lf bs hcd hel _) ⟨callB_of 1 hT (tb_gd w769) rfl rfl rfl (hT _ w11) (hT _ w766) hAL_growb ⟨Nat.le_of_ble_eq_true rfl, Nat.le_of_ble_eq_true rfl⟩, (hT _ w768), (hT _ wp11)⟩ (RWE.preV (ci := 12) (q0 := 0) hE0 hZ hS (va_freeP (cx := [(h, .inr (12, [.ref le, .int (nI 10), .int md])), (le, .inl (cT 7, 10, .inr (.inr (.inr (.inr lf)))))]) hD hS hA [0, 1] rfl) (hP.part (cx := [(h, .inr (12, [.ref le, .int (nI 10), .int md])), (le, .inl (cT 7, 10, .inr (.inr (.inr (.inr lf)))))]) [0, 1] rfl) hK (hD.part (cx := [(h, .inr (12, [.ref le, .int (nI 10), .int md])), (le, .inl (cT 7, 10, .inr (.inr (.inr (.inr lf)))))]) [0, 1] (by decide) rfl) rfl rfl) rfl rfl hl.1 rfl (lv_room (Nat.le_of_ble_eq_true rfl)) dAL_grow_7 ⟨Nat.le_of_ble_eq_true rfl, Nat.le_of_ble_eq_true rfl⟩) (fun u9 H locs hpu1 hP hD hS => ?_)
  obtain ⟨nqu1, rfl⟩ : ∃ q9, q9 = u9 := ⟨_, rfl⟩
  have hpu1 : True := hpu1
  have hP : va_P D vwCl ([(h, .inr (12, [.ref nqu1, .int (nI 10), .int md])), (le, .inl (cT 7, 10, .inr (.inr (.inr (.inr lf))))), (nqu1, .inl (cT 7, 15, .inr (.inr (.inr (.inr (va_cpy lf (fun _ => none) 0 0 10))))))] ++ pg cds ad gg) _ := hP
  have hD : va_D A ([(h, .inr (12, [.ref nqu1, .int (nI 10), .int md])), (le, .inl (cT 7, 10, .inr (.inr (.inr (.inr lf))))), (nqu1, .inl (cT 7, 15, .inr (.inr (.inr (.inr (va_cpy lf (fun _ => none) 0 0 10))))))] ++ pg cds ad gg) := hD
  refine W.eq (g2 := F0 m 10 ls [.ref nqu1]) rfl ?_
  have hP9 : va_P D vwCl ([(h, .inr (12, [.ref nqu1, .int (nI 10), .int md])), (le, .inl (cT 7, 10, .inr (.inr (.inr (.inr lf))))), (nqu1, .inl (cT 7, 15, .inr (.inr (.inr (.inr (va_cpy lf (fun _ => none) 0 0 10))))))] ++ pg cds ad gg) _ := hP.part (cx := [(h, .inr (12, [.ref nqu1, .int (nI 10), .int md])), (le, .inl (cT 7, 10, .inr (.inr (.inr (.inr lf))))), (nqu1, .inl (cT 7, 15, .inr (.inr (.inr (.inr (va_cpy lf (fun _ => none) 0 0 10))))))]) [0, 1, 2] rfl
  have hD9 : va_D A ([(h, .inr (12, [.ref nqu1, .int (nI 10), .int md])), (le, .inl (cT 7, 10, .inr (.inr (.inr (.inr lf))))), (nqu1, .inl (cT 7, 15, .inr (.inr (.inr (.inr (va_cpy lf (fun _ => none) 0 0 10))))))] ++ pg cds ad gg) := hD.part (cx := [(h, .inr (12, [.ref nqu1, .int (nI 10), .int md])), (le, .inl (cT 7, 10, .inr (.inr (.inr (.inr lf))))), (nqu1, .inl (cT 7, 15, .inr (.inr (.inr (.inr (va_cpy lf (fun _ => none) 0 0 10))))))]) [0, 1, 2] (by decide) rfl
  refine W.widen (k := 1) (n := 15) (Nat.le_of_ble_eq_true rfl) (Nat.le_of_ble_eq_true rfl) ?_
  exact W.aret (v := .ref nqu1) hx hb hr (Or.inr ⟨_, rfl⟩) (Or.inr ⟨_, rfl⟩) (fun t9 ht9 hW9 => ⟨⟨nqu1, nqu1, rfl, (show True from trivial), rfl, by rw [ht9]; exact hP9, hD9⟩, hS.F ht9⟩) hS.2.2 dAL_grow_10
set_option maxHeartbeats 4000000 in
set_option maxRecDepth 100000 in
theorem k_arCopy3N15 (l : Launch) (D : va_G) (cT : Nat → ClassId) (cds : List Nat) (ad : Nat → Nat) (gg : Nat → Option va_E) (tE : Nat) (mE : Nat) (le : Nat) (lf : Nat → Option Nat) (bs : Nat) (hcd : CD cds) (hel : ∀ k8, k8 < 15 → ∃ fs8 : List Value, bs + k8 < 8192 ∧ lf k8 = some (ad (bs + k8)) ∧ gg (bs + k8) = some (.inr (10, fs8))) (sz : Nat) : Met l yAr_copyOf3 WAr_copyOf3 ({ frames := 1, cells := 1, slots := 22, locals := 40 } : Room) (RWE tE mE D vwCl [.ref le, .int 22, .ref mE] ([(le, .inl (cT 7, 15, .inr (.inr (.inr (.inr lf)))))] ++ pg cds ad gg) (TY cT) sz) (va_Qr (fun u9 : Nat => True) (fun u9 q9 t9 => q9 = u9 ∧ BW D vwCl (va_A ([(le, .inl (cT 7, 15, .inr (.inr (.inr (.inr lf)))))] ++ pg cds ad gg) sz) (fun u9 : Nat => ([(le, .inl (cT 7, 15, .inr (.inr (.inr (.inr lf))))), (u9, .inl (cT 7, 22, .inr (.inr (.inr (.inr (va_cpy lf (fun _ => none) 0 0 15))))))] ++ pg cds ad gg)) u9 t9) (va_A ([(le, .inl (cT 7, 15, .inr (.inr (.inr (.inr lf)))))] ++ pg cds ad gg) sz)) 1 22 (va_A ([(le, .inl (cT 7, 15, .inr (.inr (.inr (.inr lf)))))] ++ pg cds ad gg) sz) := by
  refine Met.ofW (cc := cAr_copyOf3) (maxL := 4) (ret := (some (.array (.object "java/lang/Object")))) (by decide) rfl ?_
  intro p e s m args below meth c s₁ B hml hv
  obtain ⟨rfl, ⟨hsz, hZ, hP, hK, hD0⟩, hE0⟩ := hv
  have hx := B.exec
  have hb := B.bytes
  have hr := B.returns
  have hts := atoms_spec (ws := WAr_copyOf3) B.pre
  have hT : ∀ w ∈ TB, w.before _ s = true := fun w h => hts w (List.mem_cons_of_mem _ h)
  have hown : s.vm.findClass R_Ar = some m.cls := findClass_of_methodNamed B.named
  have hlocks := B.notSynchronized
  subst hsz
  have hD := hD0.self (sz := s.heap.size)
  generalize hAe : va_A ([(le, .inl (cT 7, 15, .inr (.inr (.inr (.inr lf)))))] ++ pg cds ad gg) s.heap.size = A at hD hZ hE0 ⊢
  have hA : ∀ q : Nat, s.heap.size ≤ q → A q := fun q h => by rw [← hAe]; exact Or.inr h
  have hS : va_S A s.heap s.heap [] := va_S.rf
  have hl := lv_entry ([.ref le, .int 22, .ref mE]) (n := 4) (Nat.le_of_ble_eq_true rfl)
  rw [lg_entry_eq]
  generalize (lg_sl ([.ref le, .int 22, .ref mE]) ++ List.replicate (4 - (lg_sl ([.ref le, .int 22, .ref mE])).length) Slot.unset).toArray = ls at hl ⊢
  have hl : lv_has ls 4 [(0, .ref le), (1, .int 22), (2, .ref mE)] := hl
  refine lv_aload_n hx hb dAr_copyOf3_0 rfl (lv_at hl 2 rfl) ?_
  refine va_ldcM hx hb hown (hT _ w805) hE0.2.2 dAr_copyOf3_1 ?_
  refine lv_acmp_ne (rx := some mE) (ry := some mE) (tgt := 13) hx hb dAr_copyOf3_3 rfl (fun q9 => absurd rfl q9) (fun _ => ?_)
  refine lv_iload_n hx hb dAr_copyOf3_6 rfl (lv_at hl 1 rfl) ?_
  refine nw_q (C := "java/lang/Object") (N' := 22) hx hb hown (hT _ w807) (hZ.1.2.2.2.1 "java/lang/Object" (List.mem_of_getElem? (i := 3) rfl)) hK hP hD hS hA 7 rfl (by decide +kernel) (by decide +kernel) (by decide +kernel) (Nat.le_of_ble_eq_true rfl) (Nat.le_of_ble_eq_true rfl) dAr_copyOf3_7 (fun q7 H hP hD hS => ?_)
  have hP := hy_push hP
  have hD := hy_pushD hD
  have hP : va_P D vwCl ([(le, .inl (cT 7, 15, .inr (.inr (.inr (.inr lf))))), (q7, .inl (cT 7, 22, .inr (.inr (.inr (.inr (fun _ => none))))))] ++ pg cds ad gg) _ := hP
  have hD : va_D A ([(le, .inl (cT 7, 15, .inr (.inr (.inr (.inr lf))))), (q7, .inl (cT 7, 22, .inr (.inr (.inr (.inr (fun _ => none))))))] ++ pg cds ad gg) := hD
  refine lv_goto (tgt := 24) hx hb dAr_copyOf3_10 rfl ?_
  refine lv_astore_n hx hb dAr_copyOf3_24 rfl hl (by decide) rfl (fun ls hl => ?_)
  have hl : lv_has ls 4 [(3, .ref q7), (0, .ref le), (1, .int 22), (2, .ref mE)] := hl
  refine lv_aload_n hx hb dAr_copyOf3_25 rfl (lv_at hl 1 rfl) ?_
  refine lv_iconst (v := 0) hx hb dAr_copyOf3_26 (by decide) ?_
  refine lv_aload_n hx hb dAr_copyOf3_27 rfl (lv_at hl 0 rfl) ?_
  refine lv_iconst (v := 0) hx hb dAr_copyOf3_28 (by decide) ?_
  refine lv_aload_n hx hb dAr_copyOf3_29 rfl (lv_at hl 1 rfl) ?_
  refine va_alen (v := 15) hx hb hK hP 0 7 rfl rfl rfl dAr_copyOf3_30 ?_
  refine lv_iload_n hx hb dAr_copyOf3_31 rfl (lv_at hl 2 rfl) ?_
  refine va_mmin hx hb (hml.trans hl.1.symm) hown (hT _ w808) (hT _ w448) (hT _ w22) (hT _ w449) (Nat.le_of_ble_eq_true rfl) (Nat.le_of_ble_eq_true rfl) (Nat.le_of_ble_eq_true rfl) (Nat.le_of_ble_eq_true rfl) dAr_copyOf3_32 ?_
  refine lv_topi (fun y9 e9 => ?_)
  cases (show y9 = 15 from e9.trans (by decide))
  have hel9 : ∀ i : Nat, i < 15 → ∀ y : Nat, lf i = some y → ∃ cellV : Cell, _[y]? = some cellV ∧ cellV.vm.isStatics = false ∧ s.vm.findClass "ResidualTrees$Node" = some cellV.cls := fun i hi y hy => by obtain ⟨fs, h1, h2, h3⟩ := hel i hi; cases h2.symm.trans hy; exact va_recv (ci := 10) (q0 := 0) hK (pg_1 hcd hP h1 h3) rfl rfl
  refine va_copyq (C := "ResidualTrees$Node") hx hb (hml.trans hl.1.symm) hown (hT _ w809) (hT _ w452) (hT _ w451) (hT _ w23) hK hP hD hS 0 1 7 7 rfl rfl rfl rfl (by decide) (by decide) (by decide) (by decide) (by decide) (fun i hi y hy => hel9 i hi y (by rw [← hy]; exact congrArg lf (Nat.zero_add i).symm)) (asg_of (hZ.1.1 ("ResidualTrees$Node", "java/lang/Object") (List.mem_of_getElem? (i := 15) rfl))) (Nat.le_of_ble_eq_true rfl) (by decide) dAr_copyOf3_35 (fun H locs hP hD hS => ?_)
  have hP : va_P D vwCl ([(le, .inl (cT 7, 15, .inr (.inr (.inr (.inr lf))))), (q7, .inl (cT 7, 22, .inr (.inr (.inr (.inr (va_cpy lf (fun _ => none) 0 0 15))))))] ++ pg cds ad gg) _ := hP
  have hD : va_D A ([(le, .inl (cT 7, 15, .inr (.inr (.inr (.inr lf))))), (q7, .inl (cT 7, 22, .inr (.inr (.inr (.inr (va_cpy lf (fun _ => none) 0 0 15))))))] ++ pg cds ad gg) := hD
  refine lv_aload_n hx hb dAr_copyOf3_38 rfl (lv_at hl 0 rfl) ?_
  have hP9 : va_P D vwCl ([(le, .inl (cT 7, 15, .inr (.inr (.inr (.inr lf))))), (q7, .inl (cT 7, 22, .inr (.inr (.inr (.inr (va_cpy lf (fun _ => none) 0 0 15))))))] ++ pg cds ad gg) _ := hP.part (cx := [(le, .inl (cT 7, 15, .inr (.inr (.inr (.inr lf))))), (q7, .inl (cT 7, 22, .inr (.inr (.inr (.inr (va_cpy lf (fun _ => none) 0 0 15))))))]) [0, 1] rfl
  have hD9 : va_D A ([(le, .inl (cT 7, 15, .inr (.inr (.inr (.inr lf))))), (q7, .inl (cT 7, 22, .inr (.inr (.inr (.inr (va_cpy lf (fun _ => none) 0 0 15))))))] ++ pg cds ad gg) := hD.part (cx := [(le, .inl (cT 7, 15, .inr (.inr (.inr (.inr lf))))), (q7, .inl (cT 7, 22, .inr (.inr (.inr (.inr (va_cpy lf (fun _ => none) 0 0 15))))))]) [0, 1] (by decide) rfl
  refine W.widen (k := 1) (n := 22) (Nat.le_of_ble_eq_true rfl) (Nat.le_of_ble_eq_true rfl) ?_
  exact W.aret (v := .ref q7) hx hb hr (Or.inr ⟨_, rfl⟩) (Or.inr ⟨_, rfl⟩) (fun t9 ht9 hW9 => ⟨⟨q7, q7, rfl, (show True from trivial), rfl, by rw [ht9]; exact hP9, hD9⟩, hS.F ht9⟩) hS.2.2 dAr_copyOf3_39
set_option maxHeartbeats 4000000 in
set_option maxRecDepth 100000 in
theorem k_arCopyN15 (l : Launch) (D : va_G) (cT : Nat → ClassId) (cds : List Nat) (ad : Nat → Nat) (gg : Nat → Option va_E) (tE : Nat) (mE : Nat) (le : Nat) (lf : Nat → Option Nat) (bs : Nat) (hcd : CD cds) (hel : ∀ k8, k8 < 15 → ∃ fs8 : List Value, bs + k8 < 8192 ∧ lf k8 = some (ad (bs + k8)) ∧ gg (bs + k8) = some (.inr (10, fs8))) (sz : Nat) : Met l yAr_copyOf WAr_copyOf ({ frames := 2, cells := 1, slots := 22, locals := 63 } : Room) (RWE tE mE D vwCl [.ref le, .int 22] ([(le, .inl (cT 7, 15, .inr (.inr (.inr (.inr lf)))))] ++ pg cds ad gg) (TY cT) sz) (va_Qr (fun u9 : Nat => True) (fun u9 q9 t9 => q9 = u9 ∧ BW D vwCl (va_A ([(le, .inl (cT 7, 15, .inr (.inr (.inr (.inr lf)))))] ++ pg cds ad gg) sz) (fun u9 : Nat => ([(le, .inl (cT 7, 15, .inr (.inr (.inr (.inr lf))))), (u9, .inl (cT 7, 22, .inr (.inr (.inr (.inr (va_cpy lf (fun _ => none) 0 0 15))))))] ++ pg cds ad gg)) u9 t9) (va_A ([(le, .inl (cT 7, 15, .inr (.inr (.inr (.inr lf)))))] ++ pg cds ad gg) sz)) 1 22 (va_A ([(le, .inl (cT 7, 15, .inr (.inr (.inr (.inr lf)))))] ++ pg cds ad gg) sz) := by
  refine Met.ofW (cc := cAr_copyOf) (maxL := 2) (ret := (some (.array (.object "java/lang/Object")))) (by decide) rfl ?_
  intro p e s m args below meth c s₁ B hml hv
  obtain ⟨rfl, ⟨hsz, hZ, hP, hK, hD0⟩, hE0⟩ := hv
  have hx := B.exec
  have hb := B.bytes
  have hr := B.returns
  have hts := atoms_spec (ws := WAr_copyOf) B.pre
  have hT : ∀ w ∈ TB, w.before _ s = true := fun w h => hts w (List.mem_cons_of_mem _ h)
  have hown : s.vm.findClass R_Ar = some m.cls := findClass_of_methodNamed B.named
  have hlocks := B.notSynchronized
  subst hsz
  have hD := hD0.self (sz := s.heap.size)
  generalize hAe : va_A ([(le, .inl (cT 7, 15, .inr (.inr (.inr (.inr lf)))))] ++ pg cds ad gg) s.heap.size = A at hD hZ hE0 ⊢
  have hA : ∀ q : Nat, s.heap.size ≤ q → A q := fun q h => by rw [← hAe]; exact Or.inr h
  have hS : va_S A s.heap s.heap [] := va_S.rf
  have hl := lv_entry ([.ref le, .int 22]) (n := 2) (Nat.le_of_ble_eq_true rfl)
  rw [lg_entry_eq]
  generalize (lg_sl ([.ref le, .int 22]) ++ List.replicate (2 - (lg_sl ([.ref le, .int 22])).length) Slot.unset).toArray = ls at hl ⊢
  have hl : lv_has ls 2 [(0, .ref le), (1, .int 22)] := hl
  refine lv_aload_n hx hb dAr_copyOf_0 rfl (lv_at hl 0 rfl) ?_
  refine lv_iload_n hx hb dAr_copyOf_1 rfl (lv_at hl 1 rfl) ?_
  refine lv_aload_n hx hb dAr_copyOf_2 rfl (lv_at hl 0 rfl) ?_
  refine va_getC (C := "[Ljava/lang/Object;") hx hb (hml.trans hl.1.symm) hown (hT _ w783) (va_Nw.use rfl (hZ.1.2.2.1 _ (List.mem_of_getElem? (i := 6) rfl))) (hT _ w1597) (hT _ w784) (hT _ w801) hE0.2.2 (arr_cl hK hP 0 7 rfl rfl) (Nat.le_of_ble_eq_true rfl) (Nat.le_of_ble_eq_true rfl) dAr_copyOf_3 ?_
  refine hy_rP (X := [(le, .inl (cT 7, 15, .inr (.inr (.inr (.inr lf)))))]) (pl := pg cds ad gg) (cx := [(le, .inl (cT 7, 15, .inr (.inr (.inr (.inr lf)))))]) (wr := []) hP hD hS hA [0] [] rfl rfl (by decide) (by decide) (va_runS (As := [.ref le, .int 22, .ref mE]) (rest := []) ⟨hx, hb, hml, hown, hT⟩ (k_arCopy3N15 l D cT cds ad gg tE mE le lf bs hcd hel _) ⟨callB_of 3 hT (tb_gd w804) rfl rfl rfl (hT _ w26) (hT _ w802) hAr_copyOf3 ⟨Nat.le_of_ble_eq_true rfl, Nat.le_of_ble_eq_true rfl⟩, (hT _ w803)⟩ (RWE.preS hE0 hZ hS (va_freeP (cx := [(le, .inl (cT 7, 15, .inr (.inr (.inr (.inr lf)))))]) hD hS hA [0] rfl) (hP.part (cx := [(le, .inl (cT 7, 15, .inr (.inr (.inr (.inr lf)))))]) [0] rfl) hK (hD.part (cx := [(le, .inl (cT 7, 15, .inr (.inr (.inr (.inr lf)))))]) [0] (by decide) rfl)) rfl rfl hl.1 rfl (lv_room (Nat.le_of_ble_eq_true rfl)) dAr_copyOf_6 ⟨Nat.le_of_ble_eq_true rfl, Nat.le_of_ble_eq_true rfl⟩) (fun u9 H locs hpu1 hP hD hS => ?_)
  obtain ⟨nqu1, rfl⟩ : ∃ q9, q9 = u9 := ⟨_, rfl⟩
  have hpu1 : True := hpu1
  have hP : va_P D vwCl ([(le, .inl (cT 7, 15, .inr (.inr (.inr (.inr lf))))), (nqu1, .inl (cT 7, 22, .inr (.inr (.inr (.inr (va_cpy lf (fun _ => none) 0 0 15))))))] ++ pg cds ad gg) _ := hP
  have hD : va_D A ([(le, .inl (cT 7, 15, .inr (.inr (.inr (.inr lf))))), (nqu1, .inl (cT 7, 22, .inr (.inr (.inr (.inr (va_cpy lf (fun _ => none) 0 0 15))))))] ++ pg cds ad gg) := hD
  refine W.eq (g2 := F0 m 9 ls [.ref nqu1]) rfl ?_
  have hP9 : va_P D vwCl ([(le, .inl (cT 7, 15, .inr (.inr (.inr (.inr lf))))), (nqu1, .inl (cT 7, 22, .inr (.inr (.inr (.inr (va_cpy lf (fun _ => none) 0 0 15))))))] ++ pg cds ad gg) _ := hP.part (cx := [(le, .inl (cT 7, 15, .inr (.inr (.inr (.inr lf))))), (nqu1, .inl (cT 7, 22, .inr (.inr (.inr (.inr (va_cpy lf (fun _ => none) 0 0 15))))))]) [0, 1] rfl
  have hD9 : va_D A ([(le, .inl (cT 7, 15, .inr (.inr (.inr (.inr lf))))), (nqu1, .inl (cT 7, 22, .inr (.inr (.inr (.inr (va_cpy lf (fun _ => none) 0 0 15))))))] ++ pg cds ad gg) := hD.part (cx := [(le, .inl (cT 7, 15, .inr (.inr (.inr (.inr lf))))), (nqu1, .inl (cT 7, 22, .inr (.inr (.inr (.inr (va_cpy lf (fun _ => none) 0 0 15))))))]) [0, 1] (by decide) rfl
  refine W.widen (k := 1) (n := 22) (Nat.le_of_ble_eq_true rfl) (Nat.le_of_ble_eq_true rfl) ?_
  exact W.aret (v := .ref nqu1) hx hb hr (Or.inr ⟨_, rfl⟩) (Or.inr ⟨_, rfl⟩) (fun t9 ht9 hW9 => ⟨⟨nqu1, nqu1, rfl, (show True from trivial), rfl, by rw [ht9]; exact hP9, hD9⟩, hS.F ht9⟩) hS.2.2 dAr_copyOf_9
set_option maxHeartbeats 4000000 in
set_option maxRecDepth 100000 in
theorem k_alGrowbN15 (l : Launch) (D : va_G) (cT : Nat → ClassId) (cds : List Nat) (ad : Nat → Nat) (gg : Nat → Option va_E) (tE : Nat) (mE : Nat) (h : Nat) (md : Int32) (le : Nat) (lf : Nat → Option Nat) (bs : Nat) (hcd : CD cds) (hel : ∀ k8, k8 < 15 → ∃ fs8 : List Value, bs + k8 < 8192 ∧ lf k8 = some (ad (bs + k8)) ∧ gg (bs + k8) = some (.inr (10, fs8))) (sz : Nat) : Met l yAL_growb WAL_growb ({ frames := 3, cells := 1, slots := 22, locals := 84 } : Room) (RWE tE mE D vwCl [.ref h, .int 16] ([(h, .inr (12, [.ref le, .int (nI 15), .int md])), (le, .inl (cT 7, 15, .inr (.inr (.inr (.inr lf)))))] ++ pg cds ad gg) (TY cT) sz) (va_Qr (fun u9 : Nat => True) (fun u9 q9 t9 => q9 = u9 ∧ BW D vwCl (va_A ([(h, .inr (12, [.ref le, .int (nI 15), .int md])), (le, .inl (cT 7, 15, .inr (.inr (.inr (.inr lf)))))] ++ pg cds ad gg) sz) (fun u9 : Nat => ([(h, .inr (12, [.ref u9, .int (nI 15), .int md])), (le, .inl (cT 7, 15, .inr (.inr (.inr (.inr lf))))), (u9, .inl (cT 7, 22, .inr (.inr (.inr (.inr (va_cpy lf (fun _ => none) 0 0 15))))))] ++ pg cds ad gg)) u9 t9) (va_A ([(h, .inr (12, [.ref le, .int (nI 15), .int md])), (le, .inl (cT 7, 15, .inr (.inr (.inr (.inr lf)))))] ++ pg cds ad gg) sz)) 1 22 (va_A ([(h, .inr (12, [.ref le, .int (nI 15), .int md])), (le, .inl (cT 7, 15, .inr (.inr (.inr (.inr lf)))))] ++ pg cds ad gg) sz) := by
  refine Met.ofW (cc := cAL_growb) (maxL := 4) (ret := (some (.array (.object "java/lang/Object")))) (by decide) rfl ?_
  intro p e s m args below meth c s₁ B hml hv
  obtain ⟨rfl, ⟨hsz, hZ, hP, hK, hD0⟩, hE0⟩ := hv
  have hx := B.exec
  have hb := B.bytes
  have hr := B.returns
  have hts := atoms_spec (ws := WAL_growb) B.pre
  have hT : ∀ w ∈ TB, w.before _ s = true := fun w h => hts w (List.mem_cons_of_mem _ h)
  have hown : s.vm.findClass R_AL = some m.cls := findClass_of_methodNamed B.named
  have hlocks := B.notSynchronized
  subst hsz
  have hD := hD0.self (sz := s.heap.size)
  generalize hAe : va_A ([(h, .inr (12, [.ref le, .int (nI 15), .int md])), (le, .inl (cT 7, 15, .inr (.inr (.inr (.inr lf)))))] ++ pg cds ad gg) s.heap.size = A at hD hZ hE0 ⊢
  have hA : ∀ q : Nat, s.heap.size ≤ q → A q := fun q h => by rw [← hAe]; exact Or.inr h
  have hS : va_S A s.heap s.heap [] := va_S.rf
  have hl := lv_entry ([.ref h, .int 16]) (n := 4) (Nat.le_of_ble_eq_true rfl)
  rw [lg_entry_eq]
  generalize (lg_sl ([.ref h, .int 16]) ++ List.replicate (4 - (lg_sl ([.ref h, .int 16])).length) Slot.unset).toArray = ls at hl ⊢
  have hl : lv_has ls 4 [(0, .ref h), (1, .int 16)] := hl
  refine lv_aload_n hx hb dAL_growb_0 rfl (lv_at hl 0 rfl) ?_
  refine va_get (D := D) (ci := 12) (v := .ref le) (C := R_AL) (T := T_AL) (N := 3) hx hb hT in_AL hown hK hP 0 rfl rfl 0 (by decide) (hT _ w268) (fun _ h9 => h9) rfl dAL_growb_1 ?_
  refine va_alen (v := 15) hx hb hK hP 1 7 rfl rfl rfl dAL_growb_4 ?_
  refine lv_istore_n hx hb dAL_growb_5 rfl hl (by decide) rfl (fun ls hl => ?_)
  have hl : lv_has ls 4 [(2, .int 15), (0, .ref h), (1, .int 16)] := hl
  refine lv_iload_n hx hb dAL_growb_6 rfl (lv_at hl 0 rfl) ?_
  refine lv_if_gt (tgt := 20) hx hb dAL_growb_7 rfl (fun _ => ?_) (fun h1 => absurd (by decide) h1)
  refine lv_iload_n hx hb dAL_growb_20 rfl (lv_at hl 0 rfl) ?_
  refine lv_iload_n hx hb dAL_growb_21 rfl (lv_at hl 2 rfl) ?_
  refine lv_iload_n hx hb dAL_growb_22 rfl (lv_at hl 0 rfl) ?_
  refine lv_isub hx hb dAL_growb_23 ?_
  refine lv_topi (fun y9 e9 => ?_)
  cases (show y9 = 1 from e9.trans (by decide))
  refine lv_iload_n hx hb dAL_growb_24 rfl (lv_at hl 0 rfl) ?_
  refine lv_iconst (v := 1) hx hb dAL_growb_25 (by decide) ?_
  refine lv_ishr hx hb dAL_growb_26 ?_
  refine lv_topi (fun y9 e9 => ?_)
  cases (show y9 = 7 from e9.trans (by decide))
  refine ro_i (va_Run.run (va_runS (As := [.int 15, .int 1, .int 7]) (rest := []) ⟨hx, hb, hml, hown, hT⟩ (k_newLen l D cT 15 1 7 (by decide) (by decide) (by decide)) ⟨callB_of 3 hT (tb_gd w772) rfl rfl rfl (hT _ w25) (hT _ w770) hAs_newLength ⟨Nat.le_of_ble_eq_true rfl, Nat.le_of_ble_eq_true rfl⟩, (hT _ w771)⟩ (RO.preS hZ hS ((show va_P D vwCl [] _ from fun _ _ h => nomatch h)) hK) rfl rfl hl.1 rfl (lv_room (Nat.le_of_ble_eq_true rfl)) dAL_growb_27 ⟨Nat.le_of_ble_eq_true rfl, Nat.le_of_ble_eq_true rfl⟩)) ?_
  refine lv_topi (fun y9 e9 => ?_)
  cases (show y9 = 22 from e9.trans (by decide))
  refine lv_istore_n hx hb dAL_growb_30 rfl hl (by decide) rfl (fun ls hl => ?_)
  have hl : lv_has ls 4 [(3, .int 22), (2, .int 15), (0, .ref h), (1, .int 16)] := hl
  refine lv_aload_n hx hb dAL_growb_31 rfl (lv_at hl 2 rfl) ?_
  refine lv_aload_n hx hb dAL_growb_32 rfl (lv_at hl 2 rfl) ?_
  refine va_get (D := D) (ci := 12) (v := .ref le) (C := R_AL) (T := T_AL) (N := 3) hx hb hT in_AL hown hK hP 0 rfl rfl 0 (by decide) (hT _ w268) (fun _ h9 => h9) rfl dAL_growb_33 ?_
  refine lv_iload_n hx hb dAL_growb_36 rfl (lv_at hl 0 rfl) ?_
  refine hy_rP (X := [(h, .inr (12, [.ref le, .int (nI 15), .int md])), (le, .inl (cT 7, 15, .inr (.inr (.inr (.inr lf)))))]) (pl := pg cds ad gg) (cx := [(le, .inl (cT 7, 15, .inr (.inr (.inr (.inr lf)))))]) (wr := [(h, .inr (12, [.ref le, .int (nI 15), .int md]))]) hP hD hS hA [1] [0] rfl rfl (by decide) (by decide) (va_runS (As := [.ref le, .int 22]) (rest := [.ref h]) ⟨hx, hb, hml, hown, hT⟩ (k_arCopyN15 l D cT cds ad gg tE mE le lf bs hcd hel _) ⟨callB_of 2 hT (tb_gd w782) rfl rfl rfl (hT _ w26) (hT _ w780) hAr_copyOf ⟨Nat.le_of_ble_eq_true rfl, Nat.le_of_ble_eq_true rfl⟩, (hT _ w781)⟩ (RWE.preS hE0 hZ hS (va_freeP (cx := [(le, .inl (cT 7, 15, .inr (.inr (.inr (.inr lf)))))]) hD hS hA [1] rfl) (hP.part (cx := [(le, .inl (cT 7, 15, .inr (.inr (.inr (.inr lf)))))]) [1] rfl) hK (hD.part (cx := [(le, .inl (cT 7, 15, .inr (.inr (.inr (.inr lf)))))]) [1] (by decide) rfl)) rfl rfl hl.1 rfl (lv_room (Nat.le_of_ble_eq_true rfl)) dAL_growb_37 ⟨Nat.le_of_ble_eq_true rfl, Nat.le_of_ble_eq_true rfl⟩) (fun u9 H locs hpu2 hP hD hS => ?_)
  obtain ⟨nqu2, rfl⟩ : ∃ q9, q9 = u9 := ⟨_, rfl⟩
  have hpu2 : True := hpu2
  have hP : va_P D vwCl ([(h, .inr (12, [.ref le, .int (nI 15), .int md])), (le, .inl (cT 7, 15, .inr (.inr (.inr (.inr lf))))), (nqu2, .inl (cT 7, 22, .inr (.inr (.inr (.inr (va_cpy lf (fun _ => none) 0 0 15))))))] ++ pg cds ad gg) _ := hP
  have hD : va_D A ([(h, .inr (12, [.ref le, .int (nI 15), .int md])), (le, .inl (cT 7, 15, .inr (.inr (.inr (.inr lf))))), (nqu2, .inl (cT 7, 22, .inr (.inr (.inr (.inr (va_cpy lf (fun _ => none) 0 0 15))))))] ++ pg cds ad gg) := hD
  refine W.eq (g2 := F0 m 40 ls [.ref nqu2, .ref h]) rfl ?_
  refine lv_dup_x1 hx hb dAL_growb_40 rfl rfl ?_
  refine va_put (D := D) (ci := 12) (v := .ref nqu2) (ty := .array (.object "java/lang/Object")) (C := R_AL) (T := T_AL) (N := 3) hx hb hT in_AL ty_AL ty_AL_ok m_AL hown hK hP hD hS 0 rfl rfl 0 (by decide) (hT _ w268) (fun _ h9 => h9) rfl (by decide +kernel) rfl rfl (Nat.le_of_ble_eq_true rfl) dAL_growb_41 (fun H locs hP hD hS => ?_)
  have hP : va_P D vwCl ([(h, .inr (12, [.ref nqu2, .int (nI 15), .int md])), (le, .inl (cT 7, 15, .inr (.inr (.inr (.inr lf))))), (nqu2, .inl (cT 7, 22, .inr (.inr (.inr (.inr (va_cpy lf (fun _ => none) 0 0 15))))))] ++ pg cds ad gg) _ := hP
  have hD : va_D A ([(h, .inr (12, [.ref nqu2, .int (nI 15), .int md])), (le, .inl (cT 7, 15, .inr (.inr (.inr (.inr lf))))), (nqu2, .inl (cT 7, 22, .inr (.inr (.inr (.inr (va_cpy lf (fun _ => none) 0 0 15))))))] ++ pg cds ad gg) := hD
  have hP9 : va_P D vwCl ([(h, .inr (12, [.ref nqu2, .int (nI 15), .int md])), (le, .inl (cT 7, 15, .inr (.inr (.inr (.inr lf))))), (nqu2, .inl (cT 7, 22, .inr (.inr (.inr (.inr (va_cpy lf (fun _ => none) 0 0 15))))))] ++ pg cds ad gg) _ := hP.part (cx := [(h, .inr (12, [.ref nqu2, .int (nI 15), .int md])), (le, .inl (cT 7, 15, .inr (.inr (.inr (.inr lf))))), (nqu2, .inl (cT 7, 22, .inr (.inr (.inr (.inr (va_cpy lf (fun _ => none) 0 0 15))))))]) [0, 1, 2] rfl
  have hD9 : va_D A ([(h, .inr (12, [.ref nqu2, .int (nI 15), .int md])), (le, .inl (cT 7, 15, .inr (.inr (.inr (.inr lf))))), (nqu2, .inl (cT 7, 22, .inr (.inr (.inr (.inr (va_cpy lf (fun _ => none) 0 0 15))))))] ++ pg cds ad gg) := hD.part (cx := [(h, .inr (12, [.ref nqu2, .int (nI 15), .int md])), (le, .inl (cT 7, 15, .inr (.inr (.inr (.inr lf))))), (nqu2, .inl (cT 7, 22, .inr (.inr (.inr (.inr (va_cpy lf (fun _ => none) 0 0 15))))))]) [0, 1, 2] (by decide) rfl
  refine W.widen (k := 1) (n := 22) (Nat.le_of_ble_eq_true rfl) (Nat.le_of_ble_eq_true rfl) ?_
  exact W.aret (v := .ref nqu2) hx hb hr (Or.inr ⟨_, rfl⟩) (Or.inr ⟨_, rfl⟩) (fun t9 ht9 hW9 => ⟨⟨nqu2, nqu2, rfl, (show True from trivial), rfl, by rw [ht9]; exact hP9, hD9⟩, hS.F ht9⟩) hS.2.2 dAL_growb_44
set_option maxHeartbeats 4000000 in
set_option maxRecDepth 100000 in
theorem k_alGrowN15 (l : Launch) (D : va_G) (cT : Nat → ClassId) (cds : List Nat) (ad : Nat → Nat) (gg : Nat → Option va_E) (tE : Nat) (mE : Nat) (h : Nat) (md : Int32) (le : Nat) (lf : Nat → Option Nat) (bs : Nat) (hcd : CD cds) (hel : ∀ k8, k8 < 15 → ∃ fs8 : List Value, bs + k8 < 8192 ∧ lf k8 = some (ad (bs + k8)) ∧ gg (bs + k8) = some (.inr (10, fs8))) (sz : Nat) : Met l yAL_grow WAL_grow ({ frames := 4, cells := 1, slots := 22, locals := 107 } : Room) (RWE tE mE D vwCl [.ref h] ([(h, .inr (12, [.ref le, .int (nI 15), .int md])), (le, .inl (cT 7, 15, .inr (.inr (.inr (.inr lf)))))] ++ pg cds ad gg) (TY cT) sz) (va_Qr (fun u9 : Nat => True) (fun u9 q9 t9 => q9 = u9 ∧ BW D vwCl (va_A ([(h, .inr (12, [.ref le, .int (nI 15), .int md])), (le, .inl (cT 7, 15, .inr (.inr (.inr (.inr lf)))))] ++ pg cds ad gg) sz) (fun u9 : Nat => ([(h, .inr (12, [.ref u9, .int (nI 15), .int md])), (le, .inl (cT 7, 15, .inr (.inr (.inr (.inr lf))))), (u9, .inl (cT 7, 22, .inr (.inr (.inr (.inr (va_cpy lf (fun _ => none) 0 0 15))))))] ++ pg cds ad gg)) u9 t9) (va_A ([(h, .inr (12, [.ref le, .int (nI 15), .int md])), (le, .inl (cT 7, 15, .inr (.inr (.inr (.inr lf)))))] ++ pg cds ad gg) sz)) 1 22 (va_A ([(h, .inr (12, [.ref le, .int (nI 15), .int md])), (le, .inl (cT 7, 15, .inr (.inr (.inr (.inr lf)))))] ++ pg cds ad gg) sz) := by
  refine Met.ofW (cc := cAL_grow) (maxL := 1) (ret := (some (.array (.object "java/lang/Object")))) (by decide) rfl ?_
  intro p e s m args below meth c s₁ B hml hv
  obtain ⟨rfl, ⟨hsz, hZ, hP, hK, hD0⟩, hE0⟩ := hv
  have hx := B.exec
  have hb := B.bytes
  have hr := B.returns
  have hts := atoms_spec (ws := WAL_grow) B.pre
  have hT : ∀ w ∈ TB, w.before _ s = true := fun w h => hts w (List.mem_cons_of_mem _ h)
  have hown : s.vm.findClass R_AL = some m.cls := findClass_of_methodNamed B.named
  have hlocks := B.notSynchronized
  subst hsz
  have hD := hD0.self (sz := s.heap.size)
  generalize hAe : va_A ([(h, .inr (12, [.ref le, .int (nI 15), .int md])), (le, .inl (cT 7, 15, .inr (.inr (.inr (.inr lf)))))] ++ pg cds ad gg) s.heap.size = A at hD hZ hE0 ⊢
  have hA : ∀ q : Nat, s.heap.size ≤ q → A q := fun q h => by rw [← hAe]; exact Or.inr h
  have hS : va_S A s.heap s.heap [] := va_S.rf
  have hl := lv_entry ([.ref h]) (n := 1) (Nat.le_of_ble_eq_true rfl)
  rw [lg_entry_eq]
  generalize (lg_sl ([.ref h]) ++ List.replicate (1 - (lg_sl ([.ref h])).length) Slot.unset).toArray = ls at hl ⊢
  have hl : lv_has ls 1 [(0, .ref h)] := hl
  refine lv_aload_n hx hb dAL_grow_0 rfl (lv_at hl 0 rfl) ?_
  refine lv_aload_n hx hb dAL_grow_1 rfl (lv_at hl 0 rfl) ?_
  refine va_get (D := D) (ci := 12) (v := .int (nI 15)) (C := R_AL) (T := T_AL) (N := 3) hx hb hT in_AL hown hK hP 0 rfl rfl 1 (by decide) (hT _ w269) (fun _ h9 => h9) rfl dAL_grow_2 ?_
  refine lv_iconst (v := 1) hx hb dAL_grow_5 (by decide) ?_
  refine lv_iadd hx hb dAL_grow_6 ?_
  refine lv_topi (fun y9 e9 => ?_)
  cases (show y9 = 16 from e9.trans (by decide))
  refine hy_rP (X := [(h, .inr (12, [.ref le, .int (nI 15), .int md])), (le, .inl (cT 7, 15, .inr (.inr (.inr (.inr lf)))))]) (pl := pg cds ad gg) (cx := [(h, .inr (12, [.ref le, .int (nI 15), .int md])), (le, .inl (cT 7, 15, .inr (.inr (.inr (.inr lf)))))]) (wr := []) hP hD hS hA [0, 1] [] rfl rfl (by decide) (by decide) (va_runV (As := [.int 16]) (rest := []) ⟨hx, hb, hml, hown, hT⟩ (k_alGrowbN15 l D cT cds ad gg tE mE h md le lf bs hcd hel _) ⟨callB_of 1 hT (tb_gd w769) rfl rfl rfl (hT _ w11) (hT _ w766) hAL_growb ⟨Nat.le_of_ble_eq_true rfl, Nat.le_of_ble_eq_true rfl⟩, (hT _ w768), (hT _ wp11)⟩ (RWE.preV (ci := 12) (q0 := 0) hE0 hZ hS (va_freeP (cx := [(h, .inr (12, [.ref le, .int (nI 15), .int md])), (le, .inl (cT 7, 15, .inr (.inr (.inr (.inr lf)))))]) hD hS hA [0, 1] rfl) (hP.part (cx := [(h, .inr (12, [.ref le, .int (nI 15), .int md])), (le, .inl (cT 7, 15, .inr (.inr (.inr (.inr lf)))))]) [0, 1] rfl) hK (hD.part (cx := [(h, .inr (12, [.ref le, .int (nI 15), .int md])), (le, .inl (cT 7, 15, .inr (.inr (.inr (.inr lf)))))]) [0, 1] (by decide) rfl) rfl rfl) rfl rfl hl.1 rfl (lv_room (Nat.le_of_ble_eq_true rfl)) dAL_grow_7 ⟨Nat.le_of_ble_eq_true rfl, Nat.le_of_ble_eq_true rfl⟩) (fun u9 H locs hpu1 hP hD hS => ?_)
  obtain ⟨nqu1, rfl⟩ : ∃ q9, q9 = u9 := ⟨_, rfl⟩
  have hpu1 : True := hpu1
  have hP : va_P D vwCl ([(h, .inr (12, [.ref nqu1, .int (nI 15), .int md])), (le, .inl (cT 7, 15, .inr (.inr (.inr (.inr lf))))), (nqu1, .inl (cT 7, 22, .inr (.inr (.inr (.inr (va_cpy lf (fun _ => none) 0 0 15))))))] ++ pg cds ad gg) _ := hP
  have hD : va_D A ([(h, .inr (12, [.ref nqu1, .int (nI 15), .int md])), (le, .inl (cT 7, 15, .inr (.inr (.inr (.inr lf))))), (nqu1, .inl (cT 7, 22, .inr (.inr (.inr (.inr (va_cpy lf (fun _ => none) 0 0 15))))))] ++ pg cds ad gg) := hD
  refine W.eq (g2 := F0 m 10 ls [.ref nqu1]) rfl ?_
  have hP9 : va_P D vwCl ([(h, .inr (12, [.ref nqu1, .int (nI 15), .int md])), (le, .inl (cT 7, 15, .inr (.inr (.inr (.inr lf))))), (nqu1, .inl (cT 7, 22, .inr (.inr (.inr (.inr (va_cpy lf (fun _ => none) 0 0 15))))))] ++ pg cds ad gg) _ := hP.part (cx := [(h, .inr (12, [.ref nqu1, .int (nI 15), .int md])), (le, .inl (cT 7, 15, .inr (.inr (.inr (.inr lf))))), (nqu1, .inl (cT 7, 22, .inr (.inr (.inr (.inr (va_cpy lf (fun _ => none) 0 0 15))))))]) [0, 1, 2] rfl
  have hD9 : va_D A ([(h, .inr (12, [.ref nqu1, .int (nI 15), .int md])), (le, .inl (cT 7, 15, .inr (.inr (.inr (.inr lf))))), (nqu1, .inl (cT 7, 22, .inr (.inr (.inr (.inr (va_cpy lf (fun _ => none) 0 0 15))))))] ++ pg cds ad gg) := hD.part (cx := [(h, .inr (12, [.ref nqu1, .int (nI 15), .int md])), (le, .inl (cT 7, 15, .inr (.inr (.inr (.inr lf))))), (nqu1, .inl (cT 7, 22, .inr (.inr (.inr (.inr (va_cpy lf (fun _ => none) 0 0 15))))))]) [0, 1, 2] (by decide) rfl
  refine W.widen (k := 1) (n := 22) (Nat.le_of_ble_eq_true rfl) (Nat.le_of_ble_eq_true rfl) ?_
  exact W.aret (v := .ref nqu1) hx hb hr (Or.inr ⟨_, rfl⟩) (Or.inr ⟨_, rfl⟩) (fun t9 ht9 hW9 => ⟨⟨nqu1, nqu1, rfl, (show True from trivial), rfl, by rw [ht9]; exact hP9, hD9⟩, hS.F ht9⟩) hS.2.2 dAL_grow_10
set_option maxHeartbeats 4000000 in
set_option maxRecDepth 100000 in
theorem k_arCopy3N22 (l : Launch) (D : va_G) (cT : Nat → ClassId) (cds : List Nat) (ad : Nat → Nat) (gg : Nat → Option va_E) (tE : Nat) (mE : Nat) (le : Nat) (lf : Nat → Option Nat) (bs : Nat) (hcd : CD cds) (hel : ∀ k8, k8 < 22 → ∃ fs8 : List Value, bs + k8 < 8192 ∧ lf k8 = some (ad (bs + k8)) ∧ gg (bs + k8) = some (.inr (10, fs8))) (sz : Nat) : Met l yAr_copyOf3 WAr_copyOf3 ({ frames := 1, cells := 1, slots := 33, locals := 40 } : Room) (RWE tE mE D vwCl [.ref le, .int 33, .ref mE] ([(le, .inl (cT 7, 22, .inr (.inr (.inr (.inr lf)))))] ++ pg cds ad gg) (TY cT) sz) (va_Qr (fun u9 : Nat => True) (fun u9 q9 t9 => q9 = u9 ∧ BW D vwCl (va_A ([(le, .inl (cT 7, 22, .inr (.inr (.inr (.inr lf)))))] ++ pg cds ad gg) sz) (fun u9 : Nat => ([(le, .inl (cT 7, 22, .inr (.inr (.inr (.inr lf))))), (u9, .inl (cT 7, 33, .inr (.inr (.inr (.inr (va_cpy lf (fun _ => none) 0 0 22))))))] ++ pg cds ad gg)) u9 t9) (va_A ([(le, .inl (cT 7, 22, .inr (.inr (.inr (.inr lf)))))] ++ pg cds ad gg) sz)) 1 33 (va_A ([(le, .inl (cT 7, 22, .inr (.inr (.inr (.inr lf)))))] ++ pg cds ad gg) sz) := by
  refine Met.ofW (cc := cAr_copyOf3) (maxL := 4) (ret := (some (.array (.object "java/lang/Object")))) (by decide) rfl ?_
  intro p e s m args below meth c s₁ B hml hv
  obtain ⟨rfl, ⟨hsz, hZ, hP, hK, hD0⟩, hE0⟩ := hv
  have hx := B.exec
  have hb := B.bytes
  have hr := B.returns
  have hts := atoms_spec (ws := WAr_copyOf3) B.pre
  have hT : ∀ w ∈ TB, w.before _ s = true := fun w h => hts w (List.mem_cons_of_mem _ h)
  have hown : s.vm.findClass R_Ar = some m.cls := findClass_of_methodNamed B.named
  have hlocks := B.notSynchronized
  subst hsz
  have hD := hD0.self (sz := s.heap.size)
  generalize hAe : va_A ([(le, .inl (cT 7, 22, .inr (.inr (.inr (.inr lf)))))] ++ pg cds ad gg) s.heap.size = A at hD hZ hE0 ⊢
  have hA : ∀ q : Nat, s.heap.size ≤ q → A q := fun q h => by rw [← hAe]; exact Or.inr h
  have hS : va_S A s.heap s.heap [] := va_S.rf
  have hl := lv_entry ([.ref le, .int 33, .ref mE]) (n := 4) (Nat.le_of_ble_eq_true rfl)
  rw [lg_entry_eq]
  generalize (lg_sl ([.ref le, .int 33, .ref mE]) ++ List.replicate (4 - (lg_sl ([.ref le, .int 33, .ref mE])).length) Slot.unset).toArray = ls at hl ⊢
  have hl : lv_has ls 4 [(0, .ref le), (1, .int 33), (2, .ref mE)] := hl
  refine lv_aload_n hx hb dAr_copyOf3_0 rfl (lv_at hl 2 rfl) ?_
  refine va_ldcM hx hb hown (hT _ w805) hE0.2.2 dAr_copyOf3_1 ?_
  refine lv_acmp_ne (rx := some mE) (ry := some mE) (tgt := 13) hx hb dAr_copyOf3_3 rfl (fun q9 => absurd rfl q9) (fun _ => ?_)
  refine lv_iload_n hx hb dAr_copyOf3_6 rfl (lv_at hl 1 rfl) ?_
  refine nw_q (C := "java/lang/Object") (N' := 33) hx hb hown (hT _ w807) (hZ.1.2.2.2.1 "java/lang/Object" (List.mem_of_getElem? (i := 3) rfl)) hK hP hD hS hA 7 rfl (by decide +kernel) (by decide +kernel) (by decide +kernel) (Nat.le_of_ble_eq_true rfl) (Nat.le_of_ble_eq_true rfl) dAr_copyOf3_7 (fun q7 H hP hD hS => ?_)
  have hP := hy_push hP
  have hD := hy_pushD hD
  have hP : va_P D vwCl ([(le, .inl (cT 7, 22, .inr (.inr (.inr (.inr lf))))), (q7, .inl (cT 7, 33, .inr (.inr (.inr (.inr (fun _ => none))))))] ++ pg cds ad gg) _ := hP
  have hD : va_D A ([(le, .inl (cT 7, 22, .inr (.inr (.inr (.inr lf))))), (q7, .inl (cT 7, 33, .inr (.inr (.inr (.inr (fun _ => none))))))] ++ pg cds ad gg) := hD
  refine lv_goto (tgt := 24) hx hb dAr_copyOf3_10 rfl ?_
  refine lv_astore_n hx hb dAr_copyOf3_24 rfl hl (by decide) rfl (fun ls hl => ?_)
  have hl : lv_has ls 4 [(3, .ref q7), (0, .ref le), (1, .int 33), (2, .ref mE)] := hl
  refine lv_aload_n hx hb dAr_copyOf3_25 rfl (lv_at hl 1 rfl) ?_
  refine lv_iconst (v := 0) hx hb dAr_copyOf3_26 (by decide) ?_
  refine lv_aload_n hx hb dAr_copyOf3_27 rfl (lv_at hl 0 rfl) ?_
  refine lv_iconst (v := 0) hx hb dAr_copyOf3_28 (by decide) ?_
  refine lv_aload_n hx hb dAr_copyOf3_29 rfl (lv_at hl 1 rfl) ?_
  refine va_alen (v := 22) hx hb hK hP 0 7 rfl rfl rfl dAr_copyOf3_30 ?_
  refine lv_iload_n hx hb dAr_copyOf3_31 rfl (lv_at hl 2 rfl) ?_
  refine va_mmin hx hb (hml.trans hl.1.symm) hown (hT _ w808) (hT _ w448) (hT _ w22) (hT _ w449) (Nat.le_of_ble_eq_true rfl) (Nat.le_of_ble_eq_true rfl) (Nat.le_of_ble_eq_true rfl) (Nat.le_of_ble_eq_true rfl) dAr_copyOf3_32 ?_
  refine lv_topi (fun y9 e9 => ?_)
  cases (show y9 = 22 from e9.trans (by decide))
  have hel9 : ∀ i : Nat, i < 22 → ∀ y : Nat, lf i = some y → ∃ cellV : Cell, _[y]? = some cellV ∧ cellV.vm.isStatics = false ∧ s.vm.findClass "ResidualTrees$Node" = some cellV.cls := fun i hi y hy => by obtain ⟨fs, h1, h2, h3⟩ := hel i hi; cases h2.symm.trans hy; exact va_recv (ci := 10) (q0 := 0) hK (pg_1 hcd hP h1 h3) rfl rfl
  refine va_copyq (C := "ResidualTrees$Node") hx hb (hml.trans hl.1.symm) hown (hT _ w809) (hT _ w452) (hT _ w451) (hT _ w23) hK hP hD hS 0 1 7 7 rfl rfl rfl rfl (by decide) (by decide) (by decide) (by decide) (by decide) (fun i hi y hy => hel9 i hi y (by rw [← hy]; exact congrArg lf (Nat.zero_add i).symm)) (asg_of (hZ.1.1 ("ResidualTrees$Node", "java/lang/Object") (List.mem_of_getElem? (i := 15) rfl))) (Nat.le_of_ble_eq_true rfl) (by decide) dAr_copyOf3_35 (fun H locs hP hD hS => ?_)
  have hP : va_P D vwCl ([(le, .inl (cT 7, 22, .inr (.inr (.inr (.inr lf))))), (q7, .inl (cT 7, 33, .inr (.inr (.inr (.inr (va_cpy lf (fun _ => none) 0 0 22))))))] ++ pg cds ad gg) _ := hP
  have hD : va_D A ([(le, .inl (cT 7, 22, .inr (.inr (.inr (.inr lf))))), (q7, .inl (cT 7, 33, .inr (.inr (.inr (.inr (va_cpy lf (fun _ => none) 0 0 22))))))] ++ pg cds ad gg) := hD
  refine lv_aload_n hx hb dAr_copyOf3_38 rfl (lv_at hl 0 rfl) ?_
  have hP9 : va_P D vwCl ([(le, .inl (cT 7, 22, .inr (.inr (.inr (.inr lf))))), (q7, .inl (cT 7, 33, .inr (.inr (.inr (.inr (va_cpy lf (fun _ => none) 0 0 22))))))] ++ pg cds ad gg) _ := hP.part (cx := [(le, .inl (cT 7, 22, .inr (.inr (.inr (.inr lf))))), (q7, .inl (cT 7, 33, .inr (.inr (.inr (.inr (va_cpy lf (fun _ => none) 0 0 22))))))]) [0, 1] rfl
  have hD9 : va_D A ([(le, .inl (cT 7, 22, .inr (.inr (.inr (.inr lf))))), (q7, .inl (cT 7, 33, .inr (.inr (.inr (.inr (va_cpy lf (fun _ => none) 0 0 22))))))] ++ pg cds ad gg) := hD.part (cx := [(le, .inl (cT 7, 22, .inr (.inr (.inr (.inr lf))))), (q7, .inl (cT 7, 33, .inr (.inr (.inr (.inr (va_cpy lf (fun _ => none) 0 0 22))))))]) [0, 1] (by decide) rfl
  refine W.widen (k := 1) (n := 33) (Nat.le_of_ble_eq_true rfl) (Nat.le_of_ble_eq_true rfl) ?_
  exact W.aret (v := .ref q7) hx hb hr (Or.inr ⟨_, rfl⟩) (Or.inr ⟨_, rfl⟩) (fun t9 ht9 hW9 => ⟨⟨q7, q7, rfl, (show True from trivial), rfl, by rw [ht9]; exact hP9, hD9⟩, hS.F ht9⟩) hS.2.2 dAr_copyOf3_39
set_option maxHeartbeats 4000000 in
set_option maxRecDepth 100000 in
theorem k_arCopyN22 (l : Launch) (D : va_G) (cT : Nat → ClassId) (cds : List Nat) (ad : Nat → Nat) (gg : Nat → Option va_E) (tE : Nat) (mE : Nat) (le : Nat) (lf : Nat → Option Nat) (bs : Nat) (hcd : CD cds) (hel : ∀ k8, k8 < 22 → ∃ fs8 : List Value, bs + k8 < 8192 ∧ lf k8 = some (ad (bs + k8)) ∧ gg (bs + k8) = some (.inr (10, fs8))) (sz : Nat) : Met l yAr_copyOf WAr_copyOf ({ frames := 2, cells := 1, slots := 33, locals := 63 } : Room) (RWE tE mE D vwCl [.ref le, .int 33] ([(le, .inl (cT 7, 22, .inr (.inr (.inr (.inr lf)))))] ++ pg cds ad gg) (TY cT) sz) (va_Qr (fun u9 : Nat => True) (fun u9 q9 t9 => q9 = u9 ∧ BW D vwCl (va_A ([(le, .inl (cT 7, 22, .inr (.inr (.inr (.inr lf)))))] ++ pg cds ad gg) sz) (fun u9 : Nat => ([(le, .inl (cT 7, 22, .inr (.inr (.inr (.inr lf))))), (u9, .inl (cT 7, 33, .inr (.inr (.inr (.inr (va_cpy lf (fun _ => none) 0 0 22))))))] ++ pg cds ad gg)) u9 t9) (va_A ([(le, .inl (cT 7, 22, .inr (.inr (.inr (.inr lf)))))] ++ pg cds ad gg) sz)) 1 33 (va_A ([(le, .inl (cT 7, 22, .inr (.inr (.inr (.inr lf)))))] ++ pg cds ad gg) sz) := by
  refine Met.ofW (cc := cAr_copyOf) (maxL := 2) (ret := (some (.array (.object "java/lang/Object")))) (by decide) rfl ?_
  intro p e s m args below meth c s₁ B hml hv
  obtain ⟨rfl, ⟨hsz, hZ, hP, hK, hD0⟩, hE0⟩ := hv
  have hx := B.exec
  have hb := B.bytes
  have hr := B.returns
  have hts := atoms_spec (ws := WAr_copyOf) B.pre
  have hT : ∀ w ∈ TB, w.before _ s = true := fun w h => hts w (List.mem_cons_of_mem _ h)
  have hown : s.vm.findClass R_Ar = some m.cls := findClass_of_methodNamed B.named
  have hlocks := B.notSynchronized
  subst hsz
  have hD := hD0.self (sz := s.heap.size)
  generalize hAe : va_A ([(le, .inl (cT 7, 22, .inr (.inr (.inr (.inr lf)))))] ++ pg cds ad gg) s.heap.size = A at hD hZ hE0 ⊢
  have hA : ∀ q : Nat, s.heap.size ≤ q → A q := fun q h => by rw [← hAe]; exact Or.inr h
  have hS : va_S A s.heap s.heap [] := va_S.rf
  have hl := lv_entry ([.ref le, .int 33]) (n := 2) (Nat.le_of_ble_eq_true rfl)
  rw [lg_entry_eq]
  generalize (lg_sl ([.ref le, .int 33]) ++ List.replicate (2 - (lg_sl ([.ref le, .int 33])).length) Slot.unset).toArray = ls at hl ⊢
  have hl : lv_has ls 2 [(0, .ref le), (1, .int 33)] := hl
  refine lv_aload_n hx hb dAr_copyOf_0 rfl (lv_at hl 0 rfl) ?_
  refine lv_iload_n hx hb dAr_copyOf_1 rfl (lv_at hl 1 rfl) ?_
  refine lv_aload_n hx hb dAr_copyOf_2 rfl (lv_at hl 0 rfl) ?_
  refine va_getC (C := "[Ljava/lang/Object;") hx hb (hml.trans hl.1.symm) hown (hT _ w783) (va_Nw.use rfl (hZ.1.2.2.1 _ (List.mem_of_getElem? (i := 6) rfl))) (hT _ w1597) (hT _ w784) (hT _ w801) hE0.2.2 (arr_cl hK hP 0 7 rfl rfl) (Nat.le_of_ble_eq_true rfl) (Nat.le_of_ble_eq_true rfl) dAr_copyOf_3 ?_
  refine hy_rP (X := [(le, .inl (cT 7, 22, .inr (.inr (.inr (.inr lf)))))]) (pl := pg cds ad gg) (cx := [(le, .inl (cT 7, 22, .inr (.inr (.inr (.inr lf)))))]) (wr := []) hP hD hS hA [0] [] rfl rfl (by decide) (by decide) (va_runS (As := [.ref le, .int 33, .ref mE]) (rest := []) ⟨hx, hb, hml, hown, hT⟩ (k_arCopy3N22 l D cT cds ad gg tE mE le lf bs hcd hel _) ⟨callB_of 3 hT (tb_gd w804) rfl rfl rfl (hT _ w26) (hT _ w802) hAr_copyOf3 ⟨Nat.le_of_ble_eq_true rfl, Nat.le_of_ble_eq_true rfl⟩, (hT _ w803)⟩ (RWE.preS hE0 hZ hS (va_freeP (cx := [(le, .inl (cT 7, 22, .inr (.inr (.inr (.inr lf)))))]) hD hS hA [0] rfl) (hP.part (cx := [(le, .inl (cT 7, 22, .inr (.inr (.inr (.inr lf)))))]) [0] rfl) hK (hD.part (cx := [(le, .inl (cT 7, 22, .inr (.inr (.inr (.inr lf)))))]) [0] (by decide) rfl)) rfl rfl hl.1 rfl (lv_room (Nat.le_of_ble_eq_true rfl)) dAr_copyOf_6 ⟨Nat.le_of_ble_eq_true rfl, Nat.le_of_ble_eq_true rfl⟩) (fun u9 H locs hpu1 hP hD hS => ?_)
  obtain ⟨nqu1, rfl⟩ : ∃ q9, q9 = u9 := ⟨_, rfl⟩
  have hpu1 : True := hpu1
  have hP : va_P D vwCl ([(le, .inl (cT 7, 22, .inr (.inr (.inr (.inr lf))))), (nqu1, .inl (cT 7, 33, .inr (.inr (.inr (.inr (va_cpy lf (fun _ => none) 0 0 22))))))] ++ pg cds ad gg) _ := hP
  have hD : va_D A ([(le, .inl (cT 7, 22, .inr (.inr (.inr (.inr lf))))), (nqu1, .inl (cT 7, 33, .inr (.inr (.inr (.inr (va_cpy lf (fun _ => none) 0 0 22))))))] ++ pg cds ad gg) := hD
  refine W.eq (g2 := F0 m 9 ls [.ref nqu1]) rfl ?_
  have hP9 : va_P D vwCl ([(le, .inl (cT 7, 22, .inr (.inr (.inr (.inr lf))))), (nqu1, .inl (cT 7, 33, .inr (.inr (.inr (.inr (va_cpy lf (fun _ => none) 0 0 22))))))] ++ pg cds ad gg) _ := hP.part (cx := [(le, .inl (cT 7, 22, .inr (.inr (.inr (.inr lf))))), (nqu1, .inl (cT 7, 33, .inr (.inr (.inr (.inr (va_cpy lf (fun _ => none) 0 0 22))))))]) [0, 1] rfl
  have hD9 : va_D A ([(le, .inl (cT 7, 22, .inr (.inr (.inr (.inr lf))))), (nqu1, .inl (cT 7, 33, .inr (.inr (.inr (.inr (va_cpy lf (fun _ => none) 0 0 22))))))] ++ pg cds ad gg) := hD.part (cx := [(le, .inl (cT 7, 22, .inr (.inr (.inr (.inr lf))))), (nqu1, .inl (cT 7, 33, .inr (.inr (.inr (.inr (va_cpy lf (fun _ => none) 0 0 22))))))]) [0, 1] (by decide) rfl
  refine W.widen (k := 1) (n := 33) (Nat.le_of_ble_eq_true rfl) (Nat.le_of_ble_eq_true rfl) ?_
  exact W.aret (v := .ref nqu1) hx hb hr (Or.inr ⟨_, rfl⟩) (Or.inr ⟨_, rfl⟩) (fun t9 ht9 hW9 => ⟨⟨nqu1, nqu1, rfl, (show True from trivial), rfl, by rw [ht9]; exact hP9, hD9⟩, hS.F ht9⟩) hS.2.2 dAr_copyOf_9
set_option maxHeartbeats 4000000 in
set_option maxRecDepth 100000 in
theorem k_alGrowbN22 (l : Launch) (D : va_G) (cT : Nat → ClassId) (cds : List Nat) (ad : Nat → Nat) (gg : Nat → Option va_E) (tE : Nat) (mE : Nat) (h : Nat) (md : Int32) (le : Nat) (lf : Nat → Option Nat) (bs : Nat) (hcd : CD cds) (hel : ∀ k8, k8 < 22 → ∃ fs8 : List Value, bs + k8 < 8192 ∧ lf k8 = some (ad (bs + k8)) ∧ gg (bs + k8) = some (.inr (10, fs8))) (sz : Nat) : Met l yAL_growb WAL_growb ({ frames := 3, cells := 1, slots := 33, locals := 84 } : Room) (RWE tE mE D vwCl [.ref h, .int 23] ([(h, .inr (12, [.ref le, .int (nI 22), .int md])), (le, .inl (cT 7, 22, .inr (.inr (.inr (.inr lf)))))] ++ pg cds ad gg) (TY cT) sz) (va_Qr (fun u9 : Nat => True) (fun u9 q9 t9 => q9 = u9 ∧ BW D vwCl (va_A ([(h, .inr (12, [.ref le, .int (nI 22), .int md])), (le, .inl (cT 7, 22, .inr (.inr (.inr (.inr lf)))))] ++ pg cds ad gg) sz) (fun u9 : Nat => ([(h, .inr (12, [.ref u9, .int (nI 22), .int md])), (le, .inl (cT 7, 22, .inr (.inr (.inr (.inr lf))))), (u9, .inl (cT 7, 33, .inr (.inr (.inr (.inr (va_cpy lf (fun _ => none) 0 0 22))))))] ++ pg cds ad gg)) u9 t9) (va_A ([(h, .inr (12, [.ref le, .int (nI 22), .int md])), (le, .inl (cT 7, 22, .inr (.inr (.inr (.inr lf)))))] ++ pg cds ad gg) sz)) 1 33 (va_A ([(h, .inr (12, [.ref le, .int (nI 22), .int md])), (le, .inl (cT 7, 22, .inr (.inr (.inr (.inr lf)))))] ++ pg cds ad gg) sz) := by
  refine Met.ofW (cc := cAL_growb) (maxL := 4) (ret := (some (.array (.object "java/lang/Object")))) (by decide) rfl ?_
  intro p e s m args below meth c s₁ B hml hv
  obtain ⟨rfl, ⟨hsz, hZ, hP, hK, hD0⟩, hE0⟩ := hv
  have hx := B.exec
  have hb := B.bytes
  have hr := B.returns
  have hts := atoms_spec (ws := WAL_growb) B.pre
  have hT : ∀ w ∈ TB, w.before _ s = true := fun w h => hts w (List.mem_cons_of_mem _ h)
  have hown : s.vm.findClass R_AL = some m.cls := findClass_of_methodNamed B.named
  have hlocks := B.notSynchronized
  subst hsz
  have hD := hD0.self (sz := s.heap.size)
  generalize hAe : va_A ([(h, .inr (12, [.ref le, .int (nI 22), .int md])), (le, .inl (cT 7, 22, .inr (.inr (.inr (.inr lf)))))] ++ pg cds ad gg) s.heap.size = A at hD hZ hE0 ⊢
  have hA : ∀ q : Nat, s.heap.size ≤ q → A q := fun q h => by rw [← hAe]; exact Or.inr h
  have hS : va_S A s.heap s.heap [] := va_S.rf
  have hl := lv_entry ([.ref h, .int 23]) (n := 4) (Nat.le_of_ble_eq_true rfl)
  rw [lg_entry_eq]
  generalize (lg_sl ([.ref h, .int 23]) ++ List.replicate (4 - (lg_sl ([.ref h, .int 23])).length) Slot.unset).toArray = ls at hl ⊢
  have hl : lv_has ls 4 [(0, .ref h), (1, .int 23)] := hl
  refine lv_aload_n hx hb dAL_growb_0 rfl (lv_at hl 0 rfl) ?_
  refine va_get (D := D) (ci := 12) (v := .ref le) (C := R_AL) (T := T_AL) (N := 3) hx hb hT in_AL hown hK hP 0 rfl rfl 0 (by decide) (hT _ w268) (fun _ h9 => h9) rfl dAL_growb_1 ?_
  refine va_alen (v := 22) hx hb hK hP 1 7 rfl rfl rfl dAL_growb_4 ?_
  refine lv_istore_n hx hb dAL_growb_5 rfl hl (by decide) rfl (fun ls hl => ?_)
  have hl : lv_has ls 4 [(2, .int 22), (0, .ref h), (1, .int 23)] := hl
  refine lv_iload_n hx hb dAL_growb_6 rfl (lv_at hl 0 rfl) ?_
  refine lv_if_gt (tgt := 20) hx hb dAL_growb_7 rfl (fun _ => ?_) (fun h1 => absurd (by decide) h1)
  refine lv_iload_n hx hb dAL_growb_20 rfl (lv_at hl 0 rfl) ?_
  refine lv_iload_n hx hb dAL_growb_21 rfl (lv_at hl 2 rfl) ?_
  refine lv_iload_n hx hb dAL_growb_22 rfl (lv_at hl 0 rfl) ?_
  refine lv_isub hx hb dAL_growb_23 ?_
  refine lv_topi (fun y9 e9 => ?_)
  cases (show y9 = 1 from e9.trans (by decide))
  refine lv_iload_n hx hb dAL_growb_24 rfl (lv_at hl 0 rfl) ?_
  refine lv_iconst (v := 1) hx hb dAL_growb_25 (by decide) ?_
  refine lv_ishr hx hb dAL_growb_26 ?_
  refine lv_topi (fun y9 e9 => ?_)
  cases (show y9 = 11 from e9.trans (by decide))
  refine ro_i (va_Run.run (va_runS (As := [.int 22, .int 1, .int 11]) (rest := []) ⟨hx, hb, hml, hown, hT⟩ (k_newLen l D cT 22 1 11 (by decide) (by decide) (by decide)) ⟨callB_of 3 hT (tb_gd w772) rfl rfl rfl (hT _ w25) (hT _ w770) hAs_newLength ⟨Nat.le_of_ble_eq_true rfl, Nat.le_of_ble_eq_true rfl⟩, (hT _ w771)⟩ (RO.preS hZ hS ((show va_P D vwCl [] _ from fun _ _ h => nomatch h)) hK) rfl rfl hl.1 rfl (lv_room (Nat.le_of_ble_eq_true rfl)) dAL_growb_27 ⟨Nat.le_of_ble_eq_true rfl, Nat.le_of_ble_eq_true rfl⟩)) ?_
  refine lv_topi (fun y9 e9 => ?_)
  cases (show y9 = 33 from e9.trans (by decide))
  refine lv_istore_n hx hb dAL_growb_30 rfl hl (by decide) rfl (fun ls hl => ?_)
  have hl : lv_has ls 4 [(3, .int 33), (2, .int 22), (0, .ref h), (1, .int 23)] := hl
  refine lv_aload_n hx hb dAL_growb_31 rfl (lv_at hl 2 rfl) ?_
  refine lv_aload_n hx hb dAL_growb_32 rfl (lv_at hl 2 rfl) ?_
  refine va_get (D := D) (ci := 12) (v := .ref le) (C := R_AL) (T := T_AL) (N := 3) hx hb hT in_AL hown hK hP 0 rfl rfl 0 (by decide) (hT _ w268) (fun _ h9 => h9) rfl dAL_growb_33 ?_
  refine lv_iload_n hx hb dAL_growb_36 rfl (lv_at hl 0 rfl) ?_
  refine hy_rP (X := [(h, .inr (12, [.ref le, .int (nI 22), .int md])), (le, .inl (cT 7, 22, .inr (.inr (.inr (.inr lf)))))]) (pl := pg cds ad gg) (cx := [(le, .inl (cT 7, 22, .inr (.inr (.inr (.inr lf)))))]) (wr := [(h, .inr (12, [.ref le, .int (nI 22), .int md]))]) hP hD hS hA [1] [0] rfl rfl (by decide) (by decide) (va_runS (As := [.ref le, .int 33]) (rest := [.ref h]) ⟨hx, hb, hml, hown, hT⟩ (k_arCopyN22 l D cT cds ad gg tE mE le lf bs hcd hel _) ⟨callB_of 2 hT (tb_gd w782) rfl rfl rfl (hT _ w26) (hT _ w780) hAr_copyOf ⟨Nat.le_of_ble_eq_true rfl, Nat.le_of_ble_eq_true rfl⟩, (hT _ w781)⟩ (RWE.preS hE0 hZ hS (va_freeP (cx := [(le, .inl (cT 7, 22, .inr (.inr (.inr (.inr lf)))))]) hD hS hA [1] rfl) (hP.part (cx := [(le, .inl (cT 7, 22, .inr (.inr (.inr (.inr lf)))))]) [1] rfl) hK (hD.part (cx := [(le, .inl (cT 7, 22, .inr (.inr (.inr (.inr lf)))))]) [1] (by decide) rfl)) rfl rfl hl.1 rfl (lv_room (Nat.le_of_ble_eq_true rfl)) dAL_growb_37 ⟨Nat.le_of_ble_eq_true rfl, Nat.le_of_ble_eq_true rfl⟩) (fun u9 H locs hpu2 hP hD hS => ?_)
  obtain ⟨nqu2, rfl⟩ : ∃ q9, q9 = u9 := ⟨_, rfl⟩
  have hpu2 : True := hpu2
  have hP : va_P D vwCl ([(h, .inr (12, [.ref le, .int (nI 22), .int md])), (le, .inl (cT 7, 22, .inr (.inr (.inr (.inr lf))))), (nqu2, .inl (cT 7, 33, .inr (.inr (.inr (.inr (va_cpy lf (fun _ => none) 0 0 22))))))] ++ pg cds ad gg) _ := hP
  have hD : va_D A ([(h, .inr (12, [.ref le, .int (nI 22), .int md])), (le, .inl (cT 7, 22, .inr (.inr (.inr (.inr lf))))), (nqu2, .inl (cT 7, 33, .inr (.inr (.inr (.inr (va_cpy lf (fun _ => none) 0 0 22))))))] ++ pg cds ad gg) := hD
  refine W.eq (g2 := F0 m 40 ls [.ref nqu2, .ref h]) rfl ?_
  refine lv_dup_x1 hx hb dAL_growb_40 rfl rfl ?_
  refine va_put (D := D) (ci := 12) (v := .ref nqu2) (ty := .array (.object "java/lang/Object")) (C := R_AL) (T := T_AL) (N := 3) hx hb hT in_AL ty_AL ty_AL_ok m_AL hown hK hP hD hS 0 rfl rfl 0 (by decide) (hT _ w268) (fun _ h9 => h9) rfl (by decide +kernel) rfl rfl (Nat.le_of_ble_eq_true rfl) dAL_growb_41 (fun H locs hP hD hS => ?_)
  have hP : va_P D vwCl ([(h, .inr (12, [.ref nqu2, .int (nI 22), .int md])), (le, .inl (cT 7, 22, .inr (.inr (.inr (.inr lf))))), (nqu2, .inl (cT 7, 33, .inr (.inr (.inr (.inr (va_cpy lf (fun _ => none) 0 0 22))))))] ++ pg cds ad gg) _ := hP
  have hD : va_D A ([(h, .inr (12, [.ref nqu2, .int (nI 22), .int md])), (le, .inl (cT 7, 22, .inr (.inr (.inr (.inr lf))))), (nqu2, .inl (cT 7, 33, .inr (.inr (.inr (.inr (va_cpy lf (fun _ => none) 0 0 22))))))] ++ pg cds ad gg) := hD
  have hP9 : va_P D vwCl ([(h, .inr (12, [.ref nqu2, .int (nI 22), .int md])), (le, .inl (cT 7, 22, .inr (.inr (.inr (.inr lf))))), (nqu2, .inl (cT 7, 33, .inr (.inr (.inr (.inr (va_cpy lf (fun _ => none) 0 0 22))))))] ++ pg cds ad gg) _ := hP.part (cx := [(h, .inr (12, [.ref nqu2, .int (nI 22), .int md])), (le, .inl (cT 7, 22, .inr (.inr (.inr (.inr lf))))), (nqu2, .inl (cT 7, 33, .inr (.inr (.inr (.inr (va_cpy lf (fun _ => none) 0 0 22))))))]) [0, 1, 2] rfl
  have hD9 : va_D A ([(h, .inr (12, [.ref nqu2, .int (nI 22), .int md])), (le, .inl (cT 7, 22, .inr (.inr (.inr (.inr lf))))), (nqu2, .inl (cT 7, 33, .inr (.inr (.inr (.inr (va_cpy lf (fun _ => none) 0 0 22))))))] ++ pg cds ad gg) := hD.part (cx := [(h, .inr (12, [.ref nqu2, .int (nI 22), .int md])), (le, .inl (cT 7, 22, .inr (.inr (.inr (.inr lf))))), (nqu2, .inl (cT 7, 33, .inr (.inr (.inr (.inr (va_cpy lf (fun _ => none) 0 0 22))))))]) [0, 1, 2] (by decide) rfl
  refine W.widen (k := 1) (n := 33) (Nat.le_of_ble_eq_true rfl) (Nat.le_of_ble_eq_true rfl) ?_
  exact W.aret (v := .ref nqu2) hx hb hr (Or.inr ⟨_, rfl⟩) (Or.inr ⟨_, rfl⟩) (fun t9 ht9 hW9 => ⟨⟨nqu2, nqu2, rfl, (show True from trivial), rfl, by rw [ht9]; exact hP9, hD9⟩, hS.F ht9⟩) hS.2.2 dAL_growb_44
set_option maxHeartbeats 4000000 in
set_option maxRecDepth 100000 in
theorem k_alGrowN22 (l : Launch) (D : va_G) (cT : Nat → ClassId) (cds : List Nat) (ad : Nat → Nat) (gg : Nat → Option va_E) (tE : Nat) (mE : Nat) (h : Nat) (md : Int32) (le : Nat) (lf : Nat → Option Nat) (bs : Nat) (hcd : CD cds) (hel : ∀ k8, k8 < 22 → ∃ fs8 : List Value, bs + k8 < 8192 ∧ lf k8 = some (ad (bs + k8)) ∧ gg (bs + k8) = some (.inr (10, fs8))) (sz : Nat) : Met l yAL_grow WAL_grow ({ frames := 4, cells := 1, slots := 33, locals := 107 } : Room) (RWE tE mE D vwCl [.ref h] ([(h, .inr (12, [.ref le, .int (nI 22), .int md])), (le, .inl (cT 7, 22, .inr (.inr (.inr (.inr lf)))))] ++ pg cds ad gg) (TY cT) sz) (va_Qr (fun u9 : Nat => True) (fun u9 q9 t9 => q9 = u9 ∧ BW D vwCl (va_A ([(h, .inr (12, [.ref le, .int (nI 22), .int md])), (le, .inl (cT 7, 22, .inr (.inr (.inr (.inr lf)))))] ++ pg cds ad gg) sz) (fun u9 : Nat => ([(h, .inr (12, [.ref u9, .int (nI 22), .int md])), (le, .inl (cT 7, 22, .inr (.inr (.inr (.inr lf))))), (u9, .inl (cT 7, 33, .inr (.inr (.inr (.inr (va_cpy lf (fun _ => none) 0 0 22))))))] ++ pg cds ad gg)) u9 t9) (va_A ([(h, .inr (12, [.ref le, .int (nI 22), .int md])), (le, .inl (cT 7, 22, .inr (.inr (.inr (.inr lf)))))] ++ pg cds ad gg) sz)) 1 33 (va_A ([(h, .inr (12, [.ref le, .int (nI 22), .int md])), (le, .inl (cT 7, 22, .inr (.inr (.inr (.inr lf)))))] ++ pg cds ad gg) sz) := by
  refine Met.ofW (cc := cAL_grow) (maxL := 1) (ret := (some (.array (.object "java/lang/Object")))) (by decide) rfl ?_
  intro p e s m args below meth c s₁ B hml hv
  obtain ⟨rfl, ⟨hsz, hZ, hP, hK, hD0⟩, hE0⟩ := hv
  have hx := B.exec
  have hb := B.bytes
  have hr := B.returns
  have hts := atoms_spec (ws := WAL_grow) B.pre
  have hT : ∀ w ∈ TB, w.before _ s = true := fun w h => hts w (List.mem_cons_of_mem _ h)
  have hown : s.vm.findClass R_AL = some m.cls := findClass_of_methodNamed B.named
  have hlocks := B.notSynchronized
  subst hsz
  have hD := hD0.self (sz := s.heap.size)
  generalize hAe : va_A ([(h, .inr (12, [.ref le, .int (nI 22), .int md])), (le, .inl (cT 7, 22, .inr (.inr (.inr (.inr lf)))))] ++ pg cds ad gg) s.heap.size = A at hD hZ hE0 ⊢
  have hA : ∀ q : Nat, s.heap.size ≤ q → A q := fun q h => by rw [← hAe]; exact Or.inr h
  have hS : va_S A s.heap s.heap [] := va_S.rf
  have hl := lv_entry ([.ref h]) (n := 1) (Nat.le_of_ble_eq_true rfl)
  rw [lg_entry_eq]
  generalize (lg_sl ([.ref h]) ++ List.replicate (1 - (lg_sl ([.ref h])).length) Slot.unset).toArray = ls at hl ⊢
  have hl : lv_has ls 1 [(0, .ref h)] := hl
  refine lv_aload_n hx hb dAL_grow_0 rfl (lv_at hl 0 rfl) ?_
  refine lv_aload_n hx hb dAL_grow_1 rfl (lv_at hl 0 rfl) ?_
  refine va_get (D := D) (ci := 12) (v := .int (nI 22)) (C := R_AL) (T := T_AL) (N := 3) hx hb hT in_AL hown hK hP 0 rfl rfl 1 (by decide) (hT _ w269) (fun _ h9 => h9) rfl dAL_grow_2 ?_
  refine lv_iconst (v := 1) hx hb dAL_grow_5 (by decide) ?_
  refine lv_iadd hx hb dAL_grow_6 ?_
  refine lv_topi (fun y9 e9 => ?_)
  cases (show y9 = 23 from e9.trans (by decide))
  refine hy_rP (X := [(h, .inr (12, [.ref le, .int (nI 22), .int md])), (le, .inl (cT 7, 22, .inr (.inr (.inr (.inr lf)))))]) (pl := pg cds ad gg) (cx := [(h, .inr (12, [.ref le, .int (nI 22), .int md])), (le, .inl (cT 7, 22, .inr (.inr (.inr (.inr lf)))))]) (wr := []) hP hD hS hA [0, 1] [] rfl rfl (by decide) (by decide) (va_runV (As := [.int 23]) (rest := []) ⟨hx, hb, hml, hown, hT⟩ (k_alGrowbN22 l D cT cds ad gg tE mE h md le lf bs hcd hel _) ⟨callB_of 1 hT (tb_gd w769) rfl rfl rfl (hT _ w11) (hT _ w766) hAL_growb ⟨Nat.le_of_ble_eq_true rfl, Nat.le_of_ble_eq_true rfl⟩, (hT _ w768), (hT _ wp11)⟩ (RWE.preV (ci := 12) (q0 := 0) hE0 hZ hS (va_freeP (cx := [(h, .inr (12, [.ref le, .int (nI 22), .int md])), (le, .inl (cT 7, 22, .inr (.inr (.inr (.inr lf)))))]) hD hS hA [0, 1] rfl) (hP.part (cx := [(h, .inr (12, [.ref le, .int (nI 22), .int md])), (le, .inl (cT 7, 22, .inr (.inr (.inr (.inr lf)))))]) [0, 1] rfl) hK (hD.part (cx := [(h, .inr (12, [.ref le, .int (nI 22), .int md])), (le, .inl (cT 7, 22, .inr (.inr (.inr (.inr lf)))))]) [0, 1] (by decide) rfl) rfl rfl) rfl rfl hl.1 rfl (lv_room (Nat.le_of_ble_eq_true rfl)) dAL_grow_7 ⟨Nat.le_of_ble_eq_true rfl, Nat.le_of_ble_eq_true rfl⟩) (fun u9 H locs hpu1 hP hD hS => ?_)
  obtain ⟨nqu1, rfl⟩ : ∃ q9, q9 = u9 := ⟨_, rfl⟩
  have hpu1 : True := hpu1
  have hP : va_P D vwCl ([(h, .inr (12, [.ref nqu1, .int (nI 22), .int md])), (le, .inl (cT 7, 22, .inr (.inr (.inr (.inr lf))))), (nqu1, .inl (cT 7, 33, .inr (.inr (.inr (.inr (va_cpy lf (fun _ => none) 0 0 22))))))] ++ pg cds ad gg) _ := hP
  have hD : va_D A ([(h, .inr (12, [.ref nqu1, .int (nI 22), .int md])), (le, .inl (cT 7, 22, .inr (.inr (.inr (.inr lf))))), (nqu1, .inl (cT 7, 33, .inr (.inr (.inr (.inr (va_cpy lf (fun _ => none) 0 0 22))))))] ++ pg cds ad gg) := hD
  refine W.eq (g2 := F0 m 10 ls [.ref nqu1]) rfl ?_
  have hP9 : va_P D vwCl ([(h, .inr (12, [.ref nqu1, .int (nI 22), .int md])), (le, .inl (cT 7, 22, .inr (.inr (.inr (.inr lf))))), (nqu1, .inl (cT 7, 33, .inr (.inr (.inr (.inr (va_cpy lf (fun _ => none) 0 0 22))))))] ++ pg cds ad gg) _ := hP.part (cx := [(h, .inr (12, [.ref nqu1, .int (nI 22), .int md])), (le, .inl (cT 7, 22, .inr (.inr (.inr (.inr lf))))), (nqu1, .inl (cT 7, 33, .inr (.inr (.inr (.inr (va_cpy lf (fun _ => none) 0 0 22))))))]) [0, 1, 2] rfl
  have hD9 : va_D A ([(h, .inr (12, [.ref nqu1, .int (nI 22), .int md])), (le, .inl (cT 7, 22, .inr (.inr (.inr (.inr lf))))), (nqu1, .inl (cT 7, 33, .inr (.inr (.inr (.inr (va_cpy lf (fun _ => none) 0 0 22))))))] ++ pg cds ad gg) := hD.part (cx := [(h, .inr (12, [.ref nqu1, .int (nI 22), .int md])), (le, .inl (cT 7, 22, .inr (.inr (.inr (.inr lf))))), (nqu1, .inl (cT 7, 33, .inr (.inr (.inr (.inr (va_cpy lf (fun _ => none) 0 0 22))))))]) [0, 1, 2] (by decide) rfl
  refine W.widen (k := 1) (n := 33) (Nat.le_of_ble_eq_true rfl) (Nat.le_of_ble_eq_true rfl) ?_
  exact W.aret (v := .ref nqu1) hx hb hr (Or.inr ⟨_, rfl⟩) (Or.inr ⟨_, rfl⟩) (fun t9 ht9 hW9 => ⟨⟨nqu1, nqu1, rfl, (show True from trivial), rfl, by rw [ht9]; exact hP9, hD9⟩, hS.F ht9⟩) hS.2.2 dAL_grow_10
set_option maxHeartbeats 4000000 in
set_option maxRecDepth 100000 in
theorem k_arCopy3T10 (l : Launch) (D : va_G) (cT : Nat → ClassId) (cds : List Nat) (ad : Nat → Nat) (gg : Nat → Option va_E) (tE : Nat) (mE : Nat) (le : Nat) (lf : Nat → Option Nat) (bs : Nat) (hcd : CD cds) (hel : ∀ k8, k8 < 10 → ∃ fs8 : List Value, bs + k8 < 8192 ∧ lf k8 = some (ad (bs + k8)) ∧ gg (bs + k8) = some (.inr (9, fs8))) (sz : Nat) : Met l yAr_copyOf3 WAr_copyOf3 ({ frames := 1, cells := 1, slots := 15, locals := 40 } : Room) (RWE tE mE D vwCl [.ref le, .int 15, .ref mE] ([(le, .inl (cT 7, 10, .inr (.inr (.inr (.inr lf)))))] ++ pg cds ad gg) (TY cT) sz) (va_Qr (fun u9 : Nat => True) (fun u9 q9 t9 => q9 = u9 ∧ BW D vwCl (va_A ([(le, .inl (cT 7, 10, .inr (.inr (.inr (.inr lf)))))] ++ pg cds ad gg) sz) (fun u9 : Nat => ([(le, .inl (cT 7, 10, .inr (.inr (.inr (.inr lf))))), (u9, .inl (cT 7, 15, .inr (.inr (.inr (.inr (va_cpy lf (fun _ => none) 0 0 10))))))] ++ pg cds ad gg)) u9 t9) (va_A ([(le, .inl (cT 7, 10, .inr (.inr (.inr (.inr lf)))))] ++ pg cds ad gg) sz)) 1 15 (va_A ([(le, .inl (cT 7, 10, .inr (.inr (.inr (.inr lf)))))] ++ pg cds ad gg) sz) := by
  refine Met.ofW (cc := cAr_copyOf3) (maxL := 4) (ret := (some (.array (.object "java/lang/Object")))) (by decide) rfl ?_
  intro p e s m args below meth c s₁ B hml hv
  obtain ⟨rfl, ⟨hsz, hZ, hP, hK, hD0⟩, hE0⟩ := hv
  have hx := B.exec
  have hb := B.bytes
  have hr := B.returns
  have hts := atoms_spec (ws := WAr_copyOf3) B.pre
  have hT : ∀ w ∈ TB, w.before _ s = true := fun w h => hts w (List.mem_cons_of_mem _ h)
  have hown : s.vm.findClass R_Ar = some m.cls := findClass_of_methodNamed B.named
  have hlocks := B.notSynchronized
  subst hsz
  have hD := hD0.self (sz := s.heap.size)
  generalize hAe : va_A ([(le, .inl (cT 7, 10, .inr (.inr (.inr (.inr lf)))))] ++ pg cds ad gg) s.heap.size = A at hD hZ hE0 ⊢
  have hA : ∀ q : Nat, s.heap.size ≤ q → A q := fun q h => by rw [← hAe]; exact Or.inr h
  have hS : va_S A s.heap s.heap [] := va_S.rf
  have hl := lv_entry ([.ref le, .int 15, .ref mE]) (n := 4) (Nat.le_of_ble_eq_true rfl)
  rw [lg_entry_eq]
  generalize (lg_sl ([.ref le, .int 15, .ref mE]) ++ List.replicate (4 - (lg_sl ([.ref le, .int 15, .ref mE])).length) Slot.unset).toArray = ls at hl ⊢
  have hl : lv_has ls 4 [(0, .ref le), (1, .int 15), (2, .ref mE)] := hl
  refine lv_aload_n hx hb dAr_copyOf3_0 rfl (lv_at hl 2 rfl) ?_
  refine va_ldcM hx hb hown (hT _ w805) hE0.2.2 dAr_copyOf3_1 ?_
  refine lv_acmp_ne (rx := some mE) (ry := some mE) (tgt := 13) hx hb dAr_copyOf3_3 rfl (fun q9 => absurd rfl q9) (fun _ => ?_)
  refine lv_iload_n hx hb dAr_copyOf3_6 rfl (lv_at hl 1 rfl) ?_
  refine nw_q (C := "java/lang/Object") (N' := 15) hx hb hown (hT _ w807) (hZ.1.2.2.2.1 "java/lang/Object" (List.mem_of_getElem? (i := 3) rfl)) hK hP hD hS hA 7 rfl (by decide +kernel) (by decide +kernel) (by decide +kernel) (Nat.le_of_ble_eq_true rfl) (Nat.le_of_ble_eq_true rfl) dAr_copyOf3_7 (fun q7 H hP hD hS => ?_)
  have hP := hy_push hP
  have hD := hy_pushD hD
  have hP : va_P D vwCl ([(le, .inl (cT 7, 10, .inr (.inr (.inr (.inr lf))))), (q7, .inl (cT 7, 15, .inr (.inr (.inr (.inr (fun _ => none))))))] ++ pg cds ad gg) _ := hP
  have hD : va_D A ([(le, .inl (cT 7, 10, .inr (.inr (.inr (.inr lf))))), (q7, .inl (cT 7, 15, .inr (.inr (.inr (.inr (fun _ => none))))))] ++ pg cds ad gg) := hD
  refine lv_goto (tgt := 24) hx hb dAr_copyOf3_10 rfl ?_
  refine lv_astore_n hx hb dAr_copyOf3_24 rfl hl (by decide) rfl (fun ls hl => ?_)
  have hl : lv_has ls 4 [(3, .ref q7), (0, .ref le), (1, .int 15), (2, .ref mE)] := hl
  refine lv_aload_n hx hb dAr_copyOf3_25 rfl (lv_at hl 1 rfl) ?_
  refine lv_iconst (v := 0) hx hb dAr_copyOf3_26 (by decide) ?_
  refine lv_aload_n hx hb dAr_copyOf3_27 rfl (lv_at hl 0 rfl) ?_
  refine lv_iconst (v := 0) hx hb dAr_copyOf3_28 (by decide) ?_
  refine lv_aload_n hx hb dAr_copyOf3_29 rfl (lv_at hl 1 rfl) ?_
  refine va_alen (v := 10) hx hb hK hP 0 7 rfl rfl rfl dAr_copyOf3_30 ?_
  refine lv_iload_n hx hb dAr_copyOf3_31 rfl (lv_at hl 2 rfl) ?_
  refine va_mmin hx hb (hml.trans hl.1.symm) hown (hT _ w808) (hT _ w448) (hT _ w22) (hT _ w449) (Nat.le_of_ble_eq_true rfl) (Nat.le_of_ble_eq_true rfl) (Nat.le_of_ble_eq_true rfl) (Nat.le_of_ble_eq_true rfl) dAr_copyOf3_32 ?_
  refine lv_topi (fun y9 e9 => ?_)
  cases (show y9 = 10 from e9.trans (by decide))
  have hel9 : ∀ i : Nat, i < 10 → ∀ y : Nat, lf i = some y → ∃ cellV : Cell, _[y]? = some cellV ∧ cellV.vm.isStatics = false ∧ s.vm.findClass "ResidualTrees$Tree" = some cellV.cls := fun i hi y hy => by obtain ⟨fs, h1, h2, h3⟩ := hel i hi; cases h2.symm.trans hy; exact va_recv (ci := 9) (q0 := 0) hK (pg_1 hcd hP h1 h3) rfl rfl
  refine va_copyq (C := "ResidualTrees$Tree") hx hb (hml.trans hl.1.symm) hown (hT _ w809) (hT _ w452) (hT _ w451) (hT _ w23) hK hP hD hS 0 1 7 7 rfl rfl rfl rfl (by decide) (by decide) (by decide) (by decide) (by decide) (fun i hi y hy => hel9 i hi y (by rw [← hy]; exact congrArg lf (Nat.zero_add i).symm)) (asg_of (hZ.1.1 ("ResidualTrees$Tree", "java/lang/Object") (List.mem_of_getElem? (i := 14) rfl))) (Nat.le_of_ble_eq_true rfl) (by decide) dAr_copyOf3_35 (fun H locs hP hD hS => ?_)
  have hP : va_P D vwCl ([(le, .inl (cT 7, 10, .inr (.inr (.inr (.inr lf))))), (q7, .inl (cT 7, 15, .inr (.inr (.inr (.inr (va_cpy lf (fun _ => none) 0 0 10))))))] ++ pg cds ad gg) _ := hP
  have hD : va_D A ([(le, .inl (cT 7, 10, .inr (.inr (.inr (.inr lf))))), (q7, .inl (cT 7, 15, .inr (.inr (.inr (.inr (va_cpy lf (fun _ => none) 0 0 10))))))] ++ pg cds ad gg) := hD
  refine lv_aload_n hx hb dAr_copyOf3_38 rfl (lv_at hl 0 rfl) ?_
  have hP9 : va_P D vwCl ([(le, .inl (cT 7, 10, .inr (.inr (.inr (.inr lf))))), (q7, .inl (cT 7, 15, .inr (.inr (.inr (.inr (va_cpy lf (fun _ => none) 0 0 10))))))] ++ pg cds ad gg) _ := hP.part (cx := [(le, .inl (cT 7, 10, .inr (.inr (.inr (.inr lf))))), (q7, .inl (cT 7, 15, .inr (.inr (.inr (.inr (va_cpy lf (fun _ => none) 0 0 10))))))]) [0, 1] rfl
  have hD9 : va_D A ([(le, .inl (cT 7, 10, .inr (.inr (.inr (.inr lf))))), (q7, .inl (cT 7, 15, .inr (.inr (.inr (.inr (va_cpy lf (fun _ => none) 0 0 10))))))] ++ pg cds ad gg) := hD.part (cx := [(le, .inl (cT 7, 10, .inr (.inr (.inr (.inr lf))))), (q7, .inl (cT 7, 15, .inr (.inr (.inr (.inr (va_cpy lf (fun _ => none) 0 0 10))))))]) [0, 1] (by decide) rfl
  refine W.widen (k := 1) (n := 15) (Nat.le_of_ble_eq_true rfl) (Nat.le_of_ble_eq_true rfl) ?_
  exact W.aret (v := .ref q7) hx hb hr (Or.inr ⟨_, rfl⟩) (Or.inr ⟨_, rfl⟩) (fun t9 ht9 hW9 => ⟨⟨q7, q7, rfl, (show True from trivial), rfl, by rw [ht9]; exact hP9, hD9⟩, hS.F ht9⟩) hS.2.2 dAr_copyOf3_39
set_option maxHeartbeats 4000000 in
set_option maxRecDepth 100000 in
theorem k_arCopyT10 (l : Launch) (D : va_G) (cT : Nat → ClassId) (cds : List Nat) (ad : Nat → Nat) (gg : Nat → Option va_E) (tE : Nat) (mE : Nat) (le : Nat) (lf : Nat → Option Nat) (bs : Nat) (hcd : CD cds) (hel : ∀ k8, k8 < 10 → ∃ fs8 : List Value, bs + k8 < 8192 ∧ lf k8 = some (ad (bs + k8)) ∧ gg (bs + k8) = some (.inr (9, fs8))) (sz : Nat) : Met l yAr_copyOf WAr_copyOf ({ frames := 2, cells := 1, slots := 15, locals := 63 } : Room) (RWE tE mE D vwCl [.ref le, .int 15] ([(le, .inl (cT 7, 10, .inr (.inr (.inr (.inr lf)))))] ++ pg cds ad gg) (TY cT) sz) (va_Qr (fun u9 : Nat => True) (fun u9 q9 t9 => q9 = u9 ∧ BW D vwCl (va_A ([(le, .inl (cT 7, 10, .inr (.inr (.inr (.inr lf)))))] ++ pg cds ad gg) sz) (fun u9 : Nat => ([(le, .inl (cT 7, 10, .inr (.inr (.inr (.inr lf))))), (u9, .inl (cT 7, 15, .inr (.inr (.inr (.inr (va_cpy lf (fun _ => none) 0 0 10))))))] ++ pg cds ad gg)) u9 t9) (va_A ([(le, .inl (cT 7, 10, .inr (.inr (.inr (.inr lf)))))] ++ pg cds ad gg) sz)) 1 15 (va_A ([(le, .inl (cT 7, 10, .inr (.inr (.inr (.inr lf)))))] ++ pg cds ad gg) sz) := by
  refine Met.ofW (cc := cAr_copyOf) (maxL := 2) (ret := (some (.array (.object "java/lang/Object")))) (by decide) rfl ?_
  intro p e s m args below meth c s₁ B hml hv
  obtain ⟨rfl, ⟨hsz, hZ, hP, hK, hD0⟩, hE0⟩ := hv
  have hx := B.exec
  have hb := B.bytes
  have hr := B.returns
  have hts := atoms_spec (ws := WAr_copyOf) B.pre
  have hT : ∀ w ∈ TB, w.before _ s = true := fun w h => hts w (List.mem_cons_of_mem _ h)
  have hown : s.vm.findClass R_Ar = some m.cls := findClass_of_methodNamed B.named
  have hlocks := B.notSynchronized
  subst hsz
  have hD := hD0.self (sz := s.heap.size)
  generalize hAe : va_A ([(le, .inl (cT 7, 10, .inr (.inr (.inr (.inr lf)))))] ++ pg cds ad gg) s.heap.size = A at hD hZ hE0 ⊢
  have hA : ∀ q : Nat, s.heap.size ≤ q → A q := fun q h => by rw [← hAe]; exact Or.inr h
  have hS : va_S A s.heap s.heap [] := va_S.rf
  have hl := lv_entry ([.ref le, .int 15]) (n := 2) (Nat.le_of_ble_eq_true rfl)
  rw [lg_entry_eq]
  generalize (lg_sl ([.ref le, .int 15]) ++ List.replicate (2 - (lg_sl ([.ref le, .int 15])).length) Slot.unset).toArray = ls at hl ⊢
  have hl : lv_has ls 2 [(0, .ref le), (1, .int 15)] := hl
  refine lv_aload_n hx hb dAr_copyOf_0 rfl (lv_at hl 0 rfl) ?_
  refine lv_iload_n hx hb dAr_copyOf_1 rfl (lv_at hl 1 rfl) ?_
  refine lv_aload_n hx hb dAr_copyOf_2 rfl (lv_at hl 0 rfl) ?_
  refine va_getC (C := "[Ljava/lang/Object;") hx hb (hml.trans hl.1.symm) hown (hT _ w783) (va_Nw.use rfl (hZ.1.2.2.1 _ (List.mem_of_getElem? (i := 6) rfl))) (hT _ w1597) (hT _ w784) (hT _ w801) hE0.2.2 (arr_cl hK hP 0 7 rfl rfl) (Nat.le_of_ble_eq_true rfl) (Nat.le_of_ble_eq_true rfl) dAr_copyOf_3 ?_
  refine hy_rP (X := [(le, .inl (cT 7, 10, .inr (.inr (.inr (.inr lf)))))]) (pl := pg cds ad gg) (cx := [(le, .inl (cT 7, 10, .inr (.inr (.inr (.inr lf)))))]) (wr := []) hP hD hS hA [0] [] rfl rfl (by decide) (by decide) (va_runS (As := [.ref le, .int 15, .ref mE]) (rest := []) ⟨hx, hb, hml, hown, hT⟩ (k_arCopy3T10 l D cT cds ad gg tE mE le lf bs hcd hel _) ⟨callB_of 3 hT (tb_gd w804) rfl rfl rfl (hT _ w26) (hT _ w802) hAr_copyOf3 ⟨Nat.le_of_ble_eq_true rfl, Nat.le_of_ble_eq_true rfl⟩, (hT _ w803)⟩ (RWE.preS hE0 hZ hS (va_freeP (cx := [(le, .inl (cT 7, 10, .inr (.inr (.inr (.inr lf)))))]) hD hS hA [0] rfl) (hP.part (cx := [(le, .inl (cT 7, 10, .inr (.inr (.inr (.inr lf)))))]) [0] rfl) hK (hD.part (cx := [(le, .inl (cT 7, 10, .inr (.inr (.inr (.inr lf)))))]) [0] (by decide) rfl)) rfl rfl hl.1 rfl (lv_room (Nat.le_of_ble_eq_true rfl)) dAr_copyOf_6 ⟨Nat.le_of_ble_eq_true rfl, Nat.le_of_ble_eq_true rfl⟩) (fun u9 H locs hpu1 hP hD hS => ?_)
  obtain ⟨nqu1, rfl⟩ : ∃ q9, q9 = u9 := ⟨_, rfl⟩
  have hpu1 : True := hpu1
  have hP : va_P D vwCl ([(le, .inl (cT 7, 10, .inr (.inr (.inr (.inr lf))))), (nqu1, .inl (cT 7, 15, .inr (.inr (.inr (.inr (va_cpy lf (fun _ => none) 0 0 10))))))] ++ pg cds ad gg) _ := hP
  have hD : va_D A ([(le, .inl (cT 7, 10, .inr (.inr (.inr (.inr lf))))), (nqu1, .inl (cT 7, 15, .inr (.inr (.inr (.inr (va_cpy lf (fun _ => none) 0 0 10))))))] ++ pg cds ad gg) := hD
  refine W.eq (g2 := F0 m 9 ls [.ref nqu1]) rfl ?_
  have hP9 : va_P D vwCl ([(le, .inl (cT 7, 10, .inr (.inr (.inr (.inr lf))))), (nqu1, .inl (cT 7, 15, .inr (.inr (.inr (.inr (va_cpy lf (fun _ => none) 0 0 10))))))] ++ pg cds ad gg) _ := hP.part (cx := [(le, .inl (cT 7, 10, .inr (.inr (.inr (.inr lf))))), (nqu1, .inl (cT 7, 15, .inr (.inr (.inr (.inr (va_cpy lf (fun _ => none) 0 0 10))))))]) [0, 1] rfl
  have hD9 : va_D A ([(le, .inl (cT 7, 10, .inr (.inr (.inr (.inr lf))))), (nqu1, .inl (cT 7, 15, .inr (.inr (.inr (.inr (va_cpy lf (fun _ => none) 0 0 10))))))] ++ pg cds ad gg) := hD.part (cx := [(le, .inl (cT 7, 10, .inr (.inr (.inr (.inr lf))))), (nqu1, .inl (cT 7, 15, .inr (.inr (.inr (.inr (va_cpy lf (fun _ => none) 0 0 10))))))]) [0, 1] (by decide) rfl
  refine W.widen (k := 1) (n := 15) (Nat.le_of_ble_eq_true rfl) (Nat.le_of_ble_eq_true rfl) ?_
  exact W.aret (v := .ref nqu1) hx hb hr (Or.inr ⟨_, rfl⟩) (Or.inr ⟨_, rfl⟩) (fun t9 ht9 hW9 => ⟨⟨nqu1, nqu1, rfl, (show True from trivial), rfl, by rw [ht9]; exact hP9, hD9⟩, hS.F ht9⟩) hS.2.2 dAr_copyOf_9
set_option maxHeartbeats 4000000 in
set_option maxRecDepth 100000 in
theorem k_alGrowbT10 (l : Launch) (D : va_G) (cT : Nat → ClassId) (cds : List Nat) (ad : Nat → Nat) (gg : Nat → Option va_E) (tE : Nat) (mE : Nat) (h : Nat) (md : Int32) (le : Nat) (lf : Nat → Option Nat) (bs : Nat) (hcd : CD cds) (hel : ∀ k8, k8 < 10 → ∃ fs8 : List Value, bs + k8 < 8192 ∧ lf k8 = some (ad (bs + k8)) ∧ gg (bs + k8) = some (.inr (9, fs8))) (sz : Nat) : Met l yAL_growb WAL_growb ({ frames := 3, cells := 1, slots := 15, locals := 84 } : Room) (RWE tE mE D vwCl [.ref h, .int 11] ([(h, .inr (12, [.ref le, .int (nI 10), .int md])), (le, .inl (cT 7, 10, .inr (.inr (.inr (.inr lf)))))] ++ pg cds ad gg) (TY cT) sz) (va_Qr (fun u9 : Nat => True) (fun u9 q9 t9 => q9 = u9 ∧ BW D vwCl (va_A ([(h, .inr (12, [.ref le, .int (nI 10), .int md])), (le, .inl (cT 7, 10, .inr (.inr (.inr (.inr lf)))))] ++ pg cds ad gg) sz) (fun u9 : Nat => ([(h, .inr (12, [.ref u9, .int (nI 10), .int md])), (le, .inl (cT 7, 10, .inr (.inr (.inr (.inr lf))))), (u9, .inl (cT 7, 15, .inr (.inr (.inr (.inr (va_cpy lf (fun _ => none) 0 0 10))))))] ++ pg cds ad gg)) u9 t9) (va_A ([(h, .inr (12, [.ref le, .int (nI 10), .int md])), (le, .inl (cT 7, 10, .inr (.inr (.inr (.inr lf)))))] ++ pg cds ad gg) sz)) 1 15 (va_A ([(h, .inr (12, [.ref le, .int (nI 10), .int md])), (le, .inl (cT 7, 10, .inr (.inr (.inr (.inr lf)))))] ++ pg cds ad gg) sz) := by
  refine Met.ofW (cc := cAL_growb) (maxL := 4) (ret := (some (.array (.object "java/lang/Object")))) (by decide) rfl ?_
  intro p e s m args below meth c s₁ B hml hv
  obtain ⟨rfl, ⟨hsz, hZ, hP, hK, hD0⟩, hE0⟩ := hv
  have hx := B.exec
  have hb := B.bytes
  have hr := B.returns
  have hts := atoms_spec (ws := WAL_growb) B.pre
  have hT : ∀ w ∈ TB, w.before _ s = true := fun w h => hts w (List.mem_cons_of_mem _ h)
  have hown : s.vm.findClass R_AL = some m.cls := findClass_of_methodNamed B.named
  have hlocks := B.notSynchronized
  subst hsz
  have hD := hD0.self (sz := s.heap.size)
  generalize hAe : va_A ([(h, .inr (12, [.ref le, .int (nI 10), .int md])), (le, .inl (cT 7, 10, .inr (.inr (.inr (.inr lf)))))] ++ pg cds ad gg) s.heap.size = A at hD hZ hE0 ⊢
  have hA : ∀ q : Nat, s.heap.size ≤ q → A q := fun q h => by rw [← hAe]; exact Or.inr h
  have hS : va_S A s.heap s.heap [] := va_S.rf
  have hl := lv_entry ([.ref h, .int 11]) (n := 4) (Nat.le_of_ble_eq_true rfl)
  rw [lg_entry_eq]
  generalize (lg_sl ([.ref h, .int 11]) ++ List.replicate (4 - (lg_sl ([.ref h, .int 11])).length) Slot.unset).toArray = ls at hl ⊢
  have hl : lv_has ls 4 [(0, .ref h), (1, .int 11)] := hl
  refine lv_aload_n hx hb dAL_growb_0 rfl (lv_at hl 0 rfl) ?_
  refine va_get (D := D) (ci := 12) (v := .ref le) (C := R_AL) (T := T_AL) (N := 3) hx hb hT in_AL hown hK hP 0 rfl rfl 0 (by decide) (hT _ w268) (fun _ h9 => h9) rfl dAL_growb_1 ?_
  refine va_alen (v := 10) hx hb hK hP 1 7 rfl rfl rfl dAL_growb_4 ?_
  refine lv_istore_n hx hb dAL_growb_5 rfl hl (by decide) rfl (fun ls hl => ?_)
  have hl : lv_has ls 4 [(2, .int 10), (0, .ref h), (1, .int 11)] := hl
  refine lv_iload_n hx hb dAL_growb_6 rfl (lv_at hl 0 rfl) ?_
  refine lv_if_gt (tgt := 20) hx hb dAL_growb_7 rfl (fun _ => ?_) (fun h1 => absurd (by decide) h1)
  refine lv_iload_n hx hb dAL_growb_20 rfl (lv_at hl 0 rfl) ?_
  refine lv_iload_n hx hb dAL_growb_21 rfl (lv_at hl 2 rfl) ?_
  refine lv_iload_n hx hb dAL_growb_22 rfl (lv_at hl 0 rfl) ?_
  refine lv_isub hx hb dAL_growb_23 ?_
  refine lv_topi (fun y9 e9 => ?_)
  cases (show y9 = 1 from e9.trans (by decide))
  refine lv_iload_n hx hb dAL_growb_24 rfl (lv_at hl 0 rfl) ?_
  refine lv_iconst (v := 1) hx hb dAL_growb_25 (by decide) ?_
  refine lv_ishr hx hb dAL_growb_26 ?_
  refine lv_topi (fun y9 e9 => ?_)
  cases (show y9 = 5 from e9.trans (by decide))
  refine ro_i (va_Run.run (va_runS (As := [.int 10, .int 1, .int 5]) (rest := []) ⟨hx, hb, hml, hown, hT⟩ (k_newLen l D cT 10 1 5 (by decide) (by decide) (by decide)) ⟨callB_of 3 hT (tb_gd w772) rfl rfl rfl (hT _ w25) (hT _ w770) hAs_newLength ⟨Nat.le_of_ble_eq_true rfl, Nat.le_of_ble_eq_true rfl⟩, (hT _ w771)⟩ (RO.preS hZ hS ((show va_P D vwCl [] _ from fun _ _ h => nomatch h)) hK) rfl rfl hl.1 rfl (lv_room (Nat.le_of_ble_eq_true rfl)) dAL_growb_27 ⟨Nat.le_of_ble_eq_true rfl, Nat.le_of_ble_eq_true rfl⟩)) ?_
  refine lv_topi (fun y9 e9 => ?_)
  cases (show y9 = 15 from e9.trans (by decide))
  refine lv_istore_n hx hb dAL_growb_30 rfl hl (by decide) rfl (fun ls hl => ?_)
  have hl : lv_has ls 4 [(3, .int 15), (2, .int 10), (0, .ref h), (1, .int 11)] := hl
  refine lv_aload_n hx hb dAL_growb_31 rfl (lv_at hl 2 rfl) ?_
  refine lv_aload_n hx hb dAL_growb_32 rfl (lv_at hl 2 rfl) ?_
  refine va_get (D := D) (ci := 12) (v := .ref le) (C := R_AL) (T := T_AL) (N := 3) hx hb hT in_AL hown hK hP 0 rfl rfl 0 (by decide) (hT _ w268) (fun _ h9 => h9) rfl dAL_growb_33 ?_
  refine lv_iload_n hx hb dAL_growb_36 rfl (lv_at hl 0 rfl) ?_
  refine hy_rP (X := [(h, .inr (12, [.ref le, .int (nI 10), .int md])), (le, .inl (cT 7, 10, .inr (.inr (.inr (.inr lf)))))]) (pl := pg cds ad gg) (cx := [(le, .inl (cT 7, 10, .inr (.inr (.inr (.inr lf)))))]) (wr := [(h, .inr (12, [.ref le, .int (nI 10), .int md]))]) hP hD hS hA [1] [0] rfl rfl (by decide) (by decide) (va_runS (As := [.ref le, .int 15]) (rest := [.ref h]) ⟨hx, hb, hml, hown, hT⟩ (k_arCopyT10 l D cT cds ad gg tE mE le lf bs hcd hel _) ⟨callB_of 2 hT (tb_gd w782) rfl rfl rfl (hT _ w26) (hT _ w780) hAr_copyOf ⟨Nat.le_of_ble_eq_true rfl, Nat.le_of_ble_eq_true rfl⟩, (hT _ w781)⟩ (RWE.preS hE0 hZ hS (va_freeP (cx := [(le, .inl (cT 7, 10, .inr (.inr (.inr (.inr lf)))))]) hD hS hA [1] rfl) (hP.part (cx := [(le, .inl (cT 7, 10, .inr (.inr (.inr (.inr lf)))))]) [1] rfl) hK (hD.part (cx := [(le, .inl (cT 7, 10, .inr (.inr (.inr (.inr lf)))))]) [1] (by decide) rfl)) rfl rfl hl.1 rfl (lv_room (Nat.le_of_ble_eq_true rfl)) dAL_growb_37 ⟨Nat.le_of_ble_eq_true rfl, Nat.le_of_ble_eq_true rfl⟩) (fun u9 H locs hpu2 hP hD hS => ?_)
  obtain ⟨nqu2, rfl⟩ : ∃ q9, q9 = u9 := ⟨_, rfl⟩
  have hpu2 : True := hpu2
  have hP : va_P D vwCl ([(h, .inr (12, [.ref le, .int (nI 10), .int md])), (le, .inl (cT 7, 10, .inr (.inr (.inr (.inr lf))))), (nqu2, .inl (cT 7, 15, .inr (.inr (.inr (.inr (va_cpy lf (fun _ => none) 0 0 10))))))] ++ pg cds ad gg) _ := hP
  have hD : va_D A ([(h, .inr (12, [.ref le, .int (nI 10), .int md])), (le, .inl (cT 7, 10, .inr (.inr (.inr (.inr lf))))), (nqu2, .inl (cT 7, 15, .inr (.inr (.inr (.inr (va_cpy lf (fun _ => none) 0 0 10))))))] ++ pg cds ad gg) := hD
  refine W.eq (g2 := F0 m 40 ls [.ref nqu2, .ref h]) rfl ?_
  refine lv_dup_x1 hx hb dAL_growb_40 rfl rfl ?_
  refine va_put (D := D) (ci := 12) (v := .ref nqu2) (ty := .array (.object "java/lang/Object")) (C := R_AL) (T := T_AL) (N := 3) hx hb hT in_AL ty_AL ty_AL_ok m_AL hown hK hP hD hS 0 rfl rfl 0 (by decide) (hT _ w268) (fun _ h9 => h9) rfl (by decide +kernel) rfl rfl (Nat.le_of_ble_eq_true rfl) dAL_growb_41 (fun H locs hP hD hS => ?_)
  have hP : va_P D vwCl ([(h, .inr (12, [.ref nqu2, .int (nI 10), .int md])), (le, .inl (cT 7, 10, .inr (.inr (.inr (.inr lf))))), (nqu2, .inl (cT 7, 15, .inr (.inr (.inr (.inr (va_cpy lf (fun _ => none) 0 0 10))))))] ++ pg cds ad gg) _ := hP
  have hD : va_D A ([(h, .inr (12, [.ref nqu2, .int (nI 10), .int md])), (le, .inl (cT 7, 10, .inr (.inr (.inr (.inr lf))))), (nqu2, .inl (cT 7, 15, .inr (.inr (.inr (.inr (va_cpy lf (fun _ => none) 0 0 10))))))] ++ pg cds ad gg) := hD
  have hP9 : va_P D vwCl ([(h, .inr (12, [.ref nqu2, .int (nI 10), .int md])), (le, .inl (cT 7, 10, .inr (.inr (.inr (.inr lf))))), (nqu2, .inl (cT 7, 15, .inr (.inr (.inr (.inr (va_cpy lf (fun _ => none) 0 0 10))))))] ++ pg cds ad gg) _ := hP.part (cx := [(h, .inr (12, [.ref nqu2, .int (nI 10), .int md])), (le, .inl (cT 7, 10, .inr (.inr (.inr (.inr lf))))), (nqu2, .inl (cT 7, 15, .inr (.inr (.inr (.inr (va_cpy lf (fun _ => none) 0 0 10))))))]) [0, 1, 2] rfl
  have hD9 : va_D A ([(h, .inr (12, [.ref nqu2, .int (nI 10), .int md])), (le, .inl (cT 7, 10, .inr (.inr (.inr (.inr lf))))), (nqu2, .inl (cT 7, 15, .inr (.inr (.inr (.inr (va_cpy lf (fun _ => none) 0 0 10))))))] ++ pg cds ad gg) := hD.part (cx := [(h, .inr (12, [.ref nqu2, .int (nI 10), .int md])), (le, .inl (cT 7, 10, .inr (.inr (.inr (.inr lf))))), (nqu2, .inl (cT 7, 15, .inr (.inr (.inr (.inr (va_cpy lf (fun _ => none) 0 0 10))))))]) [0, 1, 2] (by decide) rfl
  refine W.widen (k := 1) (n := 15) (Nat.le_of_ble_eq_true rfl) (Nat.le_of_ble_eq_true rfl) ?_
  exact W.aret (v := .ref nqu2) hx hb hr (Or.inr ⟨_, rfl⟩) (Or.inr ⟨_, rfl⟩) (fun t9 ht9 hW9 => ⟨⟨nqu2, nqu2, rfl, (show True from trivial), rfl, by rw [ht9]; exact hP9, hD9⟩, hS.F ht9⟩) hS.2.2 dAL_growb_44
set_option maxHeartbeats 4000000 in
set_option maxRecDepth 100000 in
theorem k_alGrowT10 (l : Launch) (D : va_G) (cT : Nat → ClassId) (cds : List Nat) (ad : Nat → Nat) (gg : Nat → Option va_E) (tE : Nat) (mE : Nat) (h : Nat) (md : Int32) (le : Nat) (lf : Nat → Option Nat) (bs : Nat) (hcd : CD cds) (hel : ∀ k8, k8 < 10 → ∃ fs8 : List Value, bs + k8 < 8192 ∧ lf k8 = some (ad (bs + k8)) ∧ gg (bs + k8) = some (.inr (9, fs8))) (sz : Nat) : Met l yAL_grow WAL_grow ({ frames := 4, cells := 1, slots := 15, locals := 107 } : Room) (RWE tE mE D vwCl [.ref h] ([(h, .inr (12, [.ref le, .int (nI 10), .int md])), (le, .inl (cT 7, 10, .inr (.inr (.inr (.inr lf)))))] ++ pg cds ad gg) (TY cT) sz) (va_Qr (fun u9 : Nat => True) (fun u9 q9 t9 => q9 = u9 ∧ BW D vwCl (va_A ([(h, .inr (12, [.ref le, .int (nI 10), .int md])), (le, .inl (cT 7, 10, .inr (.inr (.inr (.inr lf)))))] ++ pg cds ad gg) sz) (fun u9 : Nat => ([(h, .inr (12, [.ref u9, .int (nI 10), .int md])), (le, .inl (cT 7, 10, .inr (.inr (.inr (.inr lf))))), (u9, .inl (cT 7, 15, .inr (.inr (.inr (.inr (va_cpy lf (fun _ => none) 0 0 10))))))] ++ pg cds ad gg)) u9 t9) (va_A ([(h, .inr (12, [.ref le, .int (nI 10), .int md])), (le, .inl (cT 7, 10, .inr (.inr (.inr (.inr lf)))))] ++ pg cds ad gg) sz)) 1 15 (va_A ([(h, .inr (12, [.ref le, .int (nI 10), .int md])), (le, .inl (cT 7, 10, .inr (.inr (.inr (.inr lf)))))] ++ pg cds ad gg) sz) := by
  refine Met.ofW (cc := cAL_grow) (maxL := 1) (ret := (some (.array (.object "java/lang/Object")))) (by decide) rfl ?_
  intro p e s m args below meth c s₁ B hml hv
  obtain ⟨rfl, ⟨hsz, hZ, hP, hK, hD0⟩, hE0⟩ := hv
  have hx := B.exec
  have hb := B.bytes
  have hr := B.returns
  have hts := atoms_spec (ws := WAL_grow) B.pre
  have hT : ∀ w ∈ TB, w.before _ s = true := fun w h => hts w (List.mem_cons_of_mem _ h)
  have hown : s.vm.findClass R_AL = some m.cls := findClass_of_methodNamed B.named
  have hlocks := B.notSynchronized
  subst hsz
  have hD := hD0.self (sz := s.heap.size)
  generalize hAe : va_A ([(h, .inr (12, [.ref le, .int (nI 10), .int md])), (le, .inl (cT 7, 10, .inr (.inr (.inr (.inr lf)))))] ++ pg cds ad gg) s.heap.size = A at hD hZ hE0 ⊢
  have hA : ∀ q : Nat, s.heap.size ≤ q → A q := fun q h => by rw [← hAe]; exact Or.inr h
  have hS : va_S A s.heap s.heap [] := va_S.rf
  have hl := lv_entry ([.ref h]) (n := 1) (Nat.le_of_ble_eq_true rfl)
  rw [lg_entry_eq]
  generalize (lg_sl ([.ref h]) ++ List.replicate (1 - (lg_sl ([.ref h])).length) Slot.unset).toArray = ls at hl ⊢
  have hl : lv_has ls 1 [(0, .ref h)] := hl
  refine lv_aload_n hx hb dAL_grow_0 rfl (lv_at hl 0 rfl) ?_
  refine lv_aload_n hx hb dAL_grow_1 rfl (lv_at hl 0 rfl) ?_
  refine va_get (D := D) (ci := 12) (v := .int (nI 10)) (C := R_AL) (T := T_AL) (N := 3) hx hb hT in_AL hown hK hP 0 rfl rfl 1 (by decide) (hT _ w269) (fun _ h9 => h9) rfl dAL_grow_2 ?_
  refine lv_iconst (v := 1) hx hb dAL_grow_5 (by decide) ?_
  refine lv_iadd hx hb dAL_grow_6 ?_
  refine lv_topi (fun y9 e9 => ?_)
  cases (show y9 = 11 from e9.trans (by decide))
  refine hy_rP (X := [(h, .inr (12, [.ref le, .int (nI 10), .int md])), (le, .inl (cT 7, 10, .inr (.inr (.inr (.inr lf)))))]) (pl := pg cds ad gg) (cx := [(h, .inr (12, [.ref le, .int (nI 10), .int md])), (le, .inl (cT 7, 10, .inr (.inr (.inr (.inr lf)))))]) (wr := []) hP hD hS hA [0, 1] [] rfl rfl (by decide) (by decide) (va_runV (As := [.int 11]) (rest := []) ⟨hx, hb, hml, hown, hT⟩ (k_alGrowbT10 l D cT cds ad gg tE mE h md le lf bs hcd hel _) ⟨callB_of 1 hT (tb_gd w769) rfl rfl rfl (hT _ w11) (hT _ w766) hAL_growb ⟨Nat.le_of_ble_eq_true rfl, Nat.le_of_ble_eq_true rfl⟩, (hT _ w768), (hT _ wp11)⟩ (RWE.preV (ci := 12) (q0 := 0) hE0 hZ hS (va_freeP (cx := [(h, .inr (12, [.ref le, .int (nI 10), .int md])), (le, .inl (cT 7, 10, .inr (.inr (.inr (.inr lf)))))]) hD hS hA [0, 1] rfl) (hP.part (cx := [(h, .inr (12, [.ref le, .int (nI 10), .int md])), (le, .inl (cT 7, 10, .inr (.inr (.inr (.inr lf)))))]) [0, 1] rfl) hK (hD.part (cx := [(h, .inr (12, [.ref le, .int (nI 10), .int md])), (le, .inl (cT 7, 10, .inr (.inr (.inr (.inr lf)))))]) [0, 1] (by decide) rfl) rfl rfl) rfl rfl hl.1 rfl (lv_room (Nat.le_of_ble_eq_true rfl)) dAL_grow_7 ⟨Nat.le_of_ble_eq_true rfl, Nat.le_of_ble_eq_true rfl⟩) (fun u9 H locs hpu1 hP hD hS => ?_)
  obtain ⟨nqu1, rfl⟩ : ∃ q9, q9 = u9 := ⟨_, rfl⟩
  have hpu1 : True := hpu1
  have hP : va_P D vwCl ([(h, .inr (12, [.ref nqu1, .int (nI 10), .int md])), (le, .inl (cT 7, 10, .inr (.inr (.inr (.inr lf))))), (nqu1, .inl (cT 7, 15, .inr (.inr (.inr (.inr (va_cpy lf (fun _ => none) 0 0 10))))))] ++ pg cds ad gg) _ := hP
  have hD : va_D A ([(h, .inr (12, [.ref nqu1, .int (nI 10), .int md])), (le, .inl (cT 7, 10, .inr (.inr (.inr (.inr lf))))), (nqu1, .inl (cT 7, 15, .inr (.inr (.inr (.inr (va_cpy lf (fun _ => none) 0 0 10))))))] ++ pg cds ad gg) := hD
  refine W.eq (g2 := F0 m 10 ls [.ref nqu1]) rfl ?_
  have hP9 : va_P D vwCl ([(h, .inr (12, [.ref nqu1, .int (nI 10), .int md])), (le, .inl (cT 7, 10, .inr (.inr (.inr (.inr lf))))), (nqu1, .inl (cT 7, 15, .inr (.inr (.inr (.inr (va_cpy lf (fun _ => none) 0 0 10))))))] ++ pg cds ad gg) _ := hP.part (cx := [(h, .inr (12, [.ref nqu1, .int (nI 10), .int md])), (le, .inl (cT 7, 10, .inr (.inr (.inr (.inr lf))))), (nqu1, .inl (cT 7, 15, .inr (.inr (.inr (.inr (va_cpy lf (fun _ => none) 0 0 10))))))]) [0, 1, 2] rfl
  have hD9 : va_D A ([(h, .inr (12, [.ref nqu1, .int (nI 10), .int md])), (le, .inl (cT 7, 10, .inr (.inr (.inr (.inr lf))))), (nqu1, .inl (cT 7, 15, .inr (.inr (.inr (.inr (va_cpy lf (fun _ => none) 0 0 10))))))] ++ pg cds ad gg) := hD.part (cx := [(h, .inr (12, [.ref nqu1, .int (nI 10), .int md])), (le, .inl (cT 7, 10, .inr (.inr (.inr (.inr lf))))), (nqu1, .inl (cT 7, 15, .inr (.inr (.inr (.inr (va_cpy lf (fun _ => none) 0 0 10))))))]) [0, 1, 2] (by decide) rfl
  refine W.widen (k := 1) (n := 15) (Nat.le_of_ble_eq_true rfl) (Nat.le_of_ble_eq_true rfl) ?_
  exact W.aret (v := .ref nqu1) hx hb hr (Or.inr ⟨_, rfl⟩) (Or.inr ⟨_, rfl⟩) (fun t9 ht9 hW9 => ⟨⟨nqu1, nqu1, rfl, (show True from trivial), rfl, by rw [ht9]; exact hP9, hD9⟩, hS.F ht9⟩) hS.2.2 dAL_grow_10
set_option maxHeartbeats 4000000 in
set_option maxRecDepth 100000 in
theorem k_arCopy3T15 (l : Launch) (D : va_G) (cT : Nat → ClassId) (cds : List Nat) (ad : Nat → Nat) (gg : Nat → Option va_E) (tE : Nat) (mE : Nat) (le : Nat) (lf : Nat → Option Nat) (bs : Nat) (hcd : CD cds) (hel : ∀ k8, k8 < 15 → ∃ fs8 : List Value, bs + k8 < 8192 ∧ lf k8 = some (ad (bs + k8)) ∧ gg (bs + k8) = some (.inr (9, fs8))) (sz : Nat) : Met l yAr_copyOf3 WAr_copyOf3 ({ frames := 1, cells := 1, slots := 22, locals := 40 } : Room) (RWE tE mE D vwCl [.ref le, .int 22, .ref mE] ([(le, .inl (cT 7, 15, .inr (.inr (.inr (.inr lf)))))] ++ pg cds ad gg) (TY cT) sz) (va_Qr (fun u9 : Nat => True) (fun u9 q9 t9 => q9 = u9 ∧ BW D vwCl (va_A ([(le, .inl (cT 7, 15, .inr (.inr (.inr (.inr lf)))))] ++ pg cds ad gg) sz) (fun u9 : Nat => ([(le, .inl (cT 7, 15, .inr (.inr (.inr (.inr lf))))), (u9, .inl (cT 7, 22, .inr (.inr (.inr (.inr (va_cpy lf (fun _ => none) 0 0 15))))))] ++ pg cds ad gg)) u9 t9) (va_A ([(le, .inl (cT 7, 15, .inr (.inr (.inr (.inr lf)))))] ++ pg cds ad gg) sz)) 1 22 (va_A ([(le, .inl (cT 7, 15, .inr (.inr (.inr (.inr lf)))))] ++ pg cds ad gg) sz) := by
  refine Met.ofW (cc := cAr_copyOf3) (maxL := 4) (ret := (some (.array (.object "java/lang/Object")))) (by decide) rfl ?_
  intro p e s m args below meth c s₁ B hml hv
  obtain ⟨rfl, ⟨hsz, hZ, hP, hK, hD0⟩, hE0⟩ := hv
  have hx := B.exec
  have hb := B.bytes
  have hr := B.returns
  have hts := atoms_spec (ws := WAr_copyOf3) B.pre
  have hT : ∀ w ∈ TB, w.before _ s = true := fun w h => hts w (List.mem_cons_of_mem _ h)
  have hown : s.vm.findClass R_Ar = some m.cls := findClass_of_methodNamed B.named
  have hlocks := B.notSynchronized
  subst hsz
  have hD := hD0.self (sz := s.heap.size)
  generalize hAe : va_A ([(le, .inl (cT 7, 15, .inr (.inr (.inr (.inr lf)))))] ++ pg cds ad gg) s.heap.size = A at hD hZ hE0 ⊢
  have hA : ∀ q : Nat, s.heap.size ≤ q → A q := fun q h => by rw [← hAe]; exact Or.inr h
  have hS : va_S A s.heap s.heap [] := va_S.rf
  have hl := lv_entry ([.ref le, .int 22, .ref mE]) (n := 4) (Nat.le_of_ble_eq_true rfl)
  rw [lg_entry_eq]
  generalize (lg_sl ([.ref le, .int 22, .ref mE]) ++ List.replicate (4 - (lg_sl ([.ref le, .int 22, .ref mE])).length) Slot.unset).toArray = ls at hl ⊢
  have hl : lv_has ls 4 [(0, .ref le), (1, .int 22), (2, .ref mE)] := hl
  refine lv_aload_n hx hb dAr_copyOf3_0 rfl (lv_at hl 2 rfl) ?_
  refine va_ldcM hx hb hown (hT _ w805) hE0.2.2 dAr_copyOf3_1 ?_
  refine lv_acmp_ne (rx := some mE) (ry := some mE) (tgt := 13) hx hb dAr_copyOf3_3 rfl (fun q9 => absurd rfl q9) (fun _ => ?_)
  refine lv_iload_n hx hb dAr_copyOf3_6 rfl (lv_at hl 1 rfl) ?_
  refine nw_q (C := "java/lang/Object") (N' := 22) hx hb hown (hT _ w807) (hZ.1.2.2.2.1 "java/lang/Object" (List.mem_of_getElem? (i := 3) rfl)) hK hP hD hS hA 7 rfl (by decide +kernel) (by decide +kernel) (by decide +kernel) (Nat.le_of_ble_eq_true rfl) (Nat.le_of_ble_eq_true rfl) dAr_copyOf3_7 (fun q7 H hP hD hS => ?_)
  have hP := hy_push hP
  have hD := hy_pushD hD
  have hP : va_P D vwCl ([(le, .inl (cT 7, 15, .inr (.inr (.inr (.inr lf))))), (q7, .inl (cT 7, 22, .inr (.inr (.inr (.inr (fun _ => none))))))] ++ pg cds ad gg) _ := hP
  have hD : va_D A ([(le, .inl (cT 7, 15, .inr (.inr (.inr (.inr lf))))), (q7, .inl (cT 7, 22, .inr (.inr (.inr (.inr (fun _ => none))))))] ++ pg cds ad gg) := hD
  refine lv_goto (tgt := 24) hx hb dAr_copyOf3_10 rfl ?_
  refine lv_astore_n hx hb dAr_copyOf3_24 rfl hl (by decide) rfl (fun ls hl => ?_)
  have hl : lv_has ls 4 [(3, .ref q7), (0, .ref le), (1, .int 22), (2, .ref mE)] := hl
  refine lv_aload_n hx hb dAr_copyOf3_25 rfl (lv_at hl 1 rfl) ?_
  refine lv_iconst (v := 0) hx hb dAr_copyOf3_26 (by decide) ?_
  refine lv_aload_n hx hb dAr_copyOf3_27 rfl (lv_at hl 0 rfl) ?_
  refine lv_iconst (v := 0) hx hb dAr_copyOf3_28 (by decide) ?_
  refine lv_aload_n hx hb dAr_copyOf3_29 rfl (lv_at hl 1 rfl) ?_
  refine va_alen (v := 15) hx hb hK hP 0 7 rfl rfl rfl dAr_copyOf3_30 ?_
  refine lv_iload_n hx hb dAr_copyOf3_31 rfl (lv_at hl 2 rfl) ?_
  refine va_mmin hx hb (hml.trans hl.1.symm) hown (hT _ w808) (hT _ w448) (hT _ w22) (hT _ w449) (Nat.le_of_ble_eq_true rfl) (Nat.le_of_ble_eq_true rfl) (Nat.le_of_ble_eq_true rfl) (Nat.le_of_ble_eq_true rfl) dAr_copyOf3_32 ?_
  refine lv_topi (fun y9 e9 => ?_)
  cases (show y9 = 15 from e9.trans (by decide))
  have hel9 : ∀ i : Nat, i < 15 → ∀ y : Nat, lf i = some y → ∃ cellV : Cell, _[y]? = some cellV ∧ cellV.vm.isStatics = false ∧ s.vm.findClass "ResidualTrees$Tree" = some cellV.cls := fun i hi y hy => by obtain ⟨fs, h1, h2, h3⟩ := hel i hi; cases h2.symm.trans hy; exact va_recv (ci := 9) (q0 := 0) hK (pg_1 hcd hP h1 h3) rfl rfl
  refine va_copyq (C := "ResidualTrees$Tree") hx hb (hml.trans hl.1.symm) hown (hT _ w809) (hT _ w452) (hT _ w451) (hT _ w23) hK hP hD hS 0 1 7 7 rfl rfl rfl rfl (by decide) (by decide) (by decide) (by decide) (by decide) (fun i hi y hy => hel9 i hi y (by rw [← hy]; exact congrArg lf (Nat.zero_add i).symm)) (asg_of (hZ.1.1 ("ResidualTrees$Tree", "java/lang/Object") (List.mem_of_getElem? (i := 14) rfl))) (Nat.le_of_ble_eq_true rfl) (by decide) dAr_copyOf3_35 (fun H locs hP hD hS => ?_)
  have hP : va_P D vwCl ([(le, .inl (cT 7, 15, .inr (.inr (.inr (.inr lf))))), (q7, .inl (cT 7, 22, .inr (.inr (.inr (.inr (va_cpy lf (fun _ => none) 0 0 15))))))] ++ pg cds ad gg) _ := hP
  have hD : va_D A ([(le, .inl (cT 7, 15, .inr (.inr (.inr (.inr lf))))), (q7, .inl (cT 7, 22, .inr (.inr (.inr (.inr (va_cpy lf (fun _ => none) 0 0 15))))))] ++ pg cds ad gg) := hD
  refine lv_aload_n hx hb dAr_copyOf3_38 rfl (lv_at hl 0 rfl) ?_
  have hP9 : va_P D vwCl ([(le, .inl (cT 7, 15, .inr (.inr (.inr (.inr lf))))), (q7, .inl (cT 7, 22, .inr (.inr (.inr (.inr (va_cpy lf (fun _ => none) 0 0 15))))))] ++ pg cds ad gg) _ := hP.part (cx := [(le, .inl (cT 7, 15, .inr (.inr (.inr (.inr lf))))), (q7, .inl (cT 7, 22, .inr (.inr (.inr (.inr (va_cpy lf (fun _ => none) 0 0 15))))))]) [0, 1] rfl
  have hD9 : va_D A ([(le, .inl (cT 7, 15, .inr (.inr (.inr (.inr lf))))), (q7, .inl (cT 7, 22, .inr (.inr (.inr (.inr (va_cpy lf (fun _ => none) 0 0 15))))))] ++ pg cds ad gg) := hD.part (cx := [(le, .inl (cT 7, 15, .inr (.inr (.inr (.inr lf))))), (q7, .inl (cT 7, 22, .inr (.inr (.inr (.inr (va_cpy lf (fun _ => none) 0 0 15))))))]) [0, 1] (by decide) rfl
  refine W.widen (k := 1) (n := 22) (Nat.le_of_ble_eq_true rfl) (Nat.le_of_ble_eq_true rfl) ?_
  exact W.aret (v := .ref q7) hx hb hr (Or.inr ⟨_, rfl⟩) (Or.inr ⟨_, rfl⟩) (fun t9 ht9 hW9 => ⟨⟨q7, q7, rfl, (show True from trivial), rfl, by rw [ht9]; exact hP9, hD9⟩, hS.F ht9⟩) hS.2.2 dAr_copyOf3_39
set_option maxHeartbeats 4000000 in
set_option maxRecDepth 100000 in
theorem k_arCopyT15 (l : Launch) (D : va_G) (cT : Nat → ClassId) (cds : List Nat) (ad : Nat → Nat) (gg : Nat → Option va_E) (tE : Nat) (mE : Nat) (le : Nat) (lf : Nat → Option Nat) (bs : Nat) (hcd : CD cds) (hel : ∀ k8, k8 < 15 → ∃ fs8 : List Value, bs + k8 < 8192 ∧ lf k8 = some (ad (bs + k8)) ∧ gg (bs + k8) = some (.inr (9, fs8))) (sz : Nat) : Met l yAr_copyOf WAr_copyOf ({ frames := 2, cells := 1, slots := 22, locals := 63 } : Room) (RWE tE mE D vwCl [.ref le, .int 22] ([(le, .inl (cT 7, 15, .inr (.inr (.inr (.inr lf)))))] ++ pg cds ad gg) (TY cT) sz) (va_Qr (fun u9 : Nat => True) (fun u9 q9 t9 => q9 = u9 ∧ BW D vwCl (va_A ([(le, .inl (cT 7, 15, .inr (.inr (.inr (.inr lf)))))] ++ pg cds ad gg) sz) (fun u9 : Nat => ([(le, .inl (cT 7, 15, .inr (.inr (.inr (.inr lf))))), (u9, .inl (cT 7, 22, .inr (.inr (.inr (.inr (va_cpy lf (fun _ => none) 0 0 15))))))] ++ pg cds ad gg)) u9 t9) (va_A ([(le, .inl (cT 7, 15, .inr (.inr (.inr (.inr lf)))))] ++ pg cds ad gg) sz)) 1 22 (va_A ([(le, .inl (cT 7, 15, .inr (.inr (.inr (.inr lf)))))] ++ pg cds ad gg) sz) := by
  refine Met.ofW (cc := cAr_copyOf) (maxL := 2) (ret := (some (.array (.object "java/lang/Object")))) (by decide) rfl ?_
  intro p e s m args below meth c s₁ B hml hv
  obtain ⟨rfl, ⟨hsz, hZ, hP, hK, hD0⟩, hE0⟩ := hv
  have hx := B.exec
  have hb := B.bytes
  have hr := B.returns
  have hts := atoms_spec (ws := WAr_copyOf) B.pre
  have hT : ∀ w ∈ TB, w.before _ s = true := fun w h => hts w (List.mem_cons_of_mem _ h)
  have hown : s.vm.findClass R_Ar = some m.cls := findClass_of_methodNamed B.named
  have hlocks := B.notSynchronized
  subst hsz
  have hD := hD0.self (sz := s.heap.size)
  generalize hAe : va_A ([(le, .inl (cT 7, 15, .inr (.inr (.inr (.inr lf)))))] ++ pg cds ad gg) s.heap.size = A at hD hZ hE0 ⊢
  have hA : ∀ q : Nat, s.heap.size ≤ q → A q := fun q h => by rw [← hAe]; exact Or.inr h
  have hS : va_S A s.heap s.heap [] := va_S.rf
  have hl := lv_entry ([.ref le, .int 22]) (n := 2) (Nat.le_of_ble_eq_true rfl)
  rw [lg_entry_eq]
  generalize (lg_sl ([.ref le, .int 22]) ++ List.replicate (2 - (lg_sl ([.ref le, .int 22])).length) Slot.unset).toArray = ls at hl ⊢
  have hl : lv_has ls 2 [(0, .ref le), (1, .int 22)] := hl
  refine lv_aload_n hx hb dAr_copyOf_0 rfl (lv_at hl 0 rfl) ?_
  refine lv_iload_n hx hb dAr_copyOf_1 rfl (lv_at hl 1 rfl) ?_
  refine lv_aload_n hx hb dAr_copyOf_2 rfl (lv_at hl 0 rfl) ?_
  refine va_getC (C := "[Ljava/lang/Object;") hx hb (hml.trans hl.1.symm) hown (hT _ w783) (va_Nw.use rfl (hZ.1.2.2.1 _ (List.mem_of_getElem? (i := 6) rfl))) (hT _ w1597) (hT _ w784) (hT _ w801) hE0.2.2 (arr_cl hK hP 0 7 rfl rfl) (Nat.le_of_ble_eq_true rfl) (Nat.le_of_ble_eq_true rfl) dAr_copyOf_3 ?_
  refine hy_rP (X := [(le, .inl (cT 7, 15, .inr (.inr (.inr (.inr lf)))))]) (pl := pg cds ad gg) (cx := [(le, .inl (cT 7, 15, .inr (.inr (.inr (.inr lf)))))]) (wr := []) hP hD hS hA [0] [] rfl rfl (by decide) (by decide) (va_runS (As := [.ref le, .int 22, .ref mE]) (rest := []) ⟨hx, hb, hml, hown, hT⟩ (k_arCopy3T15 l D cT cds ad gg tE mE le lf bs hcd hel _) ⟨callB_of 3 hT (tb_gd w804) rfl rfl rfl (hT _ w26) (hT _ w802) hAr_copyOf3 ⟨Nat.le_of_ble_eq_true rfl, Nat.le_of_ble_eq_true rfl⟩, (hT _ w803)⟩ (RWE.preS hE0 hZ hS (va_freeP (cx := [(le, .inl (cT 7, 15, .inr (.inr (.inr (.inr lf)))))]) hD hS hA [0] rfl) (hP.part (cx := [(le, .inl (cT 7, 15, .inr (.inr (.inr (.inr lf)))))]) [0] rfl) hK (hD.part (cx := [(le, .inl (cT 7, 15, .inr (.inr (.inr (.inr lf)))))]) [0] (by decide) rfl)) rfl rfl hl.1 rfl (lv_room (Nat.le_of_ble_eq_true rfl)) dAr_copyOf_6 ⟨Nat.le_of_ble_eq_true rfl, Nat.le_of_ble_eq_true rfl⟩) (fun u9 H locs hpu1 hP hD hS => ?_)
  obtain ⟨nqu1, rfl⟩ : ∃ q9, q9 = u9 := ⟨_, rfl⟩
  have hpu1 : True := hpu1
  have hP : va_P D vwCl ([(le, .inl (cT 7, 15, .inr (.inr (.inr (.inr lf))))), (nqu1, .inl (cT 7, 22, .inr (.inr (.inr (.inr (va_cpy lf (fun _ => none) 0 0 15))))))] ++ pg cds ad gg) _ := hP
  have hD : va_D A ([(le, .inl (cT 7, 15, .inr (.inr (.inr (.inr lf))))), (nqu1, .inl (cT 7, 22, .inr (.inr (.inr (.inr (va_cpy lf (fun _ => none) 0 0 15))))))] ++ pg cds ad gg) := hD
  refine W.eq (g2 := F0 m 9 ls [.ref nqu1]) rfl ?_
  have hP9 : va_P D vwCl ([(le, .inl (cT 7, 15, .inr (.inr (.inr (.inr lf))))), (nqu1, .inl (cT 7, 22, .inr (.inr (.inr (.inr (va_cpy lf (fun _ => none) 0 0 15))))))] ++ pg cds ad gg) _ := hP.part (cx := [(le, .inl (cT 7, 15, .inr (.inr (.inr (.inr lf))))), (nqu1, .inl (cT 7, 22, .inr (.inr (.inr (.inr (va_cpy lf (fun _ => none) 0 0 15))))))]) [0, 1] rfl
  have hD9 : va_D A ([(le, .inl (cT 7, 15, .inr (.inr (.inr (.inr lf))))), (nqu1, .inl (cT 7, 22, .inr (.inr (.inr (.inr (va_cpy lf (fun _ => none) 0 0 15))))))] ++ pg cds ad gg) := hD.part (cx := [(le, .inl (cT 7, 15, .inr (.inr (.inr (.inr lf))))), (nqu1, .inl (cT 7, 22, .inr (.inr (.inr (.inr (va_cpy lf (fun _ => none) 0 0 15))))))]) [0, 1] (by decide) rfl
  refine W.widen (k := 1) (n := 22) (Nat.le_of_ble_eq_true rfl) (Nat.le_of_ble_eq_true rfl) ?_
  exact W.aret (v := .ref nqu1) hx hb hr (Or.inr ⟨_, rfl⟩) (Or.inr ⟨_, rfl⟩) (fun t9 ht9 hW9 => ⟨⟨nqu1, nqu1, rfl, (show True from trivial), rfl, by rw [ht9]; exact hP9, hD9⟩, hS.F ht9⟩) hS.2.2 dAr_copyOf_9
set_option maxHeartbeats 4000000 in
set_option maxRecDepth 100000 in
theorem k_alGrowbT15 (l : Launch) (D : va_G) (cT : Nat → ClassId) (cds : List Nat) (ad : Nat → Nat) (gg : Nat → Option va_E) (tE : Nat) (mE : Nat) (h : Nat) (md : Int32) (le : Nat) (lf : Nat → Option Nat) (bs : Nat) (hcd : CD cds) (hel : ∀ k8, k8 < 15 → ∃ fs8 : List Value, bs + k8 < 8192 ∧ lf k8 = some (ad (bs + k8)) ∧ gg (bs + k8) = some (.inr (9, fs8))) (sz : Nat) : Met l yAL_growb WAL_growb ({ frames := 3, cells := 1, slots := 22, locals := 84 } : Room) (RWE tE mE D vwCl [.ref h, .int 16] ([(h, .inr (12, [.ref le, .int (nI 15), .int md])), (le, .inl (cT 7, 15, .inr (.inr (.inr (.inr lf)))))] ++ pg cds ad gg) (TY cT) sz) (va_Qr (fun u9 : Nat => True) (fun u9 q9 t9 => q9 = u9 ∧ BW D vwCl (va_A ([(h, .inr (12, [.ref le, .int (nI 15), .int md])), (le, .inl (cT 7, 15, .inr (.inr (.inr (.inr lf)))))] ++ pg cds ad gg) sz) (fun u9 : Nat => ([(h, .inr (12, [.ref u9, .int (nI 15), .int md])), (le, .inl (cT 7, 15, .inr (.inr (.inr (.inr lf))))), (u9, .inl (cT 7, 22, .inr (.inr (.inr (.inr (va_cpy lf (fun _ => none) 0 0 15))))))] ++ pg cds ad gg)) u9 t9) (va_A ([(h, .inr (12, [.ref le, .int (nI 15), .int md])), (le, .inl (cT 7, 15, .inr (.inr (.inr (.inr lf)))))] ++ pg cds ad gg) sz)) 1 22 (va_A ([(h, .inr (12, [.ref le, .int (nI 15), .int md])), (le, .inl (cT 7, 15, .inr (.inr (.inr (.inr lf)))))] ++ pg cds ad gg) sz) := by
  refine Met.ofW (cc := cAL_growb) (maxL := 4) (ret := (some (.array (.object "java/lang/Object")))) (by decide) rfl ?_
  intro p e s m args below meth c s₁ B hml hv
  obtain ⟨rfl, ⟨hsz, hZ, hP, hK, hD0⟩, hE0⟩ := hv
  have hx := B.exec
  have hb := B.bytes
  have hr := B.returns
  have hts := atoms_spec (ws := WAL_growb) B.pre
  have hT : ∀ w ∈ TB, w.before _ s = true := fun w h => hts w (List.mem_cons_of_mem _ h)
  have hown : s.vm.findClass R_AL = some m.cls := findClass_of_methodNamed B.named
  have hlocks := B.notSynchronized
  subst hsz
  have hD := hD0.self (sz := s.heap.size)
  generalize hAe : va_A ([(h, .inr (12, [.ref le, .int (nI 15), .int md])), (le, .inl (cT 7, 15, .inr (.inr (.inr (.inr lf)))))] ++ pg cds ad gg) s.heap.size = A at hD hZ hE0 ⊢
  have hA : ∀ q : Nat, s.heap.size ≤ q → A q := fun q h => by rw [← hAe]; exact Or.inr h
  have hS : va_S A s.heap s.heap [] := va_S.rf
  have hl := lv_entry ([.ref h, .int 16]) (n := 4) (Nat.le_of_ble_eq_true rfl)
  rw [lg_entry_eq]
  generalize (lg_sl ([.ref h, .int 16]) ++ List.replicate (4 - (lg_sl ([.ref h, .int 16])).length) Slot.unset).toArray = ls at hl ⊢
  have hl : lv_has ls 4 [(0, .ref h), (1, .int 16)] := hl
  refine lv_aload_n hx hb dAL_growb_0 rfl (lv_at hl 0 rfl) ?_
  refine va_get (D := D) (ci := 12) (v := .ref le) (C := R_AL) (T := T_AL) (N := 3) hx hb hT in_AL hown hK hP 0 rfl rfl 0 (by decide) (hT _ w268) (fun _ h9 => h9) rfl dAL_growb_1 ?_
  refine va_alen (v := 15) hx hb hK hP 1 7 rfl rfl rfl dAL_growb_4 ?_
  refine lv_istore_n hx hb dAL_growb_5 rfl hl (by decide) rfl (fun ls hl => ?_)
  have hl : lv_has ls 4 [(2, .int 15), (0, .ref h), (1, .int 16)] := hl
  refine lv_iload_n hx hb dAL_growb_6 rfl (lv_at hl 0 rfl) ?_
  refine lv_if_gt (tgt := 20) hx hb dAL_growb_7 rfl (fun _ => ?_) (fun h1 => absurd (by decide) h1)
  refine lv_iload_n hx hb dAL_growb_20 rfl (lv_at hl 0 rfl) ?_
  refine lv_iload_n hx hb dAL_growb_21 rfl (lv_at hl 2 rfl) ?_
  refine lv_iload_n hx hb dAL_growb_22 rfl (lv_at hl 0 rfl) ?_
  refine lv_isub hx hb dAL_growb_23 ?_
  refine lv_topi (fun y9 e9 => ?_)
  cases (show y9 = 1 from e9.trans (by decide))
  refine lv_iload_n hx hb dAL_growb_24 rfl (lv_at hl 0 rfl) ?_
  refine lv_iconst (v := 1) hx hb dAL_growb_25 (by decide) ?_
  refine lv_ishr hx hb dAL_growb_26 ?_
  refine lv_topi (fun y9 e9 => ?_)
  cases (show y9 = 7 from e9.trans (by decide))
  refine ro_i (va_Run.run (va_runS (As := [.int 15, .int 1, .int 7]) (rest := []) ⟨hx, hb, hml, hown, hT⟩ (k_newLen l D cT 15 1 7 (by decide) (by decide) (by decide)) ⟨callB_of 3 hT (tb_gd w772) rfl rfl rfl (hT _ w25) (hT _ w770) hAs_newLength ⟨Nat.le_of_ble_eq_true rfl, Nat.le_of_ble_eq_true rfl⟩, (hT _ w771)⟩ (RO.preS hZ hS ((show va_P D vwCl [] _ from fun _ _ h => nomatch h)) hK) rfl rfl hl.1 rfl (lv_room (Nat.le_of_ble_eq_true rfl)) dAL_growb_27 ⟨Nat.le_of_ble_eq_true rfl, Nat.le_of_ble_eq_true rfl⟩)) ?_
  refine lv_topi (fun y9 e9 => ?_)
  cases (show y9 = 22 from e9.trans (by decide))
  refine lv_istore_n hx hb dAL_growb_30 rfl hl (by decide) rfl (fun ls hl => ?_)
  have hl : lv_has ls 4 [(3, .int 22), (2, .int 15), (0, .ref h), (1, .int 16)] := hl
  refine lv_aload_n hx hb dAL_growb_31 rfl (lv_at hl 2 rfl) ?_
  refine lv_aload_n hx hb dAL_growb_32 rfl (lv_at hl 2 rfl) ?_
  refine va_get (D := D) (ci := 12) (v := .ref le) (C := R_AL) (T := T_AL) (N := 3) hx hb hT in_AL hown hK hP 0 rfl rfl 0 (by decide) (hT _ w268) (fun _ h9 => h9) rfl dAL_growb_33 ?_
  refine lv_iload_n hx hb dAL_growb_36 rfl (lv_at hl 0 rfl) ?_
  refine hy_rP (X := [(h, .inr (12, [.ref le, .int (nI 15), .int md])), (le, .inl (cT 7, 15, .inr (.inr (.inr (.inr lf)))))]) (pl := pg cds ad gg) (cx := [(le, .inl (cT 7, 15, .inr (.inr (.inr (.inr lf)))))]) (wr := [(h, .inr (12, [.ref le, .int (nI 15), .int md]))]) hP hD hS hA [1] [0] rfl rfl (by decide) (by decide) (va_runS (As := [.ref le, .int 22]) (rest := [.ref h]) ⟨hx, hb, hml, hown, hT⟩ (k_arCopyT15 l D cT cds ad gg tE mE le lf bs hcd hel _) ⟨callB_of 2 hT (tb_gd w782) rfl rfl rfl (hT _ w26) (hT _ w780) hAr_copyOf ⟨Nat.le_of_ble_eq_true rfl, Nat.le_of_ble_eq_true rfl⟩, (hT _ w781)⟩ (RWE.preS hE0 hZ hS (va_freeP (cx := [(le, .inl (cT 7, 15, .inr (.inr (.inr (.inr lf)))))]) hD hS hA [1] rfl) (hP.part (cx := [(le, .inl (cT 7, 15, .inr (.inr (.inr (.inr lf)))))]) [1] rfl) hK (hD.part (cx := [(le, .inl (cT 7, 15, .inr (.inr (.inr (.inr lf)))))]) [1] (by decide) rfl)) rfl rfl hl.1 rfl (lv_room (Nat.le_of_ble_eq_true rfl)) dAL_growb_37 ⟨Nat.le_of_ble_eq_true rfl, Nat.le_of_ble_eq_true rfl⟩) (fun u9 H locs hpu2 hP hD hS => ?_)
  obtain ⟨nqu2, rfl⟩ : ∃ q9, q9 = u9 := ⟨_, rfl⟩
  have hpu2 : True := hpu2
  have hP : va_P D vwCl ([(h, .inr (12, [.ref le, .int (nI 15), .int md])), (le, .inl (cT 7, 15, .inr (.inr (.inr (.inr lf))))), (nqu2, .inl (cT 7, 22, .inr (.inr (.inr (.inr (va_cpy lf (fun _ => none) 0 0 15))))))] ++ pg cds ad gg) _ := hP
  have hD : va_D A ([(h, .inr (12, [.ref le, .int (nI 15), .int md])), (le, .inl (cT 7, 15, .inr (.inr (.inr (.inr lf))))), (nqu2, .inl (cT 7, 22, .inr (.inr (.inr (.inr (va_cpy lf (fun _ => none) 0 0 15))))))] ++ pg cds ad gg) := hD
  refine W.eq (g2 := F0 m 40 ls [.ref nqu2, .ref h]) rfl ?_
  refine lv_dup_x1 hx hb dAL_growb_40 rfl rfl ?_
  refine va_put (D := D) (ci := 12) (v := .ref nqu2) (ty := .array (.object "java/lang/Object")) (C := R_AL) (T := T_AL) (N := 3) hx hb hT in_AL ty_AL ty_AL_ok m_AL hown hK hP hD hS 0 rfl rfl 0 (by decide) (hT _ w268) (fun _ h9 => h9) rfl (by decide +kernel) rfl rfl (Nat.le_of_ble_eq_true rfl) dAL_growb_41 (fun H locs hP hD hS => ?_)
  have hP : va_P D vwCl ([(h, .inr (12, [.ref nqu2, .int (nI 15), .int md])), (le, .inl (cT 7, 15, .inr (.inr (.inr (.inr lf))))), (nqu2, .inl (cT 7, 22, .inr (.inr (.inr (.inr (va_cpy lf (fun _ => none) 0 0 15))))))] ++ pg cds ad gg) _ := hP
  have hD : va_D A ([(h, .inr (12, [.ref nqu2, .int (nI 15), .int md])), (le, .inl (cT 7, 15, .inr (.inr (.inr (.inr lf))))), (nqu2, .inl (cT 7, 22, .inr (.inr (.inr (.inr (va_cpy lf (fun _ => none) 0 0 15))))))] ++ pg cds ad gg) := hD
  have hP9 : va_P D vwCl ([(h, .inr (12, [.ref nqu2, .int (nI 15), .int md])), (le, .inl (cT 7, 15, .inr (.inr (.inr (.inr lf))))), (nqu2, .inl (cT 7, 22, .inr (.inr (.inr (.inr (va_cpy lf (fun _ => none) 0 0 15))))))] ++ pg cds ad gg) _ := hP.part (cx := [(h, .inr (12, [.ref nqu2, .int (nI 15), .int md])), (le, .inl (cT 7, 15, .inr (.inr (.inr (.inr lf))))), (nqu2, .inl (cT 7, 22, .inr (.inr (.inr (.inr (va_cpy lf (fun _ => none) 0 0 15))))))]) [0, 1, 2] rfl
  have hD9 : va_D A ([(h, .inr (12, [.ref nqu2, .int (nI 15), .int md])), (le, .inl (cT 7, 15, .inr (.inr (.inr (.inr lf))))), (nqu2, .inl (cT 7, 22, .inr (.inr (.inr (.inr (va_cpy lf (fun _ => none) 0 0 15))))))] ++ pg cds ad gg) := hD.part (cx := [(h, .inr (12, [.ref nqu2, .int (nI 15), .int md])), (le, .inl (cT 7, 15, .inr (.inr (.inr (.inr lf))))), (nqu2, .inl (cT 7, 22, .inr (.inr (.inr (.inr (va_cpy lf (fun _ => none) 0 0 15))))))]) [0, 1, 2] (by decide) rfl
  refine W.widen (k := 1) (n := 22) (Nat.le_of_ble_eq_true rfl) (Nat.le_of_ble_eq_true rfl) ?_
  exact W.aret (v := .ref nqu2) hx hb hr (Or.inr ⟨_, rfl⟩) (Or.inr ⟨_, rfl⟩) (fun t9 ht9 hW9 => ⟨⟨nqu2, nqu2, rfl, (show True from trivial), rfl, by rw [ht9]; exact hP9, hD9⟩, hS.F ht9⟩) hS.2.2 dAL_growb_44
set_option maxHeartbeats 4000000 in
set_option maxRecDepth 100000 in
theorem k_alGrowT15 (l : Launch) (D : va_G) (cT : Nat → ClassId) (cds : List Nat) (ad : Nat → Nat) (gg : Nat → Option va_E) (tE : Nat) (mE : Nat) (h : Nat) (md : Int32) (le : Nat) (lf : Nat → Option Nat) (bs : Nat) (hcd : CD cds) (hel : ∀ k8, k8 < 15 → ∃ fs8 : List Value, bs + k8 < 8192 ∧ lf k8 = some (ad (bs + k8)) ∧ gg (bs + k8) = some (.inr (9, fs8))) (sz : Nat) : Met l yAL_grow WAL_grow ({ frames := 4, cells := 1, slots := 22, locals := 107 } : Room) (RWE tE mE D vwCl [.ref h] ([(h, .inr (12, [.ref le, .int (nI 15), .int md])), (le, .inl (cT 7, 15, .inr (.inr (.inr (.inr lf)))))] ++ pg cds ad gg) (TY cT) sz) (va_Qr (fun u9 : Nat => True) (fun u9 q9 t9 => q9 = u9 ∧ BW D vwCl (va_A ([(h, .inr (12, [.ref le, .int (nI 15), .int md])), (le, .inl (cT 7, 15, .inr (.inr (.inr (.inr lf)))))] ++ pg cds ad gg) sz) (fun u9 : Nat => ([(h, .inr (12, [.ref u9, .int (nI 15), .int md])), (le, .inl (cT 7, 15, .inr (.inr (.inr (.inr lf))))), (u9, .inl (cT 7, 22, .inr (.inr (.inr (.inr (va_cpy lf (fun _ => none) 0 0 15))))))] ++ pg cds ad gg)) u9 t9) (va_A ([(h, .inr (12, [.ref le, .int (nI 15), .int md])), (le, .inl (cT 7, 15, .inr (.inr (.inr (.inr lf)))))] ++ pg cds ad gg) sz)) 1 22 (va_A ([(h, .inr (12, [.ref le, .int (nI 15), .int md])), (le, .inl (cT 7, 15, .inr (.inr (.inr (.inr lf)))))] ++ pg cds ad gg) sz) := by
  refine Met.ofW (cc := cAL_grow) (maxL := 1) (ret := (some (.array (.object "java/lang/Object")))) (by decide) rfl ?_
  intro p e s m args below meth c s₁ B hml hv
  obtain ⟨rfl, ⟨hsz, hZ, hP, hK, hD0⟩, hE0⟩ := hv
  have hx := B.exec
  have hb := B.bytes
  have hr := B.returns
  have hts := atoms_spec (ws := WAL_grow) B.pre
  have hT : ∀ w ∈ TB, w.before _ s = true := fun w h => hts w (List.mem_cons_of_mem _ h)
  have hown : s.vm.findClass R_AL = some m.cls := findClass_of_methodNamed B.named
  have hlocks := B.notSynchronized
  subst hsz
  have hD := hD0.self (sz := s.heap.size)
  generalize hAe : va_A ([(h, .inr (12, [.ref le, .int (nI 15), .int md])), (le, .inl (cT 7, 15, .inr (.inr (.inr (.inr lf)))))] ++ pg cds ad gg) s.heap.size = A at hD hZ hE0 ⊢
  have hA : ∀ q : Nat, s.heap.size ≤ q → A q := fun q h => by rw [← hAe]; exact Or.inr h
  have hS : va_S A s.heap s.heap [] := va_S.rf
  have hl := lv_entry ([.ref h]) (n := 1) (Nat.le_of_ble_eq_true rfl)
  rw [lg_entry_eq]
  generalize (lg_sl ([.ref h]) ++ List.replicate (1 - (lg_sl ([.ref h])).length) Slot.unset).toArray = ls at hl ⊢
  have hl : lv_has ls 1 [(0, .ref h)] := hl
  refine lv_aload_n hx hb dAL_grow_0 rfl (lv_at hl 0 rfl) ?_
  refine lv_aload_n hx hb dAL_grow_1 rfl (lv_at hl 0 rfl) ?_
  refine va_get (D := D) (ci := 12) (v := .int (nI 15)) (C := R_AL) (T := T_AL) (N := 3) hx hb hT in_AL hown hK hP 0 rfl rfl 1 (by decide) (hT _ w269) (fun _ h9 => h9) rfl dAL_grow_2 ?_
  refine lv_iconst (v := 1) hx hb dAL_grow_5 (by decide) ?_
  refine lv_iadd hx hb dAL_grow_6 ?_
  refine lv_topi (fun y9 e9 => ?_)
  cases (show y9 = 16 from e9.trans (by decide))
  refine hy_rP (X := [(h, .inr (12, [.ref le, .int (nI 15), .int md])), (le, .inl (cT 7, 15, .inr (.inr (.inr (.inr lf)))))]) (pl := pg cds ad gg) (cx := [(h, .inr (12, [.ref le, .int (nI 15), .int md])), (le, .inl (cT 7, 15, .inr (.inr (.inr (.inr lf)))))]) (wr := []) hP hD hS hA [0, 1] [] rfl rfl (by decide) (by decide) (va_runV (As := [.int 16]) (rest := []) ⟨hx, hb, hml, hown, hT⟩ (k_alGrowbT15 l D cT cds ad gg tE mE h md le lf bs hcd hel _) ⟨callB_of 1 hT (tb_gd w769) rfl rfl rfl (hT _ w11) (hT _ w766) hAL_growb ⟨Nat.le_of_ble_eq_true rfl, Nat.le_of_ble_eq_true rfl⟩, (hT _ w768), (hT _ wp11)⟩ (RWE.preV (ci := 12) (q0 := 0) hE0 hZ hS (va_freeP (cx := [(h, .inr (12, [.ref le, .int (nI 15), .int md])), (le, .inl (cT 7, 15, .inr (.inr (.inr (.inr lf)))))]) hD hS hA [0, 1] rfl) (hP.part (cx := [(h, .inr (12, [.ref le, .int (nI 15), .int md])), (le, .inl (cT 7, 15, .inr (.inr (.inr (.inr lf)))))]) [0, 1] rfl) hK (hD.part (cx := [(h, .inr (12, [.ref le, .int (nI 15), .int md])), (le, .inl (cT 7, 15, .inr (.inr (.inr (.inr lf)))))]) [0, 1] (by decide) rfl) rfl rfl) rfl rfl hl.1 rfl (lv_room (Nat.le_of_ble_eq_true rfl)) dAL_grow_7 ⟨Nat.le_of_ble_eq_true rfl, Nat.le_of_ble_eq_true rfl⟩) (fun u9 H locs hpu1 hP hD hS => ?_)
  obtain ⟨nqu1, rfl⟩ : ∃ q9, q9 = u9 := ⟨_, rfl⟩
  have hpu1 : True := hpu1
  have hP : va_P D vwCl ([(h, .inr (12, [.ref nqu1, .int (nI 15), .int md])), (le, .inl (cT 7, 15, .inr (.inr (.inr (.inr lf))))), (nqu1, .inl (cT 7, 22, .inr (.inr (.inr (.inr (va_cpy lf (fun _ => none) 0 0 15))))))] ++ pg cds ad gg) _ := hP
  have hD : va_D A ([(h, .inr (12, [.ref nqu1, .int (nI 15), .int md])), (le, .inl (cT 7, 15, .inr (.inr (.inr (.inr lf))))), (nqu1, .inl (cT 7, 22, .inr (.inr (.inr (.inr (va_cpy lf (fun _ => none) 0 0 15))))))] ++ pg cds ad gg) := hD
  refine W.eq (g2 := F0 m 10 ls [.ref nqu1]) rfl ?_
  have hP9 : va_P D vwCl ([(h, .inr (12, [.ref nqu1, .int (nI 15), .int md])), (le, .inl (cT 7, 15, .inr (.inr (.inr (.inr lf))))), (nqu1, .inl (cT 7, 22, .inr (.inr (.inr (.inr (va_cpy lf (fun _ => none) 0 0 15))))))] ++ pg cds ad gg) _ := hP.part (cx := [(h, .inr (12, [.ref nqu1, .int (nI 15), .int md])), (le, .inl (cT 7, 15, .inr (.inr (.inr (.inr lf))))), (nqu1, .inl (cT 7, 22, .inr (.inr (.inr (.inr (va_cpy lf (fun _ => none) 0 0 15))))))]) [0, 1, 2] rfl
  have hD9 : va_D A ([(h, .inr (12, [.ref nqu1, .int (nI 15), .int md])), (le, .inl (cT 7, 15, .inr (.inr (.inr (.inr lf))))), (nqu1, .inl (cT 7, 22, .inr (.inr (.inr (.inr (va_cpy lf (fun _ => none) 0 0 15))))))] ++ pg cds ad gg) := hD.part (cx := [(h, .inr (12, [.ref nqu1, .int (nI 15), .int md])), (le, .inl (cT 7, 15, .inr (.inr (.inr (.inr lf))))), (nqu1, .inl (cT 7, 22, .inr (.inr (.inr (.inr (va_cpy lf (fun _ => none) 0 0 15))))))]) [0, 1, 2] (by decide) rfl
  refine W.widen (k := 1) (n := 22) (Nat.le_of_ble_eq_true rfl) (Nat.le_of_ble_eq_true rfl) ?_
  exact W.aret (v := .ref nqu1) hx hb hr (Or.inr ⟨_, rfl⟩) (Or.inr ⟨_, rfl⟩) (fun t9 ht9 hW9 => ⟨⟨nqu1, nqu1, rfl, (show True from trivial), rfl, by rw [ht9]; exact hP9, hD9⟩, hS.F ht9⟩) hS.2.2 dAL_grow_10
set_option maxHeartbeats 4000000 in
set_option maxRecDepth 100000 in
theorem k_alGrowb0 (l : Launch) (D : va_G) (cT : Nat → ClassId) (tE : Nat) (mE : Nat) (h : Nat) (md : Int32) (sz : Nat) : Met l yAL_growb WAL_growb ({ frames := 1, cells := 1, slots := 10, locals := 21 } : Room) (RWE tE mE D vwCl [.ref h, .int 1] [(h, .inr (12, [.ref tE, .int (nI 0), .int md]))] (TY cT) sz) (va_Qr (fun u9 : Nat => True) (fun u9 q9 t9 => q9 = u9 ∧ BW D vwCl (va_A [(h, .inr (12, [.ref tE, .int (nI 0), .int md]))] sz) (fun u9 : Nat => [(h, .inr (12, [.ref u9, .int (nI 0), .int md])), (u9, .inl (cT 7, 10, .inr (.inr (.inr (.inr (fun _ => none))))))]) u9 t9) (va_A [(h, .inr (12, [.ref tE, .int (nI 0), .int md]))] sz)) 1 10 (va_A [(h, .inr (12, [.ref tE, .int (nI 0), .int md]))] sz) := by
  refine Met.ofW (cc := cAL_growb) (maxL := 4) (ret := (some (.array (.object "java/lang/Object")))) (by decide) rfl ?_
  intro p e s m args below meth c s₁ B hml hv
  obtain ⟨rfl, ⟨hsz, hZ, hP, hK, hD0⟩, hE0⟩ := hv
  have hx := B.exec
  have hb := B.bytes
  have hr := B.returns
  have hts := atoms_spec (ws := WAL_growb) B.pre
  have hT : ∀ w ∈ TB, w.before _ s = true := fun w h => hts w (List.mem_cons_of_mem _ h)
  have hown : s.vm.findClass R_AL = some m.cls := findClass_of_methodNamed B.named
  have hlocks := B.notSynchronized
  subst hsz
  have hD := hD0.self (sz := s.heap.size)
  generalize hAe : va_A [(h, .inr (12, [.ref tE, .int (nI 0), .int md]))] s.heap.size = A at hD hZ hE0 ⊢
  have hA : ∀ q : Nat, s.heap.size ≤ q → A q := fun q h => by rw [← hAe]; exact Or.inr h
  have hS : va_S A s.heap s.heap [] := va_S.rf
  have hl := lv_entry ([.ref h, .int 1]) (n := 4) (Nat.le_of_ble_eq_true rfl)
  rw [lg_entry_eq]
  generalize (lg_sl ([.ref h, .int 1]) ++ List.replicate (4 - (lg_sl ([.ref h, .int 1])).length) Slot.unset).toArray = ls at hl ⊢
  have hl : lv_has ls 4 [(0, .ref h), (1, .int 1)] := hl
  refine lv_aload_n hx hb dAL_growb_0 rfl (lv_at hl 0 rfl) ?_
  refine va_get (D := D) (ci := 12) (v := .ref tE) (C := R_AL) (T := T_AL) (N := 3) hx hb hT in_AL hown hK hP 0 rfl rfl 0 (by decide) (hT _ w268) (fun _ h9 => h9) rfl dAL_growb_1 ?_
  refine va_tlen (v := 0) hx hb hE0.2.1 hS rfl dAL_growb_4 ?_
  refine lv_istore_n hx hb dAL_growb_5 rfl hl (by decide) rfl (fun ls hl => ?_)
  have hl : lv_has ls 4 [(2, .int 0), (0, .ref h), (1, .int 1)] := hl
  refine lv_iload_n hx hb dAL_growb_6 rfl (lv_at hl 0 rfl) ?_
  refine lv_if_gt (tgt := 20) hx hb dAL_growb_7 rfl (fun h1 => absurd h1 (by decide)) (fun _ => ?_)
  refine lv_aload_n hx hb dAL_growb_10 rfl (lv_at hl 1 rfl) ?_
  refine va_get (D := D) (ci := 12) (v := .ref tE) (C := R_AL) (T := T_AL) (N := 3) hx hb hT in_AL hown hK hP 0 rfl rfl 0 (by decide) (hT _ w268) (fun _ h9 => h9) rfl dAL_growb_11 ?_
  refine va_gets hx hb hE0.1 hS hown (hT _ w266) (fun _ h => h) dAL_growb_14 ?_
  refine lv_acmp_eq (rx := some tE) (ry := some tE) (tgt := 45) hx hb dAL_growb_17 rfl (fun _ => ?_) (fun q9 => absurd rfl q9)
  refine lv_aload_n hx hb dAL_growb_45 rfl (lv_at hl 1 rfl) ?_
  refine lv_bipush (v := 10) hx hb dAL_growb_46 (by decide) ?_
  refine lv_iload_n hx hb dAL_growb_48 rfl (lv_at hl 2 rfl) ?_
  refine va_mmax hx hb (hml.trans hl.1.symm) hown (hT _ w810) (hT _ w774) (hT _ w22) (hT _ w775) (Nat.le_of_ble_eq_true rfl) (Nat.le_of_ble_eq_true rfl) (Nat.le_of_ble_eq_true rfl) (Nat.le_of_ble_eq_true rfl) dAL_growb_49 ?_
  refine lv_topi (fun y9 e9 => ?_)
  cases (show y9 = nI (max 10 1) from e9.trans (mmax_nI (a := 10) (b := 1) (by omega) (by omega)))
  refine lv_topi (fun y9 e9 => ?_)
  cases (show y9 = 10 from e9.trans (by decide))
  refine nw_q (C := "java/lang/Object") (N' := 10) hx hb hown (hT _ w811) (hZ.1.2.2.2.1 "java/lang/Object" (List.mem_of_getElem? (i := 3) rfl)) hK hP hD hS hA 7 rfl (by decide +kernel) (by decide +kernel) (by decide +kernel) (Nat.le_of_ble_eq_true rfl) (Nat.le_of_ble_eq_true rfl) dAL_growb_52 (fun q52 H hP hD hS => ?_)
  have hP : va_P D vwCl [(h, .inr (12, [.ref tE, .int (nI 0), .int md])), (q52, .inl (cT 7, 10, .inr (.inr (.inr (.inr (fun _ => none))))))] _ := hP
  have hD : va_D A [(h, .inr (12, [.ref tE, .int (nI 0), .int md])), (q52, .inl (cT 7, 10, .inr (.inr (.inr (.inr (fun _ => none))))))] := hD
  refine lv_dup_x1 hx hb dAL_growb_55 rfl rfl ?_
  refine va_put (D := D) (ci := 12) (v := .ref q52) (ty := .array (.object "java/lang/Object")) (C := R_AL) (T := T_AL) (N := 3) hx hb hT in_AL ty_AL ty_AL_ok m_AL hown hK hP hD hS 0 rfl rfl 0 (by decide) (hT _ w268) (fun _ h9 => h9) rfl (by decide +kernel) rfl rfl (Nat.le_of_ble_eq_true rfl) dAL_growb_56 (fun H locs hP hD hS => ?_)
  have hP : va_P D vwCl [(h, .inr (12, [.ref q52, .int (nI 0), .int md])), (q52, .inl (cT 7, 10, .inr (.inr (.inr (.inr (fun _ => none))))))] _ := hP
  have hD : va_D A [(h, .inr (12, [.ref q52, .int (nI 0), .int md])), (q52, .inl (cT 7, 10, .inr (.inr (.inr (.inr (fun _ => none))))))] := hD
  have hP9 := hP.sub (ws' := [(h, .inr (12, [.ref q52, .int (nI 0), .int md])), (q52, .inl (cT 7, 10, .inr (.inr (.inr (.inr (fun _ => none))))))]) [0, 1] rfl
  have hD9 := hD.sub (ws' := [(h, .inr (12, [.ref q52, .int (nI 0), .int md])), (q52, .inl (cT 7, 10, .inr (.inr (.inr (.inr (fun _ => none))))))]) [0, 1] (by decide) rfl
  refine W.widen (k := 1) (n := 10) (Nat.le_of_ble_eq_true rfl) (Nat.le_of_ble_eq_true rfl) ?_
  exact W.aret (v := .ref q52) hx hb hr (Or.inr ⟨_, rfl⟩) (Or.inr ⟨_, rfl⟩) (fun t9 ht9 hW9 => ⟨⟨q52, q52, rfl, (show True from trivial), rfl, by rw [ht9]; exact hP9, hD9⟩, hS.F ht9⟩) hS.2.2 dAL_growb_59
set_option maxHeartbeats 4000000 in
set_option maxRecDepth 100000 in
theorem k_alGrow0 (l : Launch) (D : va_G) (cT : Nat → ClassId) (tE : Nat) (mE : Nat) (h : Nat) (md : Int32) (sz : Nat) : Met l yAL_grow WAL_grow ({ frames := 2, cells := 1, slots := 10, locals := 44 } : Room) (RWE tE mE D vwCl [.ref h] [(h, .inr (12, [.ref tE, .int (nI 0), .int md]))] (TY cT) sz) (va_Qr (fun u9 : Nat => True) (fun u9 q9 t9 => q9 = u9 ∧ BW D vwCl (va_A [(h, .inr (12, [.ref tE, .int (nI 0), .int md]))] sz) (fun u9 : Nat => [(h, .inr (12, [.ref u9, .int (nI 0), .int md])), (u9, .inl (cT 7, 10, .inr (.inr (.inr (.inr (fun _ => none))))))]) u9 t9) (va_A [(h, .inr (12, [.ref tE, .int (nI 0), .int md]))] sz)) 1 10 (va_A [(h, .inr (12, [.ref tE, .int (nI 0), .int md]))] sz) := by
  refine Met.ofW (cc := cAL_grow) (maxL := 1) (ret := (some (.array (.object "java/lang/Object")))) (by decide) rfl ?_
  intro p e s m args below meth c s₁ B hml hv
  obtain ⟨rfl, ⟨hsz, hZ, hP, hK, hD0⟩, hE0⟩ := hv
  have hx := B.exec
  have hb := B.bytes
  have hr := B.returns
  have hts := atoms_spec (ws := WAL_grow) B.pre
  have hT : ∀ w ∈ TB, w.before _ s = true := fun w h => hts w (List.mem_cons_of_mem _ h)
  have hown : s.vm.findClass R_AL = some m.cls := findClass_of_methodNamed B.named
  have hlocks := B.notSynchronized
  subst hsz
  have hD := hD0.self (sz := s.heap.size)
  generalize hAe : va_A [(h, .inr (12, [.ref tE, .int (nI 0), .int md]))] s.heap.size = A at hD hZ hE0 ⊢
  have hA : ∀ q : Nat, s.heap.size ≤ q → A q := fun q h => by rw [← hAe]; exact Or.inr h
  have hS : va_S A s.heap s.heap [] := va_S.rf
  have hl := lv_entry ([.ref h]) (n := 1) (Nat.le_of_ble_eq_true rfl)
  rw [lg_entry_eq]
  generalize (lg_sl ([.ref h]) ++ List.replicate (1 - (lg_sl ([.ref h])).length) Slot.unset).toArray = ls at hl ⊢
  have hl : lv_has ls 1 [(0, .ref h)] := hl
  refine lv_aload_n hx hb dAL_grow_0 rfl (lv_at hl 0 rfl) ?_
  refine lv_aload_n hx hb dAL_grow_1 rfl (lv_at hl 0 rfl) ?_
  refine va_get (D := D) (ci := 12) (v := .int (nI 0)) (C := R_AL) (T := T_AL) (N := 3) hx hb hT in_AL hown hK hP 0 rfl rfl 1 (by decide) (hT _ w269) (fun _ h9 => h9) rfl dAL_grow_2 ?_
  refine lv_iconst (v := 1) hx hb dAL_grow_5 (by decide) ?_
  refine lv_iadd hx hb dAL_grow_6 ?_
  refine lv_topi (fun y9 e9 => ?_)
  cases (show y9 = 1 from e9.trans (by decide))
  refine rx_r (wc := [(h, .inr (12, [.ref tE, .int (nI 0), .int md]))]) (wr := []) hP hD hS hA [0] [] rfl rfl (by decide) (by decide) (va_runV (As := [.int 1]) (rest := []) ⟨hx, hb, hml, hown, hT⟩ (k_alGrowb0 l D cT tE mE h md _) ⟨callB_of 1 hT (tb_gd w769) rfl rfl rfl (hT _ w11) (hT _ w766) hAL_growb ⟨Nat.le_of_ble_eq_true rfl, Nat.le_of_ble_eq_true rfl⟩, (hT _ w768), (hT _ wp11)⟩ (RWE.preV (ci := 12) (q0 := 0) hE0 hZ hS (va_free (wc := [(h, .inr (12, [.ref tE, .int (nI 0), .int md]))]) hD hS hA [0] rfl) (hP.sub (ws' := [(h, .inr (12, [.ref tE, .int (nI 0), .int md]))]) [0] rfl) hK (hD.sub (ws' := [(h, .inr (12, [.ref tE, .int (nI 0), .int md]))]) [0] (by decide) rfl) rfl rfl) rfl rfl hl.1 rfl (lv_room (Nat.le_of_ble_eq_true rfl)) dAL_grow_7 ⟨Nat.le_of_ble_eq_true rfl, Nat.le_of_ble_eq_true rfl⟩) (fun u9 H locs hpu1 hP hD hS => ?_)
  obtain ⟨nqu1, rfl⟩ : ∃ q9, q9 = u9 := ⟨_, rfl⟩
  have hpu1 : True := hpu1
  have hP : va_P D vwCl [(h, .inr (12, [.ref nqu1, .int (nI 0), .int md])), (nqu1, .inl (cT 7, 10, .inr (.inr (.inr (.inr (fun _ => none))))))] _ := hP
  have hD : va_D A [(h, .inr (12, [.ref nqu1, .int (nI 0), .int md])), (nqu1, .inl (cT 7, 10, .inr (.inr (.inr (.inr (fun _ => none))))))] := hD
  refine W.eq (g2 := F0 m 10 ls [.ref nqu1]) rfl ?_
  have hP9 := hP.sub (ws' := [(h, .inr (12, [.ref nqu1, .int (nI 0), .int md])), (nqu1, .inl (cT 7, 10, .inr (.inr (.inr (.inr (fun _ => none))))))]) [0, 1] rfl
  have hD9 := hD.sub (ws' := [(h, .inr (12, [.ref nqu1, .int (nI 0), .int md])), (nqu1, .inl (cT 7, 10, .inr (.inr (.inr (.inr (fun _ => none))))))]) [0, 1] (by decide) rfl
  refine W.widen (k := 1) (n := 10) (Nat.le_of_ble_eq_true rfl) (Nat.le_of_ble_eq_true rfl) ?_
  exact W.aret (v := .ref nqu1) hx hb hr (Or.inr ⟨_, rfl⟩) (Or.inr ⟨_, rfl⟩) (fun t9 ht9 hW9 => ⟨⟨nqu1, nqu1, rfl, (show True from trivial), rfl, by rw [ht9]; exact hP9, hD9⟩, hS.F ht9⟩) hS.2.2 dAL_grow_10
