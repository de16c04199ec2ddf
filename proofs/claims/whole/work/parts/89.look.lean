/-! Contracts that know which array the list's static empty array is (address tE). -/
section ZEs
variable {s : State} {H : Heap} {locs : List Loc} {D : va_G} {cl : List vw_C} {tys : List (ClassId × FieldType)} {WS w0 : va_W} {A A0 : Nat → Prop} {As : List Value} {b : Addr} {sz tE mE : Nat}
def ZE (tE mE : Nat) (A : Nat → Prop) (U : State) (H : Heap) : Prop := va_Z "java/util/ArrayList" "DEFAULTCAPACITY_EMPTY_ELEMENTDATA" "[Ljava/lang/Object;" (.ref tE) A U H ∧ va_T (.object "java/lang/Object") tE 0 (fun _ => .null) A U H ∧ va_Mi "[Ljava/lang/Object;" mE U
theorem ZE.moved {u U : State} (hvm : u.vm.Alike U.vm) (h : ZE tE mE A u H) : ZE tE mE A U H := ⟨h.1.moved hvm, h.2.1.moved hvm, h.2.2.moved hvm⟩
theorem ZE.kept {U : State} {H1 : Heap} (h : ZE tE mE A U H) (hq : ∀ a : Nat, a < H.size → ¬ A a → H1[a]? = H[a]?) : ZE tE mE A U H1 := ⟨h.1.kept hq, h.2.1.kept hq, h.2.2⟩
theorem ZE.narrow {B : Nat → Prop} {U : State} (h : ZE tE mE A U H) (hAB : ∀ q, B q → A q) : ZE tE mE B U H := ⟨h.1.narrow hAB, h.2.1.narrow hAB, h.2.2⟩
theorem ze_of {U : State} (h : ZZ A U H) (hM : va_Mi "[Ljava/lang/Object;" mE U) : ∃ tE, ZE tE mE A U H := by
  obtain ⟨t, h1, h2⟩ := h.2.2.2.2
  exact ⟨t, h1, h2, hM⟩
def RWE (tE mE : Nat) (D : va_G) (cl : List vw_C) (av : List Value) (WS : va_W) (tys : List (ClassId × FieldType)) (sz : Nat) : Array Value → State → Prop := va_Pc av (fun U => (U.heap.size = sz ∧ ZZ (va_A WS sz) U U.heap ∧ va_P D cl WS U.heap ∧ va_K D cl tys U ∧ va_D (fun _ => True) WS) ∧ ZE tE mE (va_A WS sz) U U.heap)
theorem RWE.blind {av : List Value} : FrameBlind (RWE tE mE D cl av WS tys sz) := fun a U g mk q => ⟨q.1, ⟨q.2.1.1, q.2.1.2.1.call g mk a, q.2.1.2.2.1, va_K.moved (u := U) (U := U.calling g mk a) (Vm.Alike.refl U.vm) q.2.1.2.2.2.1, q.2.1.2.2.2.2⟩, q.2.2.moved (u := U) (U := U.calling g mk a) (Vm.Alike.refl U.vm)⟩
theorem ZE.at {B : Nat → Prop} {U : State} (h : ZE tE mE A s s.heap) (hS : va_S A s.heap H locs) (hB : ∀ q, B q → A q) (hU : U.heap = H) (hW : s.WarmedH U.vm) : ZE tE mE B U U.heap := by
  rw [hU]; exact ((h.kept hS.2.1).narrow hB).moved hW.alike
theorem RWE.preS (hE : ZE tE mE A s s.heap) (hZ : ZZ A s s.heap) (hS : va_S A s.heap H locs) (hB : ∀ q, va_A WS H.size q → A q) (hP : va_P D cl WS H) (hK : va_K D cl tys s) (hD : va_D A0 WS) : PreS s H (RWE tE mE D cl As WS tys H.size) As := ⟨RWE.blind, fun U hU hW => ⟨rfl, ⟨by rw [hU], hZ.at hS hB hU hW, by rw [hU]; exact hP, va_K.moved hW.alike hK, hD.weaken (fun _ _ _ _ => trivial)⟩, hE.at hS hB hU hW⟩⟩
theorem RWE.preW {ci q0 : Nat} {q : vw_C} {fs : List Value} (hE : ZE tE mE A s s.heap) (hZ : ZZ A s s.heap) (hS : va_S A s.heap H locs) (hB : ∀ q, va_A WS H.size q → A q) (hP : va_P D cl WS H) (hK : va_K D cl tys s) (hD : va_D A0 WS) (hP0 : va_P D cl w0 H) (hc : cl[ci]? = some q) (he : w0[q0]? = some (b, .inr (ci, fs))) : PreV s H q.1 b (RWE tE mE D cl (.ref b :: As) WS tys H.size) As :=
  ⟨RWE.blind, va_recv hK hP0 hc he, fun U hU hW => ⟨rfl, ⟨by rw [hU], hZ.at hS hB hU hW, by rw [hU]; exact hP, va_K.moved hW.alike hK, hD.weaken (fun _ _ _ _ => trivial)⟩, hE.at hS hB hU hW⟩⟩
theorem RWE.preV {ci q0 : Nat} {q : vw_C} {fs : List Value} (hE : ZE tE mE A s s.heap) (hZ : ZZ A s s.heap) (hS : va_S A s.heap H locs) (hB : ∀ q, va_A WS H.size q → A q) (hP : va_P D cl WS H) (hK : va_K D cl tys s) (hD : va_D A0 WS) (hc : cl[ci]? = some q) (he : WS[q0]? = some (b, .inr (ci, fs))) : PreV s H q.1 b (RWE tE mE D cl (.ref b :: As) WS tys H.size) As := RWE.preW hE hZ hS hB hP hK hD hP hc he
/-- the static has one value -/
theorem ze_one {t1 t2 m1 m2 : Nat} {A1 A2 : Nat → Prop} {U : State} (h1 : ZE t1 m1 A1 U H) (h2 : ZE t2 m2 A2 U H) : t1 = t2 := by
  obtain ⟨cf, kf, fi, f, a, cell, x1, x2⟩ := h1.1
  obtain ⟨cf', kf', fi', f', a', cell', y1, y2⟩ := h2.1
  cases x1.symm.trans y1
  simp_all
variable {p : Program} {l : Launch} {e : Env} {R : Room} {m : MethodId} {args : Array Value} {below : List Frame} {meth : Method} {c : Code} {H0 : Heap} {cells slots mc ms pc : Nat} {Q : State → Prop}
variable {ls : Array Slot} {rest st0 : List Value} {ws wc wr cx X pl : va_W} {a : Array Value}
/-- calls of a method that returns a cell (its address a function of what it makes known) -/
theorem rx_r {S : Type} {post : S → Prop} {WP : S → va_W} {ρ : S → Nat} (hP : va_P D cl ws H) (hD : va_D A0 ws) (hS : va_S A0 H0 H locs) (hA : ∀ q, H0.size ≤ q → A0 q) (isC isR : List Nat) (hC : isC.map (fun i => ws[i]?) = wc.map some) (hR : isR.map (fun i => ws[i]?) = wr.map some) (hn : va_nd isR = true) (hdis : ∀ i ∈ isR, i ∉ isC)
    (hr : va_Run p l e R s m args below meth c H locs cells slots mc ms (F0 m pc ls st0) rest (va_Qr post (fun u q t => q = ρ u ∧ BW D cl (va_A wc H.size) WP u t) (va_A wc H.size) a) (va_A wc H.size))
    (kk : ∀ (u : S) (H1 : Heap) (locs1 : List Loc), post u → va_P D cl (wr ++ WP u) H1 → va_D A0 (wr ++ WP u) → va_S A0 H0 H1 locs1 → W p l e R s m args below meth c H1 locs1 (cells + mc) (slots + ms) Q (F0 m (pc + 3) ls (.ref (ρ u) :: rest))) :
    W p l e R s m args below meth c H locs cells slots Q (F0 m pc ls st0) := by
  have hFc := va_free hD hS hA isC hC
  refine va_callr hr hS (fun q _ h => hFc q h) hFc (fun u q t H1 locs1 ht hvm hp hB hz1 hk1 hS1 => ?_)
  obtain ⟨hq, hP1, hD1⟩ := hB
  rw [ht] at hP1
  obtain ⟨hP2, hD2⟩ := va_join hP hD isC isR hC hR hn hdis hk1 hFc hP1 hD1
  rw [hq]
  exact kk u H1 locs1 hp hP2 hD2 hS1
theorem hy_rP {S : Type} {post : S → Prop} {rx pl1 : S → va_W} {ρ : S → Nat} (hP : va_P D cl (X ++ pl) H) (hD : va_D A0 (X ++ pl)) (hS : va_S A0 H0 H locs) (hA : ∀ q, H0.size ≤ q → A0 q) (isC isR : List Nat) (hC : isC.map (fun i => X[i]?) = cx.map some) (hR : isR.map (fun i => X[i]?) = wr.map some) (hn : va_nd isR = true) (hdis : ∀ i ∈ isR, i ∉ isC)
    (hr : va_Run p l e R s m args below meth c H locs cells slots mc ms (F0 m pc ls st0) rest (va_Qr post (fun u q t => q = ρ u ∧ BW D cl (va_A (cx ++ pl) H.size) (fun u => rx u ++ pl1 u) u t) (va_A (cx ++ pl) H.size) a) (va_A (cx ++ pl) H.size))
    (kk : ∀ (u : S) (H1 : Heap) (locs1 : List Loc), post u → va_P D cl ((wr ++ rx u) ++ pl1 u) H1 → va_D A0 ((wr ++ rx u) ++ pl1 u) → va_S A0 H0 H1 locs1 → W p l e R s m args below meth c H1 locs1 (cells + mc) (slots + ms) Q (F0 m (pc + 3) ls (.ref (ρ u) :: rest))) :
    W p l e R s m args below meth c H locs cells slots Q (F0 m pc ls st0) := by
  have hFc := va_freeP hD hS hA isC hC
  refine va_callr hr hS (fun q _ h => hFc q h) hFc (fun u q t H1 locs1 ht hvm hp hB hz1 hk1 hS1 => ?_)
  obtain ⟨hq, hP1, hD1⟩ := hB
  rw [ht] at hP1
  obtain ⟨hP2, hD2⟩ := va_joinP hP hD isC isR hC hR hn hdis hk1 hFc hP1 hD1
  rw [hq]
  exact kk u H1 locs1 hp hP2 hD2 hS1
theorem hy_rQ {S : Type} {post : S → Prop} {WP : S → va_W} {ρ : S → Nat} (hP : va_P D cl (X ++ pl) H) (hD : va_D A0 (X ++ pl)) (hS : va_S A0 H0 H locs) (hA : ∀ q, H0.size ≤ q → A0 q) (isC isR : List Nat) (hC : isC.map (fun i => X[i]?) = cx.map some) (hR : isR.map (fun i => X[i]?) = wr.map some) (hn : va_nd isR = true) (hdis : ∀ i ∈ isR, i ∉ isC)
    (hr : va_Run p l e R s m args below meth c H locs cells slots mc ms (F0 m pc ls st0) rest (va_Qr post (fun u q t => q = ρ u ∧ BW D cl (va_A cx H.size) WP u t) (va_A cx H.size) a) (va_A cx H.size))
    (kk : ∀ (u : S) (H1 : Heap) (locs1 : List Loc), post u → va_P D cl ((wr ++ WP u) ++ pl) H1 → va_D A0 ((wr ++ WP u) ++ pl) → va_S A0 H0 H1 locs1 → W p l e R s m args below meth c H1 locs1 (cells + mc) (slots + ms) Q (F0 m (pc + 3) ls (.ref (ρ u) :: rest))) :
    W p l e R s m args below meth c H locs cells slots Q (F0 m pc ls st0) := by
  have hFc : ∀ q, va_A cx H.size q → A0 q := hy_free hD hS hA isC hC
  refine va_callr hr hS (fun q _ h => hFc q h) hFc (fun u q t H1 locs1 ht hvm hp hB hz1 hk1 hS1 => ?_)
  obtain ⟨hq, hP1, hD1⟩ := hB
  rw [ht] at hP1
  obtain ⟨hP2, hD2⟩ := va_joinQ hP hD isC isR hC hR hn hdis hk1 hFc hP1 hD1
  rw [hq]
  exact kk u H1 locs1 hp hP2 hD2 hS1
end ZEs
theorem asg_of {s : State} {C E0 : String} (h : va_Nw (.castable C E0) s) (comp c0 : ClassId) (h1 : s.vm.findClass E0 = some comp) (h2 : s.vm.findClass C = some c0) : s.vm.assignable c0 comp = true := by
  obtain ⟨a0, t1, f1, f2, f3⟩ := Cond.castable_spec (va_Nw.use (A := #[]) rfl h)
  cases h1.symm.trans f2
  cases h2.symm.trans f1
  exact f3
theorem cpy_lt {α : Type} {f g : Nat → α} {n k : Nat} (h : k < n) : va_cpy f g 0 0 n k = f k := by
  unfold va_cpy
  rw [if_pos ⟨Nat.zero_le _, by omega⟩, Nat.zero_add, Nat.sub_zero]
theorem arr_cl {s : State} {H : Heap} {D : va_G} {cl : List vw_C} {a n : Nat} {cA : ClassId} {f : Nat → Option Nat} {ws : va_W} {tys : List (ClassId × FieldType)} (hK : va_K D cl tys s) (hP : va_P D cl ws H) (q0 t0 : Nat) (ha : ws[q0]? = some (a, .inl (cA, n, .inr (.inr (.inr (.inr f)))))) (ht : tys[t0]? = some (cA, .object "java/lang/Object")) : ∃ cell : Cell, H[a]? = some cell ∧ cell.vm.isStatics = false ∧ s.vm.findClass "[Ljava/lang/Object;" = some cell.cls := by
  refine ⟨_, hP q0 _ ha, rfl, ?_⟩
  exact va_nmO (hK.2 t0 _ ht).2 rfl
set_option maxHeartbeats 4000000 in
set_option maxRecDepth 100000 in
theorem k_arCopy3N10 (l : Launch) (D : va_G) (cT : Nat → ClassId) (cds : List Nat) (ad : Nat → Nat) (gg : Nat → Option va_E) (tE : Nat) (mE : Nat) (le : Nat) (lf : Nat → Option Nat) (bs : Nat) (hcd : CD cds) (hel : ∀ k8, k8 < 10 → ∃ fs8 : List Value, bs + k8 < 8192 ∧ lf k8 = some (ad (bs + k8)) ∧ gg (bs + k8) = some (.inr (10, fs8))) (sz : Nat) : Met l yAr_copyOf3 WAr_copyOf3 ({ frames := 1, cells := 1, slots := 15, locals := 40 } : Room) (RWE tE mE D vwCl [.ref le, .int 15, .ref mE] ([(le, .inl (cT 7, 10, .inr (.inr (.inr (.inr lf)))))] ++ pg cds ad gg) (TY cT) sz) (va_Qr (fun u9 : Nat => True) (fun u9 q9 t9 => q9 = u9 ∧ BW D vwCl (va_A ([(le, .inl (cT 7, 10, .inr (.inr (.inr (.inr lf)))))] ++ pg cds ad gg) sz) (fun u9 : Nat => ([(le, .inl (cT 7, 10, .inr (.inr (.inr (.inr lf))))), (u9, .inl (cT 7, 15, .inr (.inr (.inr (.inr (va_cpy lf (fun _ => none) 0 0 10))))))] ++ pg cds ad gg)) u9 t9) (va_A ([(le, .inl (cT 7, 10, .inr (.inr (.inr (.inr lf)))))] ++ pg cds ad gg) sz)) 1 15 (va_A ([(le, .inl (cT 7, 10, .inr (.inr (.inr (.inr lf)))))] ++ pg cds ad gg) sz) := by
  refine Met.ofW (cc := cAr_copyOf3) (maxL := 4) (ret := (some (.array (.object "java/lang/Object")))) (by decide) rfl ?_
  intro p e s m args below meth c s₁ B hml hv
  obtain ⟨rfl, ⟨hsz, hZ, hP, hK, hD0⟩, hE0⟩ := hv
  have hx := B.exec
  have hb := B.bytes
  have hr := B.returns
  have hts := atoms_spec (ws := WAr_copyOf3) B.pre
  have hT : ∀ w ∈ TB, w.before _ s = true := fun w h => hts w (List.mem_cons_of_mem _ h)
  have hown : s.vm.findClass R_Ar = some m.cls := findClass_of_methodNamed B.named
  have hlocks := B.notSynchronized
  subst hsz
  have hD := hD0.self (sz := s.heap.size)
  generalize hAe : va_A ([(le, .inl (cT 7, 10, .inr (.inr (.inr (.inr lf)))))] ++ pg cds ad gg) s.heap.size = A at hD hZ hE0 ⊢
  have hA : ∀ q : Nat, s.heap.size ≤ q → A q := fun q h => by rw [← hAe]; exact Or.inr h
  have hS : va_S A s.heap s.heap [] := va_S.rf
  have hl := lv_entry ([.ref le, .int 15, .ref mE]) (n := 4) (Nat.le_of_ble_eq_true rfl)
  rw [lg_entry_eq]
  generalize (lg_sl ([.ref le, .int 15, .ref mE]) ++ List.replicate (4 - (lg_sl ([.ref le, .int 15, .ref mE])).length) Slot.unset).toArray = ls at hl ⊢
  have hl : lv_has ls 4 [(0, .ref le), (1, .int 15), (2, .ref mE)] := hl
  refine lv_aload_n hx hb dAr_copyOf3_0 rfl (lv_at hl 2 rfl) ?_
  refine va_ldcM hx hb hown (hT _ w805) hE0.2.2 dAr_copyOf3_1 ?_
  refine lv_acmp_ne (rx := some mE) (ry := some mE) (tgt := 13) hx hb dAr_copyOf3_3 rfl (fun q9 => absurd rfl q9) (fun _ => ?_)
  refine lv_iload_n hx hb dAr_copyOf3_6 rfl (lv_at hl 1 rfl) ?_
  refine nw_q (C := "java/lang/Object") (N' := 15) hx hb hown (hT _ w807) (hZ.1.2.2.2.1 "java/lang/Object" (List.mem_of_getElem? (i := 3) rfl)) hK hP hD hS hA 7 rfl (by decide +kernel) (by decide +kernel) (by decide +kernel) (Nat.le_of_ble_eq_true rfl) (Nat.le_of_ble_eq_true rfl) dAr_copyOf3_7 (fun q7 H hP hD hS => ?_)
  have hP := hy_push hP
  have hD := hy_pushD hD
  have hP : va_P D vwCl ([(le, .inl (cT 7, 10, .inr (.inr (.inr (.inr lf))))), (q7, .inl (cT 7, 15, .inr (.inr (.inr (.inr (fun _ => none))))))] ++ pg cds ad gg) _ := hP
  have hD : va_D A ([(le, .inl (cT 7, 10, .inr (.inr (.inr (.inr lf))))), (q7, .inl (cT 7, 15, .inr (.inr (.inr (.inr (fun _ => none))))))] ++ pg cds ad gg) := hD
  refine lv_goto (tgt := 24) hx hb dAr_copyOf3_10 rfl ?_
  refine lv_astore_n hx hb dAr_copyOf3_24 rfl hl (by decide) rfl (fun ls hl => ?_)
  have hl : lv_has ls 4 [(3, .ref q7), (0, .ref le), (1, .int 15), (2, .ref mE)] := hl
  refine lv_aload_n hx hb dAr_copyOf3_25 rfl (lv_at hl 1 rfl) ?_
  refine lv_iconst (v := 0) hx hb dAr_copyOf3_26 (by decide) ?_
  refine lv_aload_n hx hb dAr_copyOf3_27 rfl (lv_at hl 0 rfl) ?_
  refine lv_iconst (v := 0) hx hb dAr_copyOf3_28 (by decide) ?_
  refine lv_aload_n hx hb dAr_copyOf3_29 rfl (lv_at hl 1 rfl) ?_
  refine va_alen (v := 10) hx hb hK hP 0 7 rfl rfl rfl dAr_copyOf3_30 ?_
  refine lv_iload_n hx hb dAr_copyOf3_31 rfl (lv_at hl 2 rfl) ?_
  refine va_mmin hx hb (hml.trans hl.1.symm) hown (hT _ w808) (hT _ w448) (hT _ w22) (hT _ w449) (Nat.le_of_ble_eq_true rfl) (Nat.le_of_ble_eq_true rfl) (Nat.le_of_ble_eq_true rfl) (Nat.le_of_ble_eq_true rfl) dAr_copyOf3_32 ?_
  refine lv_topi (fun y9 e9 => ?_)
  cases (show y9 = 10 from e9.trans (by decide))
  have hel9 : ∀ i : Nat, i < 10 → ∀ y : Nat, lf i = some y → ∃ cellV : Cell, _[y]? = some cellV ∧ cellV.vm.isStatics = false ∧ s.vm.findClass "ResidualTrees$Node" = some cellV.cls := fun i hi y hy => by obtain ⟨fs, h1, h2, h3⟩ := hel i hi; cases h2.symm.trans hy; exact va_recv (ci := 10) (q0 := 0) hK (pg_1 hcd hP h1 h3) rfl rfl
  refine va_copyq (C := "ResidualTrees$Node") hx hb (hml.trans hl.1.symm) hown (hT _ w809) (hT _ w452) (hT _ w451) (hT _ w23) hK hP hD hS 0 1 7 7 rfl rfl rfl rfl (by decide) (by decide) (by decide) (by decide) (by decide) (fun i hi y hy => hel9 i hi y (by rw [← hy]; exact congrArg lf (Nat.zero_add i).symm)) (asg_of (hZ.1.1 ("ResidualTrees$Node", "java/lang/Object") (List.mem_of_getElem? (i := 15) rfl))) (Nat.le_of_ble_eq_true rfl) (by decide) dAr_copyOf3_35 (fun H locs hP hD hS => ?_)
  have hP : va_P D vwCl ([(le, .inl (cT 7, 10, .inr (.inr (.inr (.inr lf))))), (q7, .inl (cT 7, 15, .inr (.inr (.inr (.inr (va_cpy lf (fun _ => none) 0 0 10))))))] ++ pg cds ad gg) _ := hP
  have hD : va_D A ([(le, .inl (cT 7, 10, .inr (.inr (.inr (.inr lf))))), (q7, .inl (cT 7, 15, .inr (.inr (.inr (.inr (va_cpy lf (fun _ => none) 0 0 10))))))] ++ pg cds ad gg) := hD
  refine lv_aload_n hx hb dAr_copyOf3_38 rfl (lv_at hl 0 rfl) ?_
  have hP9 : va_P D vwCl ([(le, .inl (cT 7, 10, .inr (.inr (.inr (.inr lf))))), (q7, .inl (cT 7, 15, .inr (.inr (.inr (.inr (va_cpy lf (fun _ => none) 0 0 10))))))] ++ pg cds ad gg) _ := hP.part (cx := [(le, .inl (cT 7, 10, .inr (.inr (.inr (.inr lf))))), (q7, .inl (cT 7, 15, .inr (.inr (.inr (.inr (va_cpy lf (fun _ => none) 0 0 10))))))]) [0, 1] rfl
  have hD9 : va_D A ([(le, .inl (cT 7, 10, .inr (.inr (.inr (.inr lf))))), (q7, .inl (cT 7, 15, .inr (.inr (.inr (.inr (va_cpy lf (fun _ => none) 0 0 10))))))] ++ pg cds ad gg) := hD.part (cx := [(le, .inl (cT 7, 10, .inr (.inr (.inr (.inr lf))))), (q7, .inl (cT 7, 15, .inr (.inr (.inr (.inr (va_cpy lf (fun _ => none) 0 0 10))))))]) [0, 1] (by decide) rfl
  refine W.widen (k := 1) (n := 15) (Nat.le_of_ble_eq_true rfl) (Nat.le_of_ble_eq_true rfl) ?_
  exact W.aret (v := .ref q7) hx hb hr (Or.inr ⟨_, rfl⟩) (Or.inr ⟨_, rfl⟩) (fun t9 ht9 hW9 => ⟨⟨q7, q7, rfl, (show True from trivial), rfl, by rw [ht9]; exact hP9, hD9⟩, hS.F ht9⟩) hS.2.2 dAr_copyOf3_39
set_option maxHeartbeats 4000000 in
set_option maxRecDepth 100000 in
theorem k_arCopyN10 (l : Launch) (D : va_G) (cT : Nat → ClassId) (cds : List Nat) (ad : Nat → Nat) (gg : Nat → Option va_E) (tE : Nat) (mE : Nat) (le : Nat) (lf : Nat → Option Nat) (bs : Nat) (hcd : CD cds) (hel : ∀ k8, k8 < 10 → ∃ fs8 : List Value, bs + k8 < 8192 ∧ lf k8 = some (ad (bs + k8)) ∧ gg (bs + k8) = some (.inr (10, fs8))) (sz : Nat) : Met l yAr_copyOf WAr_copyOf ({ frames := 2, cells := 1, slots := 15, locals := 63 } : Room) (RWE tE mE D vwCl [.ref le, .int 15] ([(le, .inl (cT 7, 10, .inr (.inr (.inr (.inr lf)))))] ++ pg cds ad gg) (TY cT) sz) (va_Qr (fun u9 : Nat => True) (fun u9 q9 t9 => q9 = u9 ∧ BW D vwCl (va_A ([(le, .inl (cT 7, 10, .inr (.inr (.inr (.inr lf)))))] ++ pg cds ad gg) sz) (fun u9 : Nat => ([(le, .inl (cT 7, 10, .inr (.inr (.inr (.inr lf))))), (u9, .inl (cT 7, 15, .inr (.inr (.inr (.inr (va_cpy lf (fun _ => none) 0 0 10))))))] ++ pg cds ad gg)) u9 t9) (va_A ([(le, .inl (cT 7, 10, .inr (.inr (.inr (.inr lf)))))] ++ pg cds ad gg) sz)) 1 15 (va_A ([(le, .inl (cT 7, 10, .inr (.inr (.inr (.inr lf)))))] ++ pg cds ad gg) sz) := by
  refine Met.ofW (cc := cAr_copyOf) (maxL := 2) (ret := (some (.array (.object "java/lang/Object")))) (by decide) rfl ?_
  intro p e s m args below meth c s₁ B hml hv
  obtain ⟨rfl, ⟨hsz, hZ, hP, hK, hD0⟩, hE0⟩ := hv
  have hx := B.exec
  have hb := B.bytes
  have hr := B.returns
  have hts := atoms_spec (ws := WAr_copyOf) B.pre
  have hT : ∀ w ∈ TB, w.before _ s = true := fun w h => hts w (List.mem_cons_of_mem _ h)
  have hown : s.vm.findClass R_Ar = some m.cls := findClass_of_methodNamed B.named
  have hlocks := B.notSynchronized
  subst hsz
  have hD := hD0.self (sz := s.heap.size)
  generalize hAe : va_A ([(le, .inl (cT 7, 10, .inr (.inr (.inr (.inr lf)))))] ++ pg cds ad gg) s.heap.size = A at hD hZ hE0 ⊢
  have hA : ∀ q : Nat, s.heap.size ≤ q → A q := fun q h => by rw [← hAe]; exact Or.inr h
  have hS : va_S A s.heap s.heap [] := va_S.rf
  have hl := lv_entry ([.ref le, .int 15]) (n := 2) (Nat.le_of_ble_eq_true rfl)
  rw [lg_entry_eq]
  generalize (lg_sl ([.ref le, .int 15]) ++ List.replicate (2 - (lg_sl ([.ref le, .int 15])).length) Slot.unset).toArray = ls at hl ⊢
  have hl : lv_has ls 2 [(0, .ref le), (1, .int 15)] := hl
  refine lv_aload_n hx hb dAr_copyOf_0 rfl (lv_at hl 0 rfl) ?_
  refine lv_iload_n hx hb dAr_copyOf_1 rfl (lv_at hl 1 rfl) ?_
  refine lv_aload_n hx hb dAr_copyOf_2 rfl (lv_at hl 0 rfl) ?_
  refine va_getC (C := "[Ljava/lang/Object;") hx hb (hml.trans hl.1.symm) hown (hT _ w783) (va_Nw.use rfl (hZ.1.2.2.1 _ (List.mem_of_getElem? (i := 6) rfl))) (hT _ w1597) (hT _ w784) (hT _ w801) hE0.2.2 (arr_cl hK hP 0 7 rfl rfl) (Nat.le_of_ble_eq_true rfl) (Nat.le_of_ble_eq_true rfl) dAr_copyOf_3 ?_
  refine hy_rP (X := [(le, .inl (cT 7, 10, .inr (.inr (.inr (.inr lf)))))]) (pl := pg cds ad gg) (cx := [(le, .inl (cT 7, 10, .inr (.inr (.inr (.inr lf)))))]) (wr := []) hP hD hS hA [0] [] rfl rfl (by decide) (by decide) (va_runS (As := [.ref le, .int 15, .ref mE]) (rest := []) ⟨hx, hb, hml, hown, hT⟩ (k_arCopy3N10 l D cT cds ad gg tE mE le lf bs hcd hel _) ⟨callB_of 3 hT (tb_gd w804) rfl rfl rfl (hT _ w26) (hT _ w802) hAr_copyOf3 ⟨Nat.le_of_ble_eq_true rfl, Nat.le_of_ble_eq_true rfl⟩, (hT _ w803)⟩ (RWE.preS hE0 hZ hS (va_freeP (cx := [(le, .inl (cT 7, 10, .inr (.inr (.inr (.inr lf)))))]) hD hS hA [0] rfl) (hP.part (cx := [(le, .inl (cT 7, 10, .inr (.inr (.inr (.inr lf)))))]) [0] rfl) hK (hD.part (cx := [(le, .inl (cT 7, 10, .inr (.inr (.inr (.inr lf)))))]) [0] (by decide) rfl)) rfl rfl hl.1 rfl (lv_room (Nat.le_of_ble_eq_true rfl)) dAr_copyOf_6 ⟨Nat.le_of_ble_eq_true rfl, Nat.le_of_ble_eq_true rfl⟩) (fun u9 H locs hpu1 hP hD hS => ?_)
  obtain ⟨nqu1, rfl⟩ : ∃ q9, q9 = u9 := ⟨_, rfl⟩
  have hpu1 : True := hpu1
  have hP : va_P D vwCl ([(le, .inl (cT 7, 10, .inr (.inr (.inr (.inr lf))))), (nqu1, .inl (cT 7, 15, .inr (.inr (.inr (.inr (va_cpy lf (fun _ => none) 0 0 10))))))] ++ pg cds ad gg) _ := hP
  have hD : va_D A ([(le, .inl (cT 7, 10, .inr (.inr (.inr (.inr lf))))), (nqu1, .inl (cT 7, 15, .inr (.inr (.inr (.inr (va_cpy lf (fun _ => none) 0 0 10))))))] ++ pg cds ad gg) := hD
  refine W.eq (g2 := F0 m 9 ls [.ref nqu1]) rfl ?_
  have hP9 : va_P D vwCl ([(le, .inl (cT 7, 10, .inr (.inr (.inr (.inr lf))))), (nqu1, .inl (cT 7, 15, .inr (.inr (.inr (.inr (va_cpy lf (fun _ => none) 0 0 10))))))] ++ pg cds ad gg) _ := hP.part (cx := [(le, .inl (cT 7, 10, .inr (.inr (.inr (.inr lf))))), (nqu1, .inl (cT 7, 15, .inr (.inr (.inr (.inr (va_cpy lf (fun _ => none) 0 0 10))))))]) [0, 1] rfl
  have hD9 : va_D A ([(le, .inl (cT 7, 10, .inr (.inr (.inr (.inr lf))))), (nqu1, .inl (cT 7, 15, .inr (.inr (.inr (.inr (va_cpy lf (fun _ => none) 0 0 10))))))] ++ pg cds ad gg) := hD.part (cx := [(le, .inl (cT 7, 10, .inr (.inr (.inr (.inr lf))))), (nqu1, .inl (cT 7, 15, .inr (.inr (.inr (.inr (va_cpy lf (fun _ => none) 0 0 10))))))]) [0, 1] (by decide) rfl
  refine W.widen (k := 1) (n := 15) (Nat.le_of_ble_eq_true rfl) (Nat.le_of_ble_eq_true rfl) ?_
  exact W.aret (v := .ref nqu1) hx hb hr (Or.inr ⟨_, rfl⟩) (Or.inr ⟨_, rfl⟩) (fun t9 ht9 hW9 => ⟨⟨nqu1, nqu1, rfl, (show True from trivial), rfl, by rw [ht9]; exact hP9, hD9⟩, hS.F ht9⟩) hS.2.2 dAr_copyOf_9
set_option maxHeartbeats 4000000 in
set_option maxRecDepth 100000 in
theorem k_alGrowbN10 (l : Launch) (D : va_G) (cT : Nat → ClassId) (cds : List Nat) (ad : Nat → Nat) (gg : Nat → Option va_E) (tE : Nat) (mE : Nat) (h : Nat) (md : Int32) (le : Nat) (lf : Nat → Option Nat) (bs : Nat) (hcd : CD cds) (hel : ∀ k8, k8 < 10 → ∃ fs8 : List Value, bs + k8 < 8192 ∧ lf k8 = some (ad (bs + k8)) ∧ gg (bs + k8) = some (.inr (10, fs8))) (sz : Nat) : Met l yAL_growb WAL_growb ({ frames := 3, cells := 1, slots := 15, locals := 84 } : Room) (RWE tE mE D vwCl [.ref h, .int 11] ([(h, .inr (12, [.ref le, .int (nI 10), .int md])), (le, .inl (cT 7, 10, .inr (.inr (.inr (.inr lf)))))] ++ pg cds ad gg) (TY cT) sz) (va_Qr (fun u9 : Nat => True) (fun u9 q9 t9 => q9 = u9 ∧ BW D vwCl (va_A ([(h, .inr (12, [.ref le, .int (nI 10), .int md])), (le, .inl (cT 7, 10, .inr (.inr (.inr (.inr lf)))))] ++ pg cds ad gg) sz) (fun u9 : Nat => ([(h, .inr (12, [.ref u9, .int (nI 10), .int md])), (le, .inl (cT 7, 10, .inr (.inr (.inr (.inr lf))))), (u9, .inl (cT 7, 15, .inr (.inr (.inr (.inr (va_cpy lf (fun _ => none) 0 0 10))))))] ++ pg cds ad gg)) u9 t9) (va_A ([(h, .inr (12, [.ref le, .int (nI 10), .int md])), (le, .inl (cT 7, 10, .inr (.inr (.inr (.inr lf)))))] ++ pg cds ad gg) sz)) 1 15 (va_A ([(h, .inr (12, [.ref le, .int (nI 10), .int md])), (le, .inl (cT 7, 10, .inr (.inr (.inr (.inr lf)))))] ++ pg cds ad gg) sz) := by
  refine Met.ofW (cc := cAL_growb) (maxL := 4) (ret := (some (.array (.object "java/lang/Object")))) (by decide) rfl ?_
  intro p e s m args below meth c s₁ B hml hv
  obtain ⟨rfl, ⟨hsz, hZ, hP, hK, hD0⟩, hE0⟩ := hv
  have hx := B.exec
  have hb := B.bytes
  have hr := B.returns
  have hts := atoms_spec (ws := WAL_growb) B.pre
  have hT : ∀ w ∈ TB, w.before _ s = true := fun w h => hts w (List.mem_cons_of_mem _ h)
  have hown : s.vm.findClass R_AL = some m.cls := findClass_of_methodNamed B.named
  have hlocks := B.notSynchronized
  subst hsz
  have hD := hD0.self (sz := s.heap.size)
  generalize hAe : va_A ([(h, .inr (12, [.ref le, .int (nI 10), .int md])), (le, .inl (cT 7, 10, .inr (.inr (.inr (.inr lf)))))] ++ pg cds ad gg) s.heap.size = A at hD hZ hE0 ⊢
  have hA : ∀ q : Nat, s.heap.size ≤ q → A q := fun q h => by rw [← hAe]; exact Or.inr h
  have hS : va_S A s.heap s.heap [] := va_S.rf
  have hl := lv_entry ([.ref h, .int 11]) (n := 4) (Nat.le_of_ble_eq_true rfl)
  rw [lg_entry_eq]
  generalize (lg_sl ([.ref h, .int 11]) ++ List.replicate (4 - (lg_sl ([.ref h, .int 11])).length) Slot.unset).toArray = ls at hl ⊢
  have hl : lv_has ls 4 [(0, .ref h), (1, .int 11)] := hl
  refine lv_aload_n hx hb dAL_growb_0 rfl (lv_at hl 0 rfl) ?_
  refine va_get (D := D) (ci := 12) (v := .ref le) (C := R_AL) (T := T_AL) (N := 3) hx hb hT in_AL hown hK hP 0 rfl rfl 0 (by decide) (hT _ w268) (fun _ h9 => h9) rfl dAL_growb_1 ?_
  refine va_alen (v := 10) hx hb hK hP 1 7 rfl rfl rfl dAL_growb_4 ?_
  refine lv_istore_n hx hb dAL_growb_5 rfl hl (by decide) rfl (fun ls hl => ?_)
  have hl : lv_has ls 4 [(2, .int 10), (0, .ref h), (1, .int 11)] := hl
  refine lv_iload_n hx hb dAL_growb_6 rfl (lv_at hl 0 rfl) ?_
  refine lv_if_gt (tgt := 20) hx hb dAL_growb_7 rfl (fun _ => ?_) (fun h1 => absurd (by decide) h1)
  refine lv_iload_n hx hb dAL_growb_20 rfl (lv_at hl 0 rfl) ?_
  refine lv_iload_n hx hb dAL_growb_21 rfl (lv_at hl 2 rfl) ?_
  refine lv_iload_n hx hb dAL_growb_22 rfl (lv_at hl 0 rfl) ?_
  refine lv_isub hx hb dAL_growb_23 ?_
  refine lv_topi (fun y9 e9 => ?_)
  cases (show y9 = 1 from e9.trans (by decide))
  refine lv_iload_n hx hb dAL_growb_24 rfl (lv_at hl 0 rfl) ?_
  refine lv_iconst (v := 1) hx hb dAL_growb_25 (by decide) ?_
  refine lv_ishr hx hb dAL_growb_26 ?_
  refine lv_topi (fun y9 e9 => ?_)
  cases (show y9 = 5 from e9.trans (by decide))
  refine ro_i (va_Run.run (va_runS (As := [.int 10, .int 1, .int 5]) (rest := []) ⟨hx, hb, hml, hown, hT⟩ (k_newLen l D cT 10 1 5 (by decide) (by decide) (by decide)) ⟨callB_of 3 hT (tb_gd w772) rfl rfl rfl (hT _ w25) (hT _ w770) hAs_newLength ⟨Nat.le_of_ble_eq_true rfl, Nat.le_of_ble_eq_true rfl⟩, (hT _ w771)⟩ (RO.preS hZ hS ((show va_P D vwCl [] _ from fun _ _ h => nomatch h)) hK) rfl rfl hl.1 rfl (lv_room (Nat.le_of_ble_eq_true rfl)) dAL_growb_27 ⟨Nat.le_of_ble_eq_true rfl, Nat.le_of_ble_eq_true rfl⟩)) ?_
  refine lv_topi (fun y9 e9 => ?_)
  cases (show y9 = 15 from e9.trans (by decide))
  refine lv_istore_n hx hb dAL_growb_30 rfl hl (by decide) rfl (fun ls hl => ?_)
  have hl : lv_has ls 4 [(3, .int 15), (2, .int 10), (0, .ref h), (1, .int 11)] := hl
  refine lv_aload_n hx hb dAL_growb_31 rfl (lv_at hl 2 rfl) ?_
  refine lv_aload_n hx hb dAL_growb_32 rfl (lv_at hl 2 rfl) ?_
  refine va_get (D := D) (ci := 12) (v := .ref le) (C := R_AL) (T := T_AL) (N := 3) hx hb hT in_AL hown hK hP 0 rfl rfl 0 (by decide) (hT _ w268) (fun _ h9 => h9) rfl dAL_growb_33 ?_
  refine lv_iload_n hx hb dAL_growb_36 rfl (lv_at hl 0 rfl) ?_
  refine hy_rP (X := [(h, .inr (12, [.ref le, .int (nI 10), .int md])), (le, .inl (cT 7, 10, .inr (.inr (.inr (.inr lf)))))]) (pl := pg cds ad gg) (cx := [(le, .inl (cT 7, 10, .inr (.inr (.inr (.inr lf)))))]) (wr := [(h, .inr (12, [.ref le, .int (nI 10), .int md]))]) hP hD hS hA [1] [0] rfl rfl (by decide) (by decide) (va_runS (As := [.ref le, .int 15]) (rest := [.ref h]) ⟨hx, hb, hml, hown, hT⟩ (k_arCopyN10 l D cT cds ad gg tE mE le lf bs hcd hel _) ⟨callB_of 2 hT (tb_gd w782) rfl rfl rfl (hT _ w26) (hT _ w780) hAr_copyOf ⟨Nat.le_of_ble_eq_true rfl, Nat.le_of_ble_eq_true rfl⟩, (hT _ w781)⟩ (RWE.preS hE0 hZ hS (va_freeP (cx := [(le, .inl (cT 7, 10, .inr (.inr (.inr (.inr lf)))))]) hD hS hA [1] rfl) (hP.part (cx := [(le, .inl (cT 7, 10, .inr (.inr (.inr (.inr lf)))))]) [1] rfl) hK (hD.part (cx := [(le, .inl (cT 7, 10, .inr (.inr (.inr (.inr lf)))))]) [1] (by decide) rfl)) rfl rfl hl.1 rfl (lv_room (Nat.le_of_ble_eq_true rfl)) dAL_growb_37 ⟨Nat.le_of_ble_eq_true rfl, Nat.le_of_ble_eq_true rfl⟩) (fun u9 H locs hpu2 hP hD hS => ?_)
  obtain ⟨nqu2, rfl⟩ : ∃ q9, q9 = u9 := ⟨_, rfl⟩
  have hpu2 : True := hpu2
  have hP : va_P D vwCl ([(h, .inr (12, [.ref le, .int (nI 10), .int md])), (le, .inl (cT 7, 10, .inr (.inr (.inr (.inr lf))))), (nqu2, .inl (cT 7, 15, .inr (.inr (.inr (.inr (va_cpy lf (fun _ => none) 0 0 10))))))] ++ pg cds ad gg) _ := hP
  have hD : va_D A ([(h, .inr (12, [.ref le, .int (nI 10), .int md])), (le, .inl (cT 7, 10, .inr (.inr (.inr (.inr lf))))), (nqu2, .inl (cT 7, 15, .inr (.inr (.inr (.inr (va_cpy lf (fun _ => none) 0 0 10))))))] ++ pg cds ad gg) := hD
  refine W.eq (g2 := F0 m 40 ls [.ref nqu2, .ref h]) rfl ?_
  refine lv_dup_x1 hx hb dAL_growb_40 rfl rfl ?_
  refine va_put (D := D) (ci := 12) (v := .ref nqu2) (ty := .array (.object "java/lang/Object")) (C := R_AL) (T := T_AL) (N := 3) hx hb hT in_AL ty_AL ty_AL_ok m_AL hown hK hP hD hS 0 rfl rfl 0 (by decide) (hT _ w268) (fun _ h9 => h9) rfl (by decide +kernel) rfl rfl (Nat.le_of_ble_eq_true rfl) dAL_growb_41 (fun H locs hP hD hS => ?_)
  have hP : va_P D vwCl ([(h, .inr (12, [.ref nqu2, .int (nI 10), .int md])), (le, .inl (cT 7, 10, .inr (.inr (.inr (.inr lf))))), (nqu2, .inl (cT 7, 15, .inr (.inr (.inr (.inr (va_cpy lf (fun _ => none) 0 0 10))))))] ++ pg cds ad gg) _ := hP
  have hD : va_D A ([(h, .inr (12, [.ref nqu2, .int (nI 10), .int md])), (le, .inl (cT 7, 10, .inr (.inr (.inr (.inr lf))))), (nqu2, .inl (cT 7, 15, .inr (.inr (.inr (.inr (va_cpy lf (fun _ => none) 0 0 10))))))] ++ pg cds ad gg) := hD
  have hP9 : va_P D vwCl ([(h, .inr (12, [.ref nqu2, .int (nI 10), .int md])), (le, .inl (cT 7, 10, .inr (.inr (.inr (.inr lf))))), (nqu2, .inl (cT 7, 15, .inr (.inr (.inr (.inr (va_cpy lf (fun _ => none) 0 0 10))))))] ++ pg cds ad gg) _ := hP.part (cx := [(h, .inr (12, [.ref nqu2, .int (nI 10), .int md])), (le, .inl (cT 7, 10, .inr (.inr (.inr (.inr lf))))), (nqu2, .inl (cT 7, 15, .inr (.inr (.inr (.inr (va_cpy lf (fun _ => none) 0 0 10))))))]) [0, 1, 2] rfl
  have hD9 : va_D A ([(h, .inr (12, [.ref nqu2, .int (nI 10), .int md])), (le, .inl (cT 7, 10, .inr (.inr (.inr (.inr lf))))), (nqu2, .inl (cT 7, 15, .inr (.inr (.inr (.inr (va_cpy lf (fun _ => none) 0 0 10))))))] ++ pg cds ad gg) := hD.part (cx := [(h, .inr (12, [.ref nqu2, .int (nI 10), .int md])), (le, .inl (cT 7, 10, .inr (.inr (.inr (.inr lf))))), (nqu2, .inl (cT 7, 15, .inr (.inr (.inr (.inr (va_cpy lf (fun _ => none) 0 0 10))))))]) [0, 1, 2] (by decide) rfl
  refine W.widen (k := 1) (n := 15) (Nat.le_of_ble_eq_true rfl) (Nat.le_of_ble_eq_true rfl) ?_
  exact W.aret (v := .ref nqu2) hx hb hr (Or.inr ⟨_, rfl⟩) (Or.inr ⟨_, rfl⟩) (fun t9 ht9 hW9 => ⟨⟨nqu2, nqu2, rfl, (show True from trivial), rfl, by rw [ht9]; exact hP9, hD9⟩, hS.F ht9⟩) hS.2.2 dAL_growb_44
set_option maxHeartbeats 4000000 in
set_option maxRecDepth 100000 in
theorem k_alGrowN10 (l : Launch) (D : va_G) (cT : Nat → ClassId) (cds : List Nat) (ad : Nat → Nat) (gg : Nat → Option va_E) (tE : Nat) (mE : Nat) (h : Nat) (md : Int32) (le : Nat) (lf : Nat → Option Nat) (bs : Nat) (hcd : CD cds) (hel : ∀ k8, k8 < 10 → ∃ fs8 : List Value, bs + k8 < 8192 ∧ lf k8 = some (ad (bs + k8)) ∧ gg (bs + k8) = some (.inr (10, fs8))) (sz : Nat) : Met l yAL_grow WAL_grow ({ frames := 4, cells := 1, slots := 15, locals := 107 } : Room) (RWE tE mE D vwCl [.ref h] ([(h, .inr (12, [.ref le, .int (nI 10), .int md])), (le, .inl (cT 7, 10, .inr (.inr (.inr (.inr lf)))))] ++ pg cds ad gg) (TY cT) sz) (va_Qr (fun u9 : Nat => True) (fun u9 q9 t9 => q9 = u9 ∧ BW D vwCl (va_A ([(h, .inr (12, [.ref le, .int (nI 10), .int md])), (le, .inl (cT 7, 10, .inr (.inr (.inr (.inr lf)))))] ++ pg cds ad gg) sz) (fun u9 : Nat => ([(h, .inr (12, [.ref u9, .int (nI 10), .int md])), (le, .inl (cT 7, 10, .inr (.inr (.inr (.inr lf))))), (u9, .inl (cT 7, 15, .inr (.inr (.inr (.inr (va_cpy lf (fun _ => none) 0 0 10))))))] ++ pg cds ad gg)) u9 t9) (va_A ([(h, .inr (12, [.ref le, .int (nI 10), .int md])), (le, .inl (cT 7, 10, .inr (.inr (.inr (.inr lf)))))] ++ pg cds ad gg) sz)) 1 15 (va_A ([(h, .inr (12, [.ref le, .int (nI 10), .int md])), (le, .inl (cT 7, 10, .inr (.inr (.inr (.inr lf)))))] ++ pg cds ad gg) sz) := by
  refine Met.ofW (cc := cAL_grow) (maxL := 1) (ret := (some (.array (.object "java/lang/Object")))) (by decide) rfl ?_
  intro p e s m args below meth c s₁ B hml hv
  obtain ⟨rfl, ⟨hsz, hZ, hP, hK, hD0⟩, hE0⟩ := hv
  have hx := B.exec
  have hb := B.bytes
  have hr := B.returns
  have hts := atoms_spec (ws := WAL_grow) B.pre
  have hT : ∀ w ∈ TB, w.before _ s = true := fun w h => hts w (List.mem_cons_of_mem _ h)
  have hown : s.vm.findClass R_AL = some m.cls := findClass_of_methodNamed B.named
  have hlocks := B.notSynchronized
  subst hsz
  have hD := hD0.self (sz := s.heap.size)
  generalize hAe : va_A ([(h, .inr (12, [.ref le, .int (nI 10), .int md])), (le, .inl (cT 7, 10, .inr (.inr (.inr (.inr lf)))))] ++ pg cds ad gg) s.heap.size = A at hD hZ hE0 ⊢
  have hA : ∀ q : Nat, s.heap.size ≤ q → A q := fun q h => by rw [← hAe]; exact Or.inr h
  have hS : va_S A s.heap s.heap [] := va_S.rf
  have hl := lv_entry ([.ref h]) (n := 1) (Nat.le_of_ble_eq_true rfl)
  rw [lg_entry_eq]
  generalize (lg_sl ([.ref h]) ++ List.replicate (1 - (lg_sl ([.ref h])).length) Slot.unset).toArray = ls at hl ⊢
  have hl : lv_has ls 1 [(0, .ref h)] := hl
  refine lv_aload_n hx hb dAL_grow_0 rfl (lv_at hl 0 rfl) ?_
  refine lv_aload_n hx hb dAL_grow_1 rfl (lv_at hl 0 rfl) ?_
  refine va_get (D := D) (ci := 12) (v := .int (nI 10)) (C := R_AL) (T := T_AL) (N := 3) hx hb hT in_AL hown hK hP 0 rfl rfl 1 (by decide) (hT _ w269) (fun _ h9 => h9) rfl dAL_grow_2 ?_
  refine lv_iconst (v := 1) hx hb dAL_grow_5 (by decide) ?_
  refine lv_iadd hx hb dAL_grow_6 ?_
  refine lv_topi (fun y9 e9 => ?_)
  cases (show y9 = 11 from e9.trans (by decide))
  refine hy_rP (X := [(h, .inr (12, [.ref le, .int (nI 10), .int md])), (le, .inl (cT 7, 10, .inr (.inr (.inr (.inr lf)))))]) (pl := pg cds ad gg) (cx := [(h, .inr (12, [.ref le, .int (nI 10), .int md])), (le, .inl (cT 7, 10, .inr (.inr (.inr (.inr lf)))))]) (wr := []) hP hD hS hA [0, 1] [] rfl rfl (by decide) (by decide) (va_runV (As := [.int 11]) (rest := []) ⟨hx, hb, hml, hown, hT⟩ (k_alGrowbN10 l D cT cds ad gg tE mE h md le lf bs hcd hel _) ⟨callB_of 1 hT (tb_gd w769) rfl rfl rfl (hT _ w11) (hT _ w766) hAL_growb ⟨Nat.le_of_ble_eq_true rfl, Nat.le_of_ble_eq_true rfl⟩, (hT _ w768), (hT _ wp11)⟩ (RWE.preV (ci := 12) (q0 := 0) hE0 hZ hS (va_freeP (cx := [(h, .inr (12, [.ref le, .int (nI 10), .int md])), (le, .inl (cT 7, 10, .inr (.inr (.inr (.inr lf)))))]) hD hS hA [0, 1] rfl) (hP.part (cx := [(h, .inr (12, [.ref le, .int (nI 10), .int md])), (le, .inl (cT 7, 10, .inr (.inr (.inr (.inr lf)))))]) [0, 1] rfl) hK (hD.part (cx := [(h, .inr (12, [.ref le, .int (nI 10), .int md])), (le, .inl (cT 7, 10, .inr (.inr (.inr (.inr lf)))))]) [0, 1] (by decide) rfl) rfl rfl) rfl rfl hl.1 rfl (lv_room (Nat.le_of_ble_eq_true rfl)) dAL_grow_7 ⟨Nat.le_of_ble_eq_true rfl, Nat.le_of_ble_eq_true rfl⟩) (fun u9 H locs hpu1 hP hD hS => ?_)
  obtain ⟨nqu1, rfl⟩ : ∃ q9, q9 = u9 := ⟨_, rfl⟩
  have hpu1 : True := hpu1
  have hP : va_P D vwCl ([(h, .inr (12, [.ref nqu1, .int (nI 10), .int md])), (le, .inl (cT 7, 10, .inr (.inr (.inr (.inr lf))))), (nqu1, .inl (cT 7, 15, .inr (.inr (.inr (.inr (va_cpy lf (fun _ => none) 0 0 10))))))] ++ pg cds ad gg) _ := hP
  have hD : va_D A ([(h, .inr (12, [.ref nqu1, .int (nI 10), .int md])), (le, .inl (cT 7, 10, .inr (.inr (.inr (.inr lf))))), (nqu1, .inl (cT 7, 15, .inr (.inr (.inr (.inr (va_cpy lf (fun _ => none) 0 0 10))))))] ++ pg cds ad gg) := hD
  refine W.eq (g2 := F0 m 10 ls [.ref nqu1]) rfl ?_
  have hP9 : va_P D vwCl ([(h, .inr (12, [.ref nqu1, .int (nI 10), .int md])), (le, .inl (cT 7, 10, .inr (.inr (.inr (.inr lf))))), (nqu1, .inl (cT 7, 15, .inr (.inr (.inr (.inr (va_cpy lf (fun _ => none) 0 0 10))))))] ++ pg cds ad gg) _ := hP.part (cx := [(h, .inr (12, [.ref nqu1, .int (nI 10), .int md])), (le, .inl (cT 7, 10, .inr (.inr (.inr (.inr lf))))), (nqu1, .inl (cT 7, 15, .inr (.inr (.inr (.inr (va_cpy lf (fun _ => none) 0 0 10))))))]) [0, 1, 2] rfl
  have hD9 : va_D A ([(h, .inr (12, [.ref nqu1, .int (nI 10), .int md])), (le, .inl (cT 7, 10, .inr (.inr (.inr (.inr lf))))), (nqu1, .inl (cT 7, 15, .inr (.inr (.inr (.inr (va_cpy lf (fun _ => none) 0 0 10))))))] ++ pg cds ad gg) := hD.part (cx := [(h, .inr (12, [.ref nqu1, .int (nI 10), .int md])), (le, .inl (cT 7, 10, .inr (.inr (.inr (.inr lf))))), (nqu1, .inl (cT 7, 15, .inr (.inr (.inr (.inr (va_cpy lf (fun _ => none) 0 0 10))))))]) [0, 1, 2] (by decide) rfl
  refine W.widen (k := 1) (n := 15) (Nat.le_of_ble_eq_true rfl) (Nat.le_of_ble_eq_true rfl) ?_
  exact W.aret (v := .ref nqu1) hx hb hr (Or.inr ⟨_, rfl⟩) (Or.inr ⟨_, rfl⟩) (fun t9 ht9 hW9 => ⟨⟨nqu1, nqu1, rfl, (show True from trivial), rfl, by rw [ht9]; exact hP9, hD9⟩, hS.F ht9⟩) hS.2.2 dAL_grow_10
set_option maxHeartbeats 4000000 in
set_option maxRecDepth 100000 in
theorem k_arCopy3N15 (l : Launch) (D : va_G) (cT : Nat → ClassId) (cds : List Nat) (ad : Nat → Nat) (gg : Nat → Option va_E) (tE : Nat) (mE : Nat) (le : Nat) (lf : Nat → Option Nat) (bs : Nat) (hcd : CD cds) (hel : ∀ k8, k8 < 15 → ∃ fs8 : List Value, bs + k8 < 8192 ∧ lf k8 = some (ad (bs + k8)) ∧ gg (bs + k8) = some (.inr (10, fs8))) (sz : Nat) : Met l yAr_copyOf3 WAr_copyOf3 ({ frames := 1, cells := 1, slots := 22, locals := 40 } : Room) (RWE tE mE D vwCl [.ref le, .int 22, .ref mE] ([(le, .inl (cT 7, 15, .inr (.inr (.inr (.inr lf)))))] ++ pg cds ad gg) (TY cT) sz) (va_Qr (fun u9 : Nat => True) (fun u9 q9 t9 => q9 = u9 ∧ BW D vwCl (va_A ([(le, .inl (cT 7, 15, .inr (.inr (.inr (.inr lf)))))] ++ pg cds ad gg) sz) (fun u9 : Nat => ([(le, .inl (cT 7, 15, .inr (.inr (.inr (.inr lf))))), (u9, .inl (cT 7, 22, .inr (.inr (.inr (.inr (va_cpy lf (fun _ => none) 0 0 15))))))] ++ pg cds ad gg)) u9 t9) (va_A ([(le, .inl (cT 7, 15, .inr (.inr (.inr (.inr lf)))))] ++ pg cds ad gg) sz)) 1 22 (va_A ([(le, .inl (cT 7, 15, .inr (.inr (.inr (.inr lf)))))] ++ pg cds ad gg) sz) := by
  refine Met.ofW (cc := cAr_copyOf3) (maxL := 4) (ret := (some (.array (.object "java/lang/Object")))) (by decide) rfl ?_
  intro p e s m args below meth c s₁ B hml hv
  obtain ⟨rfl, ⟨hsz, hZ, hP, hK, hD0⟩, hE0⟩ := hv
  have hx := B.exec
  have hb := B.bytes
  have hr := B.returns
  have hts := atoms_spec (ws := WAr_copyOf3) B.pre
  have hT : ∀ w ∈ TB, w.before _ s = true := fun w h => hts w (List.mem_cons_of_mem _ h)
  have hown : s.vm.findClass R_Ar = some m.cls := findClass_of_methodNamed B.named
  have hlocks := B.notSynchronized
  subst hsz
  have hD := hD0.self (sz := s.heap.size)
  generalize hAe : va_A ([(le, .inl (cT 7, 15, .inr (.inr (.inr (.inr lf)))))] ++ pg cds ad gg) s.heap.size = A at hD hZ hE0 ⊢
  have hA : ∀ q : Nat, s.heap.size ≤ q → A q := fun q h => by rw [← hAe]; exact Or.inr h
  have hS : va_S A s.heap s.heap [] := va_S.rf
  have hl := lv_entry ([.ref le, .int 22, .ref mE]) (n := 4) (Nat.le_of_ble_eq_true rfl)
  rw [lg_entry_eq]
  generalize (lg_sl ([.ref le, .int 22, .ref mE]) ++ List.replicate (4 - (lg_sl ([.ref le, .int 22, .ref mE])).length) Slot.unset).toArray = ls at hl ⊢
  have hl : lv_has ls 4 [(0, .ref le), (1, .int 22), (2, .ref mE)] := hl
  refine lv_aload_n hx hb dAr_copyOf3_0 rfl (lv_at hl 2 rfl) ?_
  refine va_ldcM hx hb hown (hT _ w805) hE0.2.2 dAr_copyOf3_1 ?_
  refine lv_acmp_ne (rx := some mE) (ry := some mE) (tgt := 13) hx hb dAr_copyOf3_3 rfl (fun q9 => absurd rfl q9) (fun _ => ?_)
  refine lv_iload_n hx hb dAr_copyOf3_6 rfl (lv_at hl 1 rfl) ?_
  refine nw_q (C := "java/lang/Object") (N' := 22) hx hb hown (hT _ w807) (hZ.1.2.2.2.1 "java/lang/Object" (List.mem_of_getElem? (i := 3) rfl)) hK hP hD hS hA 7 rfl (by decide +kernel) (by decide +kernel) (by decide +kernel) (Nat.le_of_ble_eq_true rfl) (Nat.le_of_ble_eq_true rfl) dAr_copyOf3_7 (fun q7 H hP hD hS => ?_)
  have hP := hy_push hP
  have hD := hy_pushD hD
  have hP : va_P D vwCl ([(le, .inl (cT 7, 15, .inr (.inr (.inr (.inr lf))))), (q7, .inl (cT 7, 22, .inr (.inr (.inr (.inr (fun _ => none))))))] ++ pg cds ad gg) _ := hP
  have hD : va_D A ([(le, .inl (cT 7, 15, .inr (.inr (.inr (.inr lf))))), (q7, .inl (cT 7, 22, .inr (.inr (.inr (.inr (fun _ => none))))))] ++ pg cds ad gg) := hD
  refine lv_goto (tgt := 24) hx hb dAr_copyOf3_10 rfl ?_
  refine lv_astore_n hx hb dAr_copyOf3_24 rfl hl (by decide) rfl (fun ls hl => ?_)
  have hl : lv_has ls 4 [(3, .ref q7), (0, .ref le), (1, .int 22), (2, .ref mE)] := hl
  refine lv_aload_n hx hb dAr_copyOf3_25 rfl (lv_at hl 1 rfl) ?_
  refine lv_iconst (v := 0) hx hb dAr_copyOf3_26 (by decide) ?_
  refine lv_aload_n hx hb dAr_copyOf3_27 rfl (lv_at hl 0 rfl) ?_
  refine lv_iconst (v := 0) hx hb dAr_copyOf3_28 (by decide) ?_
  refine lv_aload_n hx hb dAr_copyOf3_29 rfl (lv_at hl 1 rfl) ?_
  refine va_alen (v := 15) hx hb hK hP 0 7 rfl rfl rfl dAr_copyOf3_30 ?_
  refine lv_iload_n hx hb dAr_copyOf3_31 rfl (lv_at hl 2 rfl) ?_
  refine va_mmin hx hb (hml.trans hl.1.symm) hown (hT _ w808) (hT _ w448) (hT _ w22) (hT _ w449) (Nat.le_of_ble_eq_true rfl) (Nat.le_of_ble_eq_true rfl) (Nat.le_of_ble_eq_true rfl) (Nat.le_of_ble_eq_true rfl) dAr_copyOf3_32 ?_
  refine lv_topi (fun y9 e9 => ?_)
  cases (show y9 = 15 from e9.trans (by decide))
  have hel9 : ∀ i : Nat, i < 15 → ∀ y : Nat, lf i = some y → ∃ cellV : Cell, _[y]? = some cellV ∧ cellV.vm.isStatics = false ∧ s.vm.findClass "ResidualTrees$Node" = some cellV.cls := fun i hi y hy => by obtain ⟨fs, h1, h2, h3⟩ := hel i hi; cases h2.symm.trans hy; exact va_recv (ci := 10) (q0 := 0) hK (pg_1 hcd hP h1 h3) rfl rfl
  refine va_copyq (C := "ResidualTrees$Node") hx hb (hml.trans hl.1.symm) hown (hT _ w809) (hT _ w452) (hT _ w451) (hT _ w23) hK hP hD hS 0 1 7 7 rfl rfl rfl rfl (by decide) (by decide) (by decide) (by decide) (by decide) (fun i hi y hy => hel9 i hi y (by rw [← hy]; exact congrArg lf (Nat.zero_add i).symm)) (asg_of (hZ.1.1 ("ResidualTrees$Node", "java/lang/Object") (List.mem_of_getElem? (i := 15) rfl))) (Nat.le_of_ble_eq_true rfl) (by decide) dAr_copyOf3_35 (fun H locs hP hD hS => ?_)
  have hP : va_P D vwCl ([(le, .inl (cT 7, 15, .inr (.inr (.inr (.inr lf))))), (q7, .inl (cT 7, 22, .inr (.inr (.inr (.inr (va_cpy lf (fun _ => none) 0 0 15))))))] ++ pg cds ad gg) _ := hP
  have hD : va_D A ([(le, .inl (cT 7, 15, .inr (.inr (.inr (.inr lf))))), (q7, .inl (cT 7, 22, .inr (.inr (.inr (.inr (va_cpy lf (fun _ => none) 0 0 15))))))] ++ pg cds ad gg) := hD
  refine lv_aload_n hx hb dAr_copyOf3_38 rfl (lv_at hl 0 rfl) ?_
  have hP9 : va_P D vwCl ([(le, .inl (cT 7, 15, .inr (.inr (.inr (.inr lf))))), (q7, .inl (cT 7, 22, .inr (.inr (.inr (.inr (va_cpy lf (fun _ => none) 0 0 15))))))] ++ pg cds ad gg) _ := hP.part (cx := [(le, .inl (cT 7, 15, .inr (.inr (.inr (.inr lf))))), (q7, .inl (cT 7, 22, .inr (.inr (.inr (.inr (va_cpy lf (fun _ => none) 0 0 15))))))]) [0, 1] rfl
  have hD9 : va_D A ([(le, .inl (cT 7, 15, .inr (.inr (.inr (.inr lf))))), (q7, .inl (cT 7, 22, .inr (.inr (.inr (.inr (va_cpy lf (fun _ => none) 0 0 15))))))] ++ pg cds ad gg) := hD.part (cx := [(le, .inl (cT 7, 15, .inr (.inr (.inr (.inr lf))))), (q7, .inl (cT 7, 22, .inr (.inr (.inr (.inr (va_cpy lf (fun _ => none) 0 0 15))))))]) [0, 1] (by decide) rfl
  refine W.widen (k := 1) (n := 22) (Nat.le_of_ble_eq_true rfl) (Nat.le_of_ble_eq_true rfl) ?_
  exact W.aret (v := .ref q7) hx hb hr (Or.inr ⟨_, rfl⟩) (Or.inr ⟨_, rfl⟩) (fun t9 ht9 hW9 => ⟨⟨q7, q7, rfl, (show True from trivial), rfl, by rw [ht9]; exact hP9, hD9⟩, hS.F ht9⟩) hS.2.2 dAr_copyOf3_39
set_option maxHeartbeats 4000000 in
set_option maxRecDepth 100000 in
theorem k_arCopyN15 (l : Launch) (D : va_G) (cT : Nat → ClassId) (cds : List Nat) (ad : Nat → Nat) (gg : Nat → Option va_E) (tE : Nat) (mE : Nat) (le : Nat) (lf : Nat → Option Nat) (bs : Nat) (hcd : CD cds) (hel : ∀ k8, k8 < 15 → ∃ fs8 : List Value, bs + k8 < 8192 ∧ lf k8 = some (ad (bs + k8)) ∧ gg (bs + k8) = some (.inr (10, fs8))) (sz : Nat) : Met l yAr_copyOf WAr_copyOf ({ frames := 2, cells := 1, slots := 22, locals := 63 } : Room) (RWE tE mE D vwCl [.ref le, .int 22] ([(le, .inl (cT 7, 15, .inr (.inr (.inr (.inr lf)))))] ++ pg cds ad gg) (TY cT) sz) (va_Qr (fun u9 : Nat => True) (fun u9 q9 t9 => q9 = u9 ∧ BW D vwCl (va_A ([(le, .inl (cT 7, 15, .inr (.inr (.inr (.inr lf)))))] ++ pg cds ad gg) sz) (fun u9 : Nat => ([(le, .inl (cT 7, 15, .inr (.inr (.inr (.inr lf))))), (u9, .inl (cT 7, 22, .inr (.inr (.inr (.inr (va_cpy lf (fun _ => none) 0 0 15))))))] ++ pg cds ad gg)) u9 t9) (va_A ([(le, .inl (cT 7, 15, .inr (.inr (.inr (.inr lf)))))] ++ pg cds ad gg) sz)) 1 22 (va_A ([(le, .inl (cT 7, 15, .inr (.inr (.inr (.inr lf)))))] ++ pg cds ad gg) sz) := by
  refine Met.ofW (cc := cAr_copyOf) (maxL := 2) (ret := (some (.array (.object "java/lang/Object")))) (by decide) rfl ?_
  intro p e s m args below meth c s₁ B hml hv
  obtain ⟨rfl, ⟨hsz, hZ, hP, hK, hD0⟩, hE0⟩ := hv
  have hx := B.exec
  have hb := B.bytes
  have hr := B.returns
  have hts := atoms_spec (ws := WAr_copyOf) B.pre
  have hT : ∀ w ∈ TB, w.before _ s = true := fun w h => hts w (List.mem_cons_of_mem _ h)
  have hown : s.vm.findClass R_Ar = some m.cls := findClass_of_methodNamed B.named
  have hlocks := B.notSynchronized
  subst hsz
  have hD := hD0.self (sz := s.heap.size)
  generalize hAe : va_A ([(le, .inl (cT 7, 15, .inr (.inr (.inr (.inr lf)))))] ++ pg cds ad gg) s.heap.size = A at hD hZ hE0 ⊢
  have hA : ∀ q : Nat, s.heap.size ≤ q → A q := fun q h => by rw [← hAe]; exact Or.inr h
  have hS : va_S A s.heap s.heap [] := va_S.rf
  have hl := lv_entry ([.ref le, .int 22]) (n := 2) (Nat.le_of_ble_eq_true rfl)
  rw [lg_entry_eq]
  generalize (lg_sl ([.ref le, .int 22]) ++ List.replicate (2 - (lg_sl ([.ref le, .int 22])).length) Slot.unset).toArray = ls at hl ⊢
  have hl : lv_has ls 2 [(0, .ref le), (1, .int 22)] := hl
  refine lv_aload_n hx hb dAr_copyOf_0 rfl (lv_at hl 0 rfl) ?_
  refine lv_iload_n hx hb dAr_copyOf_1 rfl (lv_at hl 1 rfl) ?_
  refine lv_aload_n hx hb dAr_copyOf_2 rfl (lv_at hl 0 rfl) ?_
  refine va_getC (C := "[Ljava/lang/Object;") hx hb (hml.trans hl.1.symm) hown (hT _ w783) (va_Nw.use rfl (hZ.1.2.2.1 _ (List.mem_of_getElem? (i := 6) rfl))) (hT _ w1597) (hT _ w784) (hT _ w801) hE0.2.2 (arr_cl hK hP 0 7 rfl rfl) (Nat.le_of_ble_eq_true rfl) (Nat.le_of_ble_eq_true rfl) dAr_copyOf_3 ?_
  refine hy_rP (X := [(le, .inl (cT 7, 15, .inr (.inr (.inr (.inr lf)))))]) (pl := pg cds ad gg) (cx := [(le, .inl (cT 7, 15, .inr (.inr (.inr (.inr lf)))))]) (wr := []) hP hD hS hA [0] [] rfl rfl (by decide) (by decide) (va_runS (As := [.ref le, .int 22, .ref mE]) (rest := []) ⟨hx, hb, hml, hown, hT⟩ (k_arCopy3N15 l D cT cds ad gg tE mE le lf bs hcd hel _) ⟨callB_of 3 hT (tb_gd w804) rfl rfl rfl (hT _ w26) (hT _ w802) hAr_copyOf3 ⟨Nat.le_of_ble_eq_true rfl, Nat.le_of_ble_eq_true rfl⟩, (hT _ w803)⟩ (RWE.preS hE0 hZ hS (va_freeP (cx := [(le, .inl (cT 7, 15, .inr (.inr (.inr (.inr lf)))))]) hD hS hA [0] rfl) (hP.part (cx := [(le, .inl (cT 7, 15, .inr (.inr (.inr (.inr lf)))))]) [0] rfl) hK (hD.part (cx := [(le, .inl (cT 7, 15, .inr (.inr (.inr (.inr lf)))))]) [0] (by decide) rfl)) rfl rfl hl.1 rfl (lv_room (Nat.le_of_ble_eq_true rfl)) dAr_copyOf_6 ⟨Nat.le_of_ble_eq_true rfl, Nat.le_of_ble_eq_true rfl⟩) (fun u9 H locs hpu1 hP hD hS => ?_)
  obtain ⟨nqu1, rfl⟩ : ∃ q9, q9 = u9 := ⟨_, rfl⟩
  have hpu1 : True := hpu1
  have hP : va_P D vwCl ([(le, .inl (cT 7, 15, .inr (.inr (.inr (.inr lf))))), (nqu1, .inl (cT 7, 22, .inr (.inr (.inr (.inr (va_cpy lf (fun _ => none) 0 0 15))))))] ++ pg cds ad gg) _ := hP
  have hD : va_D A ([(le, .inl (cT 7, 15, .inr (.inr (.inr (.inr lf))))), (nqu1, .inl (cT 7, 22, .inr (.inr (.inr (.inr (va_cpy lf (fun _ => none) 0 0 15))))))] ++ pg cds ad gg) := hD
  refine W.eq (g2 := F0 m 9 ls [.ref nqu1]) rfl ?_
  have hP9 : va_P D vwCl ([(le, .inl (cT 7, 15, .inr (.inr (.inr (.inr lf))))), (nqu1, .inl (cT 7, 22, .inr (.inr (.inr (.inr (va_cpy lf (fun _ => none) 0 0 15))))))] ++ pg cds ad gg) _ := hP.part (cx := [(le, .inl (cT 7, 15, .inr (.inr (.inr (.inr lf))))), (nqu1, .inl (cT 7, 22, .inr (.inr (.inr (.inr (va_cpy lf (fun _ => none) 0 0 15))))))]) [0, 1] rfl
  have hD9 : va_D A ([(le, .inl (cT 7, 15, .inr (.inr (.inr (.inr lf))))), (nqu1, .inl (cT 7, 22, .inr (.inr (.inr (.inr (va_cpy lf (fun _ => none) 0 0 15))))))] ++ pg cds ad gg) := hD.part (cx := [(le, .inl (cT 7, 15, .inr (.inr (.inr (.inr lf))))), (nqu1, .inl (cT 7, 22, .inr (.inr (.inr (.inr (va_cpy lf (fun _ => none) 0 0 15))))))]) [0, 1] (by decide) rfl
  refine W.widen (k := 1) (n := 22) (Nat.le_of_ble_eq_true rfl) (Nat.le_of_ble_eq_true rfl) ?_
  exact W.aret (v := .ref nqu1) hx hb hr (Or.inr ⟨_, rfl⟩) (Or.inr ⟨_, rfl⟩) (fun t9 ht9 hW9 => ⟨⟨nqu1, nqu1, rfl, (show True from trivial), rfl, by rw [ht9]; exact hP9, hD9⟩, hS.F ht9⟩) hS.2.2 dAr_copyOf_9
set_option maxHeartbeats 4000000 in
set_option maxRecDepth 100000 in
theorem k_alGrowbN15 (l : Launch) (D : va_G) (cT : Nat → ClassId) (cds : List Nat) (ad : Nat → Nat) (gg : Nat → Option va_E) (tE : Nat) (mE : Nat) (h : Nat) (md : Int32) (le : Nat) (lf : Nat → Option Nat) (bs : Nat) (hcd : CD cds) (hel : ∀ k8, k8 < 15 → ∃ fs8 : List Value, bs + k8 < 8192 ∧ lf k8 = some (ad (bs + k8)) ∧ gg (bs + k8) = some (.inr (10, fs8))) (sz : Nat) : Met l yAL_growb WAL_growb ({ frames := 3, cells := 1, slots := 22, locals := 84 } : Room) (RWE tE mE D vwCl [.ref h, .int 16] ([(h, .inr (12, [.ref le, .int (nI 15), .int md])), (le, .inl (cT 7, 15, .inr (.inr (.inr (.inr lf)))))] ++ pg cds ad gg) (TY cT) sz) (va_Qr (fun u9 : Nat => True) (fun u9 q9 t9 => q9 = u9 ∧ BW D vwCl (va_A ([(h, .inr (12, [.ref le, .int (nI 15), .int md])), (le, .inl (cT 7, 15, .inr (.inr (.inr (.inr lf)))))] ++ pg cds ad gg) sz) (fun u9 : Nat => ([(h, .inr (12, [.ref u9, .int (nI 15), .int md])), (le, .inl (cT 7, 15, .inr (.inr (.inr (.inr lf))))), (u9, .inl (cT 7, 22, .inr (.inr (.inr (.inr (va_cpy lf (fun _ => none) 0 0 15))))))] ++ pg cds ad gg)) u9 t9) (va_A ([(h, .inr (12, [.ref le, .int (nI 15), .int md])), (le, .inl (cT 7, 15, .inr (.inr (.inr (.inr lf)))))] ++ pg cds ad gg) sz)) 1 22 (va_A ([(h, .inr (12, [.ref le, .int (nI 15), .int md])), (le, .inl (cT 7, 15, .inr (.inr (.inr (.inr lf)))))] ++ pg cds ad gg) sz) := by
  refine Met.ofW (cc := cAL_growb) (maxL := 4) (ret := (some (.array (.object "java/lang/Object")))) (by decide) rfl ?_
  intro p e s m args below meth c s₁ B hml hv
  obtain ⟨rfl, ⟨hsz, hZ, hP, hK, hD0⟩, hE0⟩ := hv
  have hx := B.exec
  have hb := B.bytes
  have hr := B.returns
  have hts := atoms_spec (ws := WAL_growb) B.pre
  have hT : ∀ w ∈ TB, w.before _ s = true := fun w h => hts w (List.mem_cons_of_mem _ h)
  have hown : s.vm.findClass R_AL = some m.cls := findClass_of_methodNamed B.named
  have hlocks := B.notSynchronized
  subst hsz
  have hD := hD0.self (sz := s.heap.size)
  generalize hAe : va_A ([(h, .inr (12, [.ref le, .int (nI 15), .int md])), (le, .inl (cT 7, 15, .inr (.inr (.inr (.inr lf)))))] ++ pg cds ad gg) s.heap.size = A at hD hZ hE0 ⊢
  have hA : ∀ q : Nat, s.heap.size ≤ q → A q := fun q h => by rw [← hAe]; exact Or.inr h
  have hS : va_S A s.heap s.heap [] := va_S.rf
  have hl := lv_entry ([.ref h, .int 16]) (n := 4) (Nat.le_of_ble_eq_true rfl)
  rw [lg_entry_eq]
  generalize (lg_sl ([.ref h, .int 16]) ++ List.replicate (4 - (lg_sl ([.ref h, .int 16])).length) Slot.unset).toArray = ls at hl ⊢
  have hl : lv_has ls 4 [(0, .ref h), (1, .int 16)] := hl
  refine lv_aload_n hx hb dAL_growb_0 rfl (lv_at hl 0 rfl) ?_
  refine va_get (D := D) (ci := 12) (v := .ref le) (C := R_AL) (T := T_AL) (N := 3) hx hb hT in_AL hown hK hP 0 rfl rfl 0 (by decide) (hT _ w268) (fun _ h9 => h9) rfl dAL_growb_1 ?_
  refine va_alen (v := 15) hx hb hK hP 1 7 rfl rfl rfl dAL_growb_4 ?_
  refine lv_istore_n hx hb dAL_growb_5 rfl hl (by decide) rfl (fun ls hl => ?_)
  have hl : lv_has ls 4 [(2, .int 15), (0, .ref h), (1, .int 16)] := hl
  refine lv_iload_n hx hb dAL_growb_6 rfl (lv_at hl 0 rfl) ?_
  refine lv_if_gt (tgt := 20) hx hb dAL_growb_7 rfl (fun _ => ?_) (fun h1 => absurd (by decide) h1)
  refine lv_iload_n hx hb dAL_growb_20 rfl (lv_at hl 0 rfl) ?_
  refine lv_iload_n hx hb dAL_growb_21 rfl (lv_at hl 2 rfl) ?_
  refine lv_iload_n hx hb dAL_growb_22 rfl (lv_at hl 0 rfl) ?_
  refine lv_isub hx hb dAL_growb_23 ?_
  refine lv_topi (fun y9 e9 => ?_)
  cases (show y9 = 1 from e9.trans (by decide))
  refine lv_iload_n hx hb dAL_growb_24 rfl (lv_at hl 0 rfl) ?_
  refine lv_iconst (v := 1) hx hb dAL_growb_25 (by decide) ?_
  refine lv_ishr hx hb dAL_growb_26 ?_
  refine lv_topi (fun y9 e9 => ?_)
  cases (show y9 = 7 from e9.trans (by decide))
  refine ro_i (va_Run.run (va_runS (As := [.int 15, .int 1, .int 7]) (rest := []) ⟨hx, hb, hml, hown, hT⟩ (k_newLen l D cT 15 1 7 (by decide) (by decide) (by decide)) ⟨callB_of 3 hT (tb_gd w772) rfl rfl rfl (hT _ w25) (hT _ w770) hAs_newLength ⟨Nat.le_of_ble_eq_true rfl, Nat.le_of_ble_eq_true rfl⟩, (hT _ w771)⟩ (RO.preS hZ hS ((show va_P D vwCl [] _ from fun _ _ h => nomatch h)) hK) rfl rfl hl.1 rfl (lv_room (Nat.le_of_ble_eq_true rfl)) dAL_growb_27 ⟨Nat.le_of_ble_eq_true rfl, Nat.le_of_ble_eq_true rfl⟩)) ?_
  refine lv_topi (fun y9 e9 => ?_)
  cases (show y9 = 22 from e9.trans (by decide))
  refine lv_istore_n hx hb dAL_growb_30 rfl hl (by decide) rfl (fun ls hl => ?_)
  have hl : lv_has ls 4 [(3, .int 22), (2, .int 15), (0, .ref h), (1, .int 16)] := hl
  refine lv_aload_n hx hb dAL_growb_31 rfl (lv_at hl 2 rfl) ?_
  refine lv_aload_n hx hb dAL_growb_32 rfl (lv_at hl 2 rfl) ?_
  refine va_get (D := D) (ci := 12) (v := .ref le) (C := R_AL) (T := T_AL) (N := 3) hx hb hT in_AL hown hK hP 0 rfl rfl 0 (by decide) (hT _ w268) (fun _ h9 => h9) rfl dAL_growb_33 ?_
  refine lv_iload_n hx hb dAL_growb_36 rfl (lv_at hl 0 rfl) ?_
  refine hy_rP (X := [(h, .inr (12, [.ref le, .int (nI 15), .int md])), (le, .inl (cT 7, 15, .inr (.inr (.inr (.inr lf)))))]) (pl := pg cds ad gg) (cx := [(le, .inl (cT 7, 15, .inr (.inr (.inr (.inr lf)))))]) (wr := [(h, .inr (12, [.ref le, .int (nI 15), .int md]))]) hP hD hS hA [1] [0] rfl rfl (by decide) (by decide) (va_runS (As := [.ref le, .int 22]) (rest := [.ref h]) ⟨hx, hb, hml, hown, hT⟩ (k_arCopyN15 l D cT cds ad gg tE mE le lf bs hcd hel _) ⟨callB_of 2 hT (tb_gd w782) rfl rfl rfl (hT _ w26) (hT _ w780) hAr_copyOf ⟨Nat.le_of_ble_eq_true rfl, Nat.le_of_ble_eq_true rfl⟩, (hT _ w781)⟩ (RWE.preS hE0 hZ hS (va_freeP (cx := [(le, .inl (cT 7, 15, .inr (.inr (.inr (.inr lf)))))]) hD hS hA [1] rfl) (hP.part (cx := [(le, .inl (cT 7, 15, .inr (.inr (.inr (.inr lf)))))]) [1] rfl) hK (hD.part (cx := [(le, .inl (cT 7, 15, .inr (.inr (.inr (.inr lf)))))]) [1] (by decide) rfl)) rfl rfl hl.1 rfl (lv_room (Nat.le_of_ble_eq_true rfl)) dAL_growb_37 ⟨Nat.le_of_ble_eq_true rfl, Nat.le_of_ble_eq_true rfl⟩) (fun u9 H locs hpu2 hP hD hS => ?_)
  obtain ⟨nqu2, rfl⟩ : ∃ q9, q9 = u9 := ⟨_, rfl⟩
  have hpu2 : True := hpu2
  have hP : va_P D vwCl ([(h, .inr (12, [.ref le, .int (nI 15), .int md])), (le, .inl (cT 7, 15, .inr (.inr (.inr (.inr lf))))), (nqu2, .inl (cT 7, 22, .inr (.inr (.inr (.inr (va_cpy lf (fun _ => none) 0 0 15))))))] ++ pg cds ad gg) _ := hP
  have hD : va_D A ([(h, .inr (12, [.ref le, .int (nI 15), .int md])), (le, .inl (cT 7, 15, .inr (.inr (.inr (.inr lf))))), (nqu2, .inl (cT 7, 22, .inr (.inr (.inr (.inr (va_cpy lf (fun _ => none) 0 0 15))))))] ++ pg cds ad gg) := hD
  refine W.eq (g2 := F0 m 40 ls [.ref nqu2, .ref h]) rfl ?_
  refine lv_dup_x1 hx hb dAL_growb_40 rfl rfl ?_
  refine va_put (D := D) (ci := 12) (v := .ref nqu2) (ty := .array (.object "java/lang/Object")) (C := R_AL) (T := T_AL) (N := 3) hx hb hT in_AL ty_AL ty_AL_ok m_AL hown hK hP hD hS 0 rfl rfl 0 (by decide) (hT _ w268) (fun _ h9 => h9) rfl (by decide +kernel) rfl rfl (Nat.le_of_ble_eq_true rfl) dAL_growb_41 (fun H locs hP hD hS => ?_)
  have hP : va_P D vwCl ([(h, .inr (12, [.ref nqu2, .int (nI 15), .int md])), (le, .inl (cT 7, 15, .inr (.inr (.inr (.inr lf))))), (nqu2, .inl (cT 7, 22, .inr (.inr (.inr (.inr (va_cpy lf (fun _ => none) 0 0 15))))))] ++ pg cds ad gg) _ := hP
  have hD : va_D A ([(h, .inr (12, [.ref nqu2, .int (nI 15), .int md])), (le, .inl (cT 7, 15, .inr (.inr (.inr (.inr lf))))), (nqu2, .inl (cT 7, 22, .inr (.inr (.inr (.inr (va_cpy lf (fun _ => none) 0 0 15))))))] ++ pg cds ad gg) := hD
  have hP9 : va_P D vwCl ([(h, .inr (12, [.ref nqu2, .int (nI 15), .int md])), (le, .inl (cT 7, 15, .inr (.inr (.inr (.inr lf))))), (nqu2, .inl (cT 7, 22, .inr (.inr (.inr (.inr (va_cpy lf (fun _ => none) 0 0 15))))))] ++ pg cds ad gg) _ := hP.part (cx := [(h, .inr (12, [.ref nqu2, .int (nI 15), .int md])), (le, .inl (cT 7, 15, .inr (.inr (.inr (.inr lf))))), (nqu2, .inl (cT 7, 22, .inr (.inr (.inr (.inr (va_cpy lf (fun _ => none) 0 0 15))))))]) [0, 1, 2] rfl
  have hD9 : va_D A ([(h, .inr (12, [.ref nqu2, .int (nI 15), .int md])), (le, .inl (cT 7, 15, .inr (.inr (.inr (.inr lf))))), (nqu2, .inl (cT 7, 22, .inr (.inr (.inr (.inr (va_cpy lf (fun _ => none) 0 0 15))))))] ++ pg cds ad gg) := hD.part (cx := [(h, .inr (12, [.ref nqu2, .int (nI 15), .int md])), (le, .inl (cT 7, 15, .inr (.inr (.inr (.inr lf))))), (nqu2, .inl (cT 7, 22, .inr (.inr (.inr (.inr (va_cpy lf (fun _ => none) 0 0 15))))))]) [0, 1, 2] (by decide) rfl
  refine W.widen (k := 1) (n := 22) (Nat.le_of_ble_eq_true rfl) (Nat.le_of_ble_eq_true rfl) ?_
  exact W.aret (v := .ref nqu2) hx hb hr (Or.inr ⟨_, rfl⟩) (Or.inr ⟨_, rfl⟩) (fun t9 ht9 hW9 => ⟨⟨nqu2, nqu2, rfl, (show True from trivial), rfl, by rw [ht9]; exact hP9, hD9⟩, hS.F ht9⟩) hS.2.2 dAL_growb_44
set_option maxHeartbeats 4000000 in
set_option maxRecDepth 100000 in
theorem k_alGrowN15 (l : Launch) (D : va_G) (cT : Nat → ClassId) (cds : List Nat) (ad : Nat → Nat) (gg : Nat → Option va_E) (tE : Nat) (mE : Nat) (h : Nat) (md : Int32) (le : Nat) (lf : Nat → Option Nat) (bs : Nat) (hcd : CD cds) (hel : ∀ k8, k8 < 15 → ∃ fs8 : List Value, bs + k8 < 8192 ∧ lf k8 = some (ad (bs + k8)) ∧ gg (bs + k8) = some (.inr (10, fs8))) (sz : Nat) : Met l yAL_grow WAL_grow ({ frames := 4, cells := 1, slots := 22, locals := 107 } : Room) (RWE tE mE D vwCl [.ref h] ([(h, .inr (12, [.ref le, .int (nI 15), .int md])), (le, .inl (cT 7, 15, .inr (.inr (.inr (.inr lf)))))] ++ pg cds ad gg) (TY cT) sz) (va_Qr (fun u9 : Nat => True) (fun u9 q9 t9 => q9 = u9 ∧ BW D vwCl (va_A ([(h, .inr (12, [.ref le, .int (nI 15), .int md])), (le, .inl (cT 7, 15, .inr (.inr (.inr (.inr lf)))))] ++ pg cds ad gg) sz) (fun u9 : Nat => ([(h, .inr (12, [.ref u9, .int (nI 15), .int md])), (le, .inl (cT 7, 15, .inr (.inr (.inr (.inr lf))))), (u9, .inl (cT 7, 22, .inr (.inr (.inr (.inr (va_cpy lf (fun _ => none) 0 0 15))))))] ++ pg cds ad gg)) u9 t9) (va_A ([(h, .inr (12, [.ref le, .int (nI 15), .int md])), (le, .inl (cT 7, 15, .inr (.inr (.inr (.inr lf)))))] ++ pg cds ad gg) sz)) 1 22 (va_A ([(h, .inr (12, [.ref le, .int (nI 15), .int md])), (le, .inl (cT 7, 15, .inr (.inr (.inr (.inr lf)))))] ++ pg cds ad gg) sz) := by
  refine Met.ofW (cc := cAL_grow) (maxL := 1) (ret := (some (.array (.object "java/lang/Object")))) (by decide) rfl ?_
  intro p e s m args below meth c s₁ B hml hv
  obtain ⟨rfl, ⟨hsz, hZ, hP, hK, hD0⟩, hE0⟩ := hv
  have hx := B.exec
  have hb := B.bytes
  have hr := B.returns
  have hts := atoms_spec (ws := WAL_grow) B.pre
  have hT : ∀ w ∈ TB, w.before _ s = true := fun w h => hts w (List.mem_cons_of_mem _ h)
  have hown : s.vm.findClass R_AL = some m.cls := findClass_of_methodNamed B.named
  have hlocks := B.notSynchronized
  subst hsz
  have hD := hD0.self (sz := s.heap.size)
  generalize hAe : va_A ([(h, .inr (12, [.ref le, .int (nI 15), .int md])), (le, .inl (cT 7, 15, .inr (.inr (.inr (.inr lf)))))] ++ pg cds ad gg) s.heap.size = A at hD hZ hE0 ⊢
  have hA : ∀ q : Nat, s.heap.size ≤ q → A q := fun q h => by rw [← hAe]; exact Or.inr h
  have hS : va_S A s.heap s.heap [] := va_S.rf
  have hl := lv_entry ([.ref h]) (n := 1) (Nat.le_of_ble_eq_true rfl)
  rw [lg_entry_eq]
  generalize (lg_sl ([.ref h]) ++ List.replicate (1 - (lg_sl ([.ref h])).length) Slot.unset).toArray = ls at hl ⊢
  have hl : lv_has ls 1 [(0, .ref h)] := hl
  refine lv_aload_n hx hb dAL_grow_0 rfl (lv_at hl 0 rfl) ?_
  refine lv_aload_n hx hb dAL_grow_1 rfl (lv_at hl 0 rfl) ?_
  refine va_get (D := D) (ci := 12) (v := .int (nI 15)) (C := R_AL) (T := T_AL) (N := 3) hx hb hT in_AL hown hK hP 0 rfl rfl 1 (by decide) (hT _ w269) (fun _ h9 => h9) rfl dAL_grow_2 ?_
  refine lv_iconst (v := 1) hx hb dAL_grow_5 (by decide) ?_
  refine lv_iadd hx hb dAL_grow_6 ?_
  refine lv_topi (fun y9 e9 => ?_)
  cases (show y9 = 16 from e9.trans (by decide))
  refine hy_rP (X := [(h, .inr (12, [.ref le, .int (nI 15), .int md])), (le, .inl (cT 7, 15, .inr (.inr (.inr (.inr lf)))))]) (pl := pg cds ad gg) (cx := [(h, .inr (12, [.ref le, .int (nI 15), .int md])), (le, .inl (cT 7, 15, .inr (.inr (.inr (.inr lf)))))]) (wr := []) hP hD hS hA [0, 1] [] rfl rfl (by decide) (by decide) (va_runV (As := [.int 16]) (rest := []) ⟨hx, hb, hml, hown, hT⟩ (k_alGrowbN15 l D cT cds ad gg tE mE h md le lf bs hcd hel _) ⟨callB_of 1 hT (tb_gd w769) rfl rfl rfl (hT _ w11) (hT _ w766) hAL_growb ⟨Nat.le_of_ble_eq_true rfl, Nat.le_of_ble_eq_true rfl⟩, (hT _ w768), (hT _ wp11)⟩ (RWE.preV (ci := 12) (q0 := 0) hE0 hZ hS (va_freeP (cx := [(h, .inr (12, [.ref le, .int (nI 15), .int md])), (le, .inl (cT 7, 15, .inr (.inr (.inr (.inr lf)))))]) hD hS hA [0, 1] rfl) (hP.part (cx := [(h, .inr (12, [.ref le, .int (nI 15), .int md])), (le, .inl (cT 7, 15, .inr (.inr (.inr (.inr lf)))))]) [0, 1] rfl) hK (hD.part (cx := [(h, .inr (12, [.ref le, .int (nI 15), .int md])), (le, .inl (cT 7, 15, .inr (.inr (.inr (.inr lf)))))]) [0, 1] (by decide) rfl) rfl rfl) rfl rfl hl.1 rfl (lv_room (Nat.le_of_ble_eq_true rfl)) dAL_grow_7 ⟨Nat.le_of_ble_eq_true rfl, Nat.le_of_ble_eq_true rfl⟩) (fun u9 H locs hpu1 hP hD hS => ?_)
  obtain ⟨nqu1, rfl⟩ : ∃ q9, q9 = u9 := ⟨_, rfl⟩
  have hpu1 : True := hpu1
  have hP : va_P D vwCl ([(h, .inr (12, [.ref nqu1, .int (nI 15), .int md])), (le, .inl (cT 7, 15, .inr (.inr (.inr (.inr lf))))), (nqu1, .inl (cT 7, 22, .inr (.inr (.inr (.inr (va_cpy lf (fun _ => none) 0 0 15))))))] ++ pg cds ad gg) _ := hP
  have hD : va_D A ([(h, .inr (12, [.ref nqu1, .int (nI 15), .int md])), (le, .inl (cT 7, 15, .inr (.inr (.inr (.inr lf))))), (nqu1, .inl (cT 7, 22, .inr (.inr (.inr (.inr (va_cpy lf (fun _ => none) 0 0 15))))))] ++ pg cds ad gg) := hD
  refine W.eq (g2 := F0 m 10 ls [.ref nqu1]) rfl ?_
  have hP9 : va_P D vwCl ([(h, .inr (12, [.ref nqu1, .int (nI 15), .int md])), (le, .inl (cT 7, 15, .inr (.inr (.inr (.inr lf))))), (nqu1, .inl (cT 7, 22, .inr (.inr (.inr (.inr (va_cpy lf (fun _ => none) 0 0 15))))))] ++ pg cds ad gg) _ := hP.part (cx := [(h, .inr (12, [.ref nqu1, .int (nI 15), .int md])), (le, .inl (cT 7, 15, .inr (.inr (.inr (.inr lf))))), (nqu1, .inl (cT 7, 22, .inr (.inr (.inr (.inr (va_cpy lf (fun _ => none) 0 0 15))))))]) [0, 1, 2] rfl
  have hD9 : va_D A ([(h, .inr (12, [.ref nqu1, .int (nI 15), .int md])), (le, .inl (cT 7, 15, .inr (.inr (.inr (.inr lf))))), (nqu1, .inl (cT 7, 22, .inr (.inr (.inr (.inr (va_cpy lf (fun _ => none) 0 0 15))))))] ++ pg cds ad gg) := hD.part (cx := [(h, .inr (12, [.ref nqu1, .int (nI 15), .int md])), (le, .inl (cT 7, 15, .inr (.inr (.inr (.inr lf))))), (nqu1, .inl (cT 7, 22, .inr (.inr (.inr (.inr (va_cpy lf (fun _ => none) 0 0 15))))))]) [0, 1, 2] (by decide) rfl
  refine W.widen (k := 1) (n := 22) (Nat.le_of_ble_eq_true rfl) (Nat.le_of_ble_eq_true rfl) ?_
  exact W.aret (v := .ref nqu1) hx hb hr (Or.inr ⟨_, rfl⟩) (Or.inr ⟨_, rfl⟩) (fun t9 ht9 hW9 => ⟨⟨nqu1, nqu1, rfl, (show True from trivial), rfl, by rw [ht9]; exact hP9, hD9⟩, hS.F ht9⟩) hS.2.2 dAL_grow_10
set_option maxHeartbeats 4000000 in
set_option maxRecDepth 100000 in
theorem k_arCopy3N22 (l : Launch) (D : va_G) (cT : Nat → ClassId) (cds : List Nat) (ad : Nat → Nat) (gg : Nat → Option va_E) (tE : Nat) (mE : Nat) (le : Nat) (lf : Nat → Option Nat) (bs : Nat) (hcd : CD cds) (hel : ∀ k8, k8 < 22 → ∃ fs8 : List Value, bs + k8 < 8192 ∧ lf k8 = some (ad (bs + k8)) ∧ gg (bs + k8) = some (.inr (10, fs8))) (sz : Nat) : Met l yAr_copyOf3 WAr_copyOf3 ({ frames := 1, cells := 1, slots := 33, locals := 40 } : Room) (RWE tE mE D vwCl [.ref le, .int 33, .ref mE] ([(le, .inl (cT 7, 22, .inr (.inr (.inr (.inr lf)))))] ++ pg cds ad gg) (TY cT) sz) (va_Qr (fun u9 : Nat => True) (fun u9 q9 t9 => q9 = u9 ∧ BW D vwCl (va_A ([(le, .inl (cT 7, 22, .inr (.inr (.inr (.inr lf)))))] ++ pg cds ad gg) sz) (fun u9 : Nat => ([(le, .inl (cT 7, 22, .inr (.inr (.inr (.inr lf))))), (u9, .inl (cT 7, 33, .inr (.inr (.inr (.inr (va_cpy lf (fun _ => none) 0 0 22))))))] ++ pg cds ad gg)) u9 t9) (va_A ([(le, .inl (cT 7, 22, .inr (.inr (.inr (.inr lf)))))] ++ pg cds ad gg) sz)) 1 33 (va_A ([(le, .inl (cT 7, 22, .inr (.inr (.inr (.inr lf)))))] ++ pg cds ad gg) sz) := by
  refine Met.ofW (cc := cAr_copyOf3) (maxL := 4) (ret := (some (.array (.object "java/lang/Object")))) (by decide) rfl ?_
  intro p e s m args below meth c s₁ B hml hv
  obtain ⟨rfl, ⟨hsz, hZ, hP, hK, hD0⟩, hE0⟩ := hv
  have hx := B.exec
  have hb := B.bytes
  have hr := B.returns
  have hts := atoms_spec (ws := WAr_copyOf3) B.pre
  have hT : ∀ w ∈ TB, w.before _ s = true := fun w h => hts w (List.mem_cons_of_mem _ h)
  have hown : s.vm.findClass R_Ar = some m.cls := findClass_of_methodNamed B.named
  have hlocks := B.notSynchronized
  subst hsz
  have hD := hD0.self (sz := s.heap.size)
  generalize hAe : va_A ([(le, .inl (cT 7, 22, .inr (.inr (.inr (.inr lf)))))] ++ pg cds ad gg) s.heap.size = A at hD hZ hE0 ⊢
  have hA : ∀ q : Nat, s.heap.size ≤ q → A q := fun q h => by rw [← hAe]; exact Or.inr h
  have hS : va_S A s.heap s.heap [] := va_S.rf
  have hl := lv_entry ([.ref le, .int 33, .ref mE]) (n := 4) (Nat.le_of_ble_eq_true rfl)
  rw [lg_entry_eq]
  generalize (lg_sl ([.ref le, .int 33, .ref mE]) ++ List.replicate (4 - (lg_sl ([.ref le, .int 33, .ref mE])).length) Slot.unset).toArray = ls at hl ⊢
  have hl : lv_has ls 4 [(0, .ref le), (1, .int 33), (2, .ref mE)] := hl
  refine lv_aload_n hx hb dAr_copyOf3_0 rfl (lv_at hl 2 rfl) ?_
  refine va_ldcM hx hb hown (hT _ w805) hE0.2.2 dAr_copyOf3_1 ?_
  refine lv_acmp_ne (rx := some mE) (ry := some mE) (tgt := 13) hx hb dAr_copyOf3_3 rfl (fun q9 => absurd rfl q9) (fun _ => ?_)
  refine lv_iload_n hx hb dAr_copyOf3_6 rfl (lv_at hl 1 rfl) ?_
  refine nw_q (C := "java/lang/Object") (N' := 33) hx hb hown (hT _ w807) (hZ.1.2.2.2.1 "java/lang/Object" (List.mem_of_getElem? (i := 3) rfl)) hK hP hD hS hA 7 rfl (by decide +kernel) (by decide +kernel) (by decide +kernel) (Nat.le_of_ble_eq_true rfl) (Nat.le_of_ble_eq_true rfl) dAr_copyOf3_7 (fun q7 H hP hD hS => ?_)
  have hP := hy_push hP
  have hD := hy_pushD hD
  have hP : va_P D vwCl ([(le, .inl (cT 7, 22, .inr (.inr (.inr (.inr lf))))), (q7, .inl (cT 7, 33, .inr (.inr (.inr (.inr (fun _ => none))))))] ++ pg cds ad gg) _ := hP
  have hD : va_D A ([(le, .inl (cT 7, 22, .inr (.inr (.inr (.inr lf))))), (q7, .inl (cT 7, 33, .inr (.inr (.inr (.inr (fun _ => none))))))] ++ pg cds ad gg) := hD
  refine lv_goto (tgt := 24) hx hb dAr_copyOf3_10 rfl ?_
  refine lv_astore_n hx hb dAr_copyOf3_24 rfl hl (by decide) rfl (fun ls hl => ?_)
  have hl : lv_has ls 4 [(3, .ref q7), (0, .ref le), (1, .int 33), (2, .ref mE)] := hl
  refine lv_aload_n hx hb dAr_copyOf3_25 rfl (lv_at hl 1 rfl) ?_
  refine lv_iconst (v := 0) hx hb dAr_copyOf3_26 (by decide) ?_
  refine lv_aload_n hx hb dAr_copyOf3_27 rfl (lv_at hl 0 rfl) ?_
  refine lv_iconst (v := 0) hx hb dAr_copyOf3_28 (by decide) ?_
  refine lv_aload_n hx hb dAr_copyOf3_29 rfl (lv_at hl 1 rfl) ?_
  refine va_alen (v := 22) hx hb hK hP 0 7 rfl rfl rfl dAr_copyOf3_30 ?_
  refine lv_iload_n hx hb dAr_copyOf3_31 rfl (lv_at hl 2 rfl) ?_
  refine va_mmin hx hb (hml.trans hl.1.symm) hown (hT _ w808) (hT _ w448) (hT _ w22) (hT _ w449) (Nat.le_of_ble_eq_true rfl) (Nat.le_of_ble_eq_true rfl) (Nat.le_of_ble_eq_true rfl) (Nat.le_of_ble_eq_true rfl) dAr_copyOf3_32 ?_
  refine lv_topi (fun y9 e9 => ?_)
  cases (show y9 = 22 from e9.trans (by decide))
  have hel9 : ∀ i : Nat, i < 22 → ∀ y : Nat, lf i = some y → ∃ cellV : Cell, _[y]? = some cellV ∧ cellV.vm.isStatics = false ∧ s.vm.findClass "ResidualTrees$Node" = some cellV.cls := fun i hi y hy => by obtain ⟨fs, h1, h2, h3⟩ := hel i hi; cases h2.symm.trans hy; exact va_recv (ci := 10) (q0 := 0) hK (pg_1 hcd hP h1 h3) rfl rfl
  refine va_copyq (C := "ResidualTrees$Node") hx hb (hml.trans hl.1.symm) hown (hT _ w809) (hT _ w452) (hT _ w451) (hT _ w23) hK hP hD hS 0 1 7 7 rfl rfl rfl rfl (by decide) (by decide) (by decide) (by decide) (by decide) (fun i hi y hy => hel9 i hi y (by rw [← hy]; exact congrArg lf (Nat.zero_add i).symm)) (asg_of (hZ.1.1 ("ResidualTrees$Node", "java/lang/Object") (List.mem_of_getElem? (i := 15) rfl))) (Nat.le_of_ble_eq_true rfl) (by decide) dAr_copyOf3_35 (fun H locs hP hD hS => ?_)
  have hP : va_P D vwCl ([(le, .inl (cT 7, 22, .inr (.inr (.inr (.inr lf))))), (q7, .inl (cT 7, 33, .inr (.inr (.inr (.inr (va_cpy lf (fun _ => none) 0 0 22))))))] ++ pg cds ad gg) _ := hP
  have hD : va_D A ([(le, .inl (cT 7, 22, .inr (.inr (.inr (.inr lf))))), (q7, .inl (cT 7, 33, .inr (.inr (.inr (.inr (va_cpy lf (fun _ => none) 0 0 22))))))] ++ pg cds ad gg) := hD
  refine lv_aload_n hx hb dAr_copyOf3_38 rfl (lv_at hl 0 rfl) ?_
  have hP9 : va_P D vwCl ([(le, .inl (cT 7, 22, .inr (.inr (.inr (.inr lf))))), (q7, .inl (cT 7, 33, .inr (.inr (.inr (.inr (va_cpy lf (fun _ => none) 0 0 22))))))] ++ pg cds ad gg) _ := hP.part (cx := [(le, .inl (cT 7, 22, .inr (.inr (.inr (.inr lf))))), (q7, .inl (cT 7, 33, .inr (.inr (.inr (.inr (va_cpy lf (fun _ => none) 0 0 22))))))]) [0, 1] rfl
  have hD9 : va_D A ([(le, .inl (cT 7, 22, .inr (.inr (.inr (.inr lf))))), (q7, .inl (cT 7, 33, .inr (.inr (.inr (.inr (va_cpy lf (fun _ => none) 0 0 22))))))] ++ pg cds ad gg) := hD.part (cx := [(le, .inl (cT 7, 22, .inr (.inr (.inr (.inr lf))))), (q7, .inl (cT 7, 33, .inr (.inr (.inr (.inr (va_cpy lf (fun _ => none) 0 0 22))))))]) [0, 1] (by decide) rfl
  refine W.widen (k := 1) (n := 33) (Nat.le_of_ble_eq_true rfl) (Nat.le_of_ble_eq_true rfl) ?_
  exact W.aret (v := .ref q7) hx hb hr (Or.inr ⟨_, rfl⟩) (Or.inr ⟨_, rfl⟩) (fun t9 ht9 hW9 => ⟨⟨q7, q7, rfl, (show True from trivial), rfl, by rw [ht9]; exact hP9, hD9⟩, hS.F ht9⟩) hS.2.2 dAr_copyOf3_39
set_option maxHeartbeats 4000000 in
set_option maxRecDepth 100000 in
theorem k_arCopyN22 (l : Launch) (D : va_G) (cT : Nat → ClassId) (cds : List Nat) (ad : Nat → Nat) (gg : Nat → Option va_E) (tE : Nat) (mE : Nat) (le : Nat) (lf : Nat → Option Nat) (bs : Nat) (hcd : CD cds) (hel : ∀ k8, k8 < 22 → ∃ fs8 : List Value, bs + k8 < 8192 ∧ lf k8 = some (ad (bs + k8)) ∧ gg (bs + k8) = some (.inr (10, fs8))) (sz : Nat) : Met l yAr_copyOf WAr_copyOf ({ frames := 2, cells := 1, slots := 33, locals := 63 } : Room) (RWE tE mE D vwCl [.ref le, .int 33] ([(le, .inl (cT 7, 22, .inr (.inr (.inr (.inr lf)))))] ++ pg cds ad gg) (TY cT) sz) (va_Qr (fun u9 : Nat => True) (fun u9 q9 t9 => q9 = u9 ∧ BW D vwCl (va_A ([(le, .inl (cT 7, 22, .inr (.inr (.inr (.inr lf)))))] ++ pg cds ad gg) sz) (fun u9 : Nat => ([(le, .inl (cT 7, 22, .inr (.inr (.inr (.inr lf))))), (u9, .inl (cT 7, 33, .inr (.inr (.inr (.inr (va_cpy lf (fun _ => none) 0 0 22))))))] ++ pg cds ad gg)) u9 t9) (va_A ([(le, .inl (cT 7, 22, .inr (.inr (.inr (.inr lf)))))] ++ pg cds ad gg) sz)) 1 33 (va_A ([(le, .inl (cT 7, 22, .inr (.inr (.inr (.inr lf)))))] ++ pg cds ad gg) sz) := by
  refine Met.ofW (cc := cAr_copyOf) (maxL := 2) (ret := (some (.array (.object "java/lang/Object")))) (by decide) rfl ?_
  intro p e s m args below meth c s₁ B hml hv
  obtain ⟨rfl, ⟨hsz, hZ, hP, hK, hD0⟩, hE0⟩ := hv
  have hx := B.exec
  have hb := B.bytes
  have hr := B.returns
  have hts := atoms_spec (ws := WAr_copyOf) B.pre
  have hT : ∀ w ∈ TB, w.before _ s = true := fun w h => hts w (List.mem_cons_of_mem _ h)
  have hown : s.vm.findClass R_Ar = some m.cls := findClass_of_methodNamed B.named
  have hlocks := B.notSynchronized
  subst hsz
  have hD := hD0.self (sz := s.heap.size)
  generalize hAe : va_A ([(le, .inl (cT 7, 22, .inr (.inr (.inr (.inr lf)))))] ++ pg cds ad gg) s.heap.size = A at hD hZ hE0 ⊢
  have hA : ∀ q : Nat, s.heap.size ≤ q → A q := fun q h => by rw [← hAe]; exact Or.inr h
  have hS : va_S A s.heap s.heap [] := va_S.rf
  have hl := lv_entry ([.ref le, .int 33]) (n := 2) (Nat.le_of_ble_eq_true rfl)
  rw [lg_entry_eq]
  generalize (lg_sl ([.ref le, .int 33]) ++ List.replicate (2 - (lg_sl ([.ref le, .int 33])).length) Slot.unset).toArray = ls at hl ⊢
  have hl : lv_has ls 2 [(0, .ref le), (1, .int 33)] := hl
  refine lv_aload_n hx hb dAr_copyOf_0 rfl (lv_at hl 0 rfl) ?_
  refine lv_iload_n hx hb dAr_copyOf_1 rfl (lv_at hl 1 rfl) ?_
  refine lv_aload_n hx hb dAr_copyOf_2 rfl (lv_at hl 0 rfl) ?_
  refine va_getC (C := "[Ljava/lang/Object;") hx hb (hml.trans hl.1.symm) hown (hT _ w783) (va_Nw.use rfl (hZ.1.2.2.1 _ (List.mem_of_getElem? (i := 6) rfl))) (hT _ w1597) (hT _ w784) (hT _ w801) hE0.2.2 (arr_cl hK hP 0 7 rfl rfl) (Nat.le_of_ble_eq_true rfl) (Nat.le_of_ble_eq_true rfl) dAr_copyOf_3 ?_
  refine hy_rP (X := [(le, .inl (cT 7, 22, .inr (.inr (.inr (.inr lf)))))]) (pl := pg cds ad gg) (cx := [(le, .inl (cT 7, 22, .inr (.inr (.inr (.inr lf)))))]) (wr := []) hP hD hS hA [0] [] rfl rfl (by decide) (by decide) (va_runS (As := [.ref le, .int 33, .ref mE]) (rest := []) ⟨hx, hb, hml, hown, hT⟩ (k_arCopy3N22 l D cT cds ad gg tE mE le lf bs hcd hel _) ⟨callB_of 3 hT (tb_gd w804) rfl rfl rfl (hT _ w26) (hT _ w802) hAr_copyOf3 ⟨Nat.le_of_ble_eq_true rfl, Nat.le_of_ble_eq_true rfl⟩, (hT _ w803)⟩ (RWE.preS hE0 hZ hS (va_freeP (cx := [(le, .inl (cT 7, 22, .inr (.inr (.inr (.inr lf)))))]) hD hS hA [0] rfl) (hP.part (cx := [(le, .inl (cT 7, 22, .inr (.inr (.inr (.inr lf)))))]) [0] rfl) hK (hD.part (cx := [(le, .inl (cT 7, 22, .inr (.inr (.inr (.inr lf)))))]) [0] (by decide) rfl)) rfl rfl hl.1 rfl (lv_room (Nat.le_of_ble_eq_true rfl)) dAr_copyOf_6 ⟨Nat.le_of_ble_eq_true rfl, Nat.le_of_ble_eq_true rfl⟩) (fun u9 H locs hpu1 hP hD hS => ?_)
  obtain ⟨nqu1, rfl⟩ : ∃ q9, q9 = u9 := ⟨_, rfl⟩
  have hpu1 : True := hpu1
  have hP : va_P D vwCl ([(le, .inl (cT 7, 22, .inr (.inr (.inr (.inr lf))))), (nqu1, .inl (cT 7, 33, .inr (.inr (.inr (.inr (va_cpy lf (fun _ => none) 0 0 22))))))] ++ pg cds ad gg) _ := hP
  have hD : va_D A ([(le, .inl (cT 7, 22, .inr (.inr (.inr (.inr lf))))), (nqu1, .inl (cT 7, 33, .inr (.inr (.inr (.inr (va_cpy lf (fun _ => none) 0 0 22))))))] ++ pg cds ad gg) := hD
  refine W.eq (g2 := F0 m 9 ls [.ref nqu1]) rfl ?_
  have hP9 : va_P D vwCl ([(le, .inl (cT 7, 22, .inr (.inr (.inr (.inr lf))))), (nqu1, .inl (cT 7, 33, .inr (.inr (.inr (.inr (va_cpy lf (fun _ => none) 0 0 22))))))] ++ pg cds ad gg) _ := hP.part (cx := [(le, .inl (cT 7, 22, .inr (.inr (.inr (.inr lf))))), (nqu1, .inl (cT 7, 33, .inr (.inr (.inr (.inr (va_cpy lf (fun _ => none) 0 0 22))))))]) [0, 1] rfl
  have hD9 : va_D A ([(le, .inl (cT 7, 22, .inr (.inr (.inr (.inr lf))))), (nqu1, .inl (cT 7, 33, .inr (.inr (.inr (.inr (va_cpy lf (fun _ => none) 0 0 22))))))] ++ pg cds ad gg) := hD.part (cx := [(le, .inl (cT 7, 22, .inr (.inr (.inr (.inr lf))))), (nqu1, .inl (cT 7, 33, .inr (.inr (.inr (.inr (va_cpy lf (fun _ => none) 0 0 22))))))]) [0, 1] (by decide) rfl
  refine W.widen (k := 1) (n := 33) (Nat.le_of_ble_eq_true rfl) (Nat.le_of_ble_eq_true rfl) ?_
  exact W.aret (v := .ref nqu1) hx hb hr (Or.inr ⟨_, rfl⟩) (Or.inr ⟨_, rfl⟩) (fun t9 ht9 hW9 => ⟨⟨nqu1, nqu1, rfl, (show True from trivial), rfl, by rw [ht9]; exact hP9, hD9⟩, hS.F ht9⟩) hS.2.2 dAr_copyOf_9
set_option maxHeartbeats 4000000 in
set_option maxRecDepth 100000 in
theorem k_alGrowbN22 (l : Launch) (D : va_G) (cT : Nat → ClassId) (cds : List Nat) (ad : Nat → Nat) (gg : Nat → Option va_E) (tE : Nat) (mE : Nat) (h : Nat) (md : Int32) (le : Nat) (lf : Nat → Option Nat) (bs : Nat) (hcd : CD cds) (hel : ∀ k8, k8 < 22 → ∃ fs8 : List Value, bs + k8 < 8192 ∧ lf k8 = some (ad (bs + k8)) ∧ gg (bs + k8) = some (.inr (10, fs8))) (sz : Nat) : Met l yAL_growb WAL_growb ({ frames := 3, cells := 1, slots := 33, locals := 84 } : Room) (RWE tE mE D vwCl [.ref h, .int 23] ([(h, .inr (12, [.ref le, .int (nI 22), .int md])), (le, .inl (cT 7, 22, .inr (.inr (.inr (.inr lf)))))] ++ pg cds ad gg) (TY cT) sz) (va_Qr (fun u9 : Nat => True) (fun u9 q9 t9 => q9 = u9 ∧ BW D vwCl (va_A ([(h, .inr (12, [.ref le, .int (nI 22), .int md])), (le, .inl (cT 7, 22, .inr (.inr (.inr (.inr lf)))))] ++ pg cds ad gg) sz) (fun u9 : Nat => ([(h, .inr (12, [.ref u9, .int (nI 22), .int md])), (le, .inl (cT 7, 22, .inr (.inr (.inr (.inr lf))))), (u9, .inl (cT 7, 33, .inr (.inr (.inr (.inr (va_cpy lf (fun _ => none) 0 0 22))))))] ++ pg cds ad gg)) u9 t9) (va_A ([(h, .inr (12, [.ref le, .int (nI 22), .int md])), (le, .inl (cT 7, 22, .inr (.inr (.inr (.inr lf)))))] ++ pg cds ad gg) sz)) 1 33 (va_A ([(h, .inr (12, [.ref le, .int (nI 22), .int md])), (le, .inl (cT 7, 22, .inr (.inr (.inr (.inr lf)))))] ++ pg cds ad gg) sz) := by
  refine Met.ofW (cc := cAL_growb) (maxL := 4) (ret := (some (.array (.object "java/lang/Object")))) (by decide) rfl ?_
  intro p e s m args below meth c s₁ B hml hv
  obtain ⟨rfl, ⟨hsz, hZ, hP, hK, hD0⟩, hE0⟩ := hv
  have hx := B.exec
  have hb := B.bytes
  have hr := B.returns
  have hts := atoms_spec (ws := WAL_growb) B.pre
  have hT : ∀ w ∈ TB, w.before _ s = true := fun w h => hts w (List.mem_cons_of_mem _ h)
  have hown : s.vm.findClass R_AL = some m.cls := findClass_of_methodNamed B.named
  have hlocks := B.notSynchronized
  subst hsz
  have hD := hD0.self (sz := s.heap.size)
  generalize hAe : va_A ([(h, .inr (12, [.ref le, .int (nI 22), .int md])), (le, .inl (cT 7, 22, .inr (.inr (.inr (.inr lf)))))] ++ pg cds ad gg) s.heap.size = A at hD hZ hE0 ⊢
  have hA : ∀ q : Nat, s.heap.size ≤ q → A q := fun q h => by rw [← hAe]; exact Or.inr h
  have hS : va_S A s.heap s.heap [] := va_S.rf
  have hl := lv_entry ([.ref h, .int 23]) (n := 4) (Nat.le_of_ble_eq_true rfl)
  rw [lg_entry_eq]
  generalize (lg_sl ([.ref h, .int 23]) ++ List.replicate (4 - (lg_sl ([.ref h, .int 23])).length) Slot.unset).toArray = ls at hl ⊢
  have hl : lv_has ls 4 [(0, .ref h), (1, .int 23)] := hl
  refine lv_aload_n hx hb dAL_growb_0 rfl (lv_at hl 0 rfl) ?_
  refine va_get (D := D) (ci := 12) (v := .ref le) (C := R_AL) (T := T_AL) (N := 3) hx hb hT in_AL hown hK hP 0 rfl rfl 0 (by decide) (hT _ w268) (fun _ h9 => h9) rfl dAL_growb_1 ?_
  refine va_alen (v := 22) hx hb hK hP 1 7 rfl rfl rfl dAL_growb_4 ?_
  refine lv_istore_n hx hb dAL_growb_5 rfl hl (by decide) rfl (fun ls hl => ?_)
  have hl : lv_has ls 4 [(2, .int 22), (0, .ref h), (1, .int 23)] := hl
  refine lv_iload_n hx hb dAL_growb_6 rfl (lv_at hl 0 rfl) ?_
  refine lv_if_gt (tgt := 20) hx hb dAL_growb_7 rfl (fun _ => ?_) (fun h1 => absurd (by decide) h1)
  refine lv_iload_n hx hb dAL_growb_20 rfl (lv_at hl 0 rfl) ?_
  refine lv_iload_n hx hb dAL_growb_21 rfl (lv_at hl 2 rfl) ?_
  refine lv_iload_n hx hb dAL_growb_22 rfl (lv_at hl 0 rfl) ?_
  refine lv_isub hx hb dAL_growb_23 ?_
  refine lv_topi (fun y9 e9 => ?_)
  cases (show y9 = 1 from e9.trans (by decide))
  refine lv_iload_n hx hb dAL_growb_24 rfl (lv_at hl 0 rfl) ?_
  refine lv_iconst (v := 1) hx hb dAL_growb_25 (by decide) ?_
  refine lv_ishr hx hb dAL_growb_26 ?_
  refine lv_topi (fun y9 e9 => ?_)
  cases (show y9 = 11 from e9.trans (by decide))
  refine ro_i (va_Run.run (va_runS (As := [.int 22, .int 1, .int 11]) (rest := []) ⟨hx, hb, hml, hown, hT⟩ (k_newLen l D cT 22 1 11 (by decide) (by decide) (by decide)) ⟨callB_of 3 hT (tb_gd w772) rfl rfl rfl (hT _ w25) (hT _ w770) hAs_newLength ⟨Nat.le_of_ble_eq_true rfl, Nat.le_of_ble_eq_true rfl⟩, (hT _ w771)⟩ (RO.preS hZ hS ((show va_P D vwCl [] _ from fun _ _ h => nomatch h)) hK) rfl rfl hl.1 rfl (lv_room (Nat.le_of_ble_eq_true rfl)) dAL_growb_27 ⟨Nat.le_of_ble_eq_true rfl, Nat.le_of_ble_eq_true rfl⟩)) ?_
  refine lv_topi (fun y9 e9 => ?_)
  cases (show y9 = 33 from e9.trans (by decide))
  refine lv_istore_n hx hb dAL_growb_30 rfl hl (by decide) rfl (fun ls hl => ?_)
  have hl : lv_has ls 4 [(3, .int 33), (2, .int 22), (0, .ref h), (1, .int 23)] := hl
  refine lv_aload_n hx hb dAL_growb_31 rfl (lv_at hl 2 rfl) ?_
  refine lv_aload_n hx hb dAL_growb_32 rfl (lv_at hl 2 rfl) ?_
  refine va_get (D := D) (ci := 12) (v := .ref le) (C := R_AL) (T := T_AL) (N := 3) hx hb hT in_AL hown hK hP 0 rfl rfl 0 (by decide) (hT _ w268) (fun _ h9 => h9) rfl dAL_growb_33 ?_
  refine lv_iload_n hx hb dAL_growb_36 rfl (lv_at hl 0 rfl) ?_
  refine hy_rP (X := [(h, .inr (12, [.ref le, .int (nI 22), .int md])), (le, .inl (cT 7, 22, .inr (.inr (.inr (.inr lf)))))]) (pl := pg cds ad gg) (cx := [(le, .inl (cT 7, 22, .inr (.inr (.inr (.inr lf)))))]) (wr := [(h, .inr (12, [.ref le, .int (nI 22), .int md]))]) hP hD hS hA [1] [0] rfl rfl (by decide) (by decide) (va_runS (As := [.ref le, .int 33]) (rest := [.ref h]) ⟨hx, hb, hml, hown, hT⟩ (k_arCopyN22 l D cT cds ad gg tE mE le lf bs hcd hel _) ⟨callB_of 2 hT (tb_gd w782) rfl rfl rfl (hT _ w26) (hT _ w780) hAr_copyOf ⟨Nat.le_of_ble_eq_true rfl, Nat.le_of_ble_eq_true rfl⟩, (hT _ w781)⟩ (RWE.preS hE0 hZ hS (va_freeP (cx := [(le, .inl (cT 7, 22, .inr (.inr (.inr (.inr lf)))))]) hD hS hA [1] rfl) (hP.part (cx := [(le, .inl (cT 7, 22, .inr (.inr (.inr (.inr lf)))))]) [1] rfl) hK (hD.part (cx := [(le, .inl (cT 7, 22, .inr (.inr (.inr (.inr lf)))))]) [1] (by decide) rfl)) rfl rfl hl.1 rfl (lv_room (Nat.le_of_ble_eq_true rfl)) dAL_growb_37 ⟨Nat.le_of_ble_eq_true rfl, Nat.le_of_ble_eq_true rfl⟩) (fun u9 H locs hpu2 hP hD hS => ?_)
  obtain ⟨nqu2, rfl⟩ : ∃ q9, q9 = u9 := ⟨_, rfl⟩
  have hpu2 : True := hpu2
  have hP : va_P D vwCl ([(h, .inr (12, [.ref le, .int (nI 22), .int md])), (le, .inl (cT 7, 22, .inr (.inr (.inr (.inr lf))))), (nqu2, .inl (cT 7, 33, .inr (.inr (.inr (.inr (va_cpy lf (fun _ => none) 0 0 22))))))] ++ pg cds ad gg) _ := hP
  have hD : va_D A ([(h, .inr (12, [.ref le, .int (nI 22), .int md])), (le, .inl (cT 7, 22, .inr (.inr (.inr (.inr lf))))), (nqu2, .inl (cT 7, 33, .inr (.inr (.inr (.inr (va_cpy lf (fun _ => none) 0 0 22))))))] ++ pg cds ad gg) := hD
  refine W.eq (g2 := F0 m 40 ls [.ref nqu2, .ref h]) rfl ?_
  refine lv_dup_x1 hx hb dAL_growb_40 rfl rfl ?_
  refine va_put (D := D) (ci := 12) (v := .ref nqu2) (ty := .array (.object "java/lang/Object")) (C := R_AL) (T := T_AL) (N := 3) hx hb hT in_AL ty_AL ty_AL_ok m_AL hown hK hP hD hS 0 rfl rfl 0 (by decide) (hT _ w268) (fun _ h9 => h9) rfl (by decide +kernel) rfl rfl (Nat.le_of_ble_eq_true rfl) dAL_growb_41 (fun H locs hP hD hS => ?_)
  have hP : va_P D vwCl ([(h, .inr (12, [.ref nqu2, .int (nI 22), .int md])), (le, .inl (cT 7, 22, .inr (.inr (.inr (.inr lf))))), (nqu2, .inl (cT 7, 33, .inr (.inr (.inr (.inr (va_cpy lf (fun _ => none) 0 0 22))))))] ++ pg cds ad gg) _ := hP
  have hD : va_D A ([(h, .inr (12, [.ref nqu2, .int (nI 22), .int md])), (le, .inl (cT 7, 22, .inr (.inr (.inr (.inr lf))))), (nqu2, .inl (cT 7, 33, .inr (.inr (.inr (.inr (va_cpy lf (fun _ => none) 0 0 22))))))] ++ pg cds ad gg) := hD
  have hP9 : va_P D vwCl ([(h, .inr (12, [.ref nqu2, .int (nI 22), .int md])), (le, .inl (cT 7, 22, .inr (.inr (.inr (.inr lf))))), (nqu2, .inl (cT 7, 33, .inr (.inr (.inr (.inr (va_cpy lf (fun _ => none) 0 0 22))))))] ++ pg cds ad gg) _ := hP.part (cx := [(h, .inr (12, [.ref nqu2, .int (nI 22), .int md])), (le, .inl (cT 7, 22, .inr (.inr (.inr (.inr lf))))), (nqu2, .inl (cT 7, 33, .inr (.inr (.inr (.inr (va_cpy lf (fun _ => none) 0 0 22))))))]) [0, 1, 2] rfl
  have hD9 : va_D A ([(h, .inr (12, [.ref nqu2, .int (nI 22), .int md])), (le, .inl (cT 7, 22, .inr (.inr (.inr (.inr lf))))), (nqu2, .inl (cT 7, 33, .inr (.inr (.inr (.inr (va_cpy lf (fun _ => none) 0 0 22))))))] ++ pg cds ad gg) := hD.part (cx := [(h, .inr (12, [.ref nqu2, .int (nI 22), .int md])), (le, .inl (cT 7, 22, .inr (.inr (.inr (.inr lf))))), (nqu2, .inl (cT 7, 33, .inr (.inr (.inr (.inr (va_cpy lf (fun _ => none) 0 0 22))))))]) [0, 1, 2] (by decide) rfl
  refine W.widen (k := 1) (n := 33) (Nat.le_of_ble_eq_true rfl) (Nat.le_of_ble_eq_true rfl) ?_
  exact W.aret (v := .ref nqu2) hx hb hr (Or.inr ⟨_, rfl⟩) (Or.inr ⟨_, rfl⟩) (fun t9 ht9 hW9 => ⟨⟨nqu2, nqu2, rfl, (show True from trivial), rfl, by rw [ht9]; exact hP9, hD9⟩, hS.F ht9⟩) hS.2.2 dAL_growb_44
set_option maxHeartbeats 4000000 in
set_option maxRecDepth 100000 in
theorem k_alGrowN22 (l : Launch) (D : va_G) (cT : Nat → ClassId) (cds : List Nat) (ad : Nat → Nat) (gg : Nat → Option va_E) (tE : Nat) (mE : Nat) (h : Nat) (md : Int32) (le : Nat) (lf : Nat → Option Nat) (bs : Nat) (hcd : CD cds) (hel : ∀ k8, k8 < 22 → ∃ fs8 : List Value, bs + k8 < 8192 ∧ lf k8 = some (ad (bs + k8)) ∧ gg (bs + k8) = some (.inr (10, fs8))) (sz : Nat) : Met l yAL_grow WAL_grow ({ frames := 4, cells := 1, slots := 33, locals := 107 } : Room) (RWE tE mE D vwCl [.ref h] ([(h, .inr (12, [.ref le, .int (nI 22), .int md])), (le, .inl (cT 7, 22, .inr (.inr (.inr (.inr lf)))))] ++ pg cds ad gg) (TY cT) sz) (va_Qr (fun u9 : Nat => True) (fun u9 q9 t9 => q9 = u9 ∧ BW D vwCl (va_A ([(h, .inr (12, [.ref le, .int (nI 22), .int md])), (le, .inl (cT 7, 22, .inr (.inr (.inr (.inr lf)))))] ++ pg cds ad gg) sz) (fun u9 : Nat => ([(h, .inr (12, [.ref u9, .int (nI 22), .int md])), (le, .inl (cT 7, 22, .inr (.inr (.inr (.inr lf))))), (u9, .inl (cT 7, 33, .inr (.inr (.inr (.inr (va_cpy lf (fun _ => none) 0 0 22))))))] ++ pg cds ad gg)) u9 t9) (va_A ([(h, .inr (12, [.ref le, .int (nI 22), .int md])), (le, .inl (cT 7, 22, .inr (.inr (.inr (.inr lf)))))] ++ pg cds ad gg) sz)) 1 33 (va_A ([(h, .inr (12, [.ref le, .int (nI 22), .int md])), (le, .inl (cT 7, 22, .inr (.inr (.inr (.inr lf)))))] ++ pg cds ad gg) sz) := by
  refine Met.ofW (cc := cAL_grow) (maxL := 1) (ret := (some (.array (.object "java/lang/Object")))) (by decide) rfl ?_
  intro p e s m args below meth c s₁ B hml hv
  obtain ⟨rfl, ⟨hsz, hZ, hP, hK, hD0⟩, hE0⟩ := hv
  have hx := B.exec
  have hb := B.bytes
  have hr := B.returns
  have hts := atoms_spec (ws := WAL_grow) B.pre
  have hT : ∀ w ∈ TB, w.before _ s = true := fun w h => hts w (List.mem_cons_of_mem _ h)
  have hown : s.vm.findClass R_AL = some m.cls := findClass_of_methodNamed B.named
  have hlocks := B.notSynchronized
  subst hsz
  have hD := hD0.self (sz := s.heap.size)
  generalize hAe : va_A ([(h, .inr (12, [.ref le, .int (nI 22), .int md])), (le, .inl (cT 7, 22, .inr (.inr (.inr (.inr lf)))))] ++ pg cds ad gg) s.heap.size = A at hD hZ hE0 ⊢
  have hA : ∀ q : Nat, s.heap.size ≤ q → A q := fun q h => by rw [← hAe]; exact Or.inr h
  have hS : va_S A s.heap s.heap [] := va_S.rf
  have hl := lv_entry ([.ref h]) (n := 1) (Nat.le_of_ble_eq_true rfl)
  rw [lg_entry_eq]
  generalize (lg_sl ([.ref h]) ++ List.replicate (1 - (lg_sl ([.ref h])).length) Slot.unset).toArray = ls at hl ⊢
  have hl : lv_has ls 1 [(0, .ref h)] := hl
  refine lv_aload_n hx hb dAL_grow_0 rfl (lv_at hl 0 rfl) ?_
  refine lv_aload_n hx hb dAL_grow_1 rfl (lv_at hl 0 rfl) ?_
  refine va_get (D := D) (ci := 12) (v := .int (nI 22)) (C := R_AL) (T := T_AL) (N := 3) hx hb hT in_AL hown hK hP 0 rfl rfl 1 (by decide) (hT _ w269) (fun _ h9 => h9) rfl dAL_grow_2 ?_
  refine lv_iconst (v := 1) hx hb dAL_grow_5 (by decide) ?_
  refine lv_iadd hx hb dAL_grow_6 ?_
  refine lv_topi (fun y9 e9 => ?_)
  cases (show y9 = 23 from e9.trans (by decide))
  refine hy_rP (X := [(h, .inr (12, [.ref le, .int (nI 22), .int md])), (le, .inl (cT 7, 22, .inr (.inr (.inr (.inr lf)))))]) (pl := pg cds ad gg) (cx := [(h, .inr (12, [.ref le, .int (nI 22), .int md])), (le, .inl (cT 7, 22, .inr (.inr (.inr (.inr lf)))))]) (wr := []) hP hD hS hA [0, 1] [] rfl rfl (by decide) (by decide) (va_runV (As := [.int 23]) (rest := []) ⟨hx, hb, hml, hown, hT⟩ (k_alGrowbN22 l D cT cds ad gg tE mE h md le lf bs hcd hel _) ⟨callB_of 1 hT (tb_gd w769) rfl rfl rfl (hT _ w11) (hT _ w766) hAL_growb ⟨Nat.le_of_ble_eq_true rfl, Nat.le_of_ble_eq_true rfl⟩, (hT _ w768), (hT _ wp11)⟩ (RWE.preV (ci := 12) (q0 := 0) hE0 hZ hS (va_freeP (cx := [(h, .inr (12, [.ref le, .int (nI 22), .int md])), (le, .inl (cT 7, 22, .inr (.inr (.inr (.inr lf)))))]) hD hS hA [0, 1] rfl) (hP.part (cx := [(h, .inr (12, [.ref le, .int (nI 22), .int md])), (le, .inl (cT 7, 22, .inr (.inr (.inr (.inr lf)))))]) [0, 1] rfl) hK (hD.part (cx := [(h, .inr (12, [.ref le, .int (nI 22), .int md])), (le, .inl (cT 7, 22, .inr (.inr (.inr (.inr lf)))))]) [0, 1] (by decide) rfl) rfl rfl) rfl rfl hl.1 rfl (lv_room (Nat.le_of_ble_eq_true rfl)) dAL_grow_7 ⟨Nat.le_of_ble_eq_true rfl, Nat.le_of_ble_eq_true rfl⟩) (fun u9 H locs hpu1 hP hD hS => ?_)
  obtain ⟨nqu1, rfl⟩ : ∃ q9, q9 = u9 := ⟨_, rfl⟩
  have hpu1 : True := hpu1
  have hP : va_P D vwCl ([(h, .inr (12, [.ref nqu1, .int (nI 22), .int md])), (le, .inl (cT 7, 22, .inr (.inr (.inr (.inr lf))))), (nqu1, .inl (cT 7, 33, .inr (.inr (.inr (.inr (va_cpy lf (fun _ => none) 0 0 22))))))] ++ pg cds ad gg) _ := hP
  have hD : va_D A ([(h, .inr (12, [.ref nqu1, .int (nI 22), .int md])), (le, .inl (cT 7, 22, .inr (.inr (.inr (.inr lf))))), (nqu1, .inl (cT 7, 33, .inr (.inr (.inr (.inr (va_cpy lf (fun _ => none) 0 0 22))))))] ++ pg cds ad gg) := hD
  refine W.eq (g2 := F0 m 10 ls [.ref nqu1]) rfl ?_
  have hP9 : va_P D vwCl ([(h, .inr (12, [.ref nqu1, .int (nI 22), .int md])), (le, .inl (cT 7, 22, .inr (.inr (.inr (.inr lf))))), (nqu1, .inl (cT 7, 33, .inr (.inr (.inr (.inr (va_cpy lf (fun _ => none) 0 0 22))))))] ++ pg cds ad gg) _ := hP.part (cx := [(h, .inr (12, [.ref nqu1, .int (nI 22), .int md])), (le, .inl (cT 7, 22, .inr (.inr (.inr (.inr lf))))), (nqu1, .inl (cT 7, 33, .inr (.inr (.inr (.inr (va_cpy lf (fun _ => none) 0 0 22))))))]) [0, 1, 2] rfl
  have hD9 : va_D A ([(h, .inr (12, [.ref nqu1, .int (nI 22), .int md])), (le, .inl (cT 7, 22, .inr (.inr (.inr (.inr lf))))), (nqu1, .inl (cT 7, 33, .inr (.inr (.inr (.inr (va_cpy lf (fun _ => none) 0 0 22))))))] ++ pg cds ad gg) := hD.part (cx := [(h, .inr (12, [.ref nqu1, .int (nI 22), .int md])), (le, .inl (cT 7, 22, .inr (.inr (.inr (.inr lf))))), (nqu1, .inl (cT 7, 33, .inr (.inr (.inr (.inr (va_cpy lf (fun _ => none) 0 0 22))))))]) [0, 1, 2] (by decide) rfl
  refine W.widen (k := 1) (n := 33) (Nat.le_of_ble_eq_true rfl) (Nat.le_of_ble_eq_true rfl) ?_
  exact W.aret (v := .ref nqu1) hx hb hr (Or.inr ⟨_, rfl⟩) (Or.inr ⟨_, rfl⟩) (fun t9 ht9 hW9 => ⟨⟨nqu1, nqu1, rfl, (show True from trivial), rfl, by rw [ht9]; exact hP9, hD9⟩, hS.F ht9⟩) hS.2.2 dAL_grow_10
set_option maxHeartbeats 4000000 in
set_option maxRecDepth 100000 in
theorem k_arCopy3T10 (l : Launch) (D : va_G) (cT : Nat → ClassId) (cds : List Nat) (ad : Nat → Nat) (gg : Nat → Option va_E) (tE : Nat) (mE : Nat) (le : Nat) (lf : Nat → Option Nat) (bs : Nat) (hcd : CD cds) (hel : ∀ k8, k8 < 10 → ∃ fs8 : List Value, bs + k8 < 8192 ∧ lf k8 = some (ad (bs + k8)) ∧ gg (bs + k8) = some (.inr (9, fs8))) (sz : Nat) : Met l yAr_copyOf3 WAr_copyOf3 ({ frames := 1, cells := 1, slots := 15, locals := 40 } : Room) (RWE tE mE D vwCl [.ref le, .int 15, .ref mE] ([(le, .inl (cT 7, 10, .inr (.inr (.inr (.inr lf)))))] ++ pg cds ad gg) (TY cT) sz) (va_Qr (fun u9 : Nat => True) (fun u9 q9 t9 => q9 = u9 ∧ BW D vwCl (va_A ([(le, .inl (cT 7, 10, .inr (.inr (.inr (.inr lf)))))] ++ pg cds ad gg) sz) (fun u9 : Nat => ([(le, .inl (cT 7, 10, .inr (.inr (.inr (.inr lf))))), (u9, .inl (cT 7, 15, .inr (.inr (.inr (.inr (va_cpy lf (fun _ => none) 0 0 10))))))] ++ pg cds ad gg)) u9 t9) (va_A ([(le, .inl (cT 7, 10, .inr (.inr (.inr (.inr lf)))))] ++ pg cds ad gg) sz)) 1 15 (va_A ([(le, .inl (cT 7, 10, .inr (.inr (.inr (.inr lf)))))] ++ pg cds ad gg) sz) := by
  refine Met.ofW (cc := cAr_copyOf3) (maxL := 4) (ret := (some (.array (.object "java/lang/Object")))) (by decide) rfl ?_
  intro p e s m args below meth c s₁ B hml hv
  obtain ⟨rfl, ⟨hsz, hZ, hP, hK, hD0⟩, hE0⟩ := hv
  have hx := B.exec
  have hb := B.bytes
  have hr := B.returns
  have hts := atoms_spec (ws := WAr_copyOf3) B.pre
  have hT : ∀ w ∈ TB, w.before _ s = true := fun w h => hts w (List.mem_cons_of_mem _ h)
  have hown : s.vm.findClass R_Ar = some m.cls := findClass_of_methodNamed B.named
  have hlocks := B.notSynchronized
  subst hsz
  have hD := hD0.self (sz := s.heap.size)
  generalize hAe : va_A ([(le, .inl (cT 7, 10, .inr (.inr (.inr (.inr lf)))))] ++ pg cds ad gg) s.heap.size = A at hD hZ hE0 ⊢
  have hA : ∀ q : Nat, s.heap.size ≤ q → A q := fun q h => by rw [← hAe]; exact Or.inr h
  have hS : va_S A s.heap s.heap [] := va_S.rf
  have hl := lv_entry ([.ref le, .int 15, .ref mE]) (n := 4) (Nat.le_of_ble_eq_true rfl)
  rw [lg_entry_eq]
  generalize (lg_sl ([.ref le, .int 15, .ref mE]) ++ List.replicate (4 - (lg_sl ([.ref le, .int 15, .ref mE])).length) Slot.unset).toArray = ls at hl ⊢
  have hl : lv_has ls 4 [(0, .ref le), (1, .int 15), (2, .ref mE)] := hl
  refine lv_aload_n hx hb dAr_copyOf3_0 rfl (lv_at hl 2 rfl) ?_
  refine va_ldcM hx hb hown (hT _ w805) hE0.2.2 dAr_copyOf3_1 ?_
  refine lv_acmp_ne (rx := some mE) (ry := some mE) (tgt := 13) hx hb dAr_copyOf3_3 rfl (fun q9 => absurd rfl q9) (fun _ => ?_)
  refine lv_iload_n hx hb dAr_copyOf3_6 rfl (lv_at hl 1 rfl) ?_
  refine nw_q (C := "java/lang/Object") (N' := 15) hx hb hown (hT _ w807) (hZ.1.2.2.2.1 "java/lang/Object" (List.mem_of_getElem? (i := 3) rfl)) hK hP hD hS hA 7 rfl (by decide +kernel) (by decide +kernel) (by decide +kernel) (Nat.le_of_ble_eq_true rfl) (Nat.le_of_ble_eq_true rfl) dAr_copyOf3_7 (fun q7 H hP hD hS => ?_)
  have hP := hy_push hP
  have hD := hy_pushD hD
  have hP : va_P D vwCl ([(le, .inl (cT 7, 10, .inr (.inr (.inr (.inr lf))))), (q7, .inl (cT 7, 15, .inr (.inr (.inr (.inr (fun _ => none))))))] ++ pg cds ad gg) _ := hP
  have hD : va_D A ([(le, .inl (cT 7, 10, .inr (.inr (.inr (.inr lf))))), (q7, .inl (cT 7, 15, .inr (.inr (.inr (.inr (fun _ => none))))))] ++ pg cds ad gg) := hD
  refine lv_goto (tgt := 24) hx hb dAr_copyOf3_10 rfl ?_
  refine lv_astore_n hx hb dAr_copyOf3_24 rfl hl (by decide) rfl (fun ls hl => ?_)
  have hl : lv_has ls 4 [(3, .ref q7), (0, .ref le), (1, .int 15), (2, .ref mE)] := hl
  refine lv_aload_n hx hb dAr_copyOf3_25 rfl (lv_at hl 1 rfl) ?_
  refine lv_iconst (v := 0) hx hb dAr_copyOf3_26 (by decide) ?_
  refine lv_aload_n hx hb dAr_copyOf3_27 rfl (lv_at hl 0 rfl) ?_
  refine lv_iconst (v := 0) hx hb dAr_copyOf3_28 (by decide) ?_
  refine lv_aload_n hx hb dAr_copyOf3_29 rfl (lv_at hl 1 rfl) ?_
  refine va_alen (v := 10) hx hb hK hP 0 7 rfl rfl rfl dAr_copyOf3_30 ?_
  refine lv_iload_n hx hb dAr_copyOf3_31 rfl (lv_at hl 2 rfl) ?_
  refine va_mmin hx hb (hml.trans hl.1.symm) hown (hT _ w808) (hT _ w448) (hT _ w22) (hT _ w449) (Nat.le_of_ble_eq_true rfl) (Nat.le_of_ble_eq_true rfl) (Nat.le_of_ble_eq_true rfl) (Nat.le_of_ble_eq_true rfl) dAr_copyOf3_32 ?_
  refine lv_topi (fun y9 e9 => ?_)
  cases (show y9 = 10 from e9.trans (by decide))
  have hel9 : ∀ i : Nat, i < 10 → ∀ y : Nat, lf i = some y → ∃ cellV : Cell, _[y]? = some cellV ∧ cellV.vm.isStatics = false ∧ s.vm.findClass "ResidualTrees$Tree" = some cellV.cls := fun i hi y hy => by obtain ⟨fs, h1, h2, h3⟩ := hel i hi; cases h2.symm.trans hy; exact va_recv (ci := 9) (q0 := 0) hK (pg_1 hcd hP h1 h3) rfl rfl
  refine va_copyq (C := "ResidualTrees$Tree") hx hb (hml.trans hl.1.symm) hown (hT _ w809) (hT _ w452) (hT _ w451) (hT _ w23) hK hP hD hS 0 1 7 7 rfl rfl rfl rfl (by decide) (by decide) (by decide) (by decide) (by decide) (fun i hi y hy => hel9 i hi y (by rw [← hy]; exact congrArg lf (Nat.zero_add i).symm)) (asg_of (hZ.1.1 ("ResidualTrees$Tree", "java/lang/Object") (List.mem_of_getElem? (i := 14) rfl))) (Nat.le_of_ble_eq_true rfl) (by decide) dAr_copyOf3_35 (fun H locs hP hD hS => ?_)
  have hP : va_P D vwCl ([(le, .inl (cT 7, 10, .inr (.inr (.inr (.inr lf))))), (q7, .inl (cT 7, 15, .inr (.inr (.inr (.inr (va_cpy lf (fun _ => none) 0 0 10))))))] ++ pg cds ad gg) _ := hP
  have hD : va_D A ([(le, .inl (cT 7, 10, .inr (.inr (.inr (.inr lf))))), (q7, .inl (cT 7, 15, .inr (.inr (.inr (.inr (va_cpy lf (fun _ => none) 0 0 10))))))] ++ pg cds ad gg) := hD
  refine lv_aload_n hx hb dAr_copyOf3_38 rfl (lv_at hl 0 rfl) ?_
  have hP9 : va_P D vwCl ([(le, .inl (cT 7, 10, .inr (.inr (.inr (.inr lf))))), (q7, .inl (cT 7, 15, .inr (.inr (.inr (.inr (va_cpy lf (fun _ => none) 0 0 10))))))] ++ pg cds ad gg) _ := hP.part (cx := [(le, .inl (cT 7, 10, .inr (.inr (.inr (.inr lf))))), (q7, .inl (cT 7, 15, .inr (.inr (.inr (.inr (va_cpy lf (fun _ => none) 0 0 10))))))]) [0, 1] rfl
  have hD9 : va_D A ([(le, .inl (cT 7, 10, .inr (.inr (.inr (.inr lf))))), (q7, .inl (cT 7, 15, .inr (.inr (.inr (.inr (va_cpy lf (fun _ => none) 0 0 10))))))] ++ pg cds ad gg) := hD.part (cx := [(le, .inl (cT 7, 10, .inr (.inr (.inr (.inr lf))))), (q7, .inl (cT 7, 15, .inr (.inr (.inr (.inr (va_cpy lf (fun _ => none) 0 0 10))))))]) [0, 1] (by decide) rfl
  refine W.widen (k := 1) (n := 15) (Nat.le_of_ble_eq_true rfl) (Nat.le_of_ble_eq_true rfl) ?_
  exact W.aret (v := .ref q7) hx hb hr (Or.inr ⟨_, rfl⟩) (Or.inr ⟨_, rfl⟩) (fun t9 ht9 hW9 => ⟨⟨q7, q7, rfl, (show True from trivial), rfl, by rw [ht9]; exact hP9, hD9⟩, hS.F ht9⟩) hS.2.2 dAr_copyOf3_39
set_option maxHeartbeats 4000000 in
set_option maxRecDepth 100000 in
theorem k_arCopyT10 (l : Launch) (D : va_G) (cT : Nat → ClassId) (cds : List Nat) (ad : Nat → Nat) (gg : Nat → Option va_E) (tE : Nat) (mE : Nat) (le : Nat) (lf : Nat → Option Nat) (bs : Nat) (hcd : CD cds) (hel : ∀ k8, k8 < 10 → ∃ fs8 : List Value, bs + k8 < 8192 ∧ lf k8 = some (ad (bs + k8)) ∧ gg (bs + k8) = some (.inr (9, fs8))) (sz : Nat) : Met l yAr_copyOf WAr_copyOf ({ frames := 2, cells := 1, slots := 15, locals := 63 } : Room) (RWE tE mE D vwCl [.ref le, .int 15] ([(le, .inl (cT 7, 10, .inr (.inr (.inr (.inr lf)))))] ++ pg cds ad gg) (TY cT) sz) (va_Qr (fun u9 : Nat => True) (fun u9 q9 t9 => q9 = u9 ∧ BW D vwCl (va_A ([(le, .inl (cT 7, 10, .inr (.inr (.inr (.inr lf)))))] ++ pg cds ad gg) sz) (fun u9 : Nat => ([(le, .inl (cT 7, 10, .inr (.inr (.inr (.inr lf))))), (u9, .inl (cT 7, 15, .inr (.inr (.inr (.inr (va_cpy lf (fun _ => none) 0 0 10))))))] ++ pg cds ad gg)) u9 t9) (va_A ([(le, .inl (cT 7, 10, .inr (.inr (.inr (.inr lf)))))] ++ pg cds ad gg) sz)) 1 15 (va_A ([(le, .inl (cT 7, 10, .inr (.inr (.inr (.inr lf)))))] ++ pg cds ad gg) sz) := by
  refine Met.ofW (cc := cAr_copyOf) (maxL := 2) (ret := (some (.array (.object "java/lang/Object")))) (by decide) rfl ?_
  intro p e s m args below meth c s₁ B hml hv
  obtain ⟨rfl, ⟨hsz, hZ, hP, hK, hD0⟩, hE0⟩ := hv
  have hx := B.exec
  have hb := B.bytes
  have hr := B.returns
  have hts := atoms_spec (ws := WAr_copyOf) B.pre
  have hT : ∀ w ∈ TB, w.before _ s = true := fun w h => hts w (List.mem_cons_of_mem _ h)
  have hown : s.vm.findClass R_Ar = some m.cls := findClass_of_methodNamed B.named
  have hlocks := B.notSynchronized
  subst hsz
  have hD := hD0.self (sz := s.heap.size)
  generalize hAe : va_A ([(le, .inl (cT 7, 10, .inr (.inr (.inr (.inr lf)))))] ++ pg cds ad gg) s.heap.size = A at hD hZ hE0 ⊢
  have hA : ∀ q : Nat, s.heap.size ≤ q → A q := fun q h => by rw [← hAe]; exact Or.inr h
  have hS : va_S A s.heap s.heap [] := va_S.rf
  have hl := lv_entry ([.ref le, .int 15]) (n := 2) (Nat.le_of_ble_eq_true rfl)
  rw [lg_entry_eq]
  generalize (lg_sl ([.ref le, .int 15]) ++ List.replicate (2 - (lg_sl ([.ref le, .int 15])).length) Slot.unset).toArray = ls at hl ⊢
  have hl : lv_has ls 2 [(0, .ref le), (1, .int 15)] := hl
  refine lv_aload_n hx hb dAr_copyOf_0 rfl (lv_at hl 0 rfl) ?_
  refine lv_iload_n hx hb dAr_copyOf_1 rfl (lv_at hl 1 rfl) ?_
  refine lv_aload_n hx hb dAr_copyOf_2 rfl (lv_at hl 0 rfl) ?_
  refine va_getC (C := "[Ljava/lang/Object;") hx hb (hml.trans hl.1.symm) hown (hT _ w783) (va_Nw.use rfl (hZ.1.2.2.1 _ (List.mem_of_getElem? (i := 6) rfl))) (hT _ w1597) (hT _ w784) (hT _ w801) hE0.2.2 (arr_cl hK hP 0 7 rfl rfl) (Nat.le_of_ble_eq_true rfl) (Nat.le_of_ble_eq_true rfl) dAr_copyOf_3 ?_
  refine hy_rP (X := [(le, .inl (cT 7, 10, .inr (.inr (.inr (.inr lf)))))]) (pl := pg cds ad gg) (cx := [(le, .inl (cT 7, 10, .inr (.inr (.inr (.inr lf)))))]) (wr := []) hP hD hS hA [0] [] rfl rfl (by decide) (by decide) (va_runS (As := [.ref le, .int 15, .ref mE]) (rest := []) ⟨hx, hb, hml, hown, hT⟩ (k_arCopy3T10 l D cT cds ad gg tE mE le lf bs hcd hel _) ⟨callB_of 3 hT (tb_gd w804) rfl rfl rfl (hT _ w26) (hT _ w802) hAr_copyOf3 ⟨Nat.le_of_ble_eq_true rfl, Nat.le_of_ble_eq_true rfl⟩, (hT _ w803)⟩ (RWE.preS hE0 hZ hS (va_freeP (cx := [(le, .inl (cT 7, 10, .inr (.inr (.inr (.inr lf)))))]) hD hS hA [0] rfl) (hP.part (cx := [(le, .inl (cT 7, 10, .inr (.inr (.inr (.inr lf)))))]) [0] rfl) hK (hD.part (cx := [(le, .inl (cT 7, 10, .inr (.inr (.inr (.inr lf)))))]) [0] (by decide) rfl)) rfl rfl hl.1 rfl (lv_room (Nat.le_of_ble_eq_true rfl)) dAr_copyOf_6 ⟨Nat.le_of_ble_eq_true rfl, Nat.le_of_ble_eq_true rfl⟩) (fun u9 H locs hpu1 hP hD hS => ?_)
  obtain ⟨nqu1, rfl⟩ : ∃ q9, q9 = u9 := ⟨_, rfl⟩
  have hpu1 : True := hpu1
  have hP : va_P D vwCl ([(le, .inl (cT 7, 10, .inr (.inr (.inr (.inr lf))))), (nqu1, .inl (cT 7, 15, .inr (.inr (.inr (.inr (va_cpy lf (fun _ => none) 0 0 10))))))] ++ pg cds ad gg) _ := hP
  have hD : va_D A ([(le, .inl (cT 7, 10, .inr (.inr (.inr (.inr lf))))), (nqu1, .inl (cT 7, 15, .inr (.inr (.inr (.inr (va_cpy lf (fun _ => none) 0 0 10))))))] ++ pg cds ad gg) := hD
  refine W.eq (g2 := F0 m 9 ls [.ref nqu1]) rfl ?_
  have hP9 : va_P D vwCl ([(le, .inl (cT 7, 10, .inr (.inr (.inr (.inr lf))))), (nqu1, .inl (cT 7, 15, .inr (.inr (.inr (.inr (va_cpy lf (fun _ => none) 0 0 10))))))] ++ pg cds ad gg) _ := hP.part (cx := [(le, .inl (cT 7, 10, .inr (.inr (.inr (.inr lf))))), (nqu1, .inl (cT 7, 15, .inr (.inr (.inr (.inr (va_cpy lf (fun _ => none) 0 0 10))))))]) [0, 1] rfl
  have hD9 : va_D A ([(le, .inl (cT 7, 10, .inr (.inr (.inr (.inr lf))))), (nqu1, .inl (cT 7, 15, .inr (.inr (.inr (.inr (va_cpy lf (fun _ => none) 0 0 10))))))] ++ pg cds ad gg) := hD.part (cx := [(le, .inl (cT 7, 10, .inr (.inr (.inr (.inr lf))))), (nqu1, .inl (cT 7, 15, .inr (.inr (.inr (.inr (va_cpy lf (fun _ => none) 0 0 10))))))]) [0, 1] (by decide) rfl
  refine W.widen (k := 1) (n := 15) (Nat.le_of_ble_eq_true rfl) (Nat.le_of_ble_eq_true rfl) ?_
  exact W.aret (v := .ref nqu1) hx hb hr (Or.inr ⟨_, rfl⟩) (Or.inr ⟨_, rfl⟩) (fun t9 ht9 hW9 => ⟨⟨nqu1, nqu1, rfl, (show True from trivial), rfl, by rw [ht9]; exact hP9, hD9⟩, hS.F ht9⟩) hS.2.2 dAr_copyOf_9
set_option maxHeartbeats 4000000 in
set_option maxRecDepth 100000 in
theorem k_alGrowbT10 (l : Launch) (D : va_G) (cT : Nat → ClassId) (cds : List Nat) (ad : Nat → Nat) (gg : Nat → Option va_E) (tE : Nat) (mE : Nat) (h : Nat) (md : Int32) (le : Nat) (lf : Nat → Option Nat) (bs : Nat) (hcd : CD cds) (hel : ∀ k8, k8 < 10 → ∃ fs8 : List Value, bs + k8 < 8192 ∧ lf k8 = some (ad (bs + k8)) ∧ gg (bs + k8) = some (.inr (9, fs8))) (sz : Nat) : Met l yAL_growb WAL_growb ({ frames := 3, cells := 1, slots := 15, locals := 84 } : Room) (RWE tE mE D vwCl [.ref h, .int 11] ([(h, .inr (12, [.ref le, .int (nI 10), .int md])), (le, .inl (cT 7, 10, .inr (.inr (.inr (.inr lf)))))] ++ pg cds ad gg) (TY cT) sz) (va_Qr (fun u9 : Nat => True) (fun u9 q9 t9 => q9 = u9 ∧ BW D vwCl (va_A ([(h, .inr (12, [.ref le, .int (nI 10), .int md])), (le, .inl (cT 7, 10, .inr (.inr (.inr (.inr lf)))))] ++ pg cds ad gg) sz) (fun u9 : Nat => ([(h, .inr (12, [.ref u9, .int (nI 10), .int md])), (le, .inl (cT 7, 10, .inr (.inr (.inr (.inr lf))))), (u9, .inl (cT 7, 15, .inr (.inr (.inr (.inr (va_cpy lf (fun _ => none) 0 0 10))))))] ++ pg cds ad gg)) u9 t9) (va_A ([(h, .inr (12, [.ref le, .int (nI 10), .int md])), (le, .inl (cT 7, 10, .inr (.inr (.inr (.inr lf)))))] ++ pg cds ad gg) sz)) 1 15 (va_A ([(h, .inr (12, [.ref le, .int (nI 10), .int md])), (le, .inl (cT 7, 10, .inr (.inr (.inr (.inr lf)))))] ++ pg cds ad gg) sz) := by
  refine Met.ofW (cc := cAL_growb) (maxL := 4) (ret := (some (.array (.object "java/lang/Object")))) (by decide) rfl ?_
  intro p e s m args below meth c s₁ B hml hv
  obtain ⟨rfl, ⟨hsz, hZ, hP, hK, hD0⟩, hE0⟩ := hv
  have hx := B.exec
  have hb := B.bytes
  have hr := B.returns
  have hts := atoms_spec (ws := WAL_growb) B.pre
  have hT : ∀ w ∈ TB, w.before _ s = true := fun w h => hts w (List.mem_cons_of_mem _ h)
  have hown : s.vm.findClass R_AL = some m.cls := findClass_of_methodNamed B.named
  have hlocks := B.notSynchronized
  subst hsz
  have hD := hD0.self (sz := s.heap.size)
  generalize hAe : va_A ([(h, .inr (12, [.ref le, .int (nI 10), .int md])), (le, .inl (cT 7, 10, .inr (.inr (.inr (.inr lf)))))] ++ pg cds ad gg) s.heap.size = A at hD hZ hE0 ⊢
  have hA : ∀ q : Nat, s.heap.size ≤ q → A q := fun q h => by rw [← hAe]; exact Or.inr h
  have hS : va_S A s.heap s.heap [] := va_S.rf
  have hl := lv_entry ([.ref h, .int 11]) (n := 4) (Nat.le_of_ble_eq_true rfl)
  rw [lg_entry_eq]
  generalize (lg_sl ([.ref h, .int 11]) ++ List.replicate (4 - (lg_sl ([.ref h, .int 11])).length) Slot.unset).toArray = ls at hl ⊢
  have hl : lv_has ls 4 [(0, .ref h), (1, .int 11)] := hl
  refine lv_aload_n hx hb dAL_growb_0 rfl (lv_at hl 0 rfl) ?_
  refine va_get (D := D) (ci := 12) (v := .ref le) (C := R_AL) (T := T_AL) (N := 3) hx hb hT in_AL hown hK hP 0 rfl rfl 0 (by decide) (hT _ w268) (fun _ h9 => h9) rfl dAL_growb_1 ?_
  refine va_alen (v := 10) hx hb hK hP 1 7 rfl rfl rfl dAL_growb_4 ?_
  refine lv_istore_n hx hb dAL_growb_5 rfl hl (by decide) rfl (fun ls hl => ?_)
  have hl : lv_has ls 4 [(2, .int 10), (0, .ref h), (1, .int 11)] := hl
  refine lv_iload_n hx hb dAL_growb_6 rfl (lv_at hl 0 rfl) ?_
  refine lv_if_gt (tgt := 20) hx hb dAL_growb_7 rfl (fun _ => ?_) (fun h1 => absurd (by decide) h1)
  refine lv_iload_n hx hb dAL_growb_20 rfl (lv_at hl 0 rfl) ?_
  refine lv_iload_n hx hb dAL_growb_21 rfl (lv_at hl 2 rfl) ?_
  refine lv_iload_n hx hb dAL_growb_22 rfl (lv_at hl 0 rfl) ?_
  refine lv_isub hx hb dAL_growb_23 ?_
  refine lv_topi (fun y9 e9 => ?_)
  cases (show y9 = 1 from e9.trans (by decide))
  refine lv_iload_n hx hb dAL_growb_24 rfl (lv_at hl 0 rfl) ?_
  refine lv_iconst (v := 1) hx hb dAL_growb_25 (by decide) ?_
  refine lv_ishr hx hb dAL_growb_26 ?_
  refine lv_topi (fun y9 e9 => ?_)
  cases (show y9 = 5 from e9.trans (by decide))
  refine ro_i (va_Run.run (va_runS (As := [.int 10, .int 1, .int 5]) (rest := []) ⟨hx, hb, hml, hown, hT⟩ (k_newLen l D cT 10 1 5 (by decide) (by decide) (by decide)) ⟨callB_of 3 hT (tb_gd w772) rfl rfl rfl (hT _ w25) (hT _ w770) hAs_newLength ⟨Nat.le_of_ble_eq_true rfl, Nat.le_of_ble_eq_true rfl⟩, (hT _ w771)⟩ (RO.preS hZ hS ((show va_P D vwCl [] _ from fun _ _ h => nomatch h)) hK) rfl rfl hl.1 rfl (lv_room (Nat.le_of_ble_eq_true rfl)) dAL_growb_27 ⟨Nat.le_of_ble_eq_true rfl, Nat.le_of_ble_eq_true rfl⟩)) ?_
  refine lv_topi (fun y9 e9 => ?_)
  cases (show y9 = 15 from e9.trans (by decide))
  refine lv_istore_n hx hb dAL_growb_30 rfl hl (by decide) rfl (fun ls hl => ?_)
  have hl : lv_has ls 4 [(3, .int 15), (2, .int 10), (0, .ref h), (1, .int 11)] := hl
  refine lv_aload_n hx hb dAL_growb_31 rfl (lv_at hl 2 rfl) ?_
  refine lv_aload_n hx hb dAL_growb_32 rfl (lv_at hl 2 rfl) ?_
  refine va_get (D := D) (ci := 12) (v := .ref le) (C := R_AL) (T := T_AL) (N := 3) hx hb hT in_AL hown hK hP 0 rfl rfl 0 (by decide) (hT _ w268) (fun _ h9 => h9) rfl dAL_growb_33 ?_
  refine lv_iload_n hx hb dAL_growb_36 rfl (lv_at hl 0 rfl) ?_
  refine hy_rP (X := [(h, .inr (12, [.ref le, .int (nI 10), .int md])), (le, .inl (cT 7, 10, .inr (.inr (.inr (.inr lf)))))]) (pl := pg cds ad gg) (cx := [(le, .inl (cT 7, 10, .inr (.inr (.inr (.inr lf)))))]) (wr := [(h, .inr (12, [.ref le, .int (nI 10), .int md]))]) hP hD hS hA [1] [0] rfl rfl (by decide) (by decide) (va_runS (As := [.ref le, .int 15]) (rest := [.ref h]) ⟨hx, hb, hml, hown, hT⟩ (k_arCopyT10 l D cT cds ad gg tE mE le lf bs hcd hel _) ⟨callB_of 2 hT (tb_gd w782) rfl rfl rfl (hT _ w26) (hT _ w780) hAr_copyOf ⟨Nat.le_of_ble_eq_true rfl, Nat.le_of_ble_eq_true rfl⟩, (hT _ w781)⟩ (RWE.preS hE0 hZ hS (va_freeP (cx := [(le, .inl (cT 7, 10, .inr (.inr (.inr (.inr lf)))))]) hD hS hA [1] rfl) (hP.part (cx := [(le, .inl (cT 7, 10, .inr (.inr (.inr (.inr lf)))))]) [1] rfl) hK (hD.part (cx := [(le, .inl (cT 7, 10, .inr (.inr (.inr (.inr lf)))))]) [1] (by decide) rfl)) rfl rfl hl.1 rfl (lv_room (Nat.le_of_ble_eq_true rfl)) dAL_growb_37 ⟨Nat.le_of_ble_eq_true rfl, Nat.le_of_ble_eq_true rfl⟩) (fun u9 H locs hpu2 hP hD hS => ?_)
  obtain ⟨nqu2, rfl⟩ : ∃ q9, q9 = u9 := ⟨_, rfl⟩
  have hpu2 : True := hpu2
  have hP : va_P D vwCl ([(h, .inr (12, [.ref le, .int (nI 10), .int md])), (le, .inl (cT 7, 10, .inr (.inr (.inr (.inr lf))))), (nqu2, .inl (cT 7, 15, .inr (.inr (.inr (.inr (va_cpy lf (fun _ => none) 0 0 10))))))] ++ pg cds ad gg) _ := hP
  have hD : va_D A ([(h, .inr (12, [.ref le, .int (nI 10), .int md])), (le, .inl (cT 7, 10, .inr (.inr (.inr (.inr lf))))), (nqu2, .inl (cT 7, 15, .inr (.inr (.inr (.inr (va_cpy lf (fun _ => none) 0 0 10))))))] ++ pg cds ad gg) := hD
  refine W.eq (g2 := F0 m 40 ls [.ref nqu2, .ref h]) rfl ?_
  refine lv_dup_x1 hx hb dAL_growb_40 rfl rfl ?_
  refine va_put (D := D) (ci := 12) (v := .ref nqu2) (ty := .array (.object "java/lang/Object")) (C := R_AL) (T := T_AL) (N := 3) hx hb hT in_AL ty_AL ty_AL_ok m_AL hown hK hP hD hS 0 rfl rfl 0 (by decide) (hT _ w268) (fun _ h9 => h9) rfl (by decide +kernel) rfl rfl (Nat.le_of_ble_eq_true rfl) dAL_growb_41 (fun H locs hP hD hS => ?_)
  have hP : va_P D vwCl ([(h, .inr (12, [.ref nqu2, .int (nI 10), .int md])), (le, .inl (cT 7, 10, .inr (.inr (.inr (.inr lf))))), (nqu2, .inl (cT 7, 15, .inr (.inr (.inr (.inr (va_cpy lf (fun _ => none) 0 0 10))))))] ++ pg cds ad gg) _ := hP
  have hD : va_D A ([(h, .inr (12, [.ref nqu2, .int (nI 10), .int md])), (le, .inl (cT 7, 10, .inr (.inr (.inr (.inr lf))))), (nqu2, .inl (cT 7, 15, .inr (.inr (.inr (.inr (va_cpy lf (fun _ => none) 0 0 10))))))] ++ pg cds ad gg) := hD
  have hP9 : va_P D vwCl ([(h, .inr (12, [.ref nqu2, .int (nI 10), .int md])), (le, .inl (cT 7, 10, .inr (.inr (.inr (.inr lf))))), (nqu2, .inl (cT 7, 15, .inr (.inr (.inr (.inr (va_cpy lf (fun _ => none) 0 0 10))))))] ++ pg cds ad gg) _ := hP.part (cx := [(h, .inr (12, [.ref nqu2, .int (nI 10), .int md])), (le, .inl (cT 7, 10, .inr (.inr (.inr (.inr lf))))), (nqu2, .inl (cT 7, 15, .inr (.inr (.inr (.inr (va_cpy lf (fun _ => none) 0 0 10))))))]) [0, 1, 2] rfl
  have hD9 : va_D A ([(h, .inr (12, [.ref nqu2, .int (nI 10), .int md])), (le, .inl (cT 7, 10, .inr (.inr (.inr (.inr lf))))), (nqu2, .inl (cT 7, 15, .inr (.inr (.inr (.inr (va_cpy lf (fun _ => none) 0 0 10))))))] ++ pg cds ad gg) := hD.part (cx := [(h, .inr (12, [.ref nqu2, .int (nI 10), .int md])), (le, .inl (cT 7, 10, .inr (.inr (.inr (.inr lf))))), (nqu2, .inl (cT 7, 15, .inr (.inr (.inr (.inr (va_cpy lf (fun _ => none) 0 0 10))))))]) [0, 1, 2] (by decide) rfl
  refine W.widen (k := 1) (n := 15) (Nat.le_of_ble_eq_true rfl) (Nat.le_of_ble_eq_true rfl) ?_
  exact W.aret (v := .ref nqu2) hx hb hr (Or.inr ⟨_, rfl⟩) (Or.inr ⟨_, rfl⟩) (fun t9 ht9 hW9 => ⟨⟨nqu2, nqu2, rfl, (show True from trivial), rfl, by rw [ht9]; exact hP9, hD9⟩, hS.F ht9⟩) hS.2.2 dAL_growb_44
set_option maxHeartbeats 4000000 in
set_option maxRecDepth 100000 in
theorem k_alGrowT10 (l : Launch) (D : va_G) (cT : Nat → ClassId) (cds : List Nat) (ad : Nat → Nat) (gg : Nat → Option va_E) (tE : Nat) (mE : Nat) (h : Nat) (md : Int32) (le : Nat) (lf : Nat → Option Nat) (bs : Nat) (hcd : CD cds) (hel : ∀ k8, k8 < 10 → ∃ fs8 : List Value, bs + k8 < 8192 ∧ lf k8 = some (ad (bs + k8)) ∧ gg (bs + k8) = some (.inr (9, fs8))) (sz : Nat) : Met l yAL_grow WAL_grow ({ frames := 4, cells := 1, slots := 15, locals := 107 } : Room) (RWE tE mE D vwCl [.ref h] ([(h, .inr (12, [.ref le, .int (nI 10), .int md])), (le, .inl (cT 7, 10, .inr (.inr (.inr (.inr lf)))))] ++ pg cds ad gg) (TY cT) sz) (va_Qr (fun u9 : Nat => True) (fun u9 q9 t9 => q9 = u9 ∧ BW D vwCl (va_A ([(h, .inr (12, [.ref le, .int (nI 10), .int md])), (le, .inl (cT 7, 10, .inr (.inr (.inr (.inr lf)))))] ++ pg cds ad gg) sz) (fun u9 : Nat => ([(h, .inr (12, [.ref u9, .int (nI 10), .int md])), (le, .inl (cT 7, 10, .inr (.inr (.inr (.inr lf))))), (u9, .inl (cT 7, 15, .inr (.inr (.inr (.inr (va_cpy lf (fun _ => none) 0 0 10))))))] ++ pg cds ad gg)) u9 t9) (va_A ([(h, .inr (12, [.ref le, .int (nI 10), .int md])), (le, .inl (cT 7, 10, .inr (.inr (.inr (.inr lf)))))] ++ pg cds ad gg) sz)) 1 15 (va_A ([(h, .inr (12, [.ref le, .int (nI 10), .int md])), (le, .inl (cT 7, 10, .inr (.inr (.inr (.inr lf)))))] ++ pg cds ad gg) sz) := by
  refine Met.ofW (cc := cAL_grow) (maxL := 1) (ret := (some (.array (.object "java/lang/Object")))) (by decide) rfl ?_
  intro p e s m args below meth c s₁ B hml hv
  obtain ⟨rfl, ⟨hsz, hZ, hP, hK, hD0⟩, hE0⟩ := hv
  have hx := B.exec
  have hb := B.bytes
  have hr := B.returns
  have hts := atoms_spec (ws := WAL_grow) B.pre
  have hT : ∀ w ∈ TB, w.before _ s = true := fun w h => hts w (List.mem_cons_of_mem _ h)
  have hown : s.vm.findClass R_AL = some m.cls := findClass_of_methodNamed B.named
  have hlocks := B.notSynchronized
  subst hsz
  have hD := hD0.self (sz := s.heap.size)
  generalize hAe : va_A ([(h, .inr (12, [.ref le, .int (nI 10), .int md])), (le, .inl (cT 7, 10, .inr (.inr (.inr (.inr lf)))))] ++ pg cds ad gg) s.heap.size = A at hD hZ hE0 ⊢
  have hA : ∀ q : Nat, s.heap.size ≤ q → A q := fun q h => by rw [← hAe]; exact Or.inr h
  have hS : va_S A s.heap s.heap [] := va_S.rf
  have hl := lv_entry ([.ref h]) (n := 1) (Nat.le_of_ble_eq_true rfl)
  rw [lg_entry_eq]
  generalize (lg_sl ([.ref h]) ++ List.replicate (1 - (lg_sl ([.ref h])).length) Slot.unset).toArray = ls at hl ⊢
  have hl : lv_has ls 1 [(0, .ref h)] := hl
  refine lv_aload_n hx hb dAL_grow_0 rfl (lv_at hl 0 rfl) ?_
  refine lv_aload_n hx hb dAL_grow_1 rfl (lv_at hl 0 rfl) ?_
  refine va_get (D := D) (ci := 12) (v := .int (nI 10)) (C := R_AL) (T := T_AL) (N := 3) hx hb hT in_AL hown hK hP 0 rfl rfl 1 (by decide) (hT _ w269) (fun _ h9 => h9) rfl dAL_grow_2 ?_
  refine lv_iconst (v := 1) hx hb dAL_grow_5 (by decide) ?_
  refine lv_iadd hx hb dAL_grow_6 ?_
  refine lv_topi (fun y9 e9 => ?_)
  cases (show y9 = 11 from e9.trans (by decide))
  refine hy_rP (X := [(h, .inr (12, [.ref le, .int (nI 10), .int md])), (le, .inl (cT 7, 10, .inr (.inr (.inr (.inr lf)))))]) (pl := pg cds ad gg) (cx := [(h, .inr (12, [.ref le, .int (nI 10), .int md])), (le, .inl (cT 7, 10, .inr (.inr (.inr (.inr lf)))))]) (wr := []) hP hD hS hA [0, 1] [] rfl rfl (by decide) (by decide) (va_runV (As := [.int 11]) (rest := []) ⟨hx, hb, hml, hown, hT⟩ (k_alGrowbT10 l D cT cds ad gg tE mE h md le lf bs hcd hel _) ⟨callB_of 1 hT (tb_gd w769) rfl rfl rfl (hT _ w11) (hT _ w766) hAL_growb ⟨Nat.le_of_ble_eq_true rfl, Nat.le_of_ble_eq_true rfl⟩, (hT _ w768), (hT _ wp11)⟩ (RWE.preV (ci := 12) (q0 := 0) hE0 hZ hS (va_freeP (cx := [(h, .inr (12, [.ref le, .int (nI 10), .int md])), (le, .inl (cT 7, 10, .inr (.inr (.inr (.inr lf)))))]) hD hS hA [0, 1] rfl) (hP.part (cx := [(h, .inr (12, [.ref le, .int (nI 10), .int md])), (le, .inl (cT 7, 10, .inr (.inr (.inr (.inr lf)))))]) [0, 1] rfl) hK (hD.part (cx := [(h, .inr (12, [.ref le, .int (nI 10), .int md])), (le, .inl (cT 7, 10, .inr (.inr (.inr (.inr lf)))))]) [0, 1] (by decide) rfl) rfl rfl) rfl rfl hl.1 rfl (lv_room (Nat.le_of_ble_eq_true rfl)) dAL_grow_7 ⟨Nat.le_of_ble_eq_true rfl, Nat.le_of_ble_eq_true rfl⟩) (fun u9 H locs hpu1 hP hD hS => ?_)
  obtain ⟨nqu1, rfl⟩ : ∃ q9, q9 = u9 := ⟨_, rfl⟩
  have hpu1 : True := hpu1
  have hP : va_P D vwCl ([(h, .inr (12, [.ref nqu1, .int (nI 10), .int md])), (le, .inl (cT 7, 10, .inr (.inr (.inr (.inr lf))))), (nqu1, .inl (cT 7, 15, .inr (.inr (.inr (.inr (va_cpy lf (fun _ => none) 0 0 10))))))] ++ pg cds ad gg) _ := hP
  have hD : va_D A ([(h, .inr (12, [.ref nqu1, .int (nI 10), .int md])), (le, .inl (cT 7, 10, .inr (.inr (.inr (.inr lf))))), (nqu1, .inl (cT 7, 15, .inr (.inr (.inr (.inr (va_cpy lf (fun _ => none) 0 0 10))))))] ++ pg cds ad gg) := hD
  refine W.eq (g2 := F0 m 10 ls [.ref nqu1]) rfl ?_
  have hP9 : va_P D vwCl ([(h, .inr (12, [.ref nqu1, .int (nI 10), .int md])), (le, .inl (cT 7, 10, .inr (.inr (.inr (.inr lf))))), (nqu1, .inl (cT 7, 15, .inr (.inr (.inr (.inr (va_cpy lf (fun _ => none) 0 0 10))))))] ++ pg cds ad gg) _ := hP.part (cx := [(h, .inr (12, [.ref nqu1, .int (nI 10), .int md])), (le, .inl (cT 7, 10, .inr (.inr (.inr (.inr lf))))), (nqu1, .inl (cT 7, 15, .inr (.inr (.inr (.inr (va_cpy lf (fun _ => none) 0 0 10))))))]) [0, 1, 2] rfl
  have hD9 : va_D A ([(h, .inr (12, [.ref nqu1, .int (nI 10), .int md])), (le, .inl (cT 7, 10, .inr (.inr (.inr (.inr lf))))), (nqu1, .inl (cT 7, 15, .inr (.inr (.inr (.inr (va_cpy lf (fun _ => none) 0 0 10))))))] ++ pg cds ad gg) := hD.part (cx := [(h, .inr (12, [.ref nqu1, .int (nI 10), .int md])), (le, .inl (cT 7, 10, .inr (.inr (.inr (.inr lf))))), (nqu1, .inl (cT 7, 15, .inr (.inr (.inr (.inr (va_cpy lf (fun _ => none) 0 0 10))))))]) [0, 1, 2] (by decide) rfl
  refine W.widen (k := 1) (n := 15) (Nat.le_of_ble_eq_true rfl) (Nat.le_of_ble_eq_true rfl) ?_
  exact W.aret (v := .ref nqu1) hx hb hr (Or.inr ⟨_, rfl⟩) (Or.inr ⟨_, rfl⟩) (fun t9 ht9 hW9 => ⟨⟨nqu1, nqu1, rfl, (show True from trivial), rfl, by rw [ht9]; exact hP9, hD9⟩, hS.F ht9⟩) hS.2.2 dAL_grow_10
set_option maxHeartbeats 4000000 in
set_option maxRecDepth 100000 in
theorem k_arCopy3T15 (l : Launch) (D : va_G) (cT : Nat → ClassId) (cds : List Nat) (ad : Nat → Nat) (gg : Nat → Option va_E) (tE : Nat) (mE : Nat) (le : Nat) (lf : Nat → Option Nat) (bs : Nat) (hcd : CD cds) (hel : ∀ k8, k8 < 15 → ∃ fs8 : List Value, bs + k8 < 8192 ∧ lf k8 = some (ad (bs + k8)) ∧ gg (bs + k8) = some (.inr (9, fs8))) (sz : Nat) : Met l yAr_copyOf3 WAr_copyOf3 ({ frames := 1, cells := 1, slots := 22, locals := 40 } : Room) (RWE tE mE D vwCl [.ref le, .int 22, .ref mE] ([(le, .inl (cT 7, 15, .inr (.inr (.inr (.inr lf)))))] ++ pg cds ad gg) (TY cT) sz) (va_Qr (fun u9 : Nat => True) (fun u9 q9 t9 => q9 = u9 ∧ BW D vwCl (va_A ([(le, .inl (cT 7, 15, .inr (.inr (.inr (.inr lf)))))] ++ pg cds ad gg) sz) (fun u9 : Nat => ([(le, .inl (cT 7, 15, .inr (.inr (.inr (.inr lf))))), (u9, .inl (cT 7, 22, .inr (.inr (.inr (.inr (va_cpy lf (fun _ => none) 0 0 15))))))] ++ pg cds ad gg)) u9 t9) (va_A ([(le, .inl (cT 7, 15, .inr (.inr (.inr (.inr lf)))))] ++ pg cds ad gg) sz)) 1 22 (va_A ([(le, .inl (cT 7, 15, .inr (.inr (.inr (.inr lf)))))] ++ pg cds ad gg) sz) := by
  refine Met.ofW (cc := cAr_copyOf3) (maxL := 4) (ret := (some (.array (.object "java/lang/Object")))) (by decide) rfl ?_
  intro p e s m args below meth c s₁ B hml hv
  obtain ⟨rfl, ⟨hsz, hZ, hP, hK, hD0⟩, hE0⟩ := hv
  have hx := B.exec
  have hb := B.bytes
  have hr := B.returns
  have hts := atoms_spec (ws := WAr_copyOf3) B.pre
  have hT : ∀ w ∈ TB, w.before _ s = true := fun w h => hts w (List.mem_cons_of_mem _ h)
  have hown : s.vm.findClass R_Ar = some m.cls := findClass_of_methodNamed B.named
  have hlocks := B.notSynchronized
  subst hsz
  have hD := hD0.self (sz := s.heap.size)
  generalize hAe : va_A ([(le, .inl (cT 7, 15, .inr (.inr (.inr (.inr lf)))))] ++ pg cds ad gg) s.heap.size = A at hD hZ hE0 ⊢
  have hA : ∀ q : Nat, s.heap.size ≤ q → A q := fun q h => by rw [← hAe]; exact Or.inr h
  have hS : va_S A s.heap s.heap [] := va_S.rf
  have hl := lv_entry ([.ref le, .int 22, .ref mE]) (n := 4) (Nat.le_of_ble_eq_true rfl)
  rw [lg_entry_eq]
  generalize (lg_sl ([.ref le, .int 22, .ref mE]) ++ List.replicate (4 - (lg_sl ([.ref le, .int 22, .ref mE])).length) Slot.unset).toArray = ls at hl ⊢
  have hl : lv_has ls 4 [(0, .ref le), (1, .int 22), (2, .ref mE)] := hl
  refine lv_aload_n hx hb dAr_copyOf3_0 rfl (lv_at hl 2 rfl) ?_
  refine va_ldcM hx hb hown (hT _ w805) hE0.2.2 dAr_copyOf3_1 ?_
  refine lv_acmp_ne (rx := some mE) (ry := some mE) (tgt := 13) hx hb dAr_copyOf3_3 rfl (fun q9 => absurd rfl q9) (fun _ => ?_)
  refine lv_iload_n hx hb dAr_copyOf3_6 rfl (lv_at hl 1 rfl) ?_
  refine nw_q (C := "java/lang/Object") (N' := 22) hx hb hown (hT _ w807) (hZ.1.2.2.2.1 "java/lang/Object" (List.mem_of_getElem? (i := 3) rfl)) hK hP hD hS hA 7 rfl (by decide +kernel) (by decide +kernel) (by decide +kernel) (Nat.le_of_ble_eq_true rfl) (Nat.le_of_ble_eq_true rfl) dAr_copyOf3_7 (fun q7 H hP hD hS => ?_)
  have hP := hy_push hP
  have hD := hy_pushD hD
  have hP : va_P D vwCl ([(le, .inl (cT 7, 15, .inr (.inr (.inr (.inr lf))))), (q7, .inl (cT 7, 22, .inr (.inr (.inr (.inr (fun _ => none))))))] ++ pg cds ad gg) _ := hP
  have hD : va_D A ([(le, .inl (cT 7, 15, .inr (.inr (.inr (.inr lf))))), (q7, .inl (cT 7, 22, .inr (.inr (.inr (.inr (fun _ => none))))))] ++ pg cds ad gg) := hD
  refine lv_goto (tgt := 24) hx hb dAr_copyOf3_10 rfl ?_
  refine lv_astore_n hx hb dAr_copyOf3_24 rfl hl (by decide) rfl (fun ls hl => ?_)
  have hl : lv_has ls 4 [(3, .ref q7), (0, .ref le), (1, .int 22), (2, .ref mE)] := hl
  refine lv_aload_n hx hb dAr_copyOf3_25 rfl (lv_at hl 1 rfl) ?_
  refine lv_iconst (v := 0) hx hb dAr_copyOf3_26 (by decide) ?_
  refine lv_aload_n hx hb dAr_copyOf3_27 rfl (lv_at hl 0 rfl) ?_
  refine lv_iconst (v := 0) hx hb dAr_copyOf3_28 (by decide) ?_
  refine lv_aload_n hx hb dAr_copyOf3_29 rfl (lv_at hl 1 rfl) ?_
  refine va_alen (v := 15) hx hb hK hP 0 7 rfl rfl rfl dAr_copyOf3_30 ?_
  refine lv_iload_n hx hb dAr_copyOf3_31 rfl (lv_at hl 2 rfl) ?_
  refine va_mmin hx hb (hml.trans hl.1.symm) hown (hT _ w808) (hT _ w448) (hT _ w22) (hT _ w449) (Nat.le_of_ble_eq_true rfl) (Nat.le_of_ble_eq_true rfl) (Nat.le_of_ble_eq_true rfl) (Nat.le_of_ble_eq_true rfl) dAr_copyOf3_32 ?_
  refine lv_topi (fun y9 e9 => ?_)
  cases (show y9 = 15 from e9.trans (by decide))
  have hel9 : ∀ i : Nat, i < 15 → ∀ y : Nat, lf i = some y → ∃ cellV : Cell, _[y]? = some cellV ∧ cellV.vm.isStatics = false ∧ s.vm.findClass "ResidualTrees$Tree" = some cellV.cls := fun i hi y hy => by obtain ⟨fs, h1, h2, h3⟩ := hel i hi; cases h2.symm.trans hy; exact va_recv (ci := 9) (q0 := 0) hK (pg_1 hcd hP h1 h3) rfl rfl
  refine va_copyq (C := "ResidualTrees$Tree") hx hb (hml.trans hl.1.symm) hown (hT _ w809) (hT _ w452) (hT _ w451) (hT _ w23) hK hP hD hS 0 1 7 7 rfl rfl rfl rfl (by decide) (by decide) (by decide) (by decide) (by decide) (fun i hi y hy => hel9 i hi y (by rw [← hy]; exact congrArg lf (Nat.zero_add i).symm)) (asg_of (hZ.1.1 ("ResidualTrees$Tree", "java/lang/Object") (List.mem_of_getElem? (i := 14) rfl))) (Nat.le_of_ble_eq_true rfl) (by decide) dAr_copyOf3_35 (fun H locs hP hD hS => ?_)
  have hP : va_P D vwCl ([(le, .inl (cT 7, 15, .inr (.inr (.inr (.inr lf))))), (q7, .inl (cT 7, 22, .inr (.inr (.inr (.inr (va_cpy lf (fun _ => none) 0 0 15))))))] ++ pg cds ad gg) _ := hP
  have hD : va_D A ([(le, .inl (cT 7, 15, .inr (.inr (.inr (.inr lf))))), (q7, .inl (cT 7, 22, .inr (.inr (.inr (.inr (va_cpy lf (fun _ => none) 0 0 15))))))] ++ pg cds ad gg) := hD
  refine lv_aload_n hx hb dAr_copyOf3_38 rfl (lv_at hl 0 rfl) ?_
  have hP9 : va_P D vwCl ([(le, .inl (cT 7, 15, .inr (.inr (.inr (.inr lf))))), (q7, .inl (cT 7, 22, .inr (.inr (.inr (.inr (va_cpy lf (fun _ => none) 0 0 15))))))] ++ pg cds ad gg) _ := hP.part (cx := [(le, .inl (cT 7, 15, .inr (.inr (.inr (.inr lf))))), (q7, .inl (cT 7, 22, .inr (.inr (.inr (.inr (va_cpy lf (fun _ => none) 0 0 15))))))]) [0, 1] rfl
  have hD9 : va_D A ([(le, .inl (cT 7, 15, .inr (.inr (.inr (.inr lf))))), (q7, .inl (cT 7, 22, .inr (.inr (.inr (.inr (va_cpy lf (fun _ => none) 0 0 15))))))] ++ pg cds ad gg) := hD.part (cx := [(le, .inl (cT 7, 15, .inr (.inr (.inr (.inr lf))))), (q7, .inl (cT 7, 22, .inr (.inr (.inr (.inr (va_cpy lf (fun _ => none) 0 0 15))))))]) [0, 1] (by decide) rfl
  refine W.widen (k := 1) (n := 22) (Nat.le_of_ble_eq_true rfl) (Nat.le_of_ble_eq_true rfl) ?_
  exact W.aret (v := .ref q7) hx hb hr (Or.inr ⟨_, rfl⟩) (Or.inr ⟨_, rfl⟩) (fun t9 ht9 hW9 => ⟨⟨q7, q7, rfl, (show True from trivial), rfl, by rw [ht9]; exact hP9, hD9⟩, hS.F ht9⟩) hS.2.2 dAr_copyOf3_39
set_option maxHeartbeats 4000000 in
set_option maxRecDepth 100000 in
theorem k_arCopyT15 (l : Launch) (D : va_G) (cT : Nat → ClassId) (cds : List Nat) (ad : Nat → Nat) (gg : Nat → Option va_E) (tE : Nat) (mE : Nat) (le : Nat) (lf : Nat → Option Nat) (bs : Nat) (hcd : CD cds) (hel : ∀ k8, k8 < 15 → ∃ fs8 : List Value, bs + k8 < 8192 ∧ lf k8 = some (ad (bs + k8)) ∧ gg (bs + k8) = some (.inr (9, fs8))) (sz : Nat) : Met l yAr_copyOf WAr_copyOf ({ frames := 2, cells := 1, slots := 22, locals := 63 } : Room) (RWE tE mE D vwCl [.ref le, .int 22] ([(le, .inl (cT 7, 15, .inr (.inr (.inr (.inr lf)))))] ++ pg cds ad gg) (TY cT) sz) (va_Qr (fun u9 : Nat => True) (fun u9 q9 t9 => q9 = u9 ∧ BW D vwCl (va_A ([(le, .inl (cT 7, 15, .inr (.inr (.inr (.inr lf)))))] ++ pg cds ad gg) sz) (fun u9 : Nat => ([(le, .inl (cT 7, 15, .inr (.inr (.inr (.inr lf))))), (u9, .inl (cT 7, 22, .inr (.inr (.inr (.inr (va_cpy lf (fun _ => none) 0 0 15))))))] ++ pg cds ad gg)) u9 t9) (va_A ([(le, .inl (cT 7, 15, .inr (.inr (.inr (.inr lf)))))] ++ pg cds ad gg) sz)) 1 22 (va_A ([(le, .inl (cT 7, 15, .inr (.inr (.inr (.inr lf)))))] ++ pg cds ad gg) sz) := by
  refine Met.ofW (cc := cAr_copyOf) (maxL := 2) (ret := (some (.array (.object "java/lang/Object")))) (by decide) rfl ?_
  intro p e s m args below meth c s₁ B hml hv
  obtain ⟨rfl, ⟨hsz, hZ, hP, hK, hD0⟩, hE0⟩ := hv
  have hx := B.exec
  have hb := B.bytes
  have hr := B.returns
  have hts := atoms_spec (ws := WAr_copyOf) B.pre
  have hT : ∀ w ∈ TB, w.before _ s = true := fun w h => hts w (List.mem_cons_of_mem _ h)
  have hown : s.vm.findClass R_Ar = some m.cls := findClass_of_methodNamed B.named
  have hlocks := B.notSynchronized
  subst hsz
  have hD := hD0.self (sz := s.heap.size)
  generalize hAe : va_A ([(le, .inl (cT 7, 15, .inr (.inr (.inr (.inr lf)))))] ++ pg cds ad gg) s.heap.size = A at hD hZ hE0 ⊢
  have hA : ∀ q : Nat, s.heap.size ≤ q → A q := fun q h => by rw [← hAe]; exact Or.inr h
  have hS : va_S A s.heap s.heap [] := va_S.rf
  have hl := lv_entry ([.ref le, .int 22]) (n := 2) (Nat.le_of_ble_eq_true rfl)
  rw [lg_entry_eq]
  generalize (lg_sl ([.ref le, .int 22]) ++ List.replicate (2 - (lg_sl ([.ref le, .int 22])).length) Slot.unset).toArray = ls at hl ⊢
  have hl : lv_has ls 2 [(0, .ref le), (1, .int 22)] := hl
  refine lv_aload_n hx hb dAr_copyOf_0 rfl (lv_at hl 0 rfl) ?_
  refine lv_iload_n hx hb dAr_copyOf_1 rfl (lv_at hl 1 rfl) ?_
  refine lv_aload_n hx hb dAr_copyOf_2 rfl (lv_at hl 0 rfl) ?_
  refine va_getC (C := "[Ljava/lang/Object;") hx hb (hml.trans hl.1.symm) hown (hT _ w783) (va_Nw.use rfl (hZ.1.2.2.1 _ (List.mem_of_getElem? (i := 6) rfl))) (hT _ w1597) (hT _ w784) (hT _ w801) hE0.2.2 (arr_cl hK hP 0 7 rfl rfl) (Nat.le_of_ble_eq_true rfl) (Nat.le_of_ble_eq_true rfl) dAr_copyOf_3 ?_
  refine hy_rP (X := [(le, .inl (cT 7, 15, .inr (.inr (.inr (.inr lf)))))]) (pl := pg cds ad gg) (cx := [(le, .inl (cT 7, 15, .inr (.inr (.inr (.inr lf)))))]) (wr := []) hP hD hS hA [0] [] rfl rfl (by decide) (by decide) (va_runS (As := [.ref le, .int 22, .ref mE]) (rest := []) ⟨hx, hb, hml, hown, hT⟩ (k_arCopy3T15 l D cT cds ad gg tE mE le lf bs hcd hel _) ⟨callB_of 3 hT (tb_gd w804) rfl rfl rfl (hT _ w26) (hT _ w802) hAr_copyOf3 ⟨Nat.le_of_ble_eq_true rfl, Nat.le_of_ble_eq_true rfl⟩, (hT _ w803)⟩ (RWE.preS hE0 hZ hS (va_freeP (cx := [(le, .inl (cT 7, 15, .inr (.inr (.inr (.inr lf)))))]) hD hS hA [0] rfl) (hP.part (cx := [(le, .inl (cT 7, 15, .inr (.inr (.inr (.inr lf)))))]) [0] rfl) hK (hD.part (cx := [(le, .inl (cT 7, 15, .inr (.inr (.inr (.inr lf)))))]) [0] (by decide) rfl)) rfl rfl hl.1 rfl (lv_room (Nat.le_of_ble_eq_true rfl)) dAr_copyOf_6 ⟨Nat.le_of_ble_eq_true rfl, Nat.le_of_ble_eq_true rfl⟩) (fun u9 H locs hpu1 hP hD hS => ?_)
  obtain ⟨nqu1, rfl⟩ : ∃ q9, q9 = u9 := ⟨_, rfl⟩
  have hpu1 : True := hpu1
  have hP : va_P D vwCl ([(le, .inl (cT 7, 15, .inr (.inr (.inr (.inr lf))))), (nqu1, .inl (cT 7, 22, .inr (.inr (.inr (.inr (va_cpy lf (fun _ => none) 0 0 15))))))] ++ pg cds ad gg) _ := hP
  have hD : va_D A ([(le, .inl (cT 7, 15, .inr (.inr (.inr (.inr lf))))), (nqu1, .inl (cT 7, 22, .inr (.inr (.inr (.inr (va_cpy lf (fun _ => none) 0 0 15))))))] ++ pg cds ad gg) := hD
  refine W.eq (g2 := F0 m 9 ls [.ref nqu1]) rfl ?_
  have hP9 : va_P D vwCl ([(le, .inl (cT 7, 15, .inr (.inr (.inr (.inr lf))))), (nqu1, .inl (cT 7, 22, .inr (.inr (.inr (.inr (va_cpy lf (fun _ => none) 0 0 15))))))] ++ pg cds ad gg) _ := hP.part (cx := [(le, .inl (cT 7, 15, .inr (.inr (.inr (.inr lf))))), (nqu1, .inl (cT 7, 22, .inr (.inr (.inr (.inr (va_cpy lf (fun _ => none) 0 0 15))))))]) [0, 1] rfl
  have hD9 : va_D A ([(le, .inl (cT 7, 15, .inr (.inr (.inr (.inr lf))))), (nqu1, .inl (cT 7, 22, .inr (.inr (.inr (.inr (va_cpy lf (fun _ => none) 0 0 15))))))] ++ pg cds ad gg) := hD.part (cx := [(le, .inl (cT 7, 15, .inr (.inr (.inr (.inr lf))))), (nqu1, .inl (cT 7, 22, .inr (.inr (.inr (.inr (va_cpy lf (fun _ => none) 0 0 15))))))]) [0, 1] (by decide) rfl
  refine W.widen (k := 1) (n := 22) (Nat.le_of_ble_eq_true rfl) (Nat.le_of_ble_eq_true rfl) ?_
  exact W.aret (v := .ref nqu1) hx hb hr (Or.inr ⟨_, rfl⟩) (Or.inr ⟨_, rfl⟩) (fun t9 ht9 hW9 => ⟨⟨nqu1, nqu1, rfl, (show True from trivial), rfl, by rw [ht9]; exact hP9, hD9⟩, hS.F ht9⟩) hS.2.2 dAr_copyOf_9
set_option maxHeartbeats 4000000 in
set_option maxRecDepth 100000 in
theorem k_alGrowbT15 (l : Launch) (D : va_G) (cT : Nat → ClassId) (cds : List Nat) (ad : Nat → Nat) (gg : Nat → Option va_E) (tE : Nat) (mE : Nat) (h : Nat) (md : Int32) (le : Nat) (lf : Nat → Option Nat) (bs : Nat) (hcd : CD cds) (hel : ∀ k8, k8 < 15 → ∃ fs8 : List Value, bs + k8 < 8192 ∧ lf k8 = some (ad (bs + k8)) ∧ gg (bs + k8) = some (.inr (9, fs8))) (sz : Nat) : Met l yAL_growb WAL_growb ({ frames := 3, cells := 1, slots := 22, locals := 84 } : Room) (RWE tE mE D vwCl [.ref h, .int 16] ([(h, .inr (12, [.ref le, .int (nI 15), .int md])), (le, .inl (cT 7, 15, .inr (.inr (.inr (.inr lf)))))] ++ pg cds ad gg) (TY cT) sz) (va_Qr (fun u9 : Nat => True) (fun u9 q9 t9 => q9 = u9 ∧ BW D vwCl (va_A ([(h, .inr (12, [.ref le, .int (nI 15), .int md])), (le, .inl (cT 7, 15, .inr (.inr (.inr (.inr lf)))))] ++ pg cds ad gg) sz) (fun u9 : Nat => ([(h, .inr (12, [.ref u9, .int (nI 15), .int md])), (le, .inl (cT 7, 15, .inr (.inr (.inr (.inr lf))))), (u9, .inl (cT 7, 22, .inr (.inr (.inr (.inr (va_cpy lf (fun _ => none) 0 0 15))))))] ++ pg cds ad gg)) u9 t9) (va_A ([(h, .inr (12, [.ref le, .int (nI 15), .int md])), (le, .inl (cT 7, 15, .inr (.inr (.inr (.inr lf)))))] ++ pg cds ad gg) sz)) 1 22 (va_A ([(h, .inr (12, [.ref le, .int (nI 15), .int md])), (le, .inl (cT 7, 15, .inr (.inr (.inr (.inr lf)))))] ++ pg cds ad gg) sz) := by
  refine Met.ofW (cc := cAL_growb) (maxL := 4) (ret := (some (.array (.object "java/lang/Object")))) (by decide) rfl ?_
  intro p e s m args below meth c s₁ B hml hv
  obtain ⟨rfl, ⟨hsz, hZ, hP, hK, hD0⟩, hE0⟩ := hv
  have hx := B.exec
  have hb := B.bytes
  have hr := B.returns
  have hts := atoms_spec (ws := WAL_growb) B.pre
  have hT : ∀ w ∈ TB, w.before _ s = true := fun w h => hts w (List.mem_cons_of_mem _ h)
  have hown : s.vm.findClass R_AL = some m.cls := findClass_of_methodNamed B.named
  have hlocks := B.notSynchronized
  subst hsz
  have hD := hD0.self (sz := s.heap.size)
  generalize hAe : va_A ([(h, .inr (12, [.ref le, .int (nI 15), .int md])), (le, .inl (cT 7, 15, .inr (.inr (.inr (.inr lf)))))] ++ pg cds ad gg) s.heap.size = A at hD hZ hE0 ⊢
  have hA : ∀ q : Nat, s.heap.size ≤ q → A q := fun q h => by rw [← hAe]; exact Or.inr h
  have hS : va_S A s.heap s.heap [] := va_S.rf
  have hl := lv_entry ([.ref h, .int 16]) (n := 4) (Nat.le_of_ble_eq_true rfl)
  rw [lg_entry_eq]
  generalize (lg_sl ([.ref h, .int 16]) ++ List.replicate (4 - (lg_sl ([.ref h, .int 16])).length) Slot.unset).toArray = ls at hl ⊢
  have hl : lv_has ls 4 [(0, .ref h), (1, .int 16)] := hl
  refine lv_aload_n hx hb dAL_growb_0 rfl (lv_at hl 0 rfl) ?_
  refine va_get (D := D) (ci := 12) (v := .ref le) (C := R_AL) (T := T_AL) (N := 3) hx hb hT in_AL hown hK hP 0 rfl rfl 0 (by decide) (hT _ w268) (fun _ h9 => h9) rfl dAL_growb_1 ?_
  refine va_alen (v := 15) hx hb hK hP 1 7 rfl rfl rfl dAL_growb_4 ?_
  refine lv_istore_n hx hb dAL_growb_5 rfl hl (by decide) rfl (fun ls hl => ?_)
  have hl : lv_has ls 4 [(2, .int 15), (0, .ref h), (1, .int 16)] := hl
  refine lv_iload_n hx hb dAL_growb_6 rfl (lv_at hl 0 rfl) ?_
  refine lv_if_gt (tgt := 20) hx hb dAL_growb_7 rfl (fun _ => ?_) (fun h1 => absurd (by decide) h1)
  refine lv_iload_n hx hb dAL_growb_20 rfl (lv_at hl 0 rfl) ?_
  refine lv_iload_n hx hb dAL_growb_21 rfl (lv_at hl 2 rfl) ?_
  refine lv_iload_n hx hb dAL_growb_22 rfl (lv_at hl 0 rfl) ?_
  refine lv_isub hx hb dAL_growb_23 ?_
  refine lv_topi (fun y9 e9 => ?_)
  cases (show y9 = 1 from e9.trans (by decide))
  refine lv_iload_n hx hb dAL_growb_24 rfl (lv_at hl 0 rfl) ?_
  refine lv_iconst (v := 1) hx hb dAL_growb_25 (by decide) ?_
  refine lv_ishr hx hb dAL_growb_26 ?_
  refine lv_topi (fun y9 e9 => ?_)
  cases (show y9 = 7 from e9.trans (by decide))
  refine ro_i (va_Run.run (va_runS (As := [.int 15, .int 1, .int 7]) (rest := []) ⟨hx, hb, hml, hown, hT⟩ (k_newLen l D cT 15 1 7 (by decide) (by decide) (by decide)) ⟨callB_of 3 hT (tb_gd w772) rfl rfl rfl (hT _ w25) (hT _ w770) hAs_newLength ⟨Nat.le_of_ble_eq_true rfl, Nat.le_of_ble_eq_true rfl⟩, (hT _ w771)⟩ (RO.preS hZ hS ((show va_P D vwCl [] _ from fun _ _ h => nomatch h)) hK) rfl rfl hl.1 rfl (lv_room (Nat.le_of_ble_eq_true rfl)) dAL_growb_27 ⟨Nat.le_of_ble_eq_true rfl, Nat.le_of_ble_eq_true rfl⟩)) ?_
  refine lv_topi (fun y9 e9 => ?_)
  cases (show y9 = 22 from e9.trans (by decide))
  refine lv_istore_n hx hb dAL_growb_30 rfl hl (by decide) rfl (fun ls hl => ?_)
  have hl : lv_has ls 4 [(3, .int 22), (2, .int 15), (0, .ref h), (1, .int 16)] := hl
  refine lv_aload_n hx hb dAL_growb_31 rfl (lv_at hl 2 rfl) ?_
  refine lv_aload_n hx hb dAL_growb_32 rfl (lv_at hl 2 rfl) ?_
  refine va_get (D := D) (ci := 12) (v := .ref le) (C := R_AL) (T := T_AL) (N := 3) hx hb hT in_AL hown hK hP 0 rfl rfl 0 (by decide) (hT _ w268) (fun _ h9 => h9) rfl dAL_growb_33 ?_
  refine lv_iload_n hx hb dAL_growb_36 rfl (lv_at hl 0 rfl) ?_
  refine hy_rP (X := [(h, .inr (12, [.ref le, .int (nI 15), .int md])), (le, .inl (cT 7, 15, .inr (.inr (.inr (.inr lf)))))]) (pl := pg cds ad gg) (cx := [(le, .inl (cT 7, 15, .inr (.inr (.inr (.inr lf)))))]) (wr := [(h, .inr (12, [.ref le, .int (nI 15), .int md]))]) hP hD hS hA [1] [0] rfl rfl (by decide) (by decide) (va_runS (As := [.ref le, .int 22]) (rest := [.ref h]) ⟨hx, hb, hml, hown, hT⟩ (k_arCopyT15 l D cT cds ad gg tE mE le lf bs hcd hel _) ⟨callB_of 2 hT (tb_gd w782) rfl rfl rfl (hT _ w26) (hT _ w780) hAr_copyOf ⟨Nat.le_of_ble_eq_true rfl, Nat.le_of_ble_eq_true rfl⟩, (hT _ w781)⟩ (RWE.preS hE0 hZ hS (va_freeP (cx := [(le, .inl (cT 7, 15, .inr (.inr (.inr (.inr lf)))))]) hD hS hA [1] rfl) (hP.part (cx := [(le, .inl (cT 7, 15, .inr (.inr (.inr (.inr lf)))))]) [1] rfl) hK (hD.part (cx := [(le, .inl (cT 7, 15, .inr (.inr (.inr (.inr lf)))))]) [1] (by decide) rfl)) rfl rfl hl.1 rfl (lv_room (Nat.le_of_ble_eq_true rfl)) dAL_growb_37 ⟨Nat.le_of_ble_eq_true rfl, Nat.le_of_ble_eq_true rfl⟩) (fun u9 H locs hpu2 hP hD hS => ?_)
  obtain ⟨nqu2, rfl⟩ : ∃ q9, q9 = u9 := ⟨_, rfl⟩
  have hpu2 : True := hpu2
  have hP : va_P D vwCl ([(h, .inr (12, [.ref le, .int (nI 15), .int md])), (le, .inl (cT 7, 15, .inr (.inr (.inr (.inr lf))))), (nqu2, .inl (cT 7, 22, .inr (.inr (.inr (.inr (va_cpy lf (fun _ => none) 0 0 15))))))] ++ pg cds ad gg) _ := hP
  have hD : va_D A ([(h, .inr (12, [.ref le, .int (nI 15), .int md])), (le, .inl (cT 7, 15, .inr (.inr (.inr (.inr lf))))), (nqu2, .inl (cT 7, 22, .inr (.inr (.inr (.inr (va_cpy lf (fun _ => none) 0 0 15))))))] ++ pg cds ad gg) := hD
  refine W.eq (g2 := F0 m 40 ls [.ref nqu2, .ref h]) rfl ?_
  refine lv_dup_x1 hx hb dAL_growb_40 rfl rfl ?_
  refine va_put (D := D) (ci := 12) (v := .ref nqu2) (ty := .array (.object "java/lang/Object")) (C := R_AL) (T := T_AL) (N := 3) hx hb hT in_AL ty_AL ty_AL_ok m_AL hown hK hP hD hS 0 rfl rfl 0 (by decide) (hT _ w268) (fun _ h9 => h9) rfl (by decide +kernel) rfl rfl (Nat.le_of_ble_eq_true rfl) dAL_growb_41 (fun H locs hP hD hS => ?_)
  have hP : va_P D vwCl ([(h, .inr (12, [.ref nqu2, .int (nI 15), .int md])), (le, .inl (cT 7, 15, .inr (.inr (.inr (.inr lf))))), (nqu2, .inl (cT 7, 22, .inr (.inr (.inr (.inr (va_cpy lf (fun _ => none) 0 0 15))))))] ++ pg cds ad gg) _ := hP
  have hD : va_D A ([(h, .inr (12, [.ref nqu2, .int (nI 15), .int md])), (le, .inl (cT 7, 15, .inr (.inr (.inr (.inr lf))))), (nqu2, .inl (cT 7, 22, .inr (.inr (.inr (.inr (va_cpy lf (fun _ => none) 0 0 15))))))] ++ pg cds ad gg) := hD
  have hP9 : va_P D vwCl ([(h, .inr (12, [.ref nqu2, .int (nI 15), .int md])), (le, .inl (cT 7, 15, .inr (.inr (.inr (.inr lf))))), (nqu2, .inl (cT 7, 22, .inr (.inr (.inr (.inr (va_cpy lf (fun _ => none) 0 0 15))))))] ++ pg cds ad gg) _ := hP.part (cx := [(h, .inr (12, [.ref nqu2, .int (nI 15), .int md])), (le, .inl (cT 7, 15, .inr (.inr (.inr (.inr lf))))), (nqu2, .inl (cT 7, 22, .inr (.inr (.inr (.inr (va_cpy lf (fun _ => none) 0 0 15))))))]) [0, 1, 2] rfl
  have hD9 : va_D A ([(h, .inr (12, [.ref nqu2, .int (nI 15), .int md])), (le, .inl (cT 7, 15, .inr (.inr (.inr (.inr lf))))), (nqu2, .inl (cT 7, 22, .inr (.inr (.inr (.inr (va_cpy lf (fun _ => none) 0 0 15))))))] ++ pg cds ad gg) := hD.part (cx := [(h, .inr (12, [.ref nqu2, .int (nI 15), .int md])), (le, .inl (cT 7, 15, .inr (.inr (.inr (.inr lf))))), (nqu2, .inl (cT 7, 22, .inr (.inr (.inr (.inr (va_cpy lf (fun _ => none) 0 0 15))))))]) [0, 1, 2] (by decide) rfl
  refine W.widen (k := 1) (n := 22) (Nat.le_of_ble_eq_true rfl) (Nat.le_of_ble_eq_true rfl) ?_
  exact W.aret (v := .ref nqu2) hx hb hr (Or.inr ⟨_, rfl⟩) (Or.inr ⟨_, rfl⟩) (fun t9 ht9 hW9 => ⟨⟨nqu2, nqu2, rfl, (show True from trivial), rfl, by rw [ht9]; exact hP9, hD9⟩, hS.F ht9⟩) hS.2.2 dAL_growb_44
set_option maxHeartbeats 4000000 in
set_option maxRecDepth 100000 in
theorem k_alGrowT15 (l : Launch) (D : va_G) (cT : Nat → ClassId) (cds : List Nat) (ad : Nat → Nat) (gg : Nat → Option va_E) (tE : Nat) (mE : Nat) (h : Nat) (md : Int32) (le : Nat) (lf : Nat → Option Nat) (bs : Nat) (hcd : CD cds) (hel : ∀ k8, k8 < 15 → ∃ fs8 : List Value, bs + k8 < 8192 ∧ lf k8 = some (ad (bs + k8)) ∧ gg (bs + k8) = some (.inr (9, fs8))) (sz : Nat) : Met l yAL_grow WAL_grow ({ frames := 4, cells := 1, slots := 22, locals := 107 } : Room) (RWE tE mE D vwCl [.ref h] ([(h, .inr (12, [.ref le, .int (nI 15), .int md])), (le, .inl (cT 7, 15, .inr (.inr (.inr (.inr lf)))))] ++ pg cds ad gg) (TY cT) sz) (va_Qr (fun u9 : Nat => True) (fun u9 q9 t9 => q9 = u9 ∧ BW D vwCl (va_A ([(h, .inr (12, [.ref le, .int (nI 15), .int md])), (le, .inl (cT 7, 15, .inr (.inr (.inr (.inr lf)))))] ++ pg cds ad gg) sz) (fun u9 : Nat => ([(h, .inr (12, [.ref u9, .int (nI 15), .int md])), (le, .inl (cT 7, 15, .inr (.inr (.inr (.inr lf))))), (u9, .inl (cT 7, 22, .inr (.inr (.inr (.inr (va_cpy lf (fun _ => none) 0 0 15))))))] ++ pg cds ad gg)) u9 t9) (va_A ([(h, .inr (12, [.ref le, .int (nI 15), .int md])), (le, .inl (cT 7, 15, .inr (.inr (.inr (.inr lf)))))] ++ pg cds ad gg) sz)) 1 22 (va_A ([(h, .inr (12, [.ref le, .int (nI 15), .int md])), (le, .inl (cT 7, 15, .inr (.inr (.inr (.inr lf)))))] ++ pg cds ad gg) sz) := by
  refine Met.ofW (cc := cAL_grow) (maxL := 1) (ret := (some (.array (.object "java/lang/Object")))) (by decide) rfl ?_
  intro p e s m args below meth c s₁ B hml hv
  obtain ⟨rfl, ⟨hsz, hZ, hP, hK, hD0⟩, hE0⟩ := hv
  have hx := B.exec
  have hb := B.bytes
  have hr := B.returns
  have hts := atoms_spec (ws := WAL_grow) B.pre
  have hT : ∀ w ∈ TB, w.before _ s = true := fun w h => hts w (List.mem_cons_of_mem _ h)
  have hown : s.vm.findClass R_AL = some m.cls := findClass_of_methodNamed B.named
  have hlocks := B.notSynchronized
  subst hsz
  have hD := hD0.self (sz := s.heap.size)
  generalize hAe : va_A ([(h, .inr (12, [.ref le, .int (nI 15), .int md])), (le, .inl (cT 7, 15, .inr (.inr (.inr (.inr lf)))))] ++ pg cds ad gg) s.heap.size = A at hD hZ hE0 ⊢
  have hA : ∀ q : Nat, s.heap.size ≤ q → A q := fun q h => by rw [← hAe]; exact Or.inr h
  have hS : va_S A s.heap s.heap [] := va_S.rf
  have hl := lv_entry ([.ref h]) (n := 1) (Nat.le_of_ble_eq_true rfl)
  rw [lg_entry_eq]
  generalize (lg_sl ([.ref h]) ++ List.replicate (1 - (lg_sl ([.ref h])).length) Slot.unset).toArray = ls at hl ⊢
  have hl : lv_has ls 1 [(0, .ref h)] := hl
  refine lv_aload_n hx hb dAL_grow_0 rfl (lv_at hl 0 rfl) ?_
  refine lv_aload_n hx hb dAL_grow_1 rfl (lv_at hl 0 rfl) ?_
  refine va_get (D := D) (ci := 12) (v := .int (nI 15)) (C := R_AL) (T := T_AL) (N := 3) hx hb hT in_AL hown hK hP 0 rfl rfl 1 (by decide) (hT _ w269) (fun _ h9 => h9) rfl dAL_grow_2 ?_
  refine lv_iconst (v := 1) hx hb dAL_grow_5 (by decide) ?_
  refine lv_iadd hx hb dAL_grow_6 ?_
  refine lv_topi (fun y9 e9 => ?_)
  cases (show y9 = 16 from e9.trans (by decide))
  refine hy_rP (X := [(h, .inr (12, [.ref le, .int (nI 15), .int md])), (le, .inl (cT 7, 15, .inr (.inr (.inr (.inr lf)))))]) (pl := pg cds ad gg) (cx := [(h, .inr (12, [.ref le, .int (nI 15), .int md])), (le, .inl (cT 7, 15, .inr (.inr (.inr (.inr lf)))))]) (wr := []) hP hD hS hA [0, 1] [] rfl rfl (by decide) (by decide) (va_runV (As := [.int 16]) (rest := []) ⟨hx, hb, hml, hown, hT⟩ (k_alGrowbT15 l D cT cds ad gg tE mE h md le lf bs hcd hel _) ⟨callB_of 1 hT (tb_gd w769) rfl rfl rfl (hT _ w11) (hT _ w766) hAL_growb ⟨Nat.le_of_ble_eq_true rfl, Nat.le_of_ble_eq_true rfl⟩, (hT _ w768), (hT _ wp11)⟩ (RWE.preV (ci := 12) (q0 := 0) hE0 hZ hS (va_freeP (cx := [(h, .inr (12, [.ref le, .int (nI 15), .int md])), (le, .inl (cT 7, 15, .inr (.inr (.inr (.inr lf)))))]) hD hS hA [0, 1] rfl) (hP.part (cx := [(h, .inr (12, [.ref le, .int (nI 15), .int md])), (le, .inl (cT 7, 15, .inr (.inr (.inr (.inr lf)))))]) [0, 1] rfl) hK (hD.part (cx := [(h, .inr (12, [.ref le, .int (nI 15), .int md])), (le, .inl (cT 7, 15, .inr (.inr (.inr (.inr lf)))))]) [0, 1] (by decide) rfl) rfl rfl) rfl rfl hl.1 rfl (lv_room (Nat.le_of_ble_eq_true rfl)) dAL_grow_7 ⟨Nat.le_of_ble_eq_true rfl, Nat.le_of_ble_eq_true rfl⟩) (fun u9 H locs hpu1 hP hD hS => ?_)
  obtain ⟨nqu1, rfl⟩ : ∃ q9, q9 = u9 := ⟨_, rfl⟩
  have hpu1 : True := hpu1
  have hP : va_P D vwCl ([(h, .inr (12, [.ref nqu1, .int (nI 15), .int md])), (le, .inl (cT 7, 15, .inr (.inr (.inr (.inr lf))))), (nqu1, .inl (cT 7, 22, .inr (.inr (.inr (.inr (va_cpy lf (fun _ => none) 0 0 15))))))] ++ pg cds ad gg) _ := hP
  have hD : va_D A ([(h, .inr (12, [.ref nqu1, .int (nI 15), .int md])), (le, .inl (cT 7, 15, .inr (.inr (.inr (.inr lf))))), (nqu1, .inl (cT 7, 22, .inr (.inr (.inr (.inr (va_cpy lf (fun _ => none) 0 0 15))))))] ++ pg cds ad gg) := hD
  refine W.eq (g2 := F0 m 10 ls [.ref nqu1]) rfl ?_
  have hP9 : va_P D vwCl ([(h, .inr (12, [.ref nqu1, .int (nI 15), .int md])), (le, .inl (cT 7, 15, .inr (.inr (.inr (.inr lf))))), (nqu1, .inl (cT 7, 22, .inr (.inr (.inr (.inr (va_cpy lf (fun _ => none) 0 0 15))))))] ++ pg cds ad gg) _ := hP.part (cx := [(h, .inr (12, [.ref nqu1, .int (nI 15), .int md])), (le, .inl (cT 7, 15, .inr (.inr (.inr (.inr lf))))), (nqu1, .inl (cT 7, 22, .inr (.inr (.inr (.inr (va_cpy lf (fun _ => none) 0 0 15))))))]) [0, 1, 2] rfl
  have hD9 : va_D A ([(h, .inr (12, [.ref nqu1, .int (nI 15), .int md])), (le, .inl (cT 7, 15, .inr (.inr (.inr (.inr lf))))), (nqu1, .inl (cT 7, 22, .inr (.inr (.inr (.inr (va_cpy lf (fun _ => none) 0 0 15))))))] ++ pg cds ad gg) := hD.part (cx := [(h, .inr (12, [.ref nqu1, .int (nI 15), .int md])), (le, .inl (cT 7, 15, .inr (.inr (.inr (.inr lf))))), (nqu1, .inl (cT 7, 22, .inr (.inr (.inr (.inr (va_cpy lf (fun _ => none) 0 0 15))))))]) [0, 1, 2] (by decide) rfl
  refine W.widen (k := 1) (n := 22) (Nat.le_of_ble_eq_true rfl) (Nat.le_of_ble_eq_true rfl) ?_
  exact W.aret (v := .ref nqu1) hx hb hr (Or.inr ⟨_, rfl⟩) (Or.inr ⟨_, rfl⟩) (fun t9 ht9 hW9 => ⟨⟨nqu1, nqu1, rfl, (show True from trivial), rfl, by rw [ht9]; exact hP9, hD9⟩, hS.F ht9⟩) hS.2.2 dAL_grow_10
set_option maxHeartbeats 4000000 in
set_option maxRecDepth 100000 in
theorem k_alGrowb0 (l : Launch) (D : va_G) (cT : Nat → ClassId) (tE : Nat) (mE : Nat) (h : Nat) (md : Int32) (sz : Nat) : Met l yAL_growb WAL_growb ({ frames := 1, cells := 1, slots := 10, locals := 21 } : Room) (RWE tE mE D vwCl [.ref h, .int 1] [(h, .inr (12, [.ref tE, .int (nI 0), .int md]))] (TY cT) sz) (va_Qr (fun u9 : Nat => True) (fun u9 q9 t9 => q9 = u9 ∧ BW D vwCl (va_A [(h, .inr (12, [.ref tE, .int (nI 0), .int md]))] sz) (fun u9 : Nat => [(h, .inr (12, [.ref u9, .int (nI 0), .int md])), (u9, .inl (cT 7, 10, .inr (.inr (.inr (.inr (fun _ => none))))))]) u9 t9) (va_A [(h, .inr (12, [.ref tE, .int (nI 0), .int md]))] sz)) 1 10 (va_A [(h, .inr (12, [.ref tE, .int (nI 0), .int md]))] sz) := by
  refine Met.ofW (cc := cAL_growb) (maxL := 4) (ret := (some (.array (.object "java/lang/Object")))) (by decide) rfl ?_
  intro p e s m args below meth c s₁ B hml hv
  obtain ⟨rfl, ⟨hsz, hZ, hP, hK, hD0⟩, hE0⟩ := hv
  have hx := B.exec
  have hb := B.bytes
  have hr := B.returns
  have hts := atoms_spec (ws := WAL_growb) B.pre
  have hT : ∀ w ∈ TB, w.before _ s = true := fun w h => hts w (List.mem_cons_of_mem _ h)
  have hown : s.vm.findClass R_AL = some m.cls := findClass_of_methodNamed B.named
  have hlocks := B.notSynchronized
  subst hsz
  have hD := hD0.self (sz := s.heap.size)
  generalize hAe : va_A [(h, .inr (12, [.ref tE, .int (nI 0), .int md]))] s.heap.size = A at hD hZ hE0 ⊢
  have hA : ∀ q : Nat, s.heap.size ≤ q → A q := fun q h => by rw [← hAe]; exact Or.inr h
  have hS : va_S A s.heap s.heap [] := va_S.rf
  have hl := lv_entry ([.ref h, .int 1]) (n := 4) (Nat.le_of_ble_eq_true rfl)
  rw [lg_entry_eq]
  generalize (lg_sl ([.ref h, .int 1]) ++ List.replicate (4 - (lg_sl ([.ref h, .int 1])).length) Slot.unset).toArray = ls at hl ⊢
  have hl : lv_has ls 4 [(0, .ref h), (1, .int 1)] := hl
  refine lv_aload_n hx hb dAL_growb_0 rfl (lv_at hl 0 rfl) ?_
  refine va_get (D := D) (ci := 12) (v := .ref tE) (C := R_AL) (T := T_AL) (N := 3) hx hb hT in_AL hown hK hP 0 rfl rfl 0 (by decide) (hT _ w268) (fun _ h9 => h9) rfl dAL_growb_1 ?_
  refine va_tlen (v := 0) hx hb hE0.2.1 hS rfl dAL_growb_4 ?_
  refine lv_istore_n hx hb dAL_growb_5 rfl hl (by decide) rfl (fun ls hl => ?_)
  have hl : lv_has ls 4 [(2, .int 0), (0, .ref h), (1, .int 1)] := hl
  refine lv_iload_n hx hb dAL_growb_6 rfl (lv_at hl 0 rfl) ?_
  refine lv_if_gt (tgt := 20) hx hb dAL_growb_7 rfl (fun h1 => absurd h1 (by decide)) (fun _ => ?_)
  refine lv_aload_n hx hb dAL_growb_10 rfl (lv_at hl 1 rfl) ?_
  refine va_get (D := D) (ci := 12) (v := .ref tE) (C := R_AL) (T := T_AL) (N := 3) hx hb hT in_AL hown hK hP 0 rfl rfl 0 (by decide) (hT _ w268) (fun _ h9 => h9) rfl dAL_growb_11 ?_
  refine va_gets hx hb hE0.1 hS hown (hT _ w266) (fun _ h => h) dAL_growb_14 ?_
  refine lv_acmp_eq (rx := some tE) (ry := some tE) (tgt := 45) hx hb dAL_growb_17 rfl (fun _ => ?_) (fun q9 => absurd rfl q9)
  refine lv_aload_n hx hb dAL_growb_45 rfl (lv_at hl 1 rfl) ?_
  refine lv_bipush (v := 10) hx hb dAL_growb_46 (by decide) ?_
  refine lv_iload_n hx hb dAL_growb_48 rfl (lv_at hl 2 rfl) ?_
  refine va_mmax hx hb (hml.trans hl.1.symm) hown (hT _ w810) (hT _ w774) (hT _ w22) (hT _ w775) (Nat.le_of_ble_eq_true rfl) (Nat.le_of_ble_eq_true rfl) (Nat.le_of_ble_eq_true rfl) (Nat.le_of_ble_eq_true rfl) dAL_growb_49 ?_
  refine lv_topi (fun y9 e9 => ?_)
  cases (show y9 = nI (max 10 1) from e9.trans (mmax_nI (a := 10) (b := 1) (by omega) (by omega)))
  refine lv_topi (fun y9 e9 => ?_)
  cases (show y9 = 10 from e9.trans (by decide))
  refine nw_q (C := "java/lang/Object") (N' := 10) hx hb hown (hT _ w811) (hZ.1.2.2.2.1 "java/lang/Object" (List.mem_of_getElem? (i := 3) rfl)) hK hP hD hS hA 7 rfl (by decide +kernel) (by decide +kernel) (by decide +kernel) (Nat.le_of_ble_eq_true rfl) (Nat.le_of_ble_eq_true rfl) dAL_growb_52 (fun q52 H hP hD hS => ?_)
  have hP : va_P D vwCl [(h, .inr (12, [.ref tE, .int (nI 0), .int md])), (q52, .inl (cT 7, 10, .inr (.inr (.inr (.inr (fun _ => none))))))] _ := hP
  have hD : va_D A [(h, .inr (12, [.ref tE, .int (nI 0), .int md])), (q52, .inl (cT 7, 10, .inr (.inr (.inr (.inr (fun _ => none))))))] := hD
  refine lv_dup_x1 hx hb dAL_growb_55 rfl rfl ?_
  refine va_put (D := D) (ci := 12) (v := .ref q52) (ty := .array (.object "java/lang/Object")) (C := R_AL) (T := T_AL) (N := 3) hx hb hT in_AL ty_AL ty_AL_ok m_AL hown hK hP hD hS 0 rfl rfl 0 (by decide) (hT _ w268) (fun _ h9 => h9) rfl (by decide +kernel) rfl rfl (Nat.le_of_ble_eq_true rfl) dAL_growb_56 (fun H locs hP hD hS => ?_)
  have hP : va_P D vwCl [(h, .inr (12, [.ref q52, .int (nI 0), .int md])), (q52, .inl (cT 7, 10, .inr (.inr (.inr (.inr (fun _ => none))))))] _ := hP
  have hD : va_D A [(h, .inr (12, [.ref q52, .int (nI 0), .int md])), (q52, .inl (cT 7, 10, .inr (.inr (.inr (.inr (fun _ => none))))))] := hD
  have hP9 := hP.sub (ws' := [(h, .inr (12, [.ref q52, .int (nI 0), .int md])), (q52, .inl (cT 7, 10, .inr (.inr (.inr (.inr (fun _ => none))))))]) [0, 1] rfl
  have hD9 := hD.sub (ws' := [(h, .inr (12, [.ref q52, .int (nI 0), .int md])), (q52, .inl (cT 7, 10, .inr (.inr (.inr (.inr (fun _ => none))))))]) [0, 1] (by decide) rfl
  refine W.widen (k := 1) (n := 10) (Nat.le_of_ble_eq_true rfl) (Nat.le_of_ble_eq_true rfl) ?_
  exact W.aret (v := .ref q52) hx hb hr (Or.inr ⟨_, rfl⟩) (Or.inr ⟨_, rfl⟩) (fun t9 ht9 hW9 => ⟨⟨q52, q52, rfl, (show True from trivial), rfl, by rw [ht9]; exact hP9, hD9⟩, hS.F ht9⟩) hS.2.2 dAL_growb_59
set_option maxHeartbeats 4000000 in
set_option maxRecDepth 100000 in
theorem k_alGrow0 (l : Launch) (D : va_G) (cT : Nat → ClassId) (tE : Nat) (mE : Nat) (h : Nat) (md : Int32) (sz : Nat) : Met l yAL_grow WAL_grow ({ frames := 2, cells := 1, slots := 10, locals := 44 } : Room) (RWE tE mE D vwCl [.ref h] [(h, .inr (12, [.ref tE, .int (nI 0), .int md]))] (TY cT) sz) (va_Qr (fun u9 : Nat => True) (fun u9 q9 t9 => q9 = u9 ∧ BW D vwCl (va_A [(h, .inr (12, [.ref tE, .int (nI 0), .int md]))] sz) (fun u9 : Nat => [(h, .inr (12, [.ref u9, .int (nI 0), .int md])), (u9, .inl (cT 7, 10, .inr (.inr (.inr (.inr (fun _ => none))))))]) u9 t9) (va_A [(h, .inr (12, [.ref tE, .int (nI 0), .int md]))] sz)) 1 10 (va_A [(h, .inr (12, [.ref tE, .int (nI 0), .int md]))] sz) := by
  refine Met.ofW (cc := cAL_grow) (maxL := 1) (ret := (some (.array (.object "java/lang/Object")))) (by decide) rfl ?_
  intro p e s m args below meth c s₁ B hml hv
  obtain ⟨rfl, ⟨hsz, hZ, hP, hK, hD0⟩, hE0⟩ := hv
  have hx := B.exec
  have hb := B.bytes
  have hr := B.returns
  have hts := atoms_spec (ws := WAL_grow) B.pre
  have hT : ∀ w ∈ TB, w.before _ s = true := fun w h => hts w (List.mem_cons_of_mem _ h)
  have hown : s.vm.findClass R_AL = some m.cls := findClass_of_methodNamed B.named
  have hlocks := B.notSynchronized
  subst hsz
  have hD := hD0.self (sz := s.heap.size)
  generalize hAe : va_A [(h, .inr (12, [.ref tE, .int (nI 0), .int md]))] s.heap.size = A at hD hZ hE0 ⊢
  have hA : ∀ q : Nat, s.heap.size ≤ q → A q := fun q h => by rw [← hAe]; exact Or.inr h
  have hS : va_S A s.heap s.heap [] := va_S.rf
  have hl := lv_entry ([.ref h]) (n := 1) (Nat.le_of_ble_eq_true rfl)
  rw [lg_entry_eq]
  generalize (lg_sl ([.ref h]) ++ List.replicate (1 - (lg_sl ([.ref h])).length) Slot.unset).toArray = ls at hl ⊢
  have hl : lv_has ls 1 [(0, .ref h)] := hl
  refine lv_aload_n hx hb dAL_grow_0 rfl (lv_at hl 0 rfl) ?_
  refine lv_aload_n hx hb dAL_grow_1 rfl (lv_at hl 0 rfl) ?_
  refine va_get (D := D) (ci := 12) (v := .int (nI 0)) (C := R_AL) (T := T_AL) (N := 3) hx hb hT in_AL hown hK hP 0 rfl rfl 1 (by decide) (hT _ w269) (fun _ h9 => h9) rfl dAL_grow_2 ?_
  refine lv_iconst (v := 1) hx hb dAL_grow_5 (by decide) ?_
  refine lv_iadd hx hb dAL_grow_6 ?_
  refine lv_topi (fun y9 e9 => ?_)
  cases (show y9 = 1 from e9.trans (by decide))
  refine rx_r (wc := [(h, .inr (12, [.ref tE, .int (nI 0), .int md]))]) (wr := []) hP hD hS hA [0] [] rfl rfl (by decide) (by decide) (va_runV (As := [.int 1]) (rest := []) ⟨hx, hb, hml, hown, hT⟩ (k_alGrowb0 l D cT tE mE h md _) ⟨callB_of 1 hT (tb_gd w769) rfl rfl rfl (hT _ w11) (hT _ w766) hAL_growb ⟨Nat.le_of_ble_eq_true rfl, Nat.le_of_ble_eq_true rfl⟩, (hT _ w768), (hT _ wp11)⟩ (RWE.preV (ci := 12) (q0 := 0) hE0 hZ hS (va_free (wc := [(h, .inr (12, [.ref tE, .int (nI 0), .int md]))]) hD hS hA [0] rfl) (hP.sub (ws' := [(h, .inr (12, [.ref tE, .int (nI 0), .int md]))]) [0] rfl) hK (hD.sub (ws' := [(h, .inr (12, [.ref tE, .int (nI 0), .int md]))]) [0] (by decide) rfl) rfl rfl) rfl rfl hl.1 rfl (lv_room (Nat.le_of_ble_eq_true rfl)) dAL_grow_7 ⟨Nat.le_of_ble_eq_true rfl, Nat.le_of_ble_eq_true rfl⟩) (fun u9 H locs hpu1 hP hD hS => ?_)
  obtain ⟨nqu1, rfl⟩ : ∃ q9, q9 = u9 := ⟨_, rfl⟩
  have hpu1 : True := hpu1
  have hP : va_P D vwCl [(h, .inr (12, [.ref nqu1, .int (nI 0), .int md])), (nqu1, .inl (cT 7, 10, .inr (.inr (.inr (.inr (fun _ => none))))))] _ := hP
  have hD : va_D A [(h, .inr (12, [.ref nqu1, .int (nI 0), .int md])), (nqu1, .inl (cT 7, 10, .inr (.inr (.inr (.inr (fun _ => none))))))] := hD
  refine W.eq (g2 := F0 m 10 ls [.ref nqu1]) rfl ?_
  have hP9 := hP.sub (ws' := [(h, .inr (12, [.ref nqu1, .int (nI 0), .int md])), (nqu1, .inl (cT 7, 10, .inr (.inr (.inr (.inr (fun _ => none))))))]) [0, 1] rfl
  have hD9 := hD.sub (ws' := [(h, .inr (12, [.ref nqu1, .int (nI 0), .int md])), (nqu1, .inl (cT 7, 10, .inr (.inr (.inr (.inr (fun _ => none))))))]) [0, 1] (by decide) rfl
  refine W.widen (k := 1) (n := 10) (Nat.le_of_ble_eq_true rfl) (Nat.le_of_ble_eq_true rfl) ?_
  exact W.aret (v := .ref nqu1) hx hb hr (Or.inr ⟨_, rfl⟩) (Or.inr ⟨_, rfl⟩) (fun t9 ht9 hW9 => ⟨⟨nqu1, nqu1, rfl, (show True from trivial), rfl, by rw [ht9]; exact hP9, hD9⟩, hS.F ht9⟩) hS.2.2 dAL_grow_10
set_option maxHeartbeats 4000000 in
set_option maxRecDepth 100000 in
theorem k_alAdd3N0 (l : Launch) (D : va_G) (cT : Nat → ClassId) (tE : Nat) (mE : Nat) (h : Nat) (md : Int32) (v : Nat) (v1 : Int32) (v2 : Int32) (v3 : Int32) (v4 : Int32) (v5 : Int32) (v6 : Int32) (v7 : Int32) (v8 : Int32) (v9 : Nat) (sz : Nat) : Met l yAL_add3 WAL_add3 ({ frames := 3, cells := 1, slots := 10, locals := 64 } : Room) (RWE tE mE D vwCl [.ref h, .ref v, .ref tE, .int (nI 0)] [(h, .inr (12, [.ref tE, .int (nI 0), .int md])), (v, .inr (10, [.int v1, .int v2, .int v3, .int v4, .int v5, .int v6, .int v7, .int v8, .ref v9]))] (TY cT) sz) (va_Qv (fun u9 : Nat => True) (BW D vwCl (va_A [(h, .inr (12, [.ref tE, .int (nI 0), .int md])), (v, .inr (10, [.int v1, .int v2, .int v3, .int v4, .int v5, .int v6, .int v7, .int v8, .ref v9]))] sz) (fun u9 : Nat => [(h, .inr (12, [.ref u9, .int (nI (0 + 1)), .int md])), (u9, .inl (cT 7, 10, .inr (.inr (.inr (.inr (va_up (fun _ => none) 0 (some v))))))), (v, .inr (10, [.int v1, .int v2, .int v3, .int v4, .int v5, .int v6, .int v7, .int v8, .ref v9]))])) (va_A [(h, .inr (12, [.ref tE, .int (nI 0), .int md])), (v, .inr (10, [.int v1, .int v2, .int v3, .int v4, .int v5, .int v6, .int v7, .int v8, .ref v9]))] sz)) 1 10 (va_A [(h, .inr (12, [.ref tE, .int (nI 0), .int md])), (v, .inr (10, [.int v1, .int v2, .int v3, .int v4, .int v5, .int v6, .int v7, .int v8, .ref v9]))] sz) := by
  refine Met.ofW (cc := cAL_add3) (maxL := 4) (ret := none) (by decide) rfl ?_
  intro p e s m args below meth c s₁ B hml hv
  obtain ⟨rfl, ⟨hsz, hZ, hP, hK, hD0⟩, hE0⟩ := hv
  have hx := B.exec
  have hb := B.bytes
  have hr := B.returns
  have hts := atoms_spec (ws := WAL_add3) B.pre
  have hT : ∀ w ∈ TB, w.before _ s = true := fun w h => hts w (List.mem_cons_of_mem _ h)
  have hown : s.vm.findClass R_AL = some m.cls := findClass_of_methodNamed B.named
  have hlocks := B.notSynchronized
  subst hsz
  have hD := hD0.self (sz := s.heap.size)
  generalize hAe : va_A [(h, .inr (12, [.ref tE, .int (nI 0), .int md])), (v, .inr (10, [.int v1, .int v2, .int v3, .int v4, .int v5, .int v6, .int v7, .int v8, .ref v9]))] s.heap.size = A at hD hZ hE0 ⊢
  have hA : ∀ q : Nat, s.heap.size ≤ q → A q := fun q h => by rw [← hAe]; exact Or.inr h
  have hS : va_S A s.heap s.heap [] := va_S.rf
  have hl := lv_entry ([.ref h, .ref v, .ref tE, .int (nI 0)]) (n := 4) (Nat.le_of_ble_eq_true rfl)
  rw [lg_entry_eq]
  generalize (lg_sl ([.ref h, .ref v, .ref tE, .int (nI 0)]) ++ List.replicate (4 - (lg_sl ([.ref h, .ref v, .ref tE, .int (nI 0)])).length) Slot.unset).toArray = ls at hl ⊢
  have hl : lv_has ls 4 [(0, .ref h), (1, .ref v), (2, .ref tE), (3, .int (nI 0))] := hl
  refine lv_iload_n hx hb dAL_add3_0 rfl (lv_at hl 3 rfl) ?_
  refine lv_aload_n hx hb dAL_add3_1 rfl (lv_at hl 2 rfl) ?_
  refine va_tlen (v := 0) hx hb hE0.2.1 hS rfl dAL_add3_2 ?_
  refine lv_icmp_ne (tgt := 11) hx hb dAL_add3_3 rfl (fun h1 => absurd (by decide) h1) (fun _ => ?_)
  refine lv_aload_n hx hb dAL_add3_6 rfl (lv_at hl 0 rfl) ?_
  refine rx_r (wc := [(h, .inr (12, [.ref tE, .int (nI 0), .int md]))]) (wr := [(v, .inr (10, [.int v1, .int v2, .int v3, .int v4, .int v5, .int v6, .int v7, .int v8, .ref v9]))]) hP hD hS hA [0] [1] rfl rfl (by decide) (by decide) (va_runV (As := []) (rest := []) ⟨hx, hb, hml, hown, hT⟩ (k_alGrow0 l D cT tE mE h md _) ⟨callB_of 0 hT (tb_gd w765) rfl rfl rfl (hT _ w11) (hT _ w762) hAL_grow ⟨Nat.le_of_ble_eq_true rfl, Nat.le_of_ble_eq_true rfl⟩, (hT _ w764), (hT _ wp10)⟩ (RWE.preV (ci := 12) (q0 := 0) hE0 hZ hS (va_free (wc := [(h, .inr (12, [.ref tE, .int (nI 0), .int md]))]) hD hS hA [0] rfl) (hP.sub (ws' := [(h, .inr (12, [.ref tE, .int (nI 0), .int md]))]) [0] rfl) hK (hD.sub (ws' := [(h, .inr (12, [.ref tE, .int (nI 0), .int md]))]) [0] (by decide) rfl) rfl rfl) rfl rfl hl.1 rfl (lv_room (Nat.le_of_ble_eq_true rfl)) dAL_add3_7 ⟨Nat.le_of_ble_eq_true rfl, Nat.le_of_ble_eq_true rfl⟩) (fun u9 H locs hpu2 hP hD hS => ?_)
  obtain ⟨nqu2, rfl⟩ : ∃ q9, q9 = u9 := ⟨_, rfl⟩
  have hpu2 : True := hpu2
  have hP : va_P D vwCl [(v, .inr (10, [.int v1, .int v2, .int v3, .int v4, .int v5, .int v6, .int v7, .int v8, .ref v9])), (h, .inr (12, [.ref nqu2, .int (nI 0), .int md])), (nqu2, .inl (cT 7, 10, .inr (.inr (.inr (.inr (fun _ => none))))))] _ := hP
  have hD : va_D A [(v, .inr (10, [.int v1, .int v2, .int v3, .int v4, .int v5, .int v6, .int v7, .int v8, .ref v9])), (h, .inr (12, [.ref nqu2, .int (nI 0), .int md])), (nqu2, .inl (cT 7, 10, .inr (.inr (.inr (.inr (fun _ => none))))))] := hD
  refine W.eq (g2 := F0 m 10 ls [.ref nqu2]) rfl ?_
  refine lv_astore_n hx hb dAL_add3_10 rfl hl (by decide) rfl (fun ls hl => ?_)
  have hl : lv_has ls 4 [(2, .ref nqu2), (0, .ref h), (1, .ref v), (3, .int (nI 0))] := hl
  refine lv_aload_n hx hb dAL_add3_11 rfl (lv_at hl 0 rfl) ?_
  refine lv_iload_n hx hb dAL_add3_12 rfl (lv_at hl 3 rfl) ?_
  refine lv_aload_n hx hb dAL_add3_13 rfl (lv_at hl 2 rfl) ?_
  refine va_astqO (E := "java/lang/Object") hx hb hK hP hD hS 2 7 0 10 rfl rfl (by exact hZ.1.1 ("ResidualTrees$Node", "java/lang/Object") (List.mem_of_getElem? (i := 15) rfl)) rfl rfl (vp_in_nI (i := 0) (by decide) (by decide)) dAL_add3_14 (fun H locs hP hD hS => ?_)
  rw [nI_clamp (by omega)] at hP hD
  have hP : va_P D vwCl [(v, .inr (10, [.int v1, .int v2, .int v3, .int v4, .int v5, .int v6, .int v7, .int v8, .ref v9])), (h, .inr (12, [.ref nqu2, .int (nI 0), .int md])), (nqu2, .inl (cT 7, 10, .inr (.inr (.inr (.inr (va_up (fun _ => none) 0 (some v)))))))] _ := hP
  have hD : va_D A [(v, .inr (10, [.int v1, .int v2, .int v3, .int v4, .int v5, .int v6, .int v7, .int v8, .ref v9])), (h, .inr (12, [.ref nqu2, .int (nI 0), .int md])), (nqu2, .inl (cT 7, 10, .inr (.inr (.inr (.inr (va_up (fun _ => none) 0 (some v)))))))] := hD
  refine lv_aload_n hx hb dAL_add3_15 rfl (lv_at hl 1 rfl) ?_
  refine lv_iload_n hx hb dAL_add3_16 rfl (lv_at hl 3 rfl) ?_
  refine lv_iconst (v := 1) hx hb dAL_add3_17 (by decide) ?_
  refine lv_iadd hx hb dAL_add3_18 ?_
  refine lv_topi (fun y9 e9 => ?_)
  cases (show y9 = nI (0 + 1) from e9.trans (nI_add 0 1))
  refine va_put (D := D) (ci := 12) (v := .int (nI (0 + 1))) (ty := .int) (C := R_AL) (T := T_AL) (N := 3) hx hb hT in_AL ty_AL ty_AL_ok m_AL hown hK hP hD hS 1 rfl rfl 1 (by decide) (hT _ w269) (fun _ h9 => h9) rfl (by decide +kernel) rfl rfl (Nat.le_of_ble_eq_true rfl) dAL_add3_19 (fun H locs hP hD hS => ?_)
  have hP : va_P D vwCl [(v, .inr (10, [.int v1, .int v2, .int v3, .int v4, .int v5, .int v6, .int v7, .int v8, .ref v9])), (h, .inr (12, [.ref nqu2, .int (nI (0 + 1)), .int md])), (nqu2, .inl (cT 7, 10, .inr (.inr (.inr (.inr (va_up (fun _ => none) 0 (some v)))))))] _ := hP
  have hD : va_D A [(v, .inr (10, [.int v1, .int v2, .int v3, .int v4, .int v5, .int v6, .int v7, .int v8, .ref v9])), (h, .inr (12, [.ref nqu2, .int (nI (0 + 1)), .int md])), (nqu2, .inl (cT 7, 10, .inr (.inr (.inr (.inr (va_up (fun _ => none) 0 (some v)))))))] := hD
  have hP9 := hP.sub (ws' := [(h, .inr (12, [.ref nqu2, .int (nI (0 + 1)), .int md])), (nqu2, .inl (cT 7, 10, .inr (.inr (.inr (.inr (va_up (fun _ => none) 0 (some v))))))), (v, .inr (10, [.int v1, .int v2, .int v3, .int v4, .int v5, .int v6, .int v7, .int v8, .ref v9]))]) [1, 2, 0] rfl
  have hD9 := hD.sub (ws' := [(h, .inr (12, [.ref nqu2, .int (nI (0 + 1)), .int md])), (nqu2, .inl (cT 7, 10, .inr (.inr (.inr (.inr (va_up (fun _ => none) 0 (some v))))))), (v, .inr (10, [.int v1, .int v2, .int v3, .int v4, .int v5, .int v6, .int v7, .int v8, .ref v9]))]) [1, 2, 0] (by decide) rfl
  refine W.widen (k := 1) (n := 10) (Nat.le_of_ble_eq_true rfl) (Nat.le_of_ble_eq_true rfl) ?_
  exact W.vret hx hb hr (fun t9 ht9 hW9 => ⟨⟨nqu2, rfl, (show True from trivial), by rw [ht9]; exact hP9, hD9⟩, hS.F ht9⟩) hS.2.2 dAL_add3_22
set_option maxHeartbeats 4000000 in
set_option maxRecDepth 100000 in
theorem k_alAdd3N10 (l : Launch) (D : va_G) (cT : Nat → ClassId) (cds : List Nat) (ad : Nat → Nat) (gg : Nat → Option va_E) (tE : Nat) (mE : Nat) (h : Nat) (md : Int32) (le : Nat) (lf : Nat → Option Nat) (bs : Nat) (v : Nat) (v1 : Int32) (v2 : Int32) (v3 : Int32) (v4 : Int32) (v5 : Int32) (v6 : Int32) (v7 : Int32) (v8 : Int32) (v9 : Nat) (hcd : CD cds) (hel : ∀ k8, k8 < 10 → ∃ fs8 : List Value, bs + k8 < 8192 ∧ lf k8 = some (ad (bs + k8)) ∧ gg (bs + k8) = some (.inr (10, fs8))) (sz : Nat) : Met l yAL_add3 WAL_add3 ({ frames := 5, cells := 1, slots := 15, locals := 127 } : Room) (RWE tE mE D vwCl [.ref h, .ref v, .ref le, .int (nI 10)] ([(h, .inr (12, [.ref le, .int (nI 10), .int md])), (le, .inl (cT 7, 10, .inr (.inr (.inr (.inr lf))))), (v, .inr (10, [.int v1, .int v2, .int v3, .int v4, .int v5, .int v6, .int v7, .int v8, .ref v9]))] ++ pg cds ad gg) (TY cT) sz) (va_Qv (fun u9 : Nat => True) (BW D vwCl (va_A ([(h, .inr (12, [.ref le, .int (nI 10), .int md])), (le, .inl (cT 7, 10, .inr (.inr (.inr (.inr lf))))), (v, .inr (10, [.int v1, .int v2, .int v3, .int v4, .int v5, .int v6, .int v7, .int v8, .ref v9]))] ++ pg cds ad gg) sz) (fun u9 : Nat => ([(h, .inr (12, [.ref u9, .int (nI (10 + 1)), .int md])), (u9, .inl (cT 7, 15, .inr (.inr (.inr (.inr (va_up (va_cpy lf (fun _ => none) 0 0 10) 10 (some v))))))), (v, .inr (10, [.int v1, .int v2, .int v3, .int v4, .int v5, .int v6, .int v7, .int v8, .ref v9]))] ++ pg cds ad gg))) (va_A ([(h, .inr (12, [.ref le, .int (nI 10), .int md])), (le, .inl (cT 7, 10, .inr (.inr (.inr (.inr lf))))), (v, .inr (10, [.int v1, .int v2, .int v3, .int v4, .int v5, .int v6, .int v7, .int v8, .ref v9]))] ++ pg cds ad gg) sz)) 1 15 (va_A ([(h, .inr (12, [.ref le, .int (nI 10), .int md])), (le, .inl (cT 7, 10, .inr (.inr (.inr (.inr lf))))), (v, .inr (10, [.int v1, .int v2, .int v3, .int v4, .int v5, .int v6, .int v7, .int v8, .ref v9]))] ++ pg cds ad gg) sz) := by
  refine Met.ofW (cc := cAL_add3) (maxL := 4) (ret := none) (by decide) rfl ?_
  intro p e s m args below meth c s₁ B hml hv
  obtain ⟨rfl, ⟨hsz, hZ, hP, hK, hD0⟩, hE0⟩ := hv
  have hx := B.exec
  have hb := B.bytes
  have hr := B.returns
  have hts := atoms_spec (ws := WAL_add3) B.pre
  have hT : ∀ w ∈ TB, w.before _ s = true := fun w h => hts w (List.mem_cons_of_mem _ h)
  have hown : s.vm.findClass R_AL = some m.cls := findClass_of_methodNamed B.named
  have hlocks := B.notSynchronized
  subst hsz
  have hD := hD0.self (sz := s.heap.size)
  generalize hAe : va_A ([(h, .inr (12, [.ref le, .int (nI 10), .int md])), (le, .inl (cT 7, 10, .inr (.inr (.inr (.inr lf))))), (v, .inr (10, [.int v1, .int v2, .int v3, .int v4, .int v5, .int v6, .int v7, .int v8, .ref v9]))] ++ pg cds ad gg) s.heap.size = A at hD hZ hE0 ⊢
  have hA : ∀ q : Nat, s.heap.size ≤ q → A q := fun q h => by rw [← hAe]; exact Or.inr h
  have hS : va_S A s.heap s.heap [] := va_S.rf
  have hl := lv_entry ([.ref h, .ref v, .ref le, .int (nI 10)]) (n := 4) (Nat.le_of_ble_eq_true rfl)
  rw [lg_entry_eq]
  generalize (lg_sl ([.ref h, .ref v, .ref le, .int (nI 10)]) ++ List.replicate (4 - (lg_sl ([.ref h, .ref v, .ref le, .int (nI 10)])).length) Slot.unset).toArray = ls at hl ⊢
  have hl : lv_has ls 4 [(0, .ref h), (1, .ref v), (2, .ref le), (3, .int (nI 10))] := hl
  refine lv_iload_n hx hb dAL_add3_0 rfl (lv_at hl 3 rfl) ?_
  refine lv_aload_n hx hb dAL_add3_1 rfl (lv_at hl 2 rfl) ?_
  refine va_alen (v := 10) hx hb hK hP 1 7 rfl rfl rfl dAL_add3_2 ?_
  refine lv_icmp_ne (tgt := 11) hx hb dAL_add3_3 rfl (fun h1 => absurd (by decide) h1) (fun _ => ?_)
  refine lv_aload_n hx hb dAL_add3_6 rfl (lv_at hl 0 rfl) ?_
  refine hy_rP (X := [(h, .inr (12, [.ref le, .int (nI 10), .int md])), (le, .inl (cT 7, 10, .inr (.inr (.inr (.inr lf))))), (v, .inr (10, [.int v1, .int v2, .int v3, .int v4, .int v5, .int v6, .int v7, .int v8, .ref v9]))]) (pl := pg cds ad gg) (cx := [(h, .inr (12, [.ref le, .int (nI 10), .int md])), (le, .inl (cT 7, 10, .inr (.inr (.inr (.inr lf)))))]) (wr := [(v, .inr (10, [.int v1, .int v2, .int v3, .int v4, .int v5, .int v6, .int v7, .int v8, .ref v9]))]) hP hD hS hA [0, 1] [2] rfl rfl (by decide) (by decide) (va_runV (As := []) (rest := []) ⟨hx, hb, hml, hown, hT⟩ (k_alGrowN10 l D cT cds ad gg tE mE h md le lf bs hcd hel _) ⟨callB_of 0 hT (tb_gd w765) rfl rfl rfl (hT _ w11) (hT _ w762) hAL_grow ⟨Nat.le_of_ble_eq_true rfl, Nat.le_of_ble_eq_true rfl⟩, (hT _ w764), (hT _ wp10)⟩ (RWE.preV (ci := 12) (q0 := 0) hE0 hZ hS (va_freeP (cx := [(h, .inr (12, [.ref le, .int (nI 10), .int md])), (le, .inl (cT 7, 10, .inr (.inr (.inr (.inr lf)))))]) hD hS hA [0, 1] rfl) (hP.part (cx := [(h, .inr (12, [.ref le, .int (nI 10), .int md])), (le, .inl (cT 7, 10, .inr (.inr (.inr (.inr lf)))))]) [0, 1] rfl) hK (hD.part (cx := [(h, .inr (12, [.ref le, .int (nI 10), .int md])), (le, .inl (cT 7, 10, .inr (.inr (.inr (.inr lf)))))]) [0, 1] (by decide) rfl) rfl rfl) rfl rfl hl.1 rfl (lv_room (Nat.le_of_ble_eq_true rfl)) dAL_add3_7 ⟨Nat.le_of_ble_eq_true rfl, Nat.le_of_ble_eq_true rfl⟩) (fun u9 H locs hpu2 hP hD hS => ?_)
  obtain ⟨nqu2, rfl⟩ : ∃ q9, q9 = u9 := ⟨_, rfl⟩
  have hpu2 : True := hpu2
  have hP : va_P D vwCl ([(v, .inr (10, [.int v1, .int v2, .int v3, .int v4, .int v5, .int v6, .int v7, .int v8, .ref v9])), (h, .inr (12, [.ref nqu2, .int (nI 10), .int md])), (le, .inl (cT 7, 10, .inr (.inr (.inr (.inr lf))))), (nqu2, .inl (cT 7, 15, .inr (.inr (.inr (.inr (va_cpy lf (fun _ => none) 0 0 10))))))] ++ pg cds ad gg) _ := hP
  have hD : va_D A ([(v, .inr (10, [.int v1, .int v2, .int v3, .int v4, .int v5, .int v6, .int v7, .int v8, .ref v9])), (h, .inr (12, [.ref nqu2, .int (nI 10), .int md])), (le, .inl (cT 7, 10, .inr (.inr (.inr (.inr lf))))), (nqu2, .inl (cT 7, 15, .inr (.inr (.inr (.inr (va_cpy lf (fun _ => none) 0 0 10))))))] ++ pg cds ad gg) := hD
  refine W.eq (g2 := F0 m 10 ls [.ref nqu2]) rfl ?_
  refine lv_astore_n hx hb dAL_add3_10 rfl hl (by decide) rfl (fun ls hl => ?_)
  have hl : lv_has ls 4 [(2, .ref nqu2), (0, .ref h), (1, .ref v), (3, .int (nI 10))] := hl
  refine lv_aload_n hx hb dAL_add3_11 rfl (lv_at hl 0 rfl) ?_
  refine lv_iload_n hx hb dAL_add3_12 rfl (lv_at hl 3 rfl) ?_
  refine lv_aload_n hx hb dAL_add3_13 rfl (lv_at hl 2 rfl) ?_
  refine va_astqO (E := "java/lang/Object") hx hb hK hP hD hS 3 7 0 10 rfl rfl (by exact hZ.1.1 ("ResidualTrees$Node", "java/lang/Object") (List.mem_of_getElem? (i := 15) rfl)) rfl rfl (vp_in_nI (i := 10) (by decide) (by decide)) dAL_add3_14 (fun H locs hP hD hS => ?_)
  rw [nI_clamp (by omega)] at hP hD
  have hP : va_P D vwCl ([(v, .inr (10, [.int v1, .int v2, .int v3, .int v4, .int v5, .int v6, .int v7, .int v8, .ref v9])), (h, .inr (12, [.ref nqu2, .int (nI 10), .int md])), (le, .inl (cT 7, 10, .inr (.inr (.inr (.inr lf))))), (nqu2, .inl (cT 7, 15, .inr (.inr (.inr (.inr (va_up (va_cpy lf (fun _ => none) 0 0 10) 10 (some v)))))))] ++ pg cds ad gg) _ := hP
  have hD : va_D A ([(v, .inr (10, [.int v1, .int v2, .int v3, .int v4, .int v5, .int v6, .int v7, .int v8, .ref v9])), (h, .inr (12, [.ref nqu2, .int (nI 10), .int md])), (le, .inl (cT 7, 10, .inr (.inr (.inr (.inr lf))))), (nqu2, .inl (cT 7, 15, .inr (.inr (.inr (.inr (va_up (va_cpy lf (fun _ => none) 0 0 10) 10 (some v)))))))] ++ pg cds ad gg) := hD
  refine lv_aload_n hx hb dAL_add3_15 rfl (lv_at hl 1 rfl) ?_
  refine lv_iload_n hx hb dAL_add3_16 rfl (lv_at hl 3 rfl) ?_
  refine lv_iconst (v := 1) hx hb dAL_add3_17 (by decide) ?_
  refine lv_iadd hx hb dAL_add3_18 ?_
  refine lv_topi (fun y9 e9 => ?_)
  cases (show y9 = nI (10 + 1) from e9.trans (nI_add 10 1))
  refine va_put (D := D) (ci := 12) (v := .int (nI (10 + 1))) (ty := .int) (C := R_AL) (T := T_AL) (N := 3) hx hb hT in_AL ty_AL ty_AL_ok m_AL hown hK hP hD hS 1 rfl rfl 1 (by decide) (hT _ w269) (fun _ h9 => h9) rfl (by decide +kernel) rfl rfl (Nat.le_of_ble_eq_true rfl) dAL_add3_19 (fun H locs hP hD hS => ?_)
  have hP : va_P D vwCl ([(v, .inr (10, [.int v1, .int v2, .int v3, .int v4, .int v5, .int v6, .int v7, .int v8, .ref v9])), (h, .inr (12, [.ref nqu2, .int (nI (10 + 1)), .int md])), (le, .inl (cT 7, 10, .inr (.inr (.inr (.inr lf))))), (nqu2, .inl (cT 7, 15, .inr (.inr (.inr (.inr (va_up (va_cpy lf (fun _ => none) 0 0 10) 10 (some v)))))))] ++ pg cds ad gg) _ := hP
  have hD : va_D A ([(v, .inr (10, [.int v1, .int v2, .int v3, .int v4, .int v5, .int v6, .int v7, .int v8, .ref v9])), (h, .inr (12, [.ref nqu2, .int (nI (10 + 1)), .int md])), (le, .inl (cT 7, 10, .inr (.inr (.inr (.inr lf))))), (nqu2, .inl (cT 7, 15, .inr (.inr (.inr (.inr (va_up (va_cpy lf (fun _ => none) 0 0 10) 10 (some v)))))))] ++ pg cds ad gg) := hD
  have hP9 : va_P D vwCl ([(h, .inr (12, [.ref nqu2, .int (nI (10 + 1)), .int md])), (nqu2, .inl (cT 7, 15, .inr (.inr (.inr (.inr (va_up (va_cpy lf (fun _ => none) 0 0 10) 10 (some v))))))), (v, .inr (10, [.int v1, .int v2, .int v3, .int v4, .int v5, .int v6, .int v7, .int v8, .ref v9]))] ++ pg cds ad gg) _ := hP.part (cx := [(h, .inr (12, [.ref nqu2, .int (nI (10 + 1)), .int md])), (nqu2, .inl (cT 7, 15, .inr (.inr (.inr (.inr (va_up (va_cpy lf (fun _ => none) 0 0 10) 10 (some v))))))), (v, .inr (10, [.int v1, .int v2, .int v3, .int v4, .int v5, .int v6, .int v7, .int v8, .ref v9]))]) [1, 3, 0] rfl
  have hD9 : va_D A ([(h, .inr (12, [.ref nqu2, .int (nI (10 + 1)), .int md])), (nqu2, .inl (cT 7, 15, .inr (.inr (.inr (.inr (va_up (va_cpy lf (fun _ => none) 0 0 10) 10 (some v))))))), (v, .inr (10, [.int v1, .int v2, .int v3, .int v4, .int v5, .int v6, .int v7, .int v8, .ref v9]))] ++ pg cds ad gg) := hD.part (cx := [(h, .inr (12, [.ref nqu2, .int (nI (10 + 1)), .int md])), (nqu2, .inl (cT 7, 15, .inr (.inr (.inr (.inr (va_up (va_cpy lf (fun _ => none) 0 0 10) 10 (some v))))))), (v, .inr (10, [.int v1, .int v2, .int v3, .int v4, .int v5, .int v6, .int v7, .int v8, .ref v9]))]) [1, 3, 0] (by decide) rfl
  refine W.widen (k := 1) (n := 15) (Nat.le_of_ble_eq_true rfl) (Nat.le_of_ble_eq_true rfl) ?_
  exact W.vret hx hb hr (fun t9 ht9 hW9 => ⟨⟨nqu2, rfl, (show True from trivial), by rw [ht9]; exact hP9, hD9⟩, hS.F ht9⟩) hS.2.2 dAL_add3_22
set_option maxHeartbeats 4000000 in
set_option maxRecDepth 100000 in
theorem k_alAdd3N15 (l : Launch) (D : va_G) (cT : Nat → ClassId) (cds : List Nat) (ad : Nat → Nat) (gg : Nat → Option va_E) (tE : Nat) (mE : Nat) (h : Nat) (md : Int32) (le : Nat) (lf : Nat → Option Nat) (bs : Nat) (v : Nat) (v1 : Int32) (v2 : Int32) (v3 : Int32) (v4 : Int32) (v5 : Int32) (v6 : Int32) (v7 : Int32) (v8 : Int32) (v9 : Nat) (hcd : CD cds) (hel : ∀ k8, k8 < 15 → ∃ fs8 : List Value, bs + k8 < 8192 ∧ lf k8 = some (ad (bs + k8)) ∧ gg (bs + k8) = some (.inr (10, fs8))) (sz : Nat) : Met l yAL_add3 WAL_add3 ({ frames := 5, cells := 1, slots := 22, locals := 127 } : Room) (RWE tE mE D vwCl [.ref h, .ref v, .ref le, .int (nI 15)] ([(h, .inr (12, [.ref le, .int (nI 15), .int md])), (le, .inl (cT 7, 15, .inr (.inr (.inr (.inr lf))))), (v, .inr (10, [.int v1, .int v2, .int v3, .int v4, .int v5, .int v6, .int v7, .int v8, .ref v9]))] ++ pg cds ad gg) (TY cT) sz) (va_Qv (fun u9 : Nat => True) (BW D vwCl (va_A ([(h, .inr (12, [.ref le, .int (nI 15), .int md])), (le, .inl (cT 7, 15, .inr (.inr (.inr (.inr lf))))), (v, .inr (10, [.int v1, .int v2, .int v3, .int v4, .int v5, .int v6, .int v7, .int v8, .ref v9]))] ++ pg cds ad gg) sz) (fun u9 : Nat => ([(h, .inr (12, [.ref u9, .int (nI (15 + 1)), .int md])), (u9, .inl (cT 7, 22, .inr (.inr (.inr (.inr (va_up (va_cpy lf (fun _ => none) 0 0 15) 15 (some v))))))), (v, .inr (10, [.int v1, .int v2, .int v3, .int v4, .int v5, .int v6, .int v7, .int v8, .ref v9]))] ++ pg cds ad gg))) (va_A ([(h, .inr (12, [.ref le, .int (nI 15), .int md])), (le, .inl (cT 7, 15, .inr (.inr (.inr (.inr lf))))), (v, .inr (10, [.int v1, .int v2, .int v3, .int v4, .int v5, .int v6, .int v7, .int v8, .ref v9]))] ++ pg cds ad gg) sz)) 1 22 (va_A ([(h, .inr (12, [.ref le, .int (nI 15), .int md])), (le, .inl (cT 7, 15, .inr (.inr (.inr (.inr lf))))), (v, .inr (10, [.int v1, .int v2, .int v3, .int v4, .int v5, .int v6, .int v7, .int v8, .ref v9]))] ++ pg cds ad gg) sz) := by
  refine Met.ofW (cc := cAL_add3) (maxL := 4) (ret := none) (by decide) rfl ?_
  intro p e s m args below meth c s₁ B hml hv
  obtain ⟨rfl, ⟨hsz, hZ, hP, hK, hD0⟩, hE0⟩ := hv
  have hx := B.exec
  have hb := B.bytes
  have hr := B.returns
  have hts := atoms_spec (ws := WAL_add3) B.pre
  have hT : ∀ w ∈ TB, w.before _ s = true := fun w h => hts w (List.mem_cons_of_mem _ h)
  have hown : s.vm.findClass R_AL = some m.cls := findClass_of_methodNamed B.named
  have hlocks := B.notSynchronized
  subst hsz
  have hD := hD0.self (sz := s.heap.size)
  generalize hAe : va_A ([(h, .inr (12, [.ref le, .int (nI 15), .int md])), (le, .inl (cT 7, 15, .inr (.inr (.inr (.inr lf))))), (v, .inr (10, [.int v1, .int v2, .int v3, .int v4, .int v5, .int v6, .int v7, .int v8, .ref v9]))] ++ pg cds ad gg) s.heap.size = A at hD hZ hE0 ⊢
  have hA : ∀ q : Nat, s.heap.size ≤ q → A q := fun q h => by rw [← hAe]; exact Or.inr h
  have hS : va_S A s.heap s.heap [] := va_S.rf
  have hl := lv_entry ([.ref h, .ref v, .ref le, .int (nI 15)]) (n := 4) (Nat.le_of_ble_eq_true rfl)
  rw [lg_entry_eq]
  generalize (lg_sl ([.ref h, .ref v, .ref le, .int (nI 15)]) ++ List.replicate (4 - (lg_sl ([.ref h, .ref v, .ref le, .int (nI 15)])).length) Slot.unset).toArray = ls at hl ⊢
  have hl : lv_has ls 4 [(0, .ref h), (1, .ref v), (2, .ref le), (3, .int (nI 15))] := hl
  refine lv_iload_n hx hb dAL_add3_0 rfl (lv_at hl 3 rfl) ?_
  refine lv_aload_n hx hb dAL_add3_1 rfl (lv_at hl 2 rfl) ?_
  refine va_alen (v := 15) hx hb hK hP 1 7 rfl rfl rfl dAL_add3_2 ?_
  refine lv_icmp_ne (tgt := 11) hx hb dAL_add3_3 rfl (fun h1 => absurd (by decide) h1) (fun _ => ?_)
  refine lv_aload_n hx hb dAL_add3_6 rfl (lv_at hl 0 rfl) ?_
  refine hy_rP (X := [(h, .inr (12, [.ref le, .int (nI 15), .int md])), (le, .inl (cT 7, 15, .inr (.inr (.inr (.inr lf))))), (v, .inr (10, [.int v1, .int v2, .int v3, .int v4, .int v5, .int v6, .int v7, .int v8, .ref v9]))]) (pl := pg cds ad gg) (cx := [(h, .inr (12, [.ref le, .int (nI 15), .int md])), (le, .inl (cT 7, 15, .inr (.inr (.inr (.inr lf)))))]) (wr := [(v, .inr (10, [.int v1, .int v2, .int v3, .int v4, .int v5, .int v6, .int v7, .int v8, .ref v9]))]) hP hD hS hA [0, 1] [2] rfl rfl (by decide) (by decide) (va_runV (As := []) (rest := []) ⟨hx, hb, hml, hown, hT⟩ (k_alGrowN15 l D cT cds ad gg tE mE h md le lf bs hcd hel _) ⟨callB_of 0 hT (tb_gd w765) rfl rfl rfl (hT _ w11) (hT _ w762) hAL_grow ⟨Nat.le_of_ble_eq_true rfl, Nat.le_of_ble_eq_true rfl⟩, (hT _ w764), (hT _ wp10)⟩ (RWE.preV (ci := 12) (q0 := 0) hE0 hZ hS (va_freeP (cx := [(h, .inr (12, [.ref le, .int (nI 15), .int md])), (le, .inl (cT 7, 15, .inr (.inr (.inr (.inr lf)))))]) hD hS hA [0, 1] rfl) (hP.part (cx := [(h, .inr (12, [.ref le, .int (nI 15), .int md])), (le, .inl (cT 7, 15, .inr (.inr (.inr (.inr lf)))))]) [0, 1] rfl) hK (hD.part (cx := [(h, .inr (12, [.ref le, .int (nI 15), .int md])), (le, .inl (cT 7, 15, .inr (.inr (.inr (.inr lf)))))]) [0, 1] (by decide) rfl) rfl rfl) rfl rfl hl.1 rfl (lv_room (Nat.le_of_ble_eq_true rfl)) dAL_add3_7 ⟨Nat.le_of_ble_eq_true rfl, Nat.le_of_ble_eq_true rfl⟩) (fun u9 H locs hpu2 hP hD hS => ?_)
  obtain ⟨nqu2, rfl⟩ : ∃ q9, q9 = u9 := ⟨_, rfl⟩
  have hpu2 : True := hpu2
  have hP : va_P D vwCl ([(v, .inr (10, [.int v1, .int v2, .int v3, .int v4, .int v5, .int v6, .int v7, .int v8, .ref v9])), (h, .inr (12, [.ref nqu2, .int (nI 15), .int md])), (le, .inl (cT 7, 15, .inr (.inr (.inr (.inr lf))))), (nqu2, .inl (cT 7, 22, .inr (.inr (.inr (.inr (va_cpy lf (fun _ => none) 0 0 15))))))] ++ pg cds ad gg) _ := hP
  have hD : va_D A ([(v, .inr (10, [.int v1, .int v2, .int v3, .int v4, .int v5, .int v6, .int v7, .int v8, .ref v9])), (h, .inr (12, [.ref nqu2, .int (nI 15), .int md])), (le, .inl (cT 7, 15, .inr (.inr (.inr (.inr lf))))), (nqu2, .inl (cT 7, 22, .inr (.inr (.inr (.inr (va_cpy lf (fun _ => none) 0 0 15))))))] ++ pg cds ad gg) := hD
  refine W.eq (g2 := F0 m 10 ls [.ref nqu2]) rfl ?_
  refine lv_astore_n hx hb dAL_add3_10 rfl hl (by decide) rfl (fun ls hl => ?_)
  have hl : lv_has ls 4 [(2, .ref nqu2), (0, .ref h), (1, .ref v), (3, .int (nI 15))] := hl
  refine lv_aload_n hx hb dAL_add3_11 rfl (lv_at hl 0 rfl) ?_
  refine lv_iload_n hx hb dAL_add3_12 rfl (lv_at hl 3 rfl) ?_
  refine lv_aload_n hx hb dAL_add3_13 rfl (lv_at hl 2 rfl) ?_
  refine va_astqO (E := "java/lang/Object") hx hb hK hP hD hS 3 7 0 10 rfl rfl (by exact hZ.1.1 ("ResidualTrees$Node", "java/lang/Object") (List.mem_of_getElem? (i := 15) rfl)) rfl rfl (vp_in_nI (i := 15) (by decide) (by decide)) dAL_add3_14 (fun H locs hP hD hS => ?_)
  rw [nI_clamp (by omega)] at hP hD
  have hP : va_P D vwCl ([(v, .inr (10, [.int v1, .int v2, .int v3, .int v4, .int v5, .int v6, .int v7, .int v8, .ref v9])), (h, .inr (12, [.ref nqu2, .int (nI 15), .int md])), (le, .inl (cT 7, 15, .inr (.inr (.inr (.inr lf))))), (nqu2, .inl (cT 7, 22, .inr (.inr (.inr (.inr (va_up (va_cpy lf (fun _ => none) 0 0 15) 15 (some v)))))))] ++ pg cds ad gg) _ := hP
  have hD : va_D A ([(v, .inr (10, [.int v1, .int v2, .int v3, .int v4, .int v5, .int v6, .int v7, .int v8, .ref v9])), (h, .inr (12, [.ref nqu2, .int (nI 15), .int md])), (le, .inl (cT 7, 15, .inr (.inr (.inr (.inr lf))))), (nqu2, .inl (cT 7, 22, .inr (.inr (.inr (.inr (va_up (va_cpy lf (fun _ => none) 0 0 15) 15 (some v)))))))] ++ pg cds ad gg) := hD
  refine lv_aload_n hx hb dAL_add3_15 rfl (lv_at hl 1 rfl) ?_
  refine lv_iload_n hx hb dAL_add3_16 rfl (lv_at hl 3 rfl) ?_
  refine lv_iconst (v := 1) hx hb dAL_add3_17 (by decide) ?_
  refine lv_iadd hx hb dAL_add3_18 ?_
  refine lv_topi (fun y9 e9 => ?_)
  cases (show y9 = nI (15 + 1) from e9.trans (nI_add 15 1))
  refine va_put (D := D) (ci := 12) (v := .int (nI (15 + 1))) (ty := .int) (C := R_AL) (T := T_AL) (N := 3) hx hb hT in_AL ty_AL ty_AL_ok m_AL hown hK hP hD hS 1 rfl rfl 1 (by decide) (hT _ w269) (fun _ h9 => h9) rfl (by decide +kernel) rfl rfl (Nat.le_of_ble_eq_true rfl) dAL_add3_19 (fun H locs hP hD hS => ?_)
  have hP : va_P D vwCl ([(v, .inr (10, [.int v1, .int v2, .int v3, .int v4, .int v5, .int v6, .int v7, .int v8, .ref v9])), (h, .inr (12, [.ref nqu2, .int (nI (15 + 1)), .int md])), (le, .inl (cT 7, 15, .inr (.inr (.inr (.inr lf))))), (nqu2, .inl (cT 7, 22, .inr (.inr (.inr (.inr (va_up (va_cpy lf (fun _ => none) 0 0 15) 15 (some v)))))))] ++ pg cds ad gg) _ := hP
  have hD : va_D A ([(v, .inr (10, [.int v1, .int v2, .int v3, .int v4, .int v5, .int v6, .int v7, .int v8, .ref v9])), (h, .inr (12, [.ref nqu2, .int (nI (15 + 1)), .int md])), (le, .inl (cT 7, 15, .inr (.inr (.inr (.inr lf))))), (nqu2, .inl (cT 7, 22, .inr (.inr (.inr (.inr (va_up (va_cpy lf (fun _ => none) 0 0 15) 15 (some v)))))))] ++ pg cds ad gg) := hD
  have hP9 : va_P D vwCl ([(h, .inr (12, [.ref nqu2, .int (nI (15 + 1)), .int md])), (nqu2, .inl (cT 7, 22, .inr (.inr (.inr (.inr (va_up (va_cpy lf (fun _ => none) 0 0 15) 15 (some v))))))), (v, .inr (10, [.int v1, .int v2, .int v3, .int v4, .int v5, .int v6, .int v7, .int v8, .ref v9]))] ++ pg cds ad gg) _ := hP.part (cx := [(h, .inr (12, [.ref nqu2, .int (nI (15 + 1)), .int md])), (nqu2, .inl (cT 7, 22, .inr (.inr (.inr (.inr (va_up (va_cpy lf (fun _ => none) 0 0 15) 15 (some v))))))), (v, .inr (10, [.int v1, .int v2, .int v3, .int v4, .int v5, .int v6, .int v7, .int v8, .ref v9]))]) [1, 3, 0] rfl
  have hD9 : va_D A ([(h, .inr (12, [.ref nqu2, .int (nI (15 + 1)), .int md])), (nqu2, .inl (cT 7, 22, .inr (.inr (.inr (.inr (va_up (va_cpy lf (fun _ => none) 0 0 15) 15 (some v))))))), (v, .inr (10, [.int v1, .int v2, .int v3, .int v4, .int v5, .int v6, .int v7, .int v8, .ref v9]))] ++ pg cds ad gg) := hD.part (cx := [(h, .inr (12, [.ref nqu2, .int (nI (15 + 1)), .int md])), (nqu2, .inl (cT 7, 22, .inr (.inr (.inr (.inr (va_up (va_cpy lf (fun _ => none) 0 0 15) 15 (some v))))))), (v, .inr (10, [.int v1, .int v2, .int v3, .int v4, .int v5, .int v6, .int v7, .int v8, .ref v9]))]) [1, 3, 0] (by decide) rfl
  refine W.widen (k := 1) (n := 22) (Nat.le_of_ble_eq_true rfl) (Nat.le_of_ble_eq_true rfl) ?_
  exact W.vret hx hb hr (fun t9 ht9 hW9 => ⟨⟨nqu2, rfl, (show True from trivial), by rw [ht9]; exact hP9, hD9⟩, hS.F ht9⟩) hS.2.2 dAL_add3_22
set_option maxHeartbeats 4000000 in
set_option maxRecDepth 100000 in
theorem k_alAdd3N22 (l : Launch) (D : va_G) (cT : Nat → ClassId) (cds : List Nat) (ad : Nat → Nat) (gg : Nat → Option va_E) (tE : Nat) (mE : Nat) (h : Nat) (md : Int32) (le : Nat) (lf : Nat → Option Nat) (bs : Nat) (v : Nat) (v1 : Int32) (v2 : Int32) (v3 : Int32) (v4 : Int32) (v5 : Int32) (v6 : Int32) (v7 : Int32) (v8 : Int32) (v9 : Nat) (hcd : CD cds) (hel : ∀ k8, k8 < 22 → ∃ fs8 : List Value, bs + k8 < 8192 ∧ lf k8 = some (ad (bs + k8)) ∧ gg (bs + k8) = some (.inr (10, fs8))) (sz : Nat) : Met l yAL_add3 WAL_add3 ({ frames := 5, cells := 1, slots := 33, locals := 127 } : Room) (RWE tE mE D vwCl [.ref h, .ref v, .ref le, .int (nI 22)] ([(h, .inr (12, [.ref le, .int (nI 22), .int md])), (le, .inl (cT 7, 22, .inr (.inr (.inr (.inr lf))))), (v, .inr (10, [.int v1, .int v2, .int v3, .int v4, .int v5, .int v6, .int v7, .int v8, .ref v9]))] ++ pg cds ad gg) (TY cT) sz) (va_Qv (fun u9 : Nat => True) (BW D vwCl (va_A ([(h, .inr (12, [.ref le, .int (nI 22), .int md])), (le, .inl (cT 7, 22, .inr (.inr (.inr (.inr lf))))), (v, .inr (10, [.int v1, .int v2, .int v3, .int v4, .int v5, .int v6, .int v7, .int v8, .ref v9]))] ++ pg cds ad gg) sz) (fun u9 : Nat => ([(h, .inr (12, [.ref u9, .int (nI (22 + 1)), .int md])), (u9, .inl (cT 7, 33, .inr (.inr (.inr (.inr (va_up (va_cpy lf (fun _ => none) 0 0 22) 22 (some v))))))), (v, .inr (10, [.int v1, .int v2, .int v3, .int v4, .int v5, .int v6, .int v7, .int v8, .ref v9]))] ++ pg cds ad gg))) (va_A ([(h, .inr (12, [.ref le, .int (nI 22), .int md])), (le, .inl (cT 7, 22, .inr (.inr (.inr (.inr lf))))), (v, .inr (10, [.int v1, .int v2, .int v3, .int v4, .int v5, .int v6, .int v7, .int v8, .ref v9]))] ++ pg cds ad gg) sz)) 1 33 (va_A ([(h, .inr (12, [.ref le, .int (nI 22), .int md])), (le, .inl (cT 7, 22, .inr (.inr (.inr (.inr lf))))), (v, .inr (10, [.int v1, .int v2, .int v3, .int v4, .int v5, .int v6, .int v7, .int v8, .ref v9]))] ++ pg cds ad gg) sz) := by
  refine Met.ofW (cc := cAL_add3) (maxL := 4) (ret := none) (by decide) rfl ?_
  intro p e s m args below meth c s₁ B hml hv
  obtain ⟨rfl, ⟨hsz, hZ, hP, hK, hD0⟩, hE0⟩ := hv
  have hx := B.exec
  have hb := B.bytes
  have hr := B.returns
  have hts := atoms_spec (ws := WAL_add3) B.pre
  have hT : ∀ w ∈ TB, w.before _ s = true := fun w h => hts w (List.mem_cons_of_mem _ h)
  have hown : s.vm.findClass R_AL = some m.cls := findClass_of_methodNamed B.named
  have hlocks := B.notSynchronized
  subst hsz
  have hD := hD0.self (sz := s.heap.size)
  generalize hAe : va_A ([(h, .inr (12, [.ref le, .int (nI 22), .int md])), (le, .inl (cT 7, 22, .inr (.inr (.inr (.inr lf))))), (v, .inr (10, [.int v1, .int v2, .int v3, .int v4, .int v5, .int v6, .int v7, .int v8, .ref v9]))] ++ pg cds ad gg) s.heap.size = A at hD hZ hE0 ⊢
  have hA : ∀ q : Nat, s.heap.size ≤ q → A q := fun q h => by rw [← hAe]; exact Or.inr h
  have hS : va_S A s.heap s.heap [] := va_S.rf
  have hl := lv_entry ([.ref h, .ref v, .ref le, .int (nI 22)]) (n := 4) (Nat.le_of_ble_eq_true rfl)
  rw [lg_entry_eq]
  generalize (lg_sl ([.ref h, .ref v, .ref le, .int (nI 22)]) ++ List.replicate (4 - (lg_sl ([.ref h, .ref v, .ref le, .int (nI 22)])).length) Slot.unset).toArray = ls at hl ⊢
  have hl : lv_has ls 4 [(0, .ref h), (1, .ref v), (2, .ref le), (3, .int (nI 22))] := hl
  refine lv_iload_n hx hb dAL_add3_0 rfl (lv_at hl 3 rfl) ?_
  refine lv_aload_n hx hb dAL_add3_1 rfl (lv_at hl 2 rfl) ?_
  refine va_alen (v := 22) hx hb hK hP 1 7 rfl rfl rfl dAL_add3_2 ?_
  refine lv_icmp_ne (tgt := 11) hx hb dAL_add3_3 rfl (fun h1 => absurd (by decide) h1) (fun _ => ?_)
  refine lv_aload_n hx hb dAL_add3_6 rfl (lv_at hl 0 rfl) ?_
  refine hy_rP (X := [(h, .inr (12, [.ref le, .int (nI 22), .int md])), (le, .inl (cT 7, 22, .inr (.inr (.inr (.inr lf))))), (v, .inr (10, [.int v1, .int v2, .int v3, .int v4, .int v5, .int v6, .int v7, .int v8, .ref v9]))]) (pl := pg cds ad gg) (cx := [(h, .inr (12, [.ref le, .int (nI 22), .int md])), (le, .inl (cT 7, 22, .inr (.inr (.inr (.inr lf)))))]) (wr := [(v, .inr (10, [.int v1, .int v2, .int v3, .int v4, .int v5, .int v6, .int v7, .int v8, .ref v9]))]) hP hD hS hA [0, 1] [2] rfl rfl (by decide) (by decide) (va_runV (As := []) (rest := []) ⟨hx, hb, hml, hown, hT⟩ (k_alGrowN22 l D cT cds ad gg tE mE h md le lf bs hcd hel _) ⟨callB_of 0 hT (tb_gd w765) rfl rfl rfl (hT _ w11) (hT _ w762) hAL_grow ⟨Nat.le_of_ble_eq_true rfl, Nat.le_of_ble_eq_true rfl⟩, (hT _ w764), (hT _ wp10)⟩ (RWE.preV (ci := 12) (q0 := 0) hE0 hZ hS (va_freeP (cx := [(h, .inr (12, [.ref le, .int (nI 22), .int md])), (le, .inl (cT 7, 22, .inr (.inr (.inr (.inr lf)))))]) hD hS hA [0, 1] rfl) (hP.part (cx := [(h, .inr (12, [.ref le, .int (nI 22), .int md])), (le, .inl (cT 7, 22, .inr (.inr (.inr (.inr lf)))))]) [0, 1] rfl) hK (hD.part (cx := [(h, .inr (12, [.ref le, .int (nI 22), .int md])), (le, .inl (cT 7, 22, .inr (.inr (.inr (.inr lf)))))]) [0, 1] (by decide) rfl) rfl rfl) rfl rfl hl.1 rfl (lv_room (Nat.le_of_ble_eq_true rfl)) dAL_add3_7 ⟨Nat.le_of_ble_eq_true rfl, Nat.le_of_ble_eq_true rfl⟩) (fun u9 H locs hpu2 hP hD hS => ?_)
  obtain ⟨nqu2, rfl⟩ : ∃ q9, q9 = u9 := ⟨_, rfl⟩
  have hpu2 : True := hpu2
  have hP : va_P D vwCl ([(v, .inr (10, [.int v1, .int v2, .int v3, .int v4, .int v5, .int v6, .int v7, .int v8, .ref v9])), (h, .inr (12, [.ref nqu2, .int (nI 22), .int md])), (le, .inl (cT 7, 22, .inr (.inr (.inr (.inr lf))))), (nqu2, .inl (cT 7, 33, .inr (.inr (.inr (.inr (va_cpy lf (fun _ => none) 0 0 22))))))] ++ pg cds ad gg) _ := hP
  have hD : va_D A ([(v, .inr (10, [.int v1, .int v2, .int v3, .int v4, .int v5, .int v6, .int v7, .int v8, .ref v9])), (h, .inr (12, [.ref nqu2, .int (nI 22), .int md])), (le, .inl (cT 7, 22, .inr (.inr (.inr (.inr lf))))), (nqu2, .inl (cT 7, 33, .inr (.inr (.inr (.inr (va_cpy lf (fun _ => none) 0 0 22))))))] ++ pg cds ad gg) := hD
  refine W.eq (g2 := F0 m 10 ls [.ref nqu2]) rfl ?_
  refine lv_astore_n hx hb dAL_add3_10 rfl hl (by decide) rfl (fun ls hl => ?_)
  have hl : lv_has ls 4 [(2, .ref nqu2), (0, .ref h), (1, .ref v), (3, .int (nI 22))] := hl
  refine lv_aload_n hx hb dAL_add3_11 rfl (lv_at hl 0 rfl) ?_
  refine lv_iload_n hx hb dAL_add3_12 rfl (lv_at hl 3 rfl) ?_
  refine lv_aload_n hx hb dAL_add3_13 rfl (lv_at hl 2 rfl) ?_
  refine va_astqO (E := "java/lang/Object") hx hb hK hP hD hS 3 7 0 10 rfl rfl (by exact hZ.1.1 ("ResidualTrees$Node", "java/lang/Object") (List.mem_of_getElem? (i := 15) rfl)) rfl rfl (vp_in_nI (i := 22) (by decide) (by decide)) dAL_add3_14 (fun H locs hP hD hS => ?_)
  rw [nI_clamp (by omega)] at hP hD
  have hP : va_P D vwCl ([(v, .inr (10, [.int v1, .int v2, .int v3, .int v4, .int v5, .int v6, .int v7, .int v8, .ref v9])), (h, .inr (12, [.ref nqu2, .int (nI 22), .int md])), (le, .inl (cT 7, 22, .inr (.inr (.inr (.inr lf))))), (nqu2, .inl (cT 7, 33, .inr (.inr (.inr (.inr (va_up (va_cpy lf (fun _ => none) 0 0 22) 22 (some v)))))))] ++ pg cds ad gg) _ := hP
  have hD : va_D A ([(v, .inr (10, [.int v1, .int v2, .int v3, .int v4, .int v5, .int v6, .int v7, .int v8, .ref v9])), (h, .inr (12, [.ref nqu2, .int (nI 22), .int md])), (le, .inl (cT 7, 22, .inr (.inr (.inr (.inr lf))))), (nqu2, .inl (cT 7, 33, .inr (.inr (.inr (.inr (va_up (va_cpy lf (fun _ => none) 0 0 22) 22 (some v)))))))] ++ pg cds ad gg) := hD
  refine lv_aload_n hx hb dAL_add3_15 rfl (lv_at hl 1 rfl) ?_
  refine lv_iload_n hx hb dAL_add3_16 rfl (lv_at hl 3 rfl) ?_
  refine lv_iconst (v := 1) hx hb dAL_add3_17 (by decide) ?_
  refine lv_iadd hx hb dAL_add3_18 ?_
  refine lv_topi (fun y9 e9 => ?_)
  cases (show y9 = nI (22 + 1) from e9.trans (nI_add 22 1))
  refine va_put (D := D) (ci := 12) (v := .int (nI (22 + 1))) (ty := .int) (C := R_AL) (T := T_AL) (N := 3) hx hb hT in_AL ty_AL ty_AL_ok m_AL hown hK hP hD hS 1 rfl rfl 1 (by decide) (hT _ w269) (fun _ h9 => h9) rfl (by decide +kernel) rfl rfl (Nat.le_of_ble_eq_true rfl) dAL_add3_19 (fun H locs hP hD hS => ?_)
  have hP : va_P D vwCl ([(v, .inr (10, [.int v1, .int v2, .int v3, .int v4, .int v5, .int v6, .int v7, .int v8, .ref v9])), (h, .inr (12, [.ref nqu2, .int (nI (22 + 1)), .int md])), (le, .inl (cT 7, 22, .inr (.inr (.inr (.inr lf))))), (nqu2, .inl (cT 7, 33, .inr (.inr (.inr (.inr (va_up (va_cpy lf (fun _ => none) 0 0 22) 22 (some v)))))))] ++ pg cds ad gg) _ := hP
  have hD : va_D A ([(v, .inr (10, [.int v1, .int v2, .int v3, .int v4, .int v5, .int v6, .int v7, .int v8, .ref v9])), (h, .inr (12, [.ref nqu2, .int (nI (22 + 1)), .int md])), (le, .inl (cT 7, 22, .inr (.inr (.inr (.inr lf))))), (nqu2, .inl (cT 7, 33, .inr (.inr (.inr (.inr (va_up (va_cpy lf (fun _ => none) 0 0 22) 22 (some v)))))))] ++ pg cds ad gg) := hD
  have hP9 : va_P D vwCl ([(h, .inr (12, [.ref nqu2, .int (nI (22 + 1)), .int md])), (nqu2, .inl (cT 7, 33, .inr (.inr (.inr (.inr (va_up (va_cpy lf (fun _ => none) 0 0 22) 22 (some v))))))), (v, .inr (10, [.int v1, .int v2, .int v3, .int v4, .int v5, .int v6, .int v7, .int v8, .ref v9]))] ++ pg cds ad gg) _ := hP.part (cx := [(h, .inr (12, [.ref nqu2, .int (nI (22 + 1)), .int md])), (nqu2, .inl (cT 7, 33, .inr (.inr (.inr (.inr (va_up (va_cpy lf (fun _ => none) 0 0 22) 22 (some v))))))), (v, .inr (10, [.int v1, .int v2, .int v3, .int v4, .int v5, .int v6, .int v7, .int v8, .ref v9]))]) [1, 3, 0] rfl
  have hD9 : va_D A ([(h, .inr (12, [.ref nqu2, .int (nI (22 + 1)), .int md])), (nqu2, .inl (cT 7, 33, .inr (.inr (.inr (.inr (va_up (va_cpy lf (fun _ => none) 0 0 22) 22 (some v))))))), (v, .inr (10, [.int v1, .int v2, .int v3, .int v4, .int v5, .int v6, .int v7, .int v8, .ref v9]))] ++ pg cds ad gg) := hD.part (cx := [(h, .inr (12, [.ref nqu2, .int (nI (22 + 1)), .int md])), (nqu2, .inl (cT 7, 33, .inr (.inr (.inr (.inr (va_up (va_cpy lf (fun _ => none) 0 0 22) 22 (some v))))))), (v, .inr (10, [.int v1, .int v2, .int v3, .int v4, .int v5, .int v6, .int v7, .int v8, .ref v9]))]) [1, 3, 0] (by decide) rfl
  refine W.widen (k := 1) (n := 33) (Nat.le_of_ble_eq_true rfl) (Nat.le_of_ble_eq_true rfl) ?_
  exact W.vret hx hb hr (fun t9 ht9 hW9 => ⟨⟨nqu2, rfl, (show True from trivial), by rw [ht9]; exact hP9, hD9⟩, hS.F ht9⟩) hS.2.2 dAL_add3_22
set_option maxHeartbeats 4000000 in
set_option maxRecDepth 100000 in
theorem k_alAdd3T0 (l : Launch) (D : va_G) (cT : Nat → ClassId) (tE : Nat) (mE : Nat) (h : Nat) (md : Int32) (v : Nat) (v1 : Nat) (v2 : Int32) (v3 : Int32) (v4 : Int32) (v5 : Int32) (v6 : Int64) (sz : Nat) : Met l yAL_add3 WAL_add3 ({ frames := 3, cells := 1, slots := 10, locals := 64 } : Room) (RWE tE mE D vwCl [.ref h, .ref v, .ref tE, .int (nI 0)] [(h, .inr (12, [.ref tE, .int (nI 0), .int md])), (v, .inr (9, [.ref v1, .int v2, .int v3, .int v4, .int v5, .long v6]))] (TY cT) sz) (va_Qv (fun u9 : Nat => True) (BW D vwCl (va_A [(h, .inr (12, [.ref tE, .int (nI 0), .int md])), (v, .inr (9, [.ref v1, .int v2, .int v3, .int v4, .int v5, .long v6]))] sz) (fun u9 : Nat => [(h, .inr (12, [.ref u9, .int (nI (0 + 1)), .int md])), (u9, .inl (cT 7, 10, .inr (.inr (.inr (.inr (va_up (fun _ => none) 0 (some v))))))), (v, .inr (9, [.ref v1, .int v2, .int v3, .int v4, .int v5, .long v6]))])) (va_A [(h, .inr (12, [.ref tE, .int (nI 0), .int md])), (v, .inr (9, [.ref v1, .int v2, .int v3, .int v4, .int v5, .long v6]))] sz)) 1 10 (va_A [(h, .inr (12, [.ref tE, .int (nI 0), .int md])), (v, .inr (9, [.ref v1, .int v2, .int v3, .int v4, .int v5, .long v6]))] sz) := by
  refine Met.ofW (cc := cAL_add3) (maxL := 4) (ret := none) (by decide) rfl ?_
  intro p e s m args below meth c s₁ B hml hv
  obtain ⟨rfl, ⟨hsz, hZ, hP, hK, hD0⟩, hE0⟩ := hv
  have hx := B.exec
  have hb := B.bytes
  have hr := B.returns
  have hts := atoms_spec (ws := WAL_add3) B.pre
  have hT : ∀ w ∈ TB, w.before _ s = true := fun w h => hts w (List.mem_cons_of_mem _ h)
  have hown : s.vm.findClass R_AL = some m.cls := findClass_of_methodNamed B.named
  have hlocks := B.notSynchronized
  subst hsz
  have hD := hD0.self (sz := s.heap.size)
  generalize hAe : va_A [(h, .inr (12, [.ref tE, .int (nI 0), .int md])), (v, .inr (9, [.ref v1, .int v2, .int v3, .int v4, .int v5, .long v6]))] s.heap.size = A at hD hZ hE0 ⊢
  have hA : ∀ q : Nat, s.heap.size ≤ q → A q := fun q h => by rw [← hAe]; exact Or.inr h
  have hS : va_S A s.heap s.heap [] := va_S.rf
  have hl := lv_entry ([.ref h, .ref v, .ref tE, .int (nI 0)]) (n := 4) (Nat.le_of_ble_eq_true rfl)
  rw [lg_entry_eq]
  generalize (lg_sl ([.ref h, .ref v, .ref tE, .int (nI 0)]) ++ List.replicate (4 - (lg_sl ([.ref h, .ref v, .ref tE, .int (nI 0)])).length) Slot.unset).toArray = ls at hl ⊢
  have hl : lv_has ls 4 [(0, .ref h), (1, .ref v), (2, .ref tE), (3, .int (nI 0))] := hl
  refine lv_iload_n hx hb dAL_add3_0 rfl (lv_at hl 3 rfl) ?_
  refine lv_aload_n hx hb dAL_add3_1 rfl (lv_at hl 2 rfl) ?_
  refine va_tlen (v := 0) hx hb hE0.2.1 hS rfl dAL_add3_2 ?_
  refine lv_icmp_ne (tgt := 11) hx hb dAL_add3_3 rfl (fun h1 => absurd (by decide) h1) (fun _ => ?_)
  refine lv_aload_n hx hb dAL_add3_6 rfl (lv_at hl 0 rfl) ?_
  refine rx_r (wc := [(h, .inr (12, [.ref tE, .int (nI 0), .int md]))]) (wr := [(v, .inr (9, [.ref v1, .int v2, .int v3, .int v4, .int v5, .long v6]))]) hP hD hS hA [0] [1] rfl rfl (by decide) (by decide) (va_runV (As := []) (rest := []) ⟨hx, hb, hml, hown, hT⟩ (k_alGrow0 l D cT tE mE h md _) ⟨callB_of 0 hT (tb_gd w765) rfl rfl rfl (hT _ w11) (hT _ w762) hAL_grow ⟨Nat.le_of_ble_eq_true rfl, Nat.le_of_ble_eq_true rfl⟩, (hT _ w764), (hT _ wp10)⟩ (RWE.preV (ci := 12) (q0 := 0) hE0 hZ hS (va_free (wc := [(h, .inr (12, [.ref tE, .int (nI 0), .int md]))]) hD hS hA [0] rfl) (hP.sub (ws' := [(h, .inr (12, [.ref tE, .int (nI 0), .int md]))]) [0] rfl) hK (hD.sub (ws' := [(h, .inr (12, [.ref tE, .int (nI 0), .int md]))]) [0] (by decide) rfl) rfl rfl) rfl rfl hl.1 rfl (lv_room (Nat.le_of_ble_eq_true rfl)) dAL_add3_7 ⟨Nat.le_of_ble_eq_true rfl, Nat.le_of_ble_eq_true rfl⟩) (fun u9 H locs hpu2 hP hD hS => ?_)
  obtain ⟨nqu2, rfl⟩ : ∃ q9, q9 = u9 := ⟨_, rfl⟩
  have hpu2 : True := hpu2
  have hP : va_P D vwCl [(v, .inr (9, [.ref v1, .int v2, .int v3, .int v4, .int v5, .long v6])), (h, .inr (12, [.ref nqu2, .int (nI 0), .int md])), (nqu2, .inl (cT 7, 10, .inr (.inr (.inr (.inr (fun _ => none))))))] _ := hP
  have hD : va_D A [(v, .inr (9, [.ref v1, .int v2, .int v3, .int v4, .int v5, .long v6])), (h, .inr (12, [.ref nqu2, .int (nI 0), .int md])), (nqu2, .inl (cT 7, 10, .inr (.inr (.inr (.inr (fun _ => none))))))] := hD
  refine W.eq (g2 := F0 m 10 ls [.ref nqu2]) rfl ?_
  refine lv_astore_n hx hb dAL_add3_10 rfl hl (by decide) rfl (fun ls hl => ?_)
  have hl : lv_has ls 4 [(2, .ref nqu2), (0, .ref h), (1, .ref v), (3, .int (nI 0))] := hl
  refine lv_aload_n hx hb dAL_add3_11 rfl (lv_at hl 0 rfl) ?_
  refine lv_iload_n hx hb dAL_add3_12 rfl (lv_at hl 3 rfl) ?_
  refine lv_aload_n hx hb dAL_add3_13 rfl (lv_at hl 2 rfl) ?_
  refine va_astqO (E := "java/lang/Object") hx hb hK hP hD hS 2 7 0 9 rfl rfl (by exact hZ.1.1 ("ResidualTrees$Tree", "java/lang/Object") (List.mem_of_getElem? (i := 14) rfl)) rfl rfl (vp_in_nI (i := 0) (by decide) (by decide)) dAL_add3_14 (fun H locs hP hD hS => ?_)
  rw [nI_clamp (by omega)] at hP hD
  have hP : va_P D vwCl [(v, .inr (9, [.ref v1, .int v2, .int v3, .int v4, .int v5, .long v6])), (h, .inr (12, [.ref nqu2, .int (nI 0), .int md])), (nqu2, .inl (cT 7, 10, .inr (.inr (.inr (.inr (va_up (fun _ => none) 0 (some v)))))))] _ := hP
  have hD : va_D A [(v, .inr (9, [.ref v1, .int v2, .int v3, .int v4, .int v5, .long v6])), (h, .inr (12, [.ref nqu2, .int (nI 0), .int md])), (nqu2, .inl (cT 7, 10, .inr (.inr (.inr (.inr (va_up (fun _ => none) 0 (some v)))))))] := hD
  refine lv_aload_n hx hb dAL_add3_15 rfl (lv_at hl 1 rfl) ?_
  refine lv_iload_n hx hb dAL_add3_16 rfl (lv_at hl 3 rfl) ?_
  refine lv_iconst (v := 1) hx hb dAL_add3_17 (by decide) ?_
  refine lv_iadd hx hb dAL_add3_18 ?_
  refine lv_topi (fun y9 e9 => ?_)
  cases (show y9 = nI (0 + 1) from e9.trans (nI_add 0 1))
  refine va_put (D := D) (ci := 12) (v := .int (nI (0 + 1))) (ty := .int) (C := R_AL) (T := T_AL) (N := 3) hx hb hT in_AL ty_AL ty_AL_ok m_AL hown hK hP hD hS 1 rfl rfl 1 (by decide) (hT _ w269) (fun _ h9 => h9) rfl (by decide +kernel) rfl rfl (Nat.le_of_ble_eq_true rfl) dAL_add3_19 (fun H locs hP hD hS => ?_)
  have hP : va_P D vwCl [(v, .inr (9, [.ref v1, .int v2, .int v3, .int v4, .int v5, .long v6])), (h, .inr (12, [.ref nqu2, .int (nI (0 + 1)), .int md])), (nqu2, .inl (cT 7, 10, .inr (.inr (.inr (.inr (va_up (fun _ => none) 0 (some v)))))))] _ := hP
  have hD : va_D A [(v, .inr (9, [.ref v1, .int v2, .int v3, .int v4, .int v5, .long v6])), (h, .inr (12, [.ref nqu2, .int (nI (0 + 1)), .int md])), (nqu2, .inl (cT 7, 10, .inr (.inr (.inr (.inr (va_up (fun _ => none) 0 (some v)))))))] := hD
  have hP9 := hP.sub (ws' := [(h, .inr (12, [.ref nqu2, .int (nI (0 + 1)), .int md])), (nqu2, .inl (cT 7, 10, .inr (.inr (.inr (.inr (va_up (fun _ => none) 0 (some v))))))), (v, .inr (9, [.ref v1, .int v2, .int v3, .int v4, .int v5, .long v6]))]) [1, 2, 0] rfl
  have hD9 := hD.sub (ws' := [(h, .inr (12, [.ref nqu2, .int (nI (0 + 1)), .int md])), (nqu2, .inl (cT 7, 10, .inr (.inr (.inr (.inr (va_up (fun _ => none) 0 (some v))))))), (v, .inr (9, [.ref v1, .int v2, .int v3, .int v4, .int v5, .long v6]))]) [1, 2, 0] (by decide) rfl
  refine W.widen (k := 1) (n := 10) (Nat.le_of_ble_eq_true rfl) (Nat.le_of_ble_eq_true rfl) ?_
  exact W.vret hx hb hr (fun t9 ht9 hW9 => ⟨⟨nqu2, rfl, (show True from trivial), by rw [ht9]; exact hP9, hD9⟩, hS.F ht9⟩) hS.2.2 dAL_add3_22
set_option maxHeartbeats 4000000 in
set_option maxRecDepth 100000 in
theorem k_alAdd3T10 (l : Launch) (D : va_G) (cT : Nat → ClassId) (cds : List Nat) (ad : Nat → Nat) (gg : Nat → Option va_E) (tE : Nat) (mE : Nat) (h : Nat) (md : Int32) (le : Nat) (lf : Nat → Option Nat) (bs : Nat) (v : Nat) (v1 : Nat) (v2 : Int32) (v3 : Int32) (v4 : Int32) (v5 : Int32) (v6 : Int64) (hcd : CD cds) (hel : ∀ k8, k8 < 10 → ∃ fs8 : List Value, bs + k8 < 8192 ∧ lf k8 = some (ad (bs + k8)) ∧ gg (bs + k8) = some (.inr (9, fs8))) (sz : Nat) : Met l yAL_add3 WAL_add3 ({ frames := 5, cells := 1, slots := 15, locals := 127 } : Room) (RWE tE mE D vwCl [.ref h, .ref v, .ref le, .int (nI 10)] ([(h, .inr (12, [.ref le, .int (nI 10), .int md])), (le, .inl (cT 7, 10, .inr (.inr (.inr (.inr lf))))), (v, .inr (9, [.ref v1, .int v2, .int v3, .int v4, .int v5, .long v6]))] ++ pg cds ad gg) (TY cT) sz) (va_Qv (fun u9 : Nat => True) (BW D vwCl (va_A ([(h, .inr (12, [.ref le, .int (nI 10), .int md])), (le, .inl (cT 7, 10, .inr (.inr (.inr (.inr lf))))), (v, .inr (9, [.ref v1, .int v2, .int v3, .int v4, .int v5, .long v6]))] ++ pg cds ad gg) sz) (fun u9 : Nat => ([(h, .inr (12, [.ref u9, .int (nI (10 + 1)), .int md])), (u9, .inl (cT 7, 15, .inr (.inr (.inr (.inr (va_up (va_cpy lf (fun _ => none) 0 0 10) 10 (some v))))))), (v, .inr (9, [.ref v1, .int v2, .int v3, .int v4, .int v5, .long v6]))] ++ pg cds ad gg))) (va_A ([(h, .inr (12, [.ref le, .int (nI 10), .int md])), (le, .inl (cT 7, 10, .inr (.inr (.inr (.inr lf))))), (v, .inr (9, [.ref v1, .int v2, .int v3, .int v4, .int v5, .long v6]))] ++ pg cds ad gg) sz)) 1 15 (va_A ([(h, .inr (12, [.ref le, .int (nI 10), .int md])), (le, .inl (cT 7, 10, .inr (.inr (.inr (.inr lf))))), (v, .inr (9, [.ref v1, .int v2, .int v3, .int v4, .int v5, .long v6]))] ++ pg cds ad gg) sz) := by
  refine Met.ofW (cc := cAL_add3) (maxL := 4) (ret := none) (by decide) rfl ?_
  intro p e s m args below meth c s₁ B hml hv
  obtain ⟨rfl, ⟨hsz, hZ, hP, hK, hD0⟩, hE0⟩ := hv
  have hx := B.exec
  have hb := B.bytes
  have hr := B.returns
  have hts := atoms_spec (ws := WAL_add3) B.pre
  have hT : ∀ w ∈ TB, w.before _ s = true := fun w h => hts w (List.mem_cons_of_mem _ h)
  have hown : s.vm.findClass R_AL = some m.cls := findClass_of_methodNamed B.named
  have hlocks := B.notSynchronized
  subst hsz
  have hD := hD0.self (sz := s.heap.size)
  generalize hAe : va_A ([(h, .inr (12, [.ref le, .int (nI 10), .int md])), (le, .inl (cT 7, 10, .inr (.inr (.inr (.inr lf))))), (v, .inr (9, [.ref v1, .int v2, .int v3, .int v4, .int v5, .long v6]))] ++ pg cds ad gg) s.heap.size = A at hD hZ hE0 ⊢
  have hA : ∀ q : Nat, s.heap.size ≤ q → A q := fun q h => by rw [← hAe]; exact Or.inr h
  have hS : va_S A s.heap s.heap [] := va_S.rf
  have hl := lv_entry ([.ref h, .ref v, .ref le, .int (nI 10)]) (n := 4) (Nat.le_of_ble_eq_true rfl)
  rw [lg_entry_eq]
  generalize (lg_sl ([.ref h, .ref v, .ref le, .int (nI 10)]) ++ List.replicate (4 - (lg_sl ([.ref h, .ref v, .ref le, .int (nI 10)])).length) Slot.unset).toArray = ls at hl ⊢
  have hl : lv_has ls 4 [(0, .ref h), (1, .ref v), (2, .ref le), (3, .int (nI 10))] := hl
  refine lv_iload_n hx hb dAL_add3_0 rfl (lv_at hl 3 rfl) ?_
  refine lv_aload_n hx hb dAL_add3_1 rfl (lv_at hl 2 rfl) ?_
  refine va_alen (v := 10) hx hb hK hP 1 7 rfl rfl rfl dAL_add3_2 ?_
  refine lv_icmp_ne (tgt := 11) hx hb dAL_add3_3 rfl (fun h1 => absurd (by decide) h1) (fun _ => ?_)
  refine lv_aload_n hx hb dAL_add3_6 rfl (lv_at hl 0 rfl) ?_
  refine hy_rP (X := [(h, .inr (12, [.ref le, .int (nI 10), .int md])), (le, .inl (cT 7, 10, .inr (.inr (.inr (.inr lf))))), (v, .inr (9, [.ref v1, .int v2, .int v3, .int v4, .int v5, .long v6]))]) (pl := pg cds ad gg) (cx := [(h, .inr (12, [.ref le, .int (nI 10), .int md])), (le, .inl (cT 7, 10, .inr (.inr (.inr (.inr lf)))))]) (wr := [(v, .inr (9, [.ref v1, .int v2, .int v3, .int v4, .int v5, .long v6]))]) hP hD hS hA [0, 1] [2] rfl rfl (by decide) (by decide) (va_runV (As := []) (rest := []) ⟨hx, hb, hml, hown, hT⟩ (k_alGrowT10 l D cT cds ad gg tE mE h md le lf bs hcd hel _) ⟨callB_of 0 hT (tb_gd w765) rfl rfl rfl (hT _ w11) (hT _ w762) hAL_grow ⟨Nat.le_of_ble_eq_true rfl, Nat.le_of_ble_eq_true rfl⟩, (hT _ w764), (hT _ wp10)⟩ (RWE.preV (ci := 12) (q0 := 0) hE0 hZ hS (va_freeP (cx := [(h, .inr (12, [.ref le, .int (nI 10), .int md])), (le, .inl (cT 7, 10, .inr (.inr (.inr (.inr lf)))))]) hD hS hA [0, 1] rfl) (hP.part (cx := [(h, .inr (12, [.ref le, .int (nI 10), .int md])), (le, .inl (cT 7, 10, .inr (.inr (.inr (.inr lf)))))]) [0, 1] rfl) hK (hD.part (cx := [(h, .inr (12, [.ref le, .int (nI 10), .int md])), (le, .inl (cT 7, 10, .inr (.inr (.inr (.inr lf)))))]) [0, 1] (by decide) rfl) rfl rfl) rfl rfl hl.1 rfl (lv_room (Nat.le_of_ble_eq_true rfl)) dAL_add3_7 ⟨Nat.le_of_ble_eq_true rfl, Nat.le_of_ble_eq_true rfl⟩) (fun u9 H locs hpu2 hP hD hS => ?_)
  obtain ⟨nqu2, rfl⟩ : ∃ q9, q9 = u9 := ⟨_, rfl⟩
  have hpu2 : True := hpu2
  have hP : va_P D vwCl ([(v, .inr (9, [.ref v1, .int v2, .int v3, .int v4, .int v5, .long v6])), (h, .inr (12, [.ref nqu2, .int (nI 10), .int md])), (le, .inl (cT 7, 10, .inr (.inr (.inr (.inr lf))))), (nqu2, .inl (cT 7, 15, .inr (.inr (.inr (.inr (va_cpy lf (fun _ => none) 0 0 10))))))] ++ pg cds ad gg) _ := hP
  have hD : va_D A ([(v, .inr (9, [.ref v1, .int v2, .int v3, .int v4, .int v5, .long v6])), (h, .inr (12, [.ref nqu2, .int (nI 10), .int md])), (le, .inl (cT 7, 10, .inr (.inr (.inr (.inr lf))))), (nqu2, .inl (cT 7, 15, .inr (.inr (.inr (.inr (va_cpy lf (fun _ => none) 0 0 10))))))] ++ pg cds ad gg) := hD
  refine W.eq (g2 := F0 m 10 ls [.ref nqu2]) rfl ?_
  refine lv_astore_n hx hb dAL_add3_10 rfl hl (by decide) rfl (fun ls hl => ?_)
  have hl : lv_has ls 4 [(2, .ref nqu2), (0, .ref h), (1, .ref v), (3, .int (nI 10))] := hl
  refine lv_aload_n hx hb dAL_add3_11 rfl (lv_at hl 0 rfl) ?_
  refine lv_iload_n hx hb dAL_add3_12 rfl (lv_at hl 3 rfl) ?_
  refine lv_aload_n hx hb dAL_add3_13 rfl (lv_at hl 2 rfl) ?_
  refine va_astqO (E := "java/lang/Object") hx hb hK hP hD hS 3 7 0 9 rfl rfl (by exact hZ.1.1 ("ResidualTrees$Tree", "java/lang/Object") (List.mem_of_getElem? (i := 14) rfl)) rfl rfl (vp_in_nI (i := 10) (by decide) (by decide)) dAL_add3_14 (fun H locs hP hD hS => ?_)
  rw [nI_clamp (by omega)] at hP hD
  have hP : va_P D vwCl ([(v, .inr (9, [.ref v1, .int v2, .int v3, .int v4, .int v5, .long v6])), (h, .inr (12, [.ref nqu2, .int (nI 10), .int md])), (le, .inl (cT 7, 10, .inr (.inr (.inr (.inr lf))))), (nqu2, .inl (cT 7, 15, .inr (.inr (.inr (.inr (va_up (va_cpy lf (fun _ => none) 0 0 10) 10 (some v)))))))] ++ pg cds ad gg) _ := hP
  have hD : va_D A ([(v, .inr (9, [.ref v1, .int v2, .int v3, .int v4, .int v5, .long v6])), (h, .inr (12, [.ref nqu2, .int (nI 10), .int md])), (le, .inl (cT 7, 10, .inr (.inr (.inr (.inr lf))))), (nqu2, .inl (cT 7, 15, .inr (.inr (.inr (.inr (va_up (va_cpy lf (fun _ => none) 0 0 10) 10 (some v)))))))] ++ pg cds ad gg) := hD
  refine lv_aload_n hx hb dAL_add3_15 rfl (lv_at hl 1 rfl) ?_
  refine lv_iload_n hx hb dAL_add3_16 rfl (lv_at hl 3 rfl) ?_
  refine lv_iconst (v := 1) hx hb dAL_add3_17 (by decide) ?_
  refine lv_iadd hx hb dAL_add3_18 ?_
  refine lv_topi (fun y9 e9 => ?_)
  cases (show y9 = nI (10 + 1) from e9.trans (nI_add 10 1))
  refine va_put (D := D) (ci := 12) (v := .int (nI (10 + 1))) (ty := .int) (C := R_AL) (T := T_AL) (N := 3) hx hb hT in_AL ty_AL ty_AL_ok m_AL hown hK hP hD hS 1 rfl rfl 1 (by decide) (hT _ w269) (fun _ h9 => h9) rfl (by decide +kernel) rfl rfl (Nat.le_of_ble_eq_true rfl) dAL_add3_19 (fun H locs hP hD hS => ?_)
  have hP : va_P D vwCl ([(v, .inr (9, [.ref v1, .int v2, .int v3, .int v4, .int v5, .long v6])), (h, .inr (12, [.ref nqu2, .int (nI (10 + 1)), .int md])), (le, .inl (cT 7, 10, .inr (.inr (.inr (.inr lf))))), (nqu2, .inl (cT 7, 15, .inr (.inr (.inr (.inr (va_up (va_cpy lf (fun _ => none) 0 0 10) 10 (some v)))))))] ++ pg cds ad gg) _ := hP
  have hD : va_D A ([(v, .inr (9, [.ref v1, .int v2, .int v3, .int v4, .int v5, .long v6])), (h, .inr (12, [.ref nqu2, .int (nI (10 + 1)), .int md])), (le, .inl (cT 7, 10, .inr (.inr (.inr (.inr lf))))), (nqu2, .inl (cT 7, 15, .inr (.inr (.inr (.inr (va_up (va_cpy lf (fun _ => none) 0 0 10) 10 (some v)))))))] ++ pg cds ad gg) := hD
  have hP9 : va_P D vwCl ([(h, .inr (12, [.ref nqu2, .int (nI (10 + 1)), .int md])), (nqu2, .inl (cT 7, 15, .inr (.inr (.inr (.inr (va_up (va_cpy lf (fun _ => none) 0 0 10) 10 (some v))))))), (v, .inr (9, [.ref v1, .int v2, .int v3, .int v4, .int v5, .long v6]))] ++ pg cds ad gg) _ := hP.part (cx := [(h, .inr (12, [.ref nqu2, .int (nI (10 + 1)), .int md])), (nqu2, .inl (cT 7, 15, .inr (.inr (.inr (.inr (va_up (va_cpy lf (fun _ => none) 0 0 10) 10 (some v))))))), (v, .inr (9, [.ref v1, .int v2, .int v3, .int v4, .int v5, .long v6]))]) [1, 3, 0] rfl
  have hD9 : va_D A ([(h, .inr (12, [.ref nqu2, .int (nI (10 + 1)), .int md])), (nqu2, .inl (cT 7, 15, .inr (.inr (.inr (.inr (va_up (va_cpy lf (fun _ => none) 0 0 10) 10 (some v))))))), (v, .inr (9, [.ref v1, .int v2, .int v3, .int v4, .int v5, .long v6]))] ++ pg cds ad gg) := hD.part (cx := [(h, .inr (12, [.ref nqu2, .int (nI (10 + 1)), .int md])), (nqu2, .inl (cT 7, 15, .inr (.inr (.inr (.inr (va_up (va_cpy lf (fun _ => none) 0 0 10) 10 (some v))))))), (v, .inr (9, [.ref v1, .int v2, .int v3, .int v4, .int v5, .long v6]))]) [1, 3, 0] (by decide) rfl
  refine W.widen (k := 1) (n := 15) (Nat.le_of_ble_eq_true rfl) (Nat.le_of_ble_eq_true rfl) ?_
  exact W.vret hx hb hr (fun t9 ht9 hW9 => ⟨⟨nqu2, rfl, (show True from trivial), by rw [ht9]; exact hP9, hD9⟩, hS.F ht9⟩) hS.2.2 dAL_add3_22
set_option maxHeartbeats 4000000 in
set_option maxRecDepth 100000 in
theorem k_alAdd3T15 (l : Launch) (D : va_G) (cT : Nat → ClassId) (cds : List Nat) (ad : Nat → Nat) (gg : Nat → Option va_E) (tE : Nat) (mE : Nat) (h : Nat) (md : Int32) (le : Nat) (lf : Nat → Option Nat) (bs : Nat) (v : Nat) (v1 : Nat) (v2 : Int32) (v3 : Int32) (v4 : Int32) (v5 : Int32) (v6 : Int64) (hcd : CD cds) (hel : ∀ k8, k8 < 15 → ∃ fs8 : List Value, bs + k8 < 8192 ∧ lf k8 = some (ad (bs + k8)) ∧ gg (bs + k8) = some (.inr (9, fs8))) (sz : Nat) : Met l yAL_add3 WAL_add3 ({ frames := 5, cells := 1, slots := 22, locals := 127 } : Room) (RWE tE mE D vwCl [.ref h, .ref v, .ref le, .int (nI 15)] ([(h, .inr (12, [.ref le, .int (nI 15), .int md])), (le, .inl (cT 7, 15, .inr (.inr (.inr (.inr lf))))), (v, .inr (9, [.ref v1, .int v2, .int v3, .int v4, .int v5, .long v6]))] ++ pg cds ad gg) (TY cT) sz) (va_Qv (fun u9 : Nat => True) (BW D vwCl (va_A ([(h, .inr (12, [.ref le, .int (nI 15), .int md])), (le, .inl (cT 7, 15, .inr (.inr (.inr (.inr lf))))), (v, .inr (9, [.ref v1, .int v2, .int v3, .int v4, .int v5, .long v6]))] ++ pg cds ad gg) sz) (fun u9 : Nat => ([(h, .inr (12, [.ref u9, .int (nI (15 + 1)), .int md])), (u9, .inl (cT 7, 22, .inr (.inr (.inr (.inr (va_up (va_cpy lf (fun _ => none) 0 0 15) 15 (some v))))))), (v, .inr (9, [.ref v1, .int v2, .int v3, .int v4, .int v5, .long v6]))] ++ pg cds ad gg))) (va_A ([(h, .inr (12, [.ref le, .int (nI 15), .int md])), (le, .inl (cT 7, 15, .inr (.inr (.inr (.inr lf))))), (v, .inr (9, [.ref v1, .int v2, .int v3, .int v4, .int v5, .long v6]))] ++ pg cds ad gg) sz)) 1 22 (va_A ([(h, .inr (12, [.ref le, .int (nI 15), .int md])), (le, .inl (cT 7, 15, .inr (.inr (.inr (.inr lf))))), (v, .inr (9, [.ref v1, .int v2, .int v3, .int v4, .int v5, .long v6]))] ++ pg cds ad gg) sz) := by
  refine Met.ofW (cc := cAL_add3) (maxL := 4) (ret := none) (by decide) rfl ?_
  intro p e s m args below meth c s₁ B hml hv
  obtain ⟨rfl, ⟨hsz, hZ, hP, hK, hD0⟩, hE0⟩ := hv
  have hx := B.exec
  have hb := B.bytes
  have hr := B.returns
  have hts := atoms_spec (ws := WAL_add3) B.pre
  have hT : ∀ w ∈ TB, w.before _ s = true := fun w h => hts w (List.mem_cons_of_mem _ h)
  have hown : s.vm.findClass R_AL = some m.cls := findClass_of_methodNamed B.named
  have hlocks := B.notSynchronized
  subst hsz
  have hD := hD0.self (sz := s.heap.size)
  generalize hAe : va_A ([(h, .inr (12, [.ref le, .int (nI 15), .int md])), (le, .inl (cT 7, 15, .inr (.inr (.inr (.inr lf))))), (v, .inr (9, [.ref v1, .int v2, .int v3, .int v4, .int v5, .long v6]))] ++ pg cds ad gg) s.heap.size = A at hD hZ hE0 ⊢
  have hA : ∀ q : Nat, s.heap.size ≤ q → A q := fun q h => by rw [← hAe]; exact Or.inr h
  have hS : va_S A s.heap s.heap [] := va_S.rf
  have hl := lv_entry ([.ref h, .ref v, .ref le, .int (nI 15)]) (n := 4) (Nat.le_of_ble_eq_true rfl)
  rw [lg_entry_eq]
  generalize (lg_sl ([.ref h, .ref v, .ref le, .int (nI 15)]) ++ List.replicate (4 - (lg_sl ([.ref h, .ref v, .ref le, .int (nI 15)])).length) Slot.unset).toArray = ls at hl ⊢
  have hl : lv_has ls 4 [(0, .ref h), (1, .ref v), (2, .ref le), (3, .int (nI 15))] := hl
  refine lv_iload_n hx hb dAL_add3_0 rfl (lv_at hl 3 rfl) ?_
  refine lv_aload_n hx hb dAL_add3_1 rfl (lv_at hl 2 rfl) ?_
  refine va_alen (v := 15) hx hb hK hP 1 7 rfl rfl rfl dAL_add3_2 ?_
  refine lv_icmp_ne (tgt := 11) hx hb dAL_add3_3 rfl (fun h1 => absurd (by decide) h1) (fun _ => ?_)
  refine lv_aload_n hx hb dAL_add3_6 rfl (lv_at hl 0 rfl) ?_
  refine hy_rP (X := [(h, .inr (12, [.ref le, .int (nI 15), .int md])), (le, .inl (cT 7, 15, .inr (.inr (.inr (.inr lf))))), (v, .inr (9, [.ref v1, .int v2, .int v3, .int v4, .int v5, .long v6]))]) (pl := pg cds ad gg) (cx := [(h, .inr (12, [.ref le, .int (nI 15), .int md])), (le, .inl (cT 7, 15, .inr (.inr (.inr (.inr lf)))))]) (wr := [(v, .inr (9, [.ref v1, .int v2, .int v3, .int v4, .int v5, .long v6]))]) hP hD hS hA [0, 1] [2] rfl rfl (by decide) (by decide) (va_runV (As := []) (rest := []) ⟨hx, hb, hml, hown, hT⟩ (k_alGrowT15 l D cT cds ad gg tE mE h md le lf bs hcd hel _) ⟨callB_of 0 hT (tb_gd w765) rfl rfl rfl (hT _ w11) (hT _ w762) hAL_grow ⟨Nat.le_of_ble_eq_true rfl, Nat.le_of_ble_eq_true rfl⟩, (hT _ w764), (hT _ wp10)⟩ (RWE.preV (ci := 12) (q0 := 0) hE0 hZ hS (va_freeP (cx := [(h, .inr (12, [.ref le, .int (nI 15), .int md])), (le, .inl (cT 7, 15, .inr (.inr (.inr (.inr lf)))))]) hD hS hA [0, 1] rfl) (hP.part (cx := [(h, .inr (12, [.ref le, .int (nI 15), .int md])), (le, .inl (cT 7, 15, .inr (.inr (.inr (.inr lf)))))]) [0, 1] rfl) hK (hD.part (cx := [(h, .inr (12, [.ref le, .int (nI 15), .int md])), (le, .inl (cT 7, 15, .inr (.inr (.inr (.inr lf)))))]) [0, 1] (by decide) rfl) rfl rfl) rfl rfl hl.1 rfl (lv_room (Nat.le_of_ble_eq_true rfl)) dAL_add3_7 ⟨Nat.le_of_ble_eq_true rfl, Nat.le_of_ble_eq_true rfl⟩) (fun u9 H locs hpu2 hP hD hS => ?_)
  obtain ⟨nqu2, rfl⟩ : ∃ q9, q9 = u9 := ⟨_, rfl⟩
  have hpu2 : True := hpu2
  have hP : va_P D vwCl ([(v, .inr (9, [.ref v1, .int v2, .int v3, .int v4, .int v5, .long v6])), (h, .inr (12, [.ref nqu2, .int (nI 15), .int md])), (le, .inl (cT 7, 15, .inr (.inr (.inr (.inr lf))))), (nqu2, .inl (cT 7, 22, .inr (.inr (.inr (.inr (va_cpy lf (fun _ => none) 0 0 15))))))] ++ pg cds ad gg) _ := hP
  have hD : va_D A ([(v, .inr (9, [.ref v1, .int v2, .int v3, .int v4, .int v5, .long v6])), (h, .inr (12, [.ref nqu2, .int (nI 15), .int md])), (le, .inl (cT 7, 15, .inr (.inr (.inr (.inr lf))))), (nqu2, .inl (cT 7, 22, .inr (.inr (.inr (.inr (va_cpy lf (fun _ => none) 0 0 15))))))] ++ pg cds ad gg) := hD
  refine W.eq (g2 := F0 m 10 ls [.ref nqu2]) rfl ?_
  refine lv_astore_n hx hb dAL_add3_10 rfl hl (by decide) rfl (fun ls hl => ?_)
  have hl : lv_has ls 4 [(2, .ref nqu2), (0, .ref h), (1, .ref v), (3, .int (nI 15))] := hl
  refine lv_aload_n hx hb dAL_add3_11 rfl (lv_at hl 0 rfl) ?_
  refine lv_iload_n hx hb dAL_add3_12 rfl (lv_at hl 3 rfl) ?_
  refine lv_aload_n hx hb dAL_add3_13 rfl (lv_at hl 2 rfl) ?_
  refine va_astqO (E := "java/lang/Object") hx hb hK hP hD hS 3 7 0 9 rfl rfl (by exact hZ.1.1 ("ResidualTrees$Tree", "java/lang/Object") (List.mem_of_getElem? (i := 14) rfl)) rfl rfl (vp_in_nI (i := 15) (by decide) (by decide)) dAL_add3_14 (fun H locs hP hD hS => ?_)
  rw [nI_clamp (by omega)] at hP hD
  have hP : va_P D vwCl ([(v, .inr (9, [.ref v1, .int v2, .int v3, .int v4, .int v5, .long v6])), (h, .inr (12, [.ref nqu2, .int (nI 15), .int md])), (le, .inl (cT 7, 15, .inr (.inr (.inr (.inr lf))))), (nqu2, .inl (cT 7, 22, .inr (.inr (.inr (.inr (va_up (va_cpy lf (fun _ => none) 0 0 15) 15 (some v)))))))] ++ pg cds ad gg) _ := hP
  have hD : va_D A ([(v, .inr (9, [.ref v1, .int v2, .int v3, .int v4, .int v5, .long v6])), (h, .inr (12, [.ref nqu2, .int (nI 15), .int md])), (le, .inl (cT 7, 15, .inr (.inr (.inr (.inr lf))))), (nqu2, .inl (cT 7, 22, .inr (.inr (.inr (.inr (va_up (va_cpy lf (fun _ => none) 0 0 15) 15 (some v)))))))] ++ pg cds ad gg) := hD
  refine lv_aload_n hx hb dAL_add3_15 rfl (lv_at hl 1 rfl) ?_
  refine lv_iload_n hx hb dAL_add3_16 rfl (lv_at hl 3 rfl) ?_
  refine lv_iconst (v := 1) hx hb dAL_add3_17 (by decide) ?_
  refine lv_iadd hx hb dAL_add3_18 ?_
  refine lv_topi (fun y9 e9 => ?_)
  cases (show y9 = nI (15 + 1) from e9.trans (nI_add 15 1))
  refine va_put (D := D) (ci := 12) (v := .int (nI (15 + 1))) (ty := .int) (C := R_AL) (T := T_AL) (N := 3) hx hb hT in_AL ty_AL ty_AL_ok m_AL hown hK hP hD hS 1 rfl rfl 1 (by decide) (hT _ w269) (fun _ h9 => h9) rfl (by decide +kernel) rfl rfl (Nat.le_of_ble_eq_true rfl) dAL_add3_19 (fun H locs hP hD hS => ?_)
  have hP : va_P D vwCl ([(v, .inr (9, [.ref v1, .int v2, .int v3, .int v4, .int v5, .long v6])), (h, .inr (12, [.ref nqu2, .int (nI (15 + 1)), .int md])), (le, .inl (cT 7, 15, .inr (.inr (.inr (.inr lf))))), (nqu2, .inl (cT 7, 22, .inr (.inr (.inr (.inr (va_up (va_cpy lf (fun _ => none) 0 0 15) 15 (some v)))))))] ++ pg cds ad gg) _ := hP
  have hD : va_D A ([(v, .inr (9, [.ref v1, .int v2, .int v3, .int v4, .int v5, .long v6])), (h, .inr (12, [.ref nqu2, .int (nI (15 + 1)), .int md])), (le, .inl (cT 7, 15, .inr (.inr (.inr (.inr lf))))), (nqu2, .inl (cT 7, 22, .inr (.inr (.inr (.inr (va_up (va_cpy lf (fun _ => none) 0 0 15) 15 (some v)))))))] ++ pg cds ad gg) := hD
  have hP9 : va_P D vwCl ([(h, .inr (12, [.ref nqu2, .int (nI (15 + 1)), .int md])), (nqu2, .inl (cT 7, 22, .inr (.inr (.inr (.inr (va_up (va_cpy lf (fun _ => none) 0 0 15) 15 (some v))))))), (v, .inr (9, [.ref v1, .int v2, .int v3, .int v4, .int v5, .long v6]))] ++ pg cds ad gg) _ := hP.part (cx := [(h, .inr (12, [.ref nqu2, .int (nI (15 + 1)), .int md])), (nqu2, .inl (cT 7, 22, .inr (.inr (.inr (.inr (va_up (va_cpy lf (fun _ => none) 0 0 15) 15 (some v))))))), (v, .inr (9, [.ref v1, .int v2, .int v3, .int v4, .int v5, .long v6]))]) [1, 3, 0] rfl
  have hD9 : va_D A ([(h, .inr (12, [.ref nqu2, .int (nI (15 + 1)), .int md])), (nqu2, .inl (cT 7, 22, .inr (.inr (.inr (.inr (va_up (va_cpy lf (fun _ => none) 0 0 15) 15 (some v))))))), (v, .inr (9, [.ref v1, .int v2, .int v3, .int v4, .int v5, .long v6]))] ++ pg cds ad gg) := hD.part (cx := [(h, .inr (12, [.ref nqu2, .int (nI (15 + 1)), .int md])), (nqu2, .inl (cT 7, 22, .inr (.inr (.inr (.inr (va_up (va_cpy lf (fun _ => none) 0 0 15) 15 (some v))))))), (v, .inr (9, [.ref v1, .int v2, .int v3, .int v4, .int v5, .long v6]))]) [1, 3, 0] (by decide) rfl
  refine W.widen (k := 1) (n := 22) (Nat.le_of_ble_eq_true rfl) (Nat.le_of_ble_eq_true rfl) ?_
  exact W.vret hx hb hr (fun t9 ht9 hW9 => ⟨⟨nqu2, rfl, (show True from trivial), by rw [ht9]; exact hP9, hD9⟩, hS.F ht9⟩) hS.2.2 dAL_add3_22
