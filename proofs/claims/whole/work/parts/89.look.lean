/-! Contracts that know which array the list's static empty array is (address tE). -/
section ZEs
variable {s : State} {H : Heap} {locs : List Loc} {D : va_G} {cl : List vw_C} {tys : List (ClassId × FieldType)} {WS w0 : va_W} {A A0 : Nat → Prop} {As : List Value} {b : Addr} {sz tE : Nat}
def ZE (tE : Nat) (A : Nat → Prop) (U : State) (H : Heap) : Prop := va_Z "java/util/ArrayList" "DEFAULTCAPACITY_EMPTY_ELEMENTDATA" "[Ljava/lang/Object;" (.ref tE) A U H ∧ va_T (.object "java/lang/Object") tE 0 (fun _ => .null) A U H
theorem ZE.moved {u U : State} (hvm : u.vm.Alike U.vm) (h : ZE tE A u H) : ZE tE A U H := ⟨h.1.moved hvm, h.2.moved hvm⟩
theorem ZE.kept {U : State} {H1 : Heap} (h : ZE tE A U H) (hq : ∀ a : Nat, a < H.size → ¬ A a → H1[a]? = H[a]?) : ZE tE A U H1 := ⟨h.1.kept hq, h.2.kept hq⟩
theorem ZE.narrow {B : Nat → Prop} {U : State} (h : ZE tE A U H) (hAB : ∀ q, B q → A q) : ZE tE B U H := ⟨h.1.narrow hAB, h.2.narrow hAB⟩
theorem ze_of {U : State} (h : ZZ A U H) : ∃ tE, ZE tE A U H := h.2.2.2.2
def RWE (tE : Nat) (D : va_G) (cl : List vw_C) (av : List Value) (WS : va_W) (tys : List (ClassId × FieldType)) (sz : Nat) : Array Value → State → Prop := va_Pc av (fun U => (U.heap.size = sz ∧ ZZ (va_A WS sz) U U.heap ∧ va_P D cl WS U.heap ∧ va_K D cl tys U ∧ va_D (fun _ => True) WS) ∧ ZE tE (va_A WS sz) U U.heap)
theorem RWE.blind {av : List Value} : FrameBlind (RWE tE D cl av WS tys sz) := fun a U g mk q => ⟨q.1, ⟨q.2.1.1, q.2.1.2.1.call g mk a, q.2.1.2.2.1, va_K.moved (u := U) (U := U.calling g mk a) (Vm.Alike.refl U.vm) q.2.1.2.2.2.1, q.2.1.2.2.2.2⟩, q.2.2.moved (u := U) (U := U.calling g mk a) (Vm.Alike.refl U.vm)⟩
theorem ZE.at {B : Nat → Prop} {U : State} (h : ZE tE A s s.heap) (hS : va_S A s.heap H locs) (hB : ∀ q, B q → A q) (hU : U.heap = H) (hW : s.WarmedH U.vm) : ZE tE B U U.heap := by
  rw [hU]; exact ((h.kept hS.2.1).narrow hB).moved hW.alike
theorem RWE.preS (hE : ZE tE A s s.heap) (hZ : ZZ A s s.heap) (hS : va_S A s.heap H locs) (hB : ∀ q, va_A WS H.size q → A q) (hP : va_P D cl WS H) (hK : va_K D cl tys s) (hD : va_D A0 WS) : PreS s H (RWE tE D cl As WS tys H.size) As := ⟨RWE.blind, fun U hU hW => ⟨rfl, ⟨by rw [hU], hZ.at hS hB hU hW, by rw [hU]; exact hP, va_K.moved hW.alike hK, hD.weaken (fun _ _ _ _ => trivial)⟩, hE.at hS hB hU hW⟩⟩
theorem RWE.preW {ci q0 : Nat} {q : vw_C} {fs : List Value} (hE : ZE tE A s s.heap) (hZ : ZZ A s s.heap) (hS : va_S A s.heap H locs) (hB : ∀ q, va_A WS H.size q → A q) (hP : va_P D cl WS H) (hK : va_K D cl tys s) (hD : va_D A0 WS) (hP0 : va_P D cl w0 H) (hc : cl[ci]? = some q) (he : w0[q0]? = some (b, .inr (ci, fs))) : PreV s H q.1 b (RWE tE D cl (.ref b :: As) WS tys H.size) As :=
  ⟨RWE.blind, va_recv hK hP0 hc he, fun U hU hW => ⟨rfl, ⟨by rw [hU], hZ.at hS hB hU hW, by rw [hU]; exact hP, va_K.moved hW.alike hK, hD.weaken (fun _ _ _ _ => trivial)⟩, hE.at hS hB hU hW⟩⟩
theorem RWE.preV {ci q0 : Nat} {q : vw_C} {fs : List Value} (hE : ZE tE A s s.heap) (hZ : ZZ A s s.heap) (hS : va_S A s.heap H locs) (hB : ∀ q, va_A WS H.size q → A q) (hP : va_P D cl WS H) (hK : va_K D cl tys s) (hD : va_D A0 WS) (hc : cl[ci]? = some q) (he : WS[q0]? = some (b, .inr (ci, fs))) : PreV s H q.1 b (RWE tE D cl (.ref b :: As) WS tys H.size) As := RWE.preW hE hZ hS hB hP hK hD hP hc he
/-- the static has one value -/
theorem ze_one {t1 t2 : Nat} {A1 A2 : Nat → Prop} {U : State} (h1 : ZE t1 A1 U H) (h2 : ZE t2 A2 U H) : t1 = t2 := by
  obtain ⟨cf, kf, fi, f, a, cell, x1, x2⟩ := h1.1
  obtain ⟨cf', kf', fi', f', a', cell', y1, y2⟩ := h2.1
  cases x1.symm.trans y1
  simp_all
end ZEs
