/-! Contracts that know which array the list's static empty array is (address tE). -/
section ZEs
variable {s : State} {H : Heap} {locs : List Loc} {D : va_G} {cl : List vw_C} {tys : List (ClassId × FieldType)} {WS w0 : va_W} {A A0 : Nat → Prop} {As : List Value} {b : Addr} {sz tE mE : Nat}
def ZE (tE mE : Nat) (A : Nat → Prop) (U : State) (H : Heap) : Prop := va_Z "java/util/ArrayList" "DEFAULTCAPACITY_EMPTY_ELEMENTDATA" "[Ljava/lang/Object;" (.ref tE) A U H ∧ va_T (.object "java/lang/Object") tE 0 (fun _ => .null) A U H ∧ va_Mi "[Ljava/lang/Object;" mE U
theorem ZE.moved {u U : State} (hvm : u.vm.Alike U.vm) (h : ZE tE mE A u H) : ZE tE mE A U H := ⟨h.1.moved hvm, h.2.1.moved hvm, h.2.2.moved hvm⟩
theorem ZE.kept {U : State} {H1 : Heap} (h : ZE tE mE A U H) (hq : ∀ a : Nat, a < H.size → ¬ A a → H1[a]? = H[a]?) : ZE tE mE A U H1 := ⟨h.1.kept hq, h.2.1.kept hq, h.2.2⟩
theorem ZE.narrow {B : Nat → Prop} {U : State} (h : ZE tE mE A U H) (hAB : ∀ q, B q → A q) : ZE tE mE B U H := ⟨h.1.narrow hAB, h.2.1.narrow hAB, h.2.2⟩
theorem ze_of {U : State} (h : ZZ A U H) (hM : va_Mi "[Ljava/lang/Object;" mE U) : ∃ tE, ZE tE mE A U H := by
  obtain ⟨t, h1, h2⟩ := h.2.2.2.2
  exact ⟨t, h1, h2, hM⟩
def RWE (tE mE : Nat) (D : va_G) (cl : List vw_C) (av : List Value) (WS : va_W) (tys : List (ClassId × FieldType)) (sz : Nat) : Array Value → State → Prop := va_Pc av (fun U => (U.heap.size = sz ∧ ZZ (va_A WS sz) U U.heap ∧ va_P D cl WS U.heap ∧ va_K D cl tys U ∧ va_D (fun _ => True) WS) ∧ ZE tE mE (va_A WS sz) U U.heap)
theorem RWE.blind {av : List Value} : FrameBlind (RWE tE mE D cl av WS tys sz) := fun a U g mk q => ⟨q.1, ⟨q.2.1.1, q.2.1.2.1.call g mk a, q.2.1.2.2.1, va_K.moved (u := U) (U := U.calling g mk a) (Vm.Alike.refl U.vm) q.2.1.2.2.2.1, q.2.1.2.2.2.2⟩, q.2.2.moved (u := U) (U := U.calling g mk a) (Vm.Alike.refl U.vm)⟩
theorem ZE.at {B : Nat → Prop} {U : State} (h : ZE tE mE A s s.heap) (hS : va_S A s.heap H locs) (hB : ∀ q, B q → A q) (hU : U.heap = H) (hW : s.WarmedH U.vm) : ZE tE mE B U U.heap := by
  rw [hU]; exact ((h.kept hS.2.1).narrow hB).moved hW.alike
theorem RWE.preS (hE : ZE tE mE A s s.heap) (hZ : ZZ A s s.heap) (hS : va_S A s.heap H locs) (hB : ∀ q, va_A WS H.size q → A q) (hP : va_P D cl WS H) (hK : va_K D cl tys s) (hD : va_D A0 WS) : PreS s H (RWE tE mE D cl As WS tys H.size) As := ⟨RWE.blind, fun U hU hW => ⟨rfl, ⟨by rw [hU], hZ.at hS hB hU hW, by rw [hU]; exact hP, va_K.moved hW.alike hK, hD.weaken (fun _ _ _ _ => trivial)⟩, hE.at hS hB hU hW⟩⟩
theorem RWE.preW {ci q0 : Nat} {q : vw_C} {fs : List Value} (hE : ZE tE mE A s s.heap) (hZ : ZZ A s s.heap) (hS : va_S A s.heap H locs) (hB : ∀ q, va_A WS H.size q → A q) (hP : va_P D cl WS H) (hK : va_K D cl tys s) (hD : va_D A0 WS) (hP0 : va_P D cl w0 H) (hc : cl[ci]? = some q) (he : w0[q0]? = some (b, .inr (ci, fs))) : PreV s H q.1 b (RWE tE mE D cl (.ref b :: As) WS tys H.size) As :=
  ⟨RWE.blind, va_recv hK hP0 hc he, fun U hU hW => ⟨rfl, ⟨by rw [hU], hZ.at hS hB hU hW, by rw [hU]; exact hP, va_K.moved hW.alike hK, hD.weaken (fun _ _ _ _ => trivial)⟩, hE.at hS hB hU hW⟩⟩
theorem RWE.preV {ci q0 : Nat} {q : vw_C} {fs : List Value} (hE : ZE tE mE A s s.heap) (hZ : ZZ A s s.heap) (hS : va_S A s.heap H locs) (hB : ∀ q, va_A WS H.size q → A q) (hP : va_P D cl WS H) (hK : va_K D cl tys s) (hD : va_D A0 WS) (hc : cl[ci]? = some q) (he : WS[q0]? = some (b, .inr (ci, fs))) : PreV s H q.1 b (RWE tE mE D cl (.ref b :: As) WS tys H.size) As := RWE.preW hE hZ hS hB hP hK hD hP hc he
/-- the static has one value -/
theorem ze_one {t1 t2 m1 m2 : Nat} {A1 A2 : Nat → Prop} {U : State} (h1 : ZE t1 m1 A1 U H) (h2 : ZE t2 m2 A2 U H) : t1 = t2 := by
  obtain ⟨cf, kf, fi, f, a, cell, x1, x2⟩ := h1.1
  obtain ⟨cf', kf', fi', f', a', cell', y1, y2⟩ := h2.1
  cases x1.symm.trans y1
  simp_all
variable {p : Program} {l : Launch} {e : Env} {R : Room} {m : MethodId} {args : Array Value} {below : List Frame} {meth : Method} {c : Code} {H0 : Heap} {cells slots mc ms pc : Nat} {Q : State → Prop}
variable {ls : Array Slot} {rest st0 : List Value} {ws wc wr cx X pl : va_W} {a : Array Value}
/-- calls of a method that returns a cell (its address a function of what it makes known) -/
theorem rx_r {S : Type} {post : S → Prop} {WP : S → va_W} {ρ : S → Nat} (hP : va_P D cl ws H) (hD : va_D A0 ws) (hS : va_S A0 H0 H locs) (hA : ∀ q, H0.size ≤ q → A0 q) (isC isR : List Nat) (hC : isC.map (fun i => ws[i]?) = wc.map some) (hR : isR.map (fun i => ws[i]?) = wr.map some) (hn : va_nd isR = true) (hdis : ∀ i ∈ isR, i ∉ isC)
    (hr : va_Run p l e R s m args below meth c H locs cells slots mc ms (F0 m pc ls st0) rest (va_Qr post (fun u q t => q = ρ u ∧ BW D cl (va_A wc H.size) WP u t) (va_A wc H.size) a) (va_A wc H.size))
    (kk : ∀ (u : S) (H1 : Heap) (locs1 : List Loc), post u → va_P D cl (wr ++ WP u) H1 → va_D A0 (wr ++ WP u) → va_S A0 H0 H1 locs1 → W p l e R s m args below meth c H1 locs1 (cells + mc) (slots + ms) Q (F0 m (pc + 3) ls (.ref (ρ u) :: rest))) :
    W p l e R s m args below meth c H locs cells slots Q (F0 m pc ls st0) := by
  have hFc := va_free hD hS hA isC hC
  refine va_callr hr hS (fun q _ h => hFc q h) hFc (fun u q t H1 locs1 ht hvm hp hB hz1 hk1 hS1 => ?_)
  obtain ⟨hq, hP1, hD1⟩ := hB
  rw [ht] at hP1
  obtain ⟨hP2, hD2⟩ := va_join hP hD isC isR hC hR hn hdis hk1 hFc hP1 hD1
  rw [hq]
  exact kk u H1 locs1 hp hP2 hD2 hS1
theorem hy_rP {S : Type} {post : S → Prop} {rx pl1 : S → va_W} {ρ : S → Nat} (hP : va_P D cl (X ++ pl) H) (hD : va_D A0 (X ++ pl)) (hS : va_S A0 H0 H locs) (hA : ∀ q, H0.size ≤ q → A0 q) (isC isR : List Nat) (hC : isC.map (fun i => X[i]?) = cx.map some) (hR : isR.map (fun i => X[i]?) = wr.map some) (hn : va_nd isR = true) (hdis : ∀ i ∈ isR, i ∉ isC)
    (hr : va_Run p l e R s m args below meth c H locs cells slots mc ms (F0 m pc ls st0) rest (va_Qr post (fun u q t => q = ρ u ∧ BW D cl (va_A (cx ++ pl) H.size) (fun u => rx u ++ pl1 u) u t) (va_A (cx ++ pl) H.size) a) (va_A (cx ++ pl) H.size))
    (kk : ∀ (u : S) (H1 : Heap) (locs1 : List Loc), post u → va_P D cl ((wr ++ rx u) ++ pl1 u) H1 → va_D A0 ((wr ++ rx u) ++ pl1 u) → va_S A0 H0 H1 locs1 → W p l e R s m args below meth c H1 locs1 (cells + mc) (slots + ms) Q (F0 m (pc + 3) ls (.ref (ρ u) :: rest))) :
    W p l e R s m args below meth c H locs cells slots Q (F0 m pc ls st0) := by
  have hFc := va_freeP hD hS hA isC hC
  refine va_callr hr hS (fun q _ h => hFc q h) hFc (fun u q t H1 locs1 ht hvm hp hB hz1 hk1 hS1 => ?_)
  obtain ⟨hq, hP1, hD1⟩ := hB
  rw [ht] at hP1
  obtain ⟨hP2, hD2⟩ := va_joinP hP hD isC isR hC hR hn hdis hk1 hFc hP1 hD1
  rw [hq]
  exact kk u H1 locs1 hp hP2 hD2 hS1
theorem hy_rQ {S : Type} {post : S → Prop} {WP : S → va_W} {ρ : S → Nat} (hP : va_P D cl (X ++ pl) H) (hD : va_D A0 (X ++ pl)) (hS : va_S A0 H0 H locs) (hA : ∀ q, H0.size ≤ q → A0 q) (isC isR : List Nat) (hC : isC.map (fun i => X[i]?) = cx.map some) (hR : isR.map (fun i => X[i]?) = wr.map some) (hn : va_nd isR = true) (hdis : ∀ i ∈ isR, i ∉ isC)
    (hr : va_Run p l e R s m args below meth c H locs cells slots mc ms (F0 m pc ls st0) rest (va_Qr post (fun u q t => q = ρ u ∧ BW D cl (va_A cx H.size) WP u t) (va_A cx H.size) a) (va_A cx H.size))
    (kk : ∀ (u : S) (H1 : Heap) (locs1 : List Loc), post u → va_P D cl ((wr ++ WP u) ++ pl) H1 → va_D A0 ((wr ++ WP u) ++ pl) → va_S A0 H0 H1 locs1 → W p l e R s m args below meth c H1 locs1 (cells + mc) (slots + ms) Q (F0 m (pc + 3) ls (.ref (ρ u) :: rest))) :
    W p l e R s m args below meth c H locs cells slots Q (F0 m pc ls st0) := by
  have hFc : ∀ q, va_A cx H.size q → A0 q := hy_free hD hS hA isC hC
  refine va_callr hr hS (fun q _ h => hFc q h) hFc (fun u q t H1 locs1 ht hvm hp hB hz1 hk1 hS1 => ?_)
  obtain ⟨hq, hP1, hD1⟩ := hB
  rw [ht] at hP1
  obtain ⟨hP2, hD2⟩ := va_joinQ hP hD isC isR hC hR hn hdis hk1 hFc hP1 hD1
  rw [hq]
  exact kk u H1 locs1 hp hP2 hD2 hS1
end ZEs
