/-! A tree's nodes: one more is made; one is written anew. -/
section TMs
variable {cT : Nat → ClassId} {ad ad2 ad7 : Nat → Nat} {g g2 g7 : Nat → Option va_E} {tE : Nat}
theorem LQ.li {cL cA bs m : Nat} (h : LQ cT ad g tE cL cA bs m) : ∃ (a : Nat) (md : Int32), g cL = some (eLI a (nI m) md) := by
  rcases h with ⟨e1, ⟨md, e2⟩, _⟩ | ⟨cap, md, lf, e1, _⟩
  · exact ⟨tE, md, by rw [e1]; exact e2⟩
  · exact ⟨_, md, e1⟩
theorem LQ.full {cL cA bs m : Nat} (h : LQ cT ad g tE cL cA bs m) (hm : 0 < m) : ∃ (cap : Nat) (md : Int32) (lf : Nat → Option Nat), g cL = some (eLI (ad cA) (nI m) md) ∧ g cA = some (eQ (cT 7) cap lf) ∧ m ≤ cap ∧ cap ≤ 33 ∧ ∀ k, k < m → lf k = some (ad (bs + k)) := by
  rcases h with ⟨e1, _⟩ | ⟨cap, md, lf, e1, e2, e3, e4, e5⟩
  · omega
  · exact ⟨cap, md, lf, e1, e2, e3, by unfold CAPo at e4; omega, e5⟩
theorem tmd_add {t mk v : Nat} {q0 q1 q2 q3 q4 q5 q6 q7 : Int32} {z : Int} (ht : t < 16) (h : TMD cT ad g tE t mk) (hm : mk < 31) (fr : ∀ z8, z8 ≠ 1020 + t → z8 ≠ 1040 + t → g7 z8 = g z8) (fa : ∀ z8, z8 ≠ 1040 + t → ad7 z8 = ad z8) (hv : LQv cT ad ad7 g7 (1020 + t) (1040 + t) (2000 + 32 * t) mk v)
    (f2 : ∀ z8, z8 ≠ 2000 + 32 * t + mk → z8 ≠ 3000 + 32 * t + mk → z8 ≠ 4000 + 32 * t + mk → g2 z8 = g7 z8) (a2 : ∀ z8, z8 ≠ 2000 + 32 * t + mk → z8 ≠ 3000 + 32 * t + mk → z8 ≠ 4000 + 32 * t + mk → ad2 z8 = ad7 z8) (e0 : ad2 (2000 + 32 * t + mk) = v)
    (c0 : g2 (2000 + 32 * t + mk) = some (eND q0 q1 q2 q3 q4 q5 q6 q7 (ad2 (3000 + 32 * t + mk)))) (c1 : WHO cT ad2 g2 (3000 + 32 * t + mk) (4000 + 32 * t + mk) 24 z) : TMD cT ad2 g2 tE t (mk + 1) := by
  obtain ⟨_, h2, h3, h4⟩ := h
  obtain ⟨cap, md, lf, l1, l2, l3, l4, l5, l6⟩ := hv
  refine ⟨Or.inr ⟨cap, md, lf, ?_, (f2 _ (by omega) (by omega) (by omega)).trans l2, l3, l4, fun k hk => ?_⟩, by omega, fun k hk => ?_, fun k hk hk2 => ?_⟩
  · rw [a2 _ (by omega) (by omega) (by omega)]; exact (f2 _ (by omega) (by omega) (by omega)).trans l1
  · rcases (show k = mk ∨ k < mk by omega) with q | q
    · rw [q, l6, e0]
    · rw [l5 k q, a2 _ (by omega) (by omega) (by omega), fa _ (by omega)]
  · rcases (show k = mk ∨ k < mk by omega) with q | q
    · rw [q]; exact ⟨⟨q0, q1, q2, q3, q4, q5, q6, q7, c0⟩, z, c1⟩
    · exact (h3 k q).cg ((f2 _ (by omega) (by omega) (by omega)).trans (fr _ (by omega) (by omega))) ((f2 _ (by omega) (by omega) (by omega)).trans (fr _ (by omega) (by omega))) ((f2 _ (by omega) (by omega) (by omega)).trans (fr _ (by omega) (by omega))) ((a2 _ (by omega) (by omega) (by omega)).trans (fa _ (by omega))) ((a2 _ (by omega) (by omega) (by omega)).trans (fa _ (by omega)))
  · obtain ⟨b1, b2, b3⟩ := h4 k (by omega) hk2
    exact ⟨(f2 _ (by omega) (by omega) (by omega)).trans ((fr _ (by omega) (by omega)).trans b1), (f2 _ (by omega) (by omega) (by omega)).trans ((fr _ (by omega) (by omega)).trans b2), (f2 _ (by omega) (by omega) (by omega)).trans ((fr _ (by omega) (by omega)).trans b3)⟩
theorem tmd_nd {t k m : Nat} {q0 q1 q2 q3 q4 q5 q6 q7 : Int32} (ht : t < 16) (h : TMD cT ad g tE t m) (hk : k < m) (f : ∀ z8, z8 ≠ 1000 + t → z8 ≠ 2000 + 32 * t + k → g2 z8 = g z8) (c0 : g2 (2000 + 32 * t + k) = some (eND q0 q1 q2 q3 q4 q5 q6 q7 (ad (3000 + 32 * t + k)))) : TMD cT ad g2 tE t m := by
  obtain ⟨h1, h2, h3, h4⟩ := h
  refine ⟨h1.cg (f _ (by omega) (by omega)) (f _ (by omega) (by omega)) rfl (fun _ _ => rfl), h2, fun j hj => ?_, fun j hj hj2 => ?_⟩
  · rcases (show j = k ∨ j ≠ k by omega) with q | q
    · rw [q]
      obtain ⟨_, z, hz⟩ := h3 k hk
      exact ⟨⟨q0, q1, q2, q3, q4, q5, q6, q7, c0⟩, z, hz.cg (f _ (by omega) (by omega)) (f _ (by omega) (by omega))⟩
    · exact (h3 j hj).cg (f _ (by omega) (by omega)) (f _ (by omega) (by omega)) (f _ (by omega) (by omega)) rfl rfl
  · obtain ⟨b1, b2, b3⟩ := h4 j hj hj2
    exact ⟨(f _ (by omega) (by omega)).trans b1, (f _ (by omega) (by omega)).trans b2, (f _ (by omega) (by omega)).trans b3⟩
end TMs
/-- a number that was just made -/
theorem wn_0 : WN 24 0 0 (fun _ => 0) 0 := ⟨0, rfl, by decide, fun _ h => absurd h (by omega), fun h => absurd h (by omega), Or.inl rfl, rfl⟩
/-- a node's sum is written anew -/
theorem tmd_sm {cT : Nat → ClassId} {ad : Nat → Nat} {g g2 : Nat → Option va_E} {tE t k m : Nat} {z : Int} (ht : t < 16) (h : TMD cT ad g tE t m) (hk : k < m) (f : ∀ z8, z8 ≠ 3000 + 32 * t + k → z8 ≠ 4000 + 32 * t + k → g2 z8 = g z8) (c1 : WHO cT ad g2 (3000 + 32 * t + k) (4000 + 32 * t + k) 24 z) : TMD cT ad g2 tE t m := by
  obtain ⟨h1, h2, h3, h4⟩ := h
  refine ⟨h1.cg (f _ (by omega) (by omega)) (f _ (by omega) (by omega)) rfl (fun _ _ => rfl), h2, fun j hj => ?_, fun j hj hj2 => ?_⟩
  · rcases (show j = k ∨ j ≠ k by omega) with q | q
    · rw [q]
      obtain ⟨⟨q0, q1, q2, q3, q4, q5, q6, q7, e⟩, _⟩ := h3 k hk
      exact ⟨⟨q0, q1, q2, q3, q4, q5, q6, q7, (f _ (by omega) (by omega)).trans e⟩, z, c1⟩
    · exact (h3 j hj).cg (f _ (by omega) (by omega)) (f _ (by omega) (by omega)) (f _ (by omega) (by omega)) rfl rfl
  · obtain ⟨b1, b2, b3⟩ := h4 j hj hj2
    exact ⟨(f _ (by omega) (by omega)).trans b1, (f _ (by omega) (by omega)).trans b2, (f _ (by omega) (by omega)).trans b3⟩
theorem vpn_z {v : Int32} (h : v = 0 ∨ v = 1) : vp_nar .boolean v = v := by rcases h with e | e <;> rw [e] <;> rfl
