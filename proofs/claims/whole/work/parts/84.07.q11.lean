/-- what is told last -/
def OUTp (cT : Nat → ClassId) (ad : Nat → Nat) (g : Nat → Option va_E) (L : Nat) (fo : Nat → Int32) : Prop := g 41 = some (.inr (8, [.ref (ad 42), .int (nI L), .ref (ad 43), .ref (ad 46)])) ∧ g 42 = some (.inl (cT 2, 866, .inl fo)) ∧ (∃ uq : Nat → Option Nat, g 43 = some (eQ (cT 4) 1 uq) ∧ uq 0 = some (ad 44)) ∧ (∃ z, WHO cT ad g 44 45 48 z) ∧ ∃ z, WHO cT ad g 46 47 48 z
theorem OUTp.cg {cT : Nat → ClassId} {ad : Nat → Nat} {g g2 : Nat → Option va_E} {L : Nat} {fo : Nat → Int32} (h : OUTp cT ad g L fo) (h1 : ∀ x, 41 ≤ x → x < 48 → g2 x = g x) : OUTp cT ad g2 L fo := by
  obtain ⟨a1, a2, ⟨uq, a3, a4⟩, ⟨z, a5⟩, ⟨y, a6⟩⟩ := h
  exact ⟨(h1 _ (by omega) (by omega)).trans a1, (h1 _ (by omega) (by omega)).trans a2, ⟨uq, (h1 _ (by omega) (by omega)).trans a3, a4⟩, ⟨z, a5.cg (h1 _ (by omega) (by omega)) (h1 _ (by omega) (by omega))⟩, ⟨y, a6.cg (h1 _ (by omega) (by omega)) (h1 _ (by omega) (by omega))⟩⟩
theorem xbc_4 : XBc < 1000000000 ^ 48 ∧ PBc < 1000000000 ^ 48 ∧ PBc * PBc < 1000000000 ^ 48 ∧ 48 * (XBc * XBc) < 1000000000 ^ 48 ∧ PBc * PBc * 314432 < 1000000000 ^ 48 := by decide +kernel
theorem rb_thr {n : Nat} (h : n ≤ 48) : (1 <<< ((nI n : Int32).toInt64 &&& 63)) - 1 = thr n := (thr_e (by omega))
