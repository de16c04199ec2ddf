/-! The forest: its list, the trees that are made. -/
def NOT (g : Nat → Option va_E) (t : Nat) : Prop := g (1000 + t) = none ∧ g (1020 + t) = none ∧ g (1040 + t) = none ∧ ∀ k, k < 32 → g (2000 + 32 * t + k) = none ∧ g (3000 + 32 * t + k) = none ∧ g (4000 + 32 * t + k) = none
def FST (cT : Nat → ClassId) (ad : Nat → Nat) (g : Nat → Option va_E) (tE fm : Nat) (mk : Nat → Nat) : Prop := LQ cT ad g tE 9 40 1000 fm ∧ fm ≤ 16 ∧ (∀ t, t < fm → (∃ (k w u lo : Int32) (sc : Int64), g (1000 + t) = some (eTR (ad (1020 + t)) k w u lo sc)) ∧ TMD cT ad g tE t (mk t)) ∧ ∀ t, fm ≤ t → t < 16 → mk t = 0 ∧ NOT g t
section FSs
variable {cT : Nat → ClassId} {ad ad2 ad7 : Nat → Nat} {g g2 g7 : Nat → Option va_E} {tE : Nat}
theorem LQ.frp {m : Nat} (h : LQ cT ad g tE 9 40 1000 m) : FRp cT ad g m := ⟨h.li, fun q => h.full q⟩
theorem NOT.cg {t : Nat} (h : NOT g t) (ht : t < 16) (f : ∀ z8, 1000 ≤ z8 → z8 < 5000 → (z8 = 1000 + t ∨ z8 = 1020 + t ∨ z8 = 1040 + t ∨ (2000 + 32 * t ≤ z8 ∧ z8 < 2032 + 32 * t) ∨ (3000 + 32 * t ≤ z8 ∧ z8 < 3032 + 32 * t) ∨ (4000 + 32 * t ≤ z8 ∧ z8 < 4032 + 32 * t)) → g2 z8 = g z8) : NOT g2 t := by
  obtain ⟨h1, h2, h3, h4⟩ := h
  refine ⟨(f _ (by omega) (by omega) (by omega)).trans h1, (f _ (by omega) (by omega) (by omega)).trans h2, (f _ (by omega) (by omega) (by omega)).trans h3, fun k hk => ?_⟩
  obtain ⟨a1, a2, a3⟩ := h4 k hk
  exact ⟨(f _ (by omega) (by omega) (by omega)).trans a1, (f _ (by omega) (by omega) (by omega)).trans a2, (f _ (by omega) (by omega) (by omega)).trans a3⟩
/-- a tree whose codes stay -/
theorem tmd_far {t mk : Nat} (h : TMD cT ad g tE t mk) (ht : t < 16) (f : ∀ z8, (z8 = 1000 + t ∨ z8 = 1020 + t ∨ z8 = 1040 + t ∨ (2000 + 32 * t ≤ z8 ∧ z8 < 2032 + 32 * t) ∨ (3000 + 32 * t ≤ z8 ∧ z8 < 3032 + 32 * t) ∨ (4000 + 32 * t ≤ z8 ∧ z8 < 4032 + 32 * t)) → g2 z8 = g z8 ∧ ad2 z8 = ad z8) : TMD cT ad2 g2 tE t mk :=
  h.cg (f _ (by omega)).1 (f _ (by omega)).1 (f _ (by omega)).2 (fun k hk => ⟨(f _ (by omega)).1, (f _ (by omega)).1, (f _ (by omega)).1, (f _ (by omega)).2, (f _ (by omega)).2, (f _ (by omega)).2⟩)
/-- a new tree behind the others -/
theorem fst_add {fm v : Nat} {mk : Nat → Nat} {md : Int32} {k w u lo : Int32} {sc : Int64} (h : FST cT ad g tE fm mk) (hm : fm < 16) (fr : ∀ z8, z8 ≠ 9 → z8 ≠ 40 → g7 z8 = g z8) (fa : ∀ z8, z8 ≠ 40 → ad7 z8 = ad z8) (hv : LQv cT ad ad7 g7 9 40 1000 fm v)
    (f2 : ∀ z8, z8 ≠ 1000 + fm → z8 ≠ 1020 + fm → g2 z8 = g7 z8) (a2 : ∀ z8, z8 ≠ 1000 + fm → z8 ≠ 1020 + fm → ad2 z8 = ad7 z8) (e0 : ad2 (1000 + fm) = v) (c0 : g2 (1000 + fm) = some (eTR (ad2 (1020 + fm)) k w u lo sc)) (c1 : g2 (1020 + fm) = some (eLI tE (nI 0) md)) : FST cT ad2 g2 tE (fm + 1) mk := by
  obtain ⟨_, h2, h3, h4⟩ := h
  obtain ⟨cap, md, lf, l1, l2, l3, l4, l5, l6⟩ := hv
  obtain ⟨z0, z1, z2, z3, z4⟩ := h4 fm (Nat.le_refl _) hm
  refine ⟨Or.inr ⟨cap, md, lf, ?_, (f2 _ (by omega) (by omega)).trans l2, l3, l4, fun t ht => ?_⟩, by omega, fun t ht => ?_, fun t t1 t2 => ?_⟩
  · rw [a2 _ (by omega) (by omega)]; exact (f2 _ (by omega) (by omega)).trans l1
  · rcases (show t = fm ∨ t < fm by omega) with q | q
    · rw [q, l6, e0]
    · rw [l5 t q, a2 _ (by omega) (by omega), fa _ (by omega)]
  · rcases (show t = fm ∨ t < fm by omega) with q | q
    · rw [q, z0]
      refine ⟨⟨k, w, u, lo, sc, c0⟩, Or.inl ⟨rfl, ⟨_, c1⟩, (f2 _ (by omega) (by omega)).trans ((fr _ (by omega) (by omega)).trans z3)⟩, by omega, fun k hk => absurd hk (by omega), fun k _ hk => ?_⟩
      obtain ⟨b1, b2, b3⟩ := z4 k hk
      exact ⟨(f2 _ (by omega) (by omega)).trans ((fr _ (by omega) (by omega)).trans b1), (f2 _ (by omega) (by omega)).trans ((fr _ (by omega) (by omega)).trans b2), (f2 _ (by omega) (by omega)).trans ((fr _ (by omega) (by omega)).trans b3)⟩
    · obtain ⟨⟨k, w, u, lo, sc, e1⟩, e2⟩ := h3 t q
      refine ⟨⟨k, w, u, lo, sc, ?_⟩, tmd_far e2 (by omega) (fun z hz => ⟨(f2 _ (by omega) (by omega)).trans (fr _ (by omega) (by omega)), (a2 _ (by omega) (by omega)).trans (fa _ (by omega))⟩)⟩
      rw [a2 _ (by omega) (by omega), fa _ (by omega)]
      exact (f2 _ (by omega) (by omega)).trans ((fr _ (by omega) (by omega)).trans e1)
  · obtain ⟨b0, b1⟩ := h4 t (by omega) t2
    exact ⟨b0, b1.cg t2 (fun z _ _ hz => (f2 _ (by omega) (by omega)).trans (fr _ (by omega) (by omega)))⟩
/-- one tree is written anew (its cell, its list, its nodes), and what lies below 1000 but the list -/
theorem fst_tr {fm T m2 : Nat} {mk : Nat → Nat} {k w u lo : Int32} {sc : Int64} (h : FST cT ad g tE fm mk) (hT : T < fm) (f9 : g2 9 = g 9) (f40 : g2 40 = g 40) (a40 : ad2 40 = ad 40)
    (f : ∀ z8, 1000 ≤ z8 → z8 ≠ 1000 + T → z8 ≠ 1020 + T → z8 ≠ 1040 + T → (z8 < 2000 + 32 * T ∨ 2032 + 32 * T ≤ z8) → (z8 < 3000 + 32 * T ∨ 3032 + 32 * T ≤ z8) → (z8 < 4000 + 32 * T ∨ 4032 + 32 * T ≤ z8) → g2 z8 = g z8)
    (fa : ∀ z8, z8 ≠ 1040 + T → (z8 < 2000 + 32 * T ∨ 2032 + 32 * T ≤ z8) → (z8 < 3000 + 32 * T ∨ 3032 + 32 * T ≤ z8) → (z8 < 4000 + 32 * T ∨ 4032 + 32 * T ≤ z8) → ad2 z8 = ad z8)
    (c0 : g2 (1000 + T) = some (eTR (ad2 (1020 + T)) k w u lo sc)) (c1 : TMD cT ad2 g2 tE T m2) : FST cT ad2 g2 tE fm (va_up mk T m2) := by
  obtain ⟨h1, h2, h3, h4⟩ := h
  refine ⟨h1.cg f9 f40 a40 (fun k hk => fa _ (by omega) (by omega) (by omega) (by omega)), h2, fun t ht => ?_, fun t t1 t2 => ?_⟩
  · by_cases q : t = T
    · rw [q, va_up_self]; exact ⟨⟨k, w, u, lo, sc, c0⟩, c1⟩
    · rw [va_up_ne _ _ q]
      obtain ⟨⟨k, w, u, lo, sc, e1⟩, e2⟩ := h3 t ht
      refine ⟨⟨k, w, u, lo, sc, ?_⟩, tmd_far e2 (by omega) (fun z hz => ⟨f _ (by omega) (by omega) (by omega) (by omega) (by omega) (by omega) (by omega), fa _ (by omega) (by omega) (by omega) (by omega)⟩)⟩
      rw [fa _ (by omega) (by omega) (by omega) (by omega)]
      exact (f _ (by omega) (by omega) (by omega) (by omega) (by omega) (by omega) (by omega)).trans e1
  · rw [va_up_ne _ _ (by omega)]
    obtain ⟨b0, b1⟩ := h4 t t1 t2
    exact ⟨b0, b1.cg t2 (fun z _ _ hz => f _ (by omega) (by omega) (by omega) (by omega) (by omega) (by omega) (by omega))⟩
/-- nothing of the forest has changed -/
theorem FST.cg {fm : Nat} {mk : Nat → Nat} (h : FST cT ad g tE fm mk) (f9 : g2 9 = g 9) (f40 : g2 40 = g 40) (f : ∀ z8, 1000 ≤ z8 → g2 z8 = g z8) : FST cT ad g2 tE fm mk := by
  obtain ⟨h1, h2, h3, h4⟩ := h
  refine ⟨h1.cg f9 f40 rfl (fun _ _ => rfl), h2, fun t ht => ?_, fun t t1 t2 => ⟨(h4 t t1 t2).1, (h4 t t1 t2).2.cg t2 (fun z hz _ _ => f z hz)⟩⟩
  obtain ⟨⟨k, w, u, lo, sc, e1⟩, e2⟩ := h3 t ht
  exact ⟨⟨k, w, u, lo, sc, (f _ (by omega)).trans e1⟩, tmd_far e2 (by omega) (fun z hz => ⟨f _ (by omega), rfl⟩)⟩
/-- a tree's cell alone -/
theorem fst_tc {fm T : Nat} {mk : Nat → Nat} {k w u lo : Int32} {sc : Int64} (h : FST cT ad g tE fm mk) (hT : T < fm) (f : ∀ z8, z8 ≠ 1000 + T → g2 z8 = g z8) (c0 : g2 (1000 + T) = some (eTR (ad (1020 + T)) k w u lo sc)) : FST cT ad g2 tE fm mk := by
  obtain ⟨h1, h2, h3, h4⟩ := h
  refine ⟨h1.cg (f _ (by omega)) (f _ (by omega)) rfl (fun _ _ => rfl), h2, fun t ht => ?_, fun t t1 t2 => ⟨(h4 t t1 t2).1, (h4 t t1 t2).2.cg t2 (fun z _ _ hz => f z (by omega))⟩⟩
  obtain ⟨⟨k2, w2, u2, lo2, sc2, e1⟩, e2⟩ := h3 t ht
  by_cases q : t = T
  · rw [q]; rw [q] at e2; exact ⟨⟨k, w, u, lo, sc, c0⟩, e2.cg (f _ (by omega)) (f _ (by omega)) rfl (fun k hk => ⟨f _ (by omega), f _ (by omega), f _ (by omega), rfl, rfl, rfl⟩)⟩
  · exact ⟨⟨k2, w2, u2, lo2, sc2, (f _ (by omega)).trans e1⟩, e2.cg (f _ (by omega)) (f _ (by omega)) rfl (fun k hk => ⟨f _ (by omega), f _ (by omega), f _ (by omega), rfl, rfl, rfl⟩)⟩
/-- a tree that stands stays as it is, if its codes do -/
theorem TRp.far {F : TFR} {t : Nat} (h : TRp cT ad g F t) (ht : t < 16) (f : ∀ z8, (z8 = 1000 + t ∨ z8 = 1020 + t ∨ z8 = 1040 + t ∨ (2000 + 32 * t ≤ z8 ∧ z8 < 2032 + 32 * t) ∨ (3000 + 32 * t ≤ z8 ∧ z8 < 3032 + 32 * t) ∨ (4000 + 32 * t ≤ z8 ∧ z8 < 4032 + 32 * t)) → g2 z8 = g z8 ∧ ad2 z8 = ad z8) : TRp cT ad2 g2 F t := by
  obtain ⟨m, a1, ⟨cap, md, lf, b1, b2, b3, b4, b5⟩, a3, a4, a5⟩ := h
  refine ⟨m, by rw [(f _ (by omega)).2]; exact (f _ (by omega)).1.trans a1, ⟨cap, md, lf, by rw [(f _ (by omega)).2]; exact (f _ (by omega)).1.trans b1, (f _ (by omega)).1.trans b2, b3, b4, fun k hk => by rw [(f _ (by omega)).2]; exact b5 k hk⟩, a3, a4, fun k hk => ?_⟩
  obtain ⟨c1, c2⟩ := a5 k hk
  exact ⟨c1.cg (f _ (by omega)).1 (f _ (by omega)).2 (fun _ _ => rfl), (c2.cg (f _ (by omega)).1 (f _ (by omega)).1).ca (f _ (by omega)).2⟩
end FSs
