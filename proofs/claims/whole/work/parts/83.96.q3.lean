/-! The class's cells in the pool, by their codes. -/
abbrev eCO (v e : Nat) (ec ok : Int32) : va_E := .inr (1, [.ref v, .ref e, .int ec, .int ok])
abbrev eND (q0 q1 q2 q3 q4 q5 q6 q7 : Int32) (s : Nat) : va_E := .inr (10, [.int q0, .int q1, .int q2, .int q3, .int q4, .int q5, .int q6, .int q7, .ref s])
abbrev eTR (a : Nat) (k w u lo : Int32) (sc : Int64) : va_E := .inr (9, [.ref a, .int k, .int w, .int u, .int lo, .long sc])
abbrev eLI (a : Nat) (n m : Int32) : va_E := .inr (12, [.ref a, .int n, .int m])
/-- the array of the columns -/
def CAp (cT : Nat → ClassId) (ad : Nat → Nat) (g : Nat → Option va_E) : Prop := ∃ qf : Nat → Option Nat, g 2 = some (eQ (cT 5) 6 qf) ∧ ∀ c, c < 6 → qf c = some (ad (10 + c))
/-- the columns' values in a row -/
def COLr (cT : Nat → ClassId) (ad : Nat → Nat) (g : Nat → Option va_E) (row : Nat) (vr : Nat → Int32) : Prop := ∀ c, c < 6 → ∃ (ec ok : Int32) (fv : Nat → Int32), g (10 + c) = some (eCO (ad (20 + c)) (ad (30 + c)) ec ok) ∧ g (20 + c) = some (eA (cT 0) 49 fv) ∧ fv row = vr c
/-- a node; a tree's list; a tree with its nodes -/
def NDp (ad : Nat → Nat) (g : Nat → Option va_E) (a : Nat → Nat → Int32) (t k : Nat) : Prop := g (2000 + 32 * t + k) = some (eND (a 0 (31 * t + k)) (a 1 (31 * t + k)) (a 7 (31 * t + k)) (a 2 (31 * t + k)) (a 3 (31 * t + k)) (a 4 (31 * t + k)) (a 5 (31 * t + k)) (a 6 (31 * t + k)) (ad (3000 + 32 * t + k)))
def LSp (cT : Nat → ClassId) (ad : Nat → Nat) (g : Nat → Option va_E) (t m : Nat) : Prop := ∃ (cap : Nat) (md : Int32) (lf : Nat → Option Nat), g (1020 + t) = some (eLI (ad (1040 + t)) (nI m) md) ∧ g (1040 + t) = some (eQ (cT 7) cap lf) ∧ m ≤ cap ∧ cap ≤ 33 ∧ ∀ k, k < m → lf k = some (ad (2000 + 32 * t + k))
def TRp (cT : Nat → ClassId) (ad : Nat → Nat) (g : Nat → Option va_E) (F : TFR) (t : Nat) : Prop := ∃ m, g (1000 + t) = some (eTR (ad (1020 + t)) (nI (tM F t)) (nI (tW F t)) (nI (tU F t)) (nI (tL F t)) (lN (sca F t))) ∧ LSp cT ad g t m ∧ tM F t ≤ m ∧ m ≤ 31 ∧ ∀ k, k < tM F t → NDp ad g (tA F) t k ∧ WHO cT ad g (3000 + 32 * t + k) (4000 + 32 * t + k) 24 (tS F t k)
theorem CAp.cg {cT : Nat → ClassId} {ad : Nat → Nat} {g g2 : Nat → Option va_E} (h : CAp cT ad g) (h1 : g2 2 = g 2) : CAp cT ad g2 := by
  obtain ⟨qf, a1, a2⟩ := h
  exact ⟨qf, h1.trans a1, a2⟩
theorem COLr.cg {cT : Nat → ClassId} {ad : Nat → Nat} {g g2 : Nat → Option va_E} {row : Nat} {vr : Nat → Int32} (h : COLr cT ad g row vr) (h1 : ∀ x, 10 ≤ x → x < 40 → g2 x = g x) : COLr cT ad g2 row vr := fun c hc => by
  obtain ⟨ec, ok, fv, a1, a2, a3⟩ := h c hc
  exact ⟨ec, ok, fv, (h1 _ (by omega) (by omega)).trans a1, (h1 _ (by omega) (by omega)).trans a2, a3⟩
theorem TRp.cg {cT : Nat → ClassId} {ad : Nat → Nat} {g g2 : Nat → Option va_E} {F : TFR} {t : Nat} (h : TRp cT ad g F t) (ht : t < 16) (h1 : ∀ x, 1000 ≤ x → g2 x = g x) : TRp cT ad g2 F t := by
  obtain ⟨m, a1, ⟨cap, md, lf, b1, b2, b3⟩, a3, a4, a5⟩ := h
  refine ⟨m, (h1 _ (by omega)).trans a1, ⟨cap, md, lf, (h1 _ (by omega)).trans b1, (h1 _ (by omega)).trans b2, b3⟩, a3, a4, fun k hk => ⟨?_, (a5 k hk).2.cg (h1 _ (by omega)) (h1 _ (by omega))⟩⟩
  exact (h1 _ (by omega)).trans (a5 k hk).1
