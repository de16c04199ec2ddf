/-! Room of the class's numbers. -/
theorem xbc_2 : XBc * 2 < 1000000000 ^ 24 ∧ 48 * 17 * (1000 * 2 ^ 16) * PBc < 1000000000 ^ 24 := by decide +kernel
theorem p24 {x R : Nat} (h : x < 1000000000 ^ 24) (hR : 24 ≤ R) : x < 1000000000 ^ R := Nat.lt_of_lt_of_le h (Nat.pow_le_pow_right (by decide) hR)
theorem fit_v {F : TFR} {T t k : Nat} (h : TOK F T) (hT : T ≤ 16) (ht : t < T) (hk : k < tM F t) : (tS F t k).natAbs * (tU F t * sca F t + 1) < 1000000000 ^ 24 := by
  have h1 := h.2 t ht
  have hs := sca_pos h1
  have hP := (Ppf_16 (t := t + 1) h hT (by omega)).2
  obtain ⟨_, hn, hS, _⟩ := h1.2.2.2.2 k hk
  have hu := h1.2.1
  have a1 : tU F t * sca F t + 1 ≤ 17 * sca F t := by
    have : tU F t * sca F t ≤ 16 * sca F t := Nat.mul_le_mul_right _ (by omega)
    omega
  have a2 : (tS F t k).natAbs ≤ 48 * ((1000 * 2 ^ 16) * Ppf F t) := Nat.le_trans hS (Nat.mul_le_mul hn.2 (Nat.mul_le_mul_right _ (Nat.mul_le_mul_left _ (Nat.pow_le_pow_right (by decide) (by omega)))))
  have a3 := Nat.mul_le_mul a2 a1
  have e : 48 * ((1000 * 2 ^ 16) * Ppf F t) * (17 * sca F t) = 48 * 17 * (1000 * 2 ^ 16) * (Ppf F t * sca F t) := by ac_rfl
  rw [e] at a3
  have a4 : 48 * 17 * (1000 * 2 ^ 16) * (Ppf F t * sca F t) ≤ 48 * 17 * (1000 * 2 ^ 16) * PBc := Nat.mul_le_mul_left _ hP
  exact Nat.lt_of_le_of_lt (Nat.le_trans a3 a4) xbc_2.2
theorem xs_b {F : TFR} {T t : Nat} (h : TOK F T) (hT : T ≤ 16) (ht : t < T) (vr : Nat → Int32) {x0 : Int} (hx : x0.natAbs ≤ 1000) : (xF F vr x0 t).natAbs * sca F t ≤ XBc := by
  have h1 := xF_b (F := F) (vq := vr) hx (T := t) (fun u hu => h.2 u (by omega))
  have hP := (Ppf_16 (t := t + 1) h hT (by omega)).2
  have a1 := Nat.mul_le_mul_right (sca F t) h1
  rw [Nat.mul_assoc] at a1
  exact Nat.le_trans a1 (xb_m (t := t) (P := Ppf F (t + 1)) (by omega) hP)
theorem lv_b {F : TFR} {T t k : Nat} (h : TOK F T) (hT : T ≤ 16) (ht : t < T) (hk : k < tM F t) (hl : tA F 0 (31 * t + k) = -1) : (lvf F t k).natAbs ≤ XBc :=
  Nat.le_trans (lvf_b (h.2 t ht) hk hl) (xb_m (by omega) (Ppf_16 (t := t + 1) h hT (by omega)).2)
theorem xf_b {F : TFR} {T t : Nat} (h : TOK F T) (hT : T ≤ 16) (ht : t ≤ T) (vr : Nat → Int32) {x0 : Int} (hx : x0.natAbs ≤ 1000) : (xF F vr x0 t).natAbs ≤ XBc :=
  Nat.le_trans (xF_b (F := F) (vq := vr) hx (T := t) (fun u hu => h.2 u (by omega))) (xb_m (by omega) (Ppf_16 h hT ht).2)
/-- the object; the table; the forest -/
abbrev eOB (ad : Nat → Nat) (tc : Int32) : va_E := .inr (0, [.ref (ad 1), .ref (ad 4), .ref (ad 5), .ref (ad 6), .ref (ad 9), .int tc, .ref (ad 41), .ref (ad 48), .ref (ad 50), .ref (ad 52), .ref (ad 54), .ref (ad 56), .ref (ad 58)])
abbrev eTB (ad : Nat → Nat) (wd rw : Int32) : va_E := .inr (2, [.ref (ad 2), .ref (ad 3), .int wd, .int rw])
def FRq (cT : Nat → ClassId) (ad : Nat → Nat) (g : Nat → Option va_E) (m : Nat) : Prop := ∃ (cap : Nat) (md : Int32) (lf : Nat → Option Nat), g 9 = some (eLI (ad 40) (nI m) md) ∧ g 40 = some (eQ (cT 7) cap lf) ∧ m ≤ cap ∧ cap ≤ 33 ∧ ∀ t, t < m → lf t = some (ad (1000 + t))
/-- an empty list may have no array of its own -/
def FRp (cT : Nat → ClassId) (ad : Nat → Nat) (g : Nat → Option va_E) (m : Nat) : Prop := (∃ (a : Nat) (md : Int32), g 9 = some (eLI a (nI m) md)) ∧ (0 < m → FRq cT ad g m)
theorem FRq.cg {cT : Nat → ClassId} {ad : Nat → Nat} {g g2 : Nat → Option va_E} {m : Nat} (h : FRq cT ad g m) (h1 : g2 9 = g 9) (h2 : g2 40 = g 40) : FRq cT ad g2 m := by
  obtain ⟨cap, md, lf, a1, a2, a3⟩ := h
  exact ⟨cap, md, lf, h1.trans a1, h2.trans a2, a3⟩
theorem FRp.cg {cT : Nat → ClassId} {ad : Nat → Nat} {g g2 : Nat → Option va_E} {m : Nat} (h : FRp cT ad g m) (h1 : g2 9 = g 9) (h2 : g2 40 = g 40) : FRp cT ad g2 m := by
  obtain ⟨⟨a, md, e⟩, k⟩ := h
  exact ⟨⟨a, md, h1.trans e⟩, fun q => (k q).cg h1 h2⟩
/-- all trees that stand -/
def TRS (cT : Nat → ClassId) (ad : Nat → Nat) (g : Nat → Option va_E) (F : TFR) (T : Nat) : Prop := ∀ t, t < T → TRp cT ad g F t
theorem TRS.cg {cT : Nat → ClassId} {ad : Nat → Nat} {g g2 : Nat → Option va_E} {F : TFR} {T : Nat} (h : TRS cT ad g F T) (hT : T ≤ 16) (h1 : ∀ x, 1000 ≤ x → g2 x = g x) : TRS cT ad g2 F T := fun t ht => (h t ht).cg (by omega) h1
/-- the residuals -/
def RSp (cT : Nat → ClassId) (ad : Nat → Nat) (g : Nat → Option va_E) (n : Nat) (zs : Nat → Int) : Prop := (∃ qf : Nat → Option Nat, g 5 = some (eQ (cT 4) 48 qf) ∧ ∀ i, i < 48 → qf i = some (ad (100 + i))) ∧ ∀ i, i < 48 → ∃ z, WHO cT ad g (100 + i) (150 + i) 24 z ∧ (i < n → z = zs i)
theorem RSp.cg {cT : Nat → ClassId} {ad : Nat → Nat} {g g2 : Nat → Option va_E} {n : Nat} {zs : Nat → Int} (h : RSp cT ad g n zs) (h1 : g2 5 = g 5) (h2 : ∀ x, 100 ≤ x → x < 200 → g2 x = g x) : RSp cT ad g2 n zs := by
  obtain ⟨⟨qf, a1, a2⟩, a3⟩ := h
  refine ⟨⟨qf, h1.trans a1, a2⟩, fun i hi => ?_⟩
  obtain ⟨z, b1, b2⟩ := a3 i hi
  exact ⟨z, b1.cg (h2 _ (by omega) (by omega)) (h2 _ (by omega) (by omega)), b2⟩
/-- the targets, the question's 0 behind them -/
def TGp (cT : Nat → ClassId) (g : Nat → Option va_E) (n : Nat) (tg : Nat → Int32) : Prop := ∃ ft : Nat → Int32, g 3 = some (eA (cT 0) 49 ft) ∧ (∀ i, i < n → ft i = tg i) ∧ ft 48 = 0
/-- all columns: the values of the rows, of the question, edges -/
def COLa (cT : Nat → ClassId) (ad : Nat → Nat) (g : Nat → Option va_E) (n : Nat) (vv vq : Nat → Int32) : Prop := (∀ i, i < n → COLr cT ad g i (rwf vv i)) ∧ COLr cT ad g 48 vq
theorem COLa.cg {cT : Nat → ClassId} {ad : Nat → Nat} {g g2 : Nat → Option va_E} {n : Nat} {vv vq : Nat → Int32} (h : COLa cT ad g n vv vq) (h1 : ∀ x, 10 ≤ x → x < 40 → g2 x = g x) : COLa cT ad g2 n vv vq := ⟨fun i hi => (h.1 i hi).cg h1, h.2.cg h1⟩
theorem eta_n1 {a : Nat} (h : 0 < a) : a - 1 + 1 = a := by omega
