/-! The class as its constructor leaves it. -/
theorem WN.z {R : Nat} : WN R 0 0 (fun _ => 0) 0 := ⟨0, rfl, Nat.zero_le _, fun _ h => absurd h (by omega), fun h => absurd h (by omega), Or.inl rfl, rfl⟩
theorem ini_cli {cT : Nat → ClassId} {ad : Nat → Nat} {g : Nat → Option va_E} {tE : Nat} {qc qr qg : Nat → Option Nat} {ft : Nat → Int32} {md : Int32} {w h1 h2 : Nat → Int32} {F : TFR} {vv vq eg ik tg : Nat → Int32} {fo : Nat → Int32} {uq : Nat → Option Nat}
    (c0 : g 0 = some (eOB ad (nI 0))) (c1 : g 1 = some (eTB ad (nI 1) (nI 0))) (c2 : g 2 = some (eQ (cT 5) 6 qc)) (c2e : ∀ c, c < 6 → qc c = some (ad (10 + c))) (c3 : g 3 = some (eA (cT 0) 49 ft)) (c3e : ft 48 = 0) (c4 : g 4 = some (ePL 2 1 0 1 2 (-1) (-1))) (c5 : g 5 = some (eQ (cT 4) 48 qr)) (c5e : ∀ i, i < 48 → qr i = some (ad (100 + i)) ∧ WHO cT ad g (100 + i) (150 + i) 24 0)
    (c6 : g 6 = some (eGR ad 66 70)) (c7 : g 7 = some (eQ (cT 6) 12 qg)) (c7e : ∀ i, i < 12 → qg i = some (ad (200 + i)) ∧ GPp cT ad g i 0 0) (c8 : g 8 = some (eA (cT 0) 12 w)) (c9 : g 9 = some (eLI tE (nI 0) md))
    (cc : ∀ j8, j8 < 6 → ∃ fv fe : Nat → Int32, COLe cT ad g j8 0 0 fv fe ∧ (∀ r8, r8 < 0 → fv r8 = 0) ∧ fv 48 = (-2147483648) ∧ ∀ q8, q8 < 0 → fe q8 = 0) (hy : ∀ c, c < 6 → ik c = 0 ∧ vq c = (-2147483648))
    (g12 : GPp cT ad g 12 0 0) (g13 : GPp cT ad g 13 0 0) (g14 : GPp cT ad g 14 0 0) (w50 : WHO cT ad g 50 51 24 0) (w52 : WHO cT ad g 52 53 24 0) (w54 : WHO cT ad g 54 55 48 0) (w56 : WHO cT ad g 56 57 48 0) (w58 : WHO cT ad g 58 59 48 0) (w60 : WHO cT ad g 60 61 24 0) (w62 : WHO cT ad g 62 63 48 0) (w64 : WHO cT ad g 64 65 48 0)
    (s66 : g 66 = some (eSP 0 0 0 0 0 (ad 67) 0)) (w67 : WHO cT ad g 67 68 48 0) (s70 : g 70 = some (eSP 0 0 0 0 0 (ad 71) 0)) (w71 : WHO cT ad g 71 72 48 0) (c48 : g 48 = some (eA (cT 0) 48 h1))
    (o41 : g 41 = some (.inr (8, [.ref (ad 42), .int (nI 0), .ref (ad 43), .ref (ad 46)]))) (o42 : g 42 = some (.inl (cT 2, 866, .inl fo))) (o43 : g 43 = some (eQ (cT 4) 1 uq)) (o43e : uq 0 = some (ad 44)) (w44 : WHO cT ad g 44 45 48 0) (w46 : WHO cT ad g 46 47 48 0)
    (hno : ∀ z8, (z8 = 40 ∨ 1000 ≤ z8) → z8 < 5000 → g z8 = none) : CLI cT ad g tE 0 0 (fun _ => 0) F 0 1 vv vq eg ik (fun _ => 0) tg 2 1 0 1 2 (-1) (-1) 0 fo := by
  refine ⟨⟨c0, ⟨ft, c3, fun i hi => absurd hi (by omega), c3e⟩, ⟨Or.inl ⟨rfl, ⟨md, c9⟩, hno _ (by omega) (by omega)⟩, by omega, fun t ht => absurd ht (by omega), fun t _ ht => ⟨rfl, hno _ (by omega) (by omega), hno _ (by omega) (by omega), hno _ (by omega) (by omega), fun k hk => ⟨hno _ (by omega) (by omega), hno _ (by omega) (by omega), hno _ (by omega) (by omega)⟩⟩⟩, fun t ht => absurd ht (by omega), ⟨fun _ => 0, c1, ⟨⟨qr, c5, fun i hi => (c5e i hi).1⟩, fun i hi => ⟨0, (c5e i hi).2, fun h => absurd h (by omega)⟩⟩, ⟨qc, c2, c2e⟩, fun c hc => ?_, c4, ⟨qg, c7, fun i hi => (c7e i hi).1⟩, ⟨⟨0, w60⟩, ⟨0, w62⟩, 0, w64⟩, fun j hj => ?_, ⟨w, c8⟩, 66, 70, (true, 0, 0, 0, 0, 0, 0), fun _ => 0, c6, Or.inl ⟨rfl, rfl⟩, ⟨0, 0, 0, 0, 0, 0, 0, 0, 0, 0, 0, 0, 0, 0, s66, w67, Nat.zero_le _, Or.inr ⟨rfl, by decide, rfl, rfl, Nat.zero_le _, rfl, rfl, rfl, rfl, 0, by decide, rfl, rfl⟩, s70, w71, Nat.zero_le _⟩⟩, ⟨0, w50⟩, ⟨0, w52⟩⟩, ⟨o41, o42, ⟨uq, o43, o43e⟩, ⟨0, w44⟩, 0, w46⟩, ⟨h1, c48⟩, ⟨0, w54⟩, ⟨0, w56⟩, 0, w58⟩
  · obtain ⟨fv, fe, e1, _, e3, _⟩ := cc c hc
    refine ⟨fv, fe, ?_, fun r hr => absurd hr (by omega), by rw [(hy c hc).2]; exact e3, fun i hi => absurd hi (Nat.not_lt_zero _)⟩
    rw [(hy c hc).1]
    exact e1
  · rcases (show j < 12 ∨ j = 12 ∨ j = 13 ∨ j = 14 by omega) with q | q | q | q
    · exact ⟨0, 0, (c7e j q).2⟩
    · rw [q]; exact ⟨0, 0, g12⟩
    · rw [q]; exact ⟨0, 0, g13⟩
    · rw [q]; exact ⟨0, 0, g14⟩
def R98 (z : Nat) : Prop := z = 7 ∨ z = 8 ∨ (10 ≤ z ∧ z < 41) ∨ 60 ≤ z
theorem r98_0 {z : Nat} (h : R98 z) : z ≠ 0 := by unfold R98 at h; omega
theorem r98_1 {z : Nat} (h : R98 z) : z ≠ 1 := by unfold R98 at h; omega
theorem r98_2 {z : Nat} (h : R98 z) : z ≠ 2 := by unfold R98 at h; omega
theorem r98_3 {z : Nat} (h : R98 z) : z ≠ 3 := by unfold R98 at h; omega
theorem r98_4 {z : Nat} (h : R98 z) : z ≠ 4 := by unfold R98 at h; omega
theorem r98_5 {z : Nat} (h : R98 z) : z ≠ 5 := by unfold R98 at h; omega
theorem r98_6 {z : Nat} (h : R98 z) : z ≠ 6 := by unfold R98 at h; omega
theorem r98_9 {z : Nat} (h : R98 z) : z ≠ 9 := by unfold R98 at h; omega
theorem r98_41 {z : Nat} (h : R98 z) : z ≠ 41 := by unfold R98 at h; omega
theorem r98_42 {z : Nat} (h : R98 z) : z ≠ 42 := by unfold R98 at h; omega
theorem r98_43 {z : Nat} (h : R98 z) : z ≠ 43 := by unfold R98 at h; omega
theorem r98_44 {z : Nat} (h : R98 z) : z ≠ 44 := by unfold R98 at h; omega
theorem r98_45 {z : Nat} (h : R98 z) : z ≠ 45 := by unfold R98 at h; omega
theorem r98_46 {z : Nat} (h : R98 z) : z ≠ 46 := by unfold R98 at h; omega
theorem r98_47 {z : Nat} (h : R98 z) : z ≠ 47 := by unfold R98 at h; omega
theorem r98_48 {z : Nat} (h : R98 z) : z ≠ 48 := by unfold R98 at h; omega
theorem r98_50 {z : Nat} (h : R98 z) : z ≠ 50 := by unfold R98 at h; omega
theorem r98_51 {z : Nat} (h : R98 z) : z ≠ 51 := by unfold R98 at h; omega
theorem r98_52 {z : Nat} (h : R98 z) : z ≠ 52 := by unfold R98 at h; omega
theorem r98_53 {z : Nat} (h : R98 z) : z ≠ 53 := by unfold R98 at h; omega
theorem r98_54 {z : Nat} (h : R98 z) : z ≠ 54 := by unfold R98 at h; omega
theorem r98_55 {z : Nat} (h : R98 z) : z ≠ 55 := by unfold R98 at h; omega
theorem r98_56 {z : Nat} (h : R98 z) : z ≠ 56 := by unfold R98 at h; omega
theorem r98_57 {z : Nat} (h : R98 z) : z ≠ 57 := by unfold R98 at h; omega
theorem r98_58 {z : Nat} (h : R98 z) : z ≠ 58 := by unfold R98 at h; omega
theorem r98_59 {z : Nat} (h : R98 z) : z ≠ 59 := by unfold R98 at h; omega
