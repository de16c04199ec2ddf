/-! kinds and cuts -/
/-- a value that is no kind; or one before was none -/
def kb (b : Bool) (v : Int32) : Bool := b || (decide (¬ v = -2147483648) && decide (¬ (0 ≤ v ∧ v ≤ 11)))
theorem kb_t {b : Bool} {v : Int32} (h : ¬ bn b = 0) : 1 = bn (kb b v) := by
  cases b
  · exact absurd rfl h
  · rfl
theorem kb_m {b : Bool} {v : Int32} (h : bn b = 0) (hv : v = -2147483648) : 0 = bn (kb b v) := by
  rw [bn_0.mp h, hv]; rfl
theorem kb_i {b : Bool} {v : Int32} (h : bn b = 0) (hv : 0 ≤ v ∧ v ≤ 11) : 0 = bn (kb b v) := by
  rw [bn_0.mp h]
  show 0 = bn (false || (_ && decide (¬ (0 ≤ v ∧ v ≤ 11))))
  rw [decide_eq_false (p := ¬ (0 ≤ v ∧ v ≤ 11)) (fun q => q hv), Bool.and_false]
  rfl
theorem kb_o {b : Bool} {v : Int32} (h : ¬ v = -2147483648) (hv : ¬ (0 ≤ v ∧ v ≤ 11)) : 1 = bn (kb b v) := by
  unfold kb
  rw [decide_eq_true h, decide_eq_true hv, Bool.and_true, Bool.or_true]
  rfl
/-- all known values are kinds -/
def KAL (vv : Nat → Int32) (c n : Nat) : Prop := ∀ q, q < n → kb false (vv (6 * q + c)) = false
theorem kb_or {b : Bool} {v : Int32} : kb b v = false ↔ b = false ∧ kb false v = false := by
  unfold kb
  cases b
  · rw [Bool.false_or]; exact ⟨fun h => ⟨rfl, h⟩, fun h => h.2⟩
  · rw [Bool.true_or]; exact ⟨fun h => absurd h (by decide), fun h => absurd h.1 (by decide)⟩
theorem kal_s {vv : Nat → Int32} {c r : Nat} {b : Bool} (h : b = false ↔ KAL vv c r) : kb b (vv (6 * r + c)) = false ↔ KAL vv c (r + 1) := by
  rw [kb_or, h]
  constructor
  · intro ⟨h1, h2⟩ q hq
    by_cases e : q = r
    · rw [e]; exact h2
    · exact h1 q (by omega)
  · intro h1
    exact ⟨fun q hq => h1 q (by omega), h1 r (by omega)⟩
theorem nar_z {v : Int32} (h : v = 0 ∨ v = 1) : narrow .boolean (.int v) = .int v := by
  rcases h with r | r
  · rw [r]; rfl
  · rw [r]; rfl
/-- known values below v, and values like v, among the first k rows -/
def blw (vv : Nat → Int32) (c : Nat) (v : Int32) : Nat → Nat
  | 0 => 0
  | k + 1 => blw vv c v k + if ¬ vv (6 * k + c) = -2147483648 ∧ vv (6 * k + c) < v then 1 else 0
def sme (vv : Nat → Int32) (c : Nat) (v : Int32) : Nat → Nat
  | 0 => 0
  | k + 1 => sme vv c v k + if vv (6 * k + c) = v then 1 else 0
theorem blw_le (vv : Nat → Int32) (c : Nat) (v : Int32) : ∀ k, blw vv c v k ≤ k
  | 0 => Nat.le_refl _
  | k + 1 => by
    have := blw_le vv c v k
    show blw vv c v k + _ ≤ _
    split <;> omega
theorem sme_le (vv : Nat → Int32) (c : Nat) (v : Int32) : ∀ k, sme vv c v k ≤ k
  | 0 => Nat.le_refl _
  | k + 1 => by
    have := sme_le vv c v k
    show sme vv c v k + _ ≤ _
    split <;> omega
/-- v is the value at a place of the known values in their order -/
abbrev IOV (vv : Nat → Int32) (c n pl : Nat) (v : Int32) : Prop := ¬ v = -2147483648 ∧ blw vv c v n ≤ pl ∧ pl < blw vv c v n + sme vv c v n
def ioF (vv : Nat → Int32) (c n pl : Nat) : Nat → Int32
  | 0 => 0
  | k + 1 => if IOV vv c n pl (vv (6 * (n - (k + 1)) + c)) then vv (6 * (n - (k + 1)) + c) else ioF vv c n pl k
theorem ioF_y {vv : Nat → Int32} {c n pl r : Nat} (hr : r < n) (h : IOV vv c n pl (vv (6 * r + c))) : ioF vv c n pl (n - r) = vv (6 * r + c) := by
  obtain ⟨k, hk⟩ : ∃ k, n - r = k + 1 := ⟨n - r - 1, by omega⟩
  have e : n - (k + 1) = r := by omega
  rw [hk]
  show (if _ then _ else _) = _
  rw [e, if_pos h]
theorem ioF_n {vv : Nat → Int32} {c n pl r : Nat} (hr : r < n) (h : ¬ IOV vv c n pl (vv (6 * r + c))) : ioF vv c n pl (n - r) = ioF vv c n pl (n - (r + 1)) := by
  obtain ⟨k, hk⟩ : ∃ k, n - r = k + 1 := ⟨n - r - 1, by omega⟩
  have e : n - (k + 1) = r := by omega
  rw [hk, show n - (r + 1) = k by omega]
  show (if _ then _ else _) = _
  rw [e, if_neg h]
/-- how many values are known, the least and the greatest -/
def mnx (vv : Nat → Int32) (c : Nat) : Nat → Nat × Int32 × Int32
  | 0 => (0, 0, 0)
  | r + 1 => if vv (6 * r + c) = -2147483648 then mnx vv c r else ((mnx vv c r).1 + 1, if (mnx vv c r).1 = 0 ∨ vv (6 * r + c) < (mnx vv c r).2.1 then vv (6 * r + c) else (mnx vv c r).2.1, if (mnx vv c r).1 = 0 ∨ (mnx vv c r).2.2 < vv (6 * r + c) then vv (6 * r + c) else (mnx vv c r).2.2)
theorem mnx_le (vv : Nat → Int32) (c : Nat) : ∀ r, (mnx vv c r).1 ≤ r
  | 0 => Nat.le_refl _
  | r + 1 => by
    have := mnx_le vv c r
    show (if _ then _ else _ : Nat × Int32 × Int32).1 ≤ _
    split
    · omega
    · show (mnx vv c r).1 + 1 ≤ _; omega
/-- an even cut -/
def ctw (fi la : Int32) (k nn : Nat) : Int32 := (fi.toInt64 + lN k * ((la - fi) + 1).toInt64 / lN nn).toInt32
def ctv (bc : Int32) (vv : Nat → Int32) (c n nn k : Nat) : Int32 := if bc = 0 then ctw (mnx vv c n).2.1 (mnx vv c n).2.2 k nn else ioF vv c n (k * (mnx vv c n).1 / nn) n
/-- the edges behind k cuts: how many, and which -/
def ctE (e : Nat → Int32) (fi : Int32) (b : Nat) (g0 : Nat → Int32) : Nat → Nat × (Nat → Int32)
  | 0 => (0, g0)
  | k + 1 => if e (k + 1) = fi ∨ (∃ i, i < (ctE e fi b g0 k).1 ∧ (ctE e fi b g0 k).2 (b + i) = e (k + 1)) then ctE e fi b g0 k else ((ctE e fi b g0 k).1 + 1, upd (ctE e fi b g0 k).2 (b + (ctE e fi b g0 k).1) (e (k + 1)))
theorem ctE_le (e : Nat → Int32) (fi : Int32) (b : Nat) (g0 : Nat → Int32) : ∀ k, (ctE e fi b g0 k).1 ≤ k
  | 0 => Nat.le_refl _
  | k + 1 => by
    have := ctE_le e fi b g0 k
    show (if _ then _ else _ : Nat × (Nat → Int32)).1 ≤ _
    split
    · omega
    · show (ctE e fi b g0 k).1 + 1 ≤ _; omega
theorem ctE_o {e : Nat → Int32} {fi : Int32} {b : Nat} {g0 : Nat → Int32} {k : Nat} (h : e (k + 1) = fi ∨ (∃ i, i < (ctE e fi b g0 k).1 ∧ (ctE e fi b g0 k).2 (b + i) = e (k + 1))) : ctE e fi b g0 (k + 1) = ctE e fi b g0 k := if_pos h
theorem ctE_n {e : Nat → Int32} {fi : Int32} {b : Nat} {g0 : Nat → Int32} {k : Nat} (h : ¬ (e (k + 1) = fi ∨ (∃ i, i < (ctE e fi b g0 k).1 ∧ (ctE e fi b g0 k).2 (b + i) = e (k + 1)))) : ctE e fi b g0 (k + 1) = ((ctE e fi b g0 k).1 + 1, upd (ctE e fi b g0 k).2 (b + (ctE e fi b g0 k).1) (e (k + 1))) := if_neg h
theorem mnx_m {vv : Nat → Int32} {c r : Nat} (h : vv (6 * r + c) = -2147483648) : mnx vv c (r + 1) = mnx vv c r := if_pos h
theorem mnx_k {vv : Nat → Int32} {c r : Nat} (h : ¬ vv (6 * r + c) = -2147483648) : mnx vv c (r + 1) = ((mnx vv c r).1 + 1, if (mnx vv c r).1 = 0 ∨ vv (6 * r + c) < (mnx vv c r).2.1 then vv (6 * r + c) else (mnx vv c r).2.1, if (mnx vv c r).1 = 0 ∨ (mnx vv c r).2.2 < vv (6 * r + c) then vv (6 * r + c) else (mnx vv c r).2.2) := if_neg h
/-- an edge that was there before -/
def oldE (e fi : Int32) (b m : Nat) (g : Nat → Int32) (i : Nat) : Prop := e = fi ∨ ∃ j, j < i ∧ g (b + j) = e
theorem old_s {e fi : Int32} {b m : Nat} {g : Nat → Int32} {i : Nat} {o : Bool} (h : o = true ↔ oldE e fi b m g i) : (o || decide (g (b + i) = e)) = true ↔ oldE e fi b m g (i + 1) := by
  rw [Bool.or_eq_true, h, decide_eq_true_iff]
  constructor
  · rintro ((q | ⟨j, hj, q⟩) | q)
    · exact Or.inl q
    · exact Or.inr ⟨j, by omega, q⟩
    · exact Or.inr ⟨i, by omega, q⟩
  · rintro (q | ⟨j, hj, q⟩)
    · exact Or.inl (Or.inl q)
    · by_cases r : j = i
      · subst r; exact Or.inr q
      · exact Or.inl (Or.inr ⟨j, by omega, q⟩)
