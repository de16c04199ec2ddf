/-! Sorting by insertion: what is in the array, and its order. -/
def ctp (P : Int32 → Bool) (a : Nat → Int32) : Nat → Nat
  | 0 => 0
  | k + 1 => ctp P a k + if P (a k) = true then 1 else 0
def ctr (P : Int32 → Bool) (vv : Nat → Int32) (c : Nat) : Nat → Nat
  | 0 => 0
  | k + 1 => ctr P vv c k + if ¬ vv (6 * k + c) = -2147483648 ∧ P (vv (6 * k + c)) = true then 1 else 0
theorem ctp_cg {P : Int32 → Bool} {a b : Nat → Int32} : ∀ {k : Nat}, (∀ i, i < k → a i = b i) → ctp P a k = ctp P b k
  | 0, _ => rfl
  | k + 1, h => by
    show ctp P a k + _ = ctp P b k + _
    rw [ctp_cg (fun i hi => h i (by omega)), h k (by omega)]
/-- v0 stands at place p, what was there and behind is one place on -/
def INS (a b : Nat → Int32) (p m : Nat) (v0 : Int32) : Prop := (∀ i, i < p → b i = a i) ∧ b p = v0 ∧ ∀ i, p ≤ i → i < m → b (i + 1) = a i
theorem ctp_ins {P : Int32 → Bool} {a b : Nat → Int32} {p m : Nat} {v0 : Int32} (h : INS a b p m v0) (hp : p ≤ m) : ctp P b (m + 1) = ctp P a m + if P v0 = true then 1 else 0 := by
  suffices hs : ∀ j, p + j ≤ m → ctp P b (p + j + 1) = ctp P a (p + j) + if P v0 = true then 1 else 0 by
    have := hs (m - p) (by omega)
    rw [show p + (m - p) = m by omega] at this
    exact this
  intro j
  induction j with
  | zero =>
    intro _
    show ctp P b p + (if P (b p) = true then 1 else 0) = _
    rw [h.2.1, ctp_cg (b := a) h.1]; rfl
  | succ j ih =>
    intro hj
    show ctp P b (p + j + 1) + (if P (b (p + j + 1)) = true then 1 else 0) = ctp P a (p + j) + (if P (a (p + j)) = true then 1 else 0) + _
    rw [ih (by omega), h.2.2 (p + j) (by omega) (by omega)]
    omega
def SRT (a : Nat → Int32) (m : Nat) : Prop := ∀ i j, i < j → j < m → a i ≤ a j
theorem srt_ins {a b : Nat → Int32} {p m : Nat} {v0 : Int32} (h : INS a b p m v0) (hp : p ≤ m) (hs : SRT a m) (h1 : p = 0 ∨ a (p - 1) ≤ v0) (h2 : ∀ i, p ≤ i → i < m → v0 < a i) : SRT b (m + 1) := by
  have lt : ∀ i, i < p → b i = a i ∧ a i ≤ v0 := fun i hi => ⟨h.1 i hi, by
    have q := h1.resolve_left (by omega)
    by_cases e : i = p - 1
    · rw [e]; exact q
    · exact Int32.le_trans (hs i (p - 1) (by omega) (by omega)) q⟩
  have gt : ∀ i, p < i → i < m + 1 → b i = a (i - 1) ∧ v0 < a (i - 1) := fun i hi hm => by
    have := h.2.2 (i - 1) (by omega) (by omega)
    rw [show i - 1 + 1 = i by omega] at this
    exact ⟨this, h2 (i - 1) (by omega) (by omega)⟩
  intro i j hij hj
  rcases Nat.lt_trichotomy i p with r | r | r
  · rcases Nat.lt_trichotomy j p with s | s | s
    · rw [(lt i r).1, (lt j s).1]; exact hs i j hij (by omega)
    · rw [(lt i r).1, s, h.2.1]; exact (lt i r).2
    · rw [(lt i r).1, (gt j s hj).1]
      exact Int32.le_trans (lt i r).2 (Int32.le_of_lt (gt j s hj).2)
  · rw [r, h.2.1, (gt j (by omega) hj).1]; exact Int32.le_of_lt (gt j (by omega) hj).2
  · rw [(gt i r (by omega)).1, (gt j (by omega) hj).1]; exact hs (i - 1) (j - 1) (by omega) (by omega)
/-- the array holds the known values of the first r rows, sorted -/
def SIV (vv : Nat → Int32) (c r : Nat) (a : Nat → Int32) (m : Nat) : Prop := m = (mnx vv c r).1 ∧ SRT a m ∧ (∀ P, ctp P a m = ctr P vv c r) ∧ ∀ i, i < m → ¬ a i = -2147483648
theorem siv_0 {vv : Nat → Int32} {c : Nat} {a : Nat → Int32} : SIV vv c 0 a 0 := ⟨rfl, fun i j _ h => absurd h (by omega), fun _ => rfl, fun i h => absurd h (by omega)⟩
theorem siv_m {vv : Nat → Int32} {c r m : Nat} {a : Nat → Int32} (h : SIV vv c r a m) (hv : vv (6 * r + c) = -2147483648) : SIV vv c (r + 1) a m := by
  refine ⟨?_, h.2.1, fun P => ?_, h.2.2.2⟩
  · rw [h.1]
    show _ = (if vv (6 * r + c) = -2147483648 then _ else _ : Nat × Int32 × Int32).1
    rw [if_pos hv]
  · rw [h.2.2.1 P]
    show _ = ctr P vv c r + (if _ then 1 else 0)
    rw [if_neg (fun q => q.1 hv)]; rfl
theorem siv_s {vv : Nat → Int32} {c r m p : Nat} {a b : Nat → Int32} (h : SIV vv c r a m) (hv : ¬ vv (6 * r + c) = -2147483648) (hi : INS a b p m (vv (6 * r + c))) (hp : p ≤ m) (h1 : p = 0 ∨ a (p - 1) ≤ vv (6 * r + c)) (h2 : ∀ i, p ≤ i → i < m → vv (6 * r + c) < a i) : SIV vv c (r + 1) b (m + 1) := by
  refine ⟨?_, srt_ins hi hp h.2.1 h1 h2, fun P => ?_, fun i him => ?_⟩
  · show _ = (if vv (6 * r + c) = -2147483648 then _ else _ : Nat × Int32 × Int32).1
    rw [if_neg hv, h.1]
  · rw [ctp_ins hi hp, h.2.2.1 P]
    show _ = ctr P vv c r + (if _ then 1 else 0)
    congr 1
    by_cases q : P (vv (6 * r + c)) = true
    · rw [if_pos q, if_pos ⟨hv, q⟩]
    · rw [if_neg q, if_neg (fun z => q z.2)]
  · rcases Nat.lt_trichotomy i p with s | s | s
    · rw [hi.1 i s]; exact h.2.2.2 i (by omega)
    · rw [s, hi.2.1]; exact hv
    · have := hi.2.2 (i - 1) (by omega) (by omega)
      rw [show i - 1 + 1 = i by omega] at this
      rw [this]; exact h.2.2.2 (i - 1) (by omega)
theorem ctr_b {vv : Nat → Int32} {c : Nat} {v : Int32} : ∀ n, ctr (fun x => decide (x < v)) vv c n = blw vv c v n
  | 0 => rfl
  | n + 1 => by
    show ctr _ vv c n + _ = blw vv c v n + _
    rw [ctr_b n]
    by_cases q : ¬ vv (6 * n + c) = -2147483648 ∧ vv (6 * n + c) < v
    · rw [if_pos q, if_pos ⟨q.1, decide_eq_true q.2⟩]
    · rw [if_neg q, if_neg (fun z => q ⟨z.1, of_decide_eq_true z.2⟩)]
theorem ctr_e {vv : Nat → Int32} {c : Nat} {v : Int32} (hv : ¬ v = -2147483648) : ∀ n, ctr (fun x => decide (x = v)) vv c n = sme vv c v n
  | 0 => rfl
  | n + 1 => by
    show ctr _ vv c n + _ = sme vv c v n + _
    rw [ctr_e hv n]
    by_cases q : vv (6 * n + c) = v
    · rw [if_pos q, if_pos ⟨by rw [q]; exact hv, decide_eq_true q⟩]
    · rw [if_neg q, if_neg (fun z => q (of_decide_eq_true z.2))]
