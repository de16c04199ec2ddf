/-! The reference's search: what a split is worth. -/
/-- gain of a split, over gU: both sides' sums, their rows and weight, all rows and weight -/
def gZ (sl sr : Int) (lw rw nw : Nat) : Int := sl * sl * ((rw * nw : Nat) : Int) + sr * sr * ((lw * nw : Nat) : Int) - (sl + sr) * (sl + sr) * ((lw * rw : Nat) : Int)
/-- the best so far: gain, under, column, edge, missing to the left, side -/
abbrev BST : Type := Int × Nat × Int32 × Int32 × Int32 × Int64
def wgh (zr : Nat → Int) (n w lst : Nat) (A : Int64) (b : BST) (S : Int64) (cc ee ml : Int32) : BST :=
  if cb S < lst ∨ cb (A &&& (S ^^^ (-1))) < lst then b
  else if b.1 * (((cb S + w) * (cb (A &&& (S ^^^ (-1))) + w) * (cb S + cb (A &&& (S ^^^ (-1))) + w) : Nat) : Int) < gZ (smv zr S n) (smv zr (A &&& (S ^^^ (-1))) n) (cb S + w) (cb (A &&& (S ^^^ (-1))) + w) (cb S + cb (A &&& (S ^^^ (-1))) + w) * (b.2.1 : Int) then
    (gZ (smv zr S n) (smv zr (A &&& (S ^^^ (-1))) n) (cb S + w) (cb (A &&& (S ^^^ (-1))) + w) (cb S + cb (A &&& (S ^^^ (-1))) + w), (cb S + w) * (cb (A &&& (S ^^^ (-1))) + w) * (cb S + cb (A &&& (S ^^^ (-1))) + w), cc, ee, ml, S)
  else b
/-- the best so far as the reference's object holds it -/
def BSF (yi : Nat → Int32) (bs : Int64) (fb : Nat → Int32) (b : BST) (GB : Nat) : Prop := MN fb b.1 ∧ b.1.natAbs ≤ GB ∧ 0 < b.2.1 ∧ b.2.1 ≤ 314432 ∧ yi 50 = nI b.2.1 ∧ (¬ b.1 = 0 → yi 51 = b.2.2.1 ∧ yi 52 = b.2.2.2.1 ∧ yi 53 = b.2.2.2.2.1 ∧ bs = b.2.2.2.2.2)
def YKP (yi yi' : Nat → Int32) : Prop := ∀ k, k ≠ 50 → k ≠ 51 → k ≠ 52 → k ≠ 53 → yi' k = yi k
theorem fitm {a d Q : Nat} (h1 : a ≤ Q) (h2 : d ≤ 1000000) (hQ : Q * 1000000000000 < 268435456 ^ 130) : a * d < 268435456 ^ 250 := by
  have a1 := Nat.mul_le_mul h1 h2
  have c : 268435456 ^ 130 ≤ 268435456 ^ 250 := Nat.pow_le_pow_right (by decide) (by decide)
  have a2 : Q * 1000000 ≤ Q * 1000000000000 := Nat.mul_le_mul_left _ (by decide)
  exact Nat.lt_of_lt_of_le (Nat.lt_of_le_of_lt (Nat.le_trans a1 a2) hQ) c
theorem fit1 {a Q m : Nat} (h1 : a ≤ Q * m) (h2 : m ≤ 1000000000000) (hQ : Q * 1000000000000 < 268435456 ^ 130) : a < 268435456 ^ 130 := Nat.lt_of_le_of_lt (Nat.le_trans h1 (Nat.mul_le_mul_left _ h2)) hQ
theorem up250 {a : Nat} (h : a < 268435456 ^ 130) : a < 268435456 ^ 250 := Nat.lt_of_lt_of_le h (Nat.pow_le_pow_right (by decide) (by decide))
theorem nbm {x : Int} {d Q D : Nat} (h : x.natAbs ≤ Q) (hd : d ≤ D) : (x * (d : Int)).natAbs ≤ Q * D := by
  rw [Int.natAbs_mul, Int.natAbs_natCast]
  exact Nat.mul_le_mul h hd
theorem nbq {x : Int} {S : Nat} (h : x.natAbs ≤ S) : (x * x).natAbs ≤ S * S := by
  rw [Int.natAbs_mul]
  exact Nat.mul_le_mul h h
theorem m68 {a b : Nat} (ha : a ≤ 68) (hb : b ≤ 68) : a * b ≤ 4624 := Nat.mul_le_mul ha hb
theorem m683 {a b c : Nat} (ha : a ≤ 68) (hb : b ≤ 68) (hc : c ≤ 68) : a * b * c ≤ 314432 := Nat.mul_le_mul (Nat.mul_le_mul ha hb) hc
theorem cz_le0 {x y : Int} : cz x y ≤ 0 ↔ ¬ y < x := by
  rcases (show x < y ∨ x = y ∨ y < x by omega) with h | h | h
  · rw [cz_lt h]; exact ⟨fun _ => by omega, fun _ => by decide⟩
  · rw [cz_rf h]; exact ⟨fun _ => by omega, fun _ => by decide⟩
  · rw [cz_gt h]; exact ⟨fun q => absurd q (by decide), fun q => absurd h q⟩
