/-! The class's search against the reference's: worth and gain take the same split. -/
/-- what the class has found: nothing, or worth, under, column, mark, missing to the left, rows of the left side -/
abbrev CST : Type := Bool × Int × Nat × Int32 × Int32 × Int32 × Int64
abbrev wZ (sl sr : Int) (lw rw : Nat) : Int := sl * sl * (rw : Int) + sr * sr * (lw : Int)
def csd (RR : Nat → Int) (n w lst : Nat) (A : Int64) (b : CST) (S : Int64) (cc ee ml : Int32) : CST :=
  if cb S < lst ∨ cb A - cb S < lst then b
  else if b.1 = false ∨ b.2.1 * (((cb S + w) * (cb A - cb S + w) : Nat) : Int) < wZ (smv RR S n) (smv RR A n - smv RR S n) (cb S + w) (cb A - cb S + w) * (b.2.2.1 : Int) then
    (true, wZ (smv RR S n) (smv RR A n - smv RR S n) (cb S + w) (cb A - cb S + w), (cb S + w) * (cb A - cb S + w), cc, ee, ml, S)
  else b
/-- the gain that a worth stands for -/
def gnz (W s : Int) (u nw : Nat) : Int := W * (nw : Int) - s * s * (u : Int)
theorem gnz_lt {W W' s : Int} {u u' nw : Nat} (hn : 0 < nw) : gnz W s u nw * ((u' * nw : Nat) : Int) < gnz W' s u' nw * ((u * nw : Nat) : Int) ↔ W * (u' : Int) < W' * (u : Int) := by
  unfold gnz
  have e1 : (W * (nw : Int) - s * s * (u : Int)) * ((u' * nw : Nat) : Int) = (W * (u' : Int)) * ((nw : Int) * nw) - s * s * ((u : Int) * u' * nw) := by
    rw [Int.natCast_mul, Int.sub_mul]; congr 1 <;> ac_rfl
  have e2 : (W' * (nw : Int) - s * s * (u' : Int)) * ((u * nw : Nat) : Int) = (W' * (u : Int)) * ((nw : Int) * nw) - s * s * ((u : Int) * u' * nw) := by
    rw [Int.natCast_mul, Int.sub_mul]; congr 1 <;> ac_rfl
  rw [e1, e2]
  have pQ : (0 : Int) < (nw : Int) * nw := Int.mul_pos (by omega) (by omega)
  constructor
  · intro h
    exact Int.lt_of_mul_lt_mul_right (a := (nw : Int) * nw) (by omega) (by omega)
  · intro h
    have := Int.mul_lt_mul_of_pos_right h pQ
    omega
theorem gnz_pos {W W' s : Int} {u u' nw : Nat} (hn : 0 < nw) (hu : 0 < u) (hu' : 0 < u') (h0 : gnz W s u nw ≤ 0) (h1 : 0 < gnz W' s u' nw) : W * (u' : Int) < W' * (u : Int) := by
  rw [← gnz_lt (s := s) hn]
  have a1 : gnz W s u nw * ((u' * nw : Nat) : Int) ≤ 0 := Int.mul_nonpos_of_nonpos_of_nonneg h0 (by omega)
  have a2 : 0 < gnz W' s u' nw * ((u * nw : Nat) : Int) := Int.mul_pos h1 (by have := Nat.mul_pos hu hn; omega)
  omega
theorem gnz_mono {W W' s : Int} {u u' nw : Nat} (hn : 0 < nw) (hu : 0 < u) (hu' : 0 < u') (h0 : 0 < gnz W s u nw) (h1 : W * (u' : Int) < W' * (u : Int)) : 0 < gnz W' s u' nw := by
  rcases Int.lt_or_le 0 (gnz W' s u' nw) with q | q
  · exact q
  · exfalso
    have := gnz_pos (W := W') (W' := W) hn hu' hu q h0
    omega
theorem gZ_gnz {sl sr : Int} {lw rl nw : Nat} : gZ sl sr lw rl nw = gnz (wZ sl sr lw rl) (sl + sr) (lw * rl) nw := by
  unfold gZ gnz wZ
  have e : (sl * sl * (rl : Int) + sr * sr * (lw : Int)) * (nw : Int) = sl * sl * ((rl * nw : Nat) : Int) + sr * sr * ((lw * nw : Nat) : Int) := by
    rw [Int.natCast_mul, Int.natCast_mul, Int.add_mul]
    congr 1 <;> ac_rfl
  rw [e]
/-- the two searches have the same in hand; nw: the node's rows and weight, s: its sum -/
def SRL (nw : Nat) (s : Int) (b : CST) (r : BST) : Prop :=
  (b.1 = false ∧ r = (0, 1, 0, 0, 0, 0)) ∨ (b.1 = true ∧ 0 < b.2.2.1 ∧ ((gnz b.2.1 s b.2.2.1 nw ≤ 0 ∧ r = (0, 1, 0, 0, 0, 0)) ∨ (0 < gnz b.2.1 s b.2.2.1 nw ∧ r = (gnz b.2.1 s b.2.2.1 nw, b.2.2.1 * nw, b.2.2.2.1, b.2.2.2.2.1, b.2.2.2.2.2.1, b.2.2.2.2.2.2))))
theorem srl_w {RR : Nat → Int} {n w lst : Nat} {A S : Int64} {b : CST} {r : BST} {cc ee ml : Int32} (hn : n ≤ 64) (hl : 1 ≤ lst) (hS : WIN S A) (h : SRL (cb A + w) (smv RR A n) b r) : SRL (cb A + w) (smv RR A n) (csd RR n w lst A b S cc ee ml) (wgh RR n w lst A r S cc ee ml) := by
  have hadd : cb S + cb (A &&& (S ^^^ (-1))) = cb A := cb_add hS 64 (Nat.le_refl _)
  have hsum := smv_add (RR := RR) hS n hn
  have er : cb (A &&& (S ^^^ (-1))) = cb A - cb S := by omega
  have es : smv RR (A &&& (S ^^^ (-1))) n = smv RR A n - smv RR S n := by omega
  unfold csd wgh
  rw [er, es]
  by_cases q : cb S < lst ∨ cb A - cb S < lst
  · rw [if_pos q, if_pos q]; exact h
  · rw [if_neg q, if_neg q]
    have hu : 0 < (cb S + w) * (cb A - cb S + w) := Nat.mul_pos (by omega) (by omega)
    have hnw : 0 < cb A + w := by omega
    have enw : cb S + (cb A - cb S) + w = cb A + w := by omega
    have esm : smv RR S n + (smv RR A n - smv RR S n) = smv RR A n := by omega
    rw [enw, gZ_gnz, esm]
    generalize wZ (smv RR S n) (smv RR A n - smv RR S n) (cb S + w) (cb A - cb S + w) = W'
    generalize (cb S + w) * (cb A - cb S + w) = u' at hu ⊢
    generalize cb A + w = nw at hnw h ⊢
    generalize smv RR A n = s at h ⊢
    obtain ⟨fd, W, u, c1, e1, m1, s1⟩ := b
    rcases h with ⟨h1, h2⟩ | ⟨h1, h2, h3⟩
    · have h1 : fd = false := h1
      subst h1; subst h2
      rw [if_pos (Or.inl rfl)]
      refine Or.inr ⟨rfl, hu, ?_⟩
      show (gnz W' s u' nw ≤ 0 ∧ _) ∨ _
      by_cases g : 0 < gnz W' s u' nw
      · rw [if_pos (by show (0 : Int) * _ < _ * ((1 : Nat) : Int); rw [Int.zero_mul, show ((1 : Nat) : Int) = 1 from rfl, Int.mul_one]; exact g)]
        exact Or.inr ⟨g, rfl⟩
      · rw [if_neg (by show ¬ (0 : Int) * _ < _ * ((1 : Nat) : Int); rw [Int.zero_mul, show ((1 : Nat) : Int) = 1 from rfl, Int.mul_one]; exact g)]
        exact Or.inl ⟨by omega, rfl⟩
    · have h1 : fd = true := h1
      have h2 : 0 < u := h2
      subst h1
      have hf : ¬ (true = false) := by decide
      by_cases c : W * (u' : Int) < W' * (u : Int)
      · rw [if_pos (Or.inr c)]
        refine Or.inr ⟨rfl, hu, ?_⟩
        show (gnz W' s u' nw ≤ 0 ∧ _) ∨ _
        rcases h3 with ⟨g0, h3⟩ | ⟨g0, h3⟩
        · subst h3
          by_cases g : 0 < gnz W' s u' nw
          · rw [if_pos (by show (0 : Int) * _ < _ * ((1 : Nat) : Int); rw [Int.zero_mul, show ((1 : Nat) : Int) = 1 from rfl, Int.mul_one]; exact g)]
            exact Or.inr ⟨g, rfl⟩
          · rw [if_neg (by show ¬ (0 : Int) * _ < _ * ((1 : Nat) : Int); rw [Int.zero_mul, show ((1 : Nat) : Int) = 1 from rfl, Int.mul_one]; exact g)]
            exact Or.inl ⟨by omega, rfl⟩
        · have g0 : 0 < gnz W s u nw := g0
          have h3 : r = (gnz W s u nw, u * nw, c1, e1, m1, s1) := h3
          subst h3
          rw [if_pos ((gnz_lt hnw).mpr c)]
          exact Or.inr ⟨gnz_mono hnw h2 hu g0 c, rfl⟩
      · rw [if_neg (fun z => z.elim hf c)]
        refine Or.inr ⟨rfl, h2, ?_⟩
        rcases h3 with ⟨g0, h3⟩ | ⟨g0, h3⟩
        · have g0 : gnz W s u nw ≤ 0 := g0
          subst h3
          rw [if_neg (by show ¬ (0 : Int) * _ < _ * ((1 : Nat) : Int); rw [Int.zero_mul, show ((1 : Nat) : Int) = 1 from rfl, Int.mul_one]; exact fun g => c (gnz_pos hnw h2 hu g0 g))]
          exact Or.inl ⟨g0, rfl⟩
        · have g0 : 0 < gnz W s u nw := g0
          have h3 : r = (gnz W s u nw, u * nw, c1, e1, m1, s1) := h3
          subst h3
          rw [if_neg (fun z => c ((gnz_lt hnw).mp z))]
          exact Or.inr ⟨g0, rfl⟩
