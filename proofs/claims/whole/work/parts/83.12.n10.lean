/-! Trees: where a row goes. -/
/-- a value goes to the left: tl, kd, ed of the node -/
def goB (tl kd ed v : Int32) : Bool := if v = -2147483648 then decide (¬ tl = 0) else if kd = 0 then decide (v < ed) else decide ((0 ≤ v ∧ v ≤ 11) ∧ (ed >>> (v &&& 31)) &&& 1 = 1)
def bn (b : Bool) : Int32 := if b = true then 1 else 0
theorem bn_n {b : Bool} : narrow .boolean (.int (bn b)) = .int (bn b) := by cases b <;> rfl
theorem bn_fit {b : Bool} : fits .boolean (.int (bn b)) = true := by cases b <;> rfl
theorem bn_0 {b : Bool} : bn b = 0 ↔ b = false := by cases b <;> decide
theorem goB_m {tl kd ed v : Int32} (h : v = -2147483648) (ht : tl = 0 ∨ tl = 1) : tl = bn (goB tl kd ed v) := by
  unfold goB
  rw [if_pos h]
  rcases ht with r | r
  · rw [r]; decide
  · rw [r]; decide
theorem goB_k {tl kd ed v : Int32} (h : ¬ v = -2147483648) (hk : ¬ kd = 0) (q : (0 ≤ v ∧ v ≤ 11) ∧ (ed >>> (v &&& 31)) &&& 1 = 1) : 1 = bn (goB tl kd ed v) := by
  unfold goB
  rw [if_neg h, if_neg hk, decide_eq_true q]
  rfl
theorem goB_kn {tl kd ed v : Int32} (h : ¬ v = -2147483648) (hk : ¬ kd = 0) (q : ¬ ((0 ≤ v ∧ v ≤ 11) ∧ (ed >>> (v &&& 31)) &&& 1 = 1)) : 0 = bn (goB tl kd ed v) := by
  unfold goB
  rw [if_neg h, if_neg hk, decide_eq_false q]
  rfl
theorem goB_v {tl kd ed v : Int32} (h : ¬ v = -2147483648) (hk : kd = 0) (q : v < ed) : 1 = bn (goB tl kd ed v) := by
  unfold goB
  rw [if_neg h, if_pos hk, decide_eq_true q]
  rfl
theorem goB_vn {tl kd ed v : Int32} (h : ¬ v = -2147483648) (hk : kd = 0) (q : ¬ v < ed) : 0 = bn (goB tl kd ed v) := by
  unfold goB
  rw [if_neg h, if_pos hk, decide_eq_false q]
  rfl
/-- the leaf that is reached from node k within f steps; b: the tree's first place -/
def lfw (nc nl nr : Nat → Int32) (go : Nat → Bool) (b : Nat) : Nat → Nat → Nat
  | 0, k => k
  | f + 1, k => if nc (b + k) < 0 then k else lfw nc nl nr go b f (if go k = true then dg nl (b + k) else dg nr (b + k))
theorem lfw_leaf {nc nl nr : Nat → Int32} {go : Nat → Bool} {b k : Nat} (h : nc (b + k) < 0) : ∀ f, lfw nc nl nr go b f k = k
  | 0 => rfl
  | f + 1 => if_pos h
theorem lfw_s {nc nl nr : Nat → Int32} {go : Nat → Bool} {b k f : Nat} (h : ¬ nc (b + k) < 0) : lfw nc nl nr go b (f + 1) k = lfw nc nl nr go b f (if go k = true then dg nl (b + k) else dg nr (b + k)) := if_neg h
/-- a tree of n nodes: a leaf has the column -1; other nodes lie above both their sides, at most four steps down; dp: the depth -/
def TWF (nc nl nr : Nat → Int32) (dp : Nat → Nat) (b n : Nat) : Prop := 0 < n ∧ n ≤ 31 ∧ dp 0 = 0 ∧ ∀ k, k < n → dp k ≤ 4 ∧ (nc (b + k) = -1 ∨ (∃ c, c < 6 ∧ nc (b + k) = nI c) ∧ dp k < 4 ∧ nl (b + k) = nI (dg nl (b + k)) ∧ nr (b + k) = nI (dg nr (b + k)) ∧ dg nl (b + k) < n ∧ dg nr (b + k) < n ∧ dp (dg nl (b + k)) = dp k + 1 ∧ dp (dg nr (b + k)) = dp k + 1)
theorem tw_in {nc nl nr : Nat → Int32} {dp : Nat → Nat} {b n k : Nat} (h : TWF nc nl nr dp b n) (hk : k < n) (hn : ¬ nc (b + k) < 0) : (∃ c, c < 6 ∧ nc (b + k) = nI c) ∧ dp k < 4 ∧ nl (b + k) = nI (dg nl (b + k)) ∧ nr (b + k) = nI (dg nr (b + k)) ∧ dg nl (b + k) < n ∧ dg nr (b + k) < n ∧ dp (dg nl (b + k)) = dp k + 1 ∧ dp (dg nr (b + k)) = dp k + 1 := by
  rcases (h.2.2.2 k hk).2 with q | q
  · exact absurd (by rw [q]; decide) hn
  · exact q
/-! reduced fractions: the lower part divides any other -/
theorem pr_div : ∀ k, k < 19 → ∀ d, d < 68 → pr k % d = 0 → d = 1 ∨ d = pr k := by decide +kernel
theorem pr_cop : ∀ i, i < 19 → ∀ j, j < i → Nat.gcd (pr i) (pr j) = 1 := by decide +kernel
theorem pr_gcd {k x : Nat} (hk : k < 19) (h : ¬ x % pr k = 0) : Nat.Coprime (pr k) x := by
  have hb := pr_b k hk
  have h1 : Nat.gcd (pr k) x ∣ pr k := Nat.gcd_dvd_left _ _
  have h2 := Nat.le_of_dvd (by omega) h1
  rcases pr_div k hk _ (show Nat.gcd (pr k) x < 68 by omega) (Nat.mod_eq_zero_of_dvd h1) with q | q
  · exact q
  · exfalso
    apply h
    have h3 : Nat.gcd (pr k) x ∣ x := Nat.gcd_dvd_right _ _
    rw [q] at h3
    exact Nat.mod_eq_zero_of_dvd h3
theorem dnk_cop {e : Nat → Nat} {k : Nat} (hk : k < 19) : ∀ j, j ≤ k → Nat.Coprime (pr k) (dnk e j)
  | 0, _ => Nat.coprime_one_right _
  | j + 1, hj => by
    show Nat.Coprime (pr k) (dnk e j * pr j ^ e j)
    exact Nat.Coprime.mul_right (dnk_cop hk j (by omega)) (Nat.Coprime.pow_right _ (pr_cop k hk j (by omega)))
theorem dnk_dvd {e : Nat → Nat} {k j : Nat} (h : j < k) : pr j ^ e j ∣ dnk e k := by
  induction k with
  | zero => omega
  | succ k ih =>
    show _ ∣ dnk e k * pr k ^ e k
    by_cases q : j = k
    · subst q
      exact Nat.dvd_mul_left _ _
    · exact Nat.dvd_mul_right_of_dvd (ih (by omega)) _
theorem red_dvd {z X : Int} {P : Nat} {f : Nat → Int32} (hr : RED z f) (h : z * (P : Int) = X * (dn f : Int)) : dn f ∣ P := by
  have h1 := nat_eq h
  suffices hs : ∀ k, k ≤ 19 → dnk (dg f) k ∣ P from hs 19 (Nat.le_refl _)
  intro k
  induction k with
  | zero => intro _; exact Nat.one_dvd _
  | succ k ih =>
    intro hk
    show dnk (dg f) k * pr k ^ dg f k ∣ P
    refine Nat.Coprime.mul_dvd_of_dvd_of_dvd (Nat.Coprime.pow_right _ (Nat.Coprime.symm (dnk_cop (by omega) k (Nat.le_refl _)))) (ih (by omega)) ?_
    rcases hr k (by omega) with q | q
    · rw [q, Nat.pow_zero]
      exact Nat.one_dvd _
    · have h2 : pr k ^ dg f k ∣ z.natAbs * P := by
        rw [h1]
        exact Nat.dvd_mul_left_of_dvd (dnk_dvd (by omega)) _
      exact Nat.Coprime.dvd_of_dvd_mul_left (Nat.Coprime.pow_left _ (pr_gcd (by omega) q)) h2
theorem red_le {z X : Int} {P : Nat} {f : Nat → Int32} (hP : 0 < P) (hr : RED z f) (h : z * (P : Int) = X * (dn f : Int)) : z.natAbs ≤ X.natAbs ∧ dn f ≤ P := by
  have h1 := Nat.le_of_dvd hP (red_dvd hr h)
  have h2 := nat_eq h
  refine ⟨?_, h1⟩
  refine Nat.le_of_mul_le_mul_right (c := P) ?_ hP
  rw [h2]
  exact Nat.mul_le_mul_left _ h1
/-- a node's fraction is X / Dn -/
def NF (up lw : Nat → Int32) (bb nd : Nat) (X : Int) (Dn : Nat) : Prop := ∃ lz : Int, MR up (132 * nd) lz ∧ LOK (sh (19 * nd) lw) bb ∧ RED lz (sh (19 * nd) lw) ∧ lz * (Dn : Int) = X * (dn (sh (19 * nd) lw) : Int)
theorem lok_cg {f g : Nat → Int32} {b : Nat} (h : LOK f b) (he : ∀ q, q < 19 → g q = f q) : LOK g b := fun k hk => by
  rw [dg_cg (he k hk), he k hk]
  exact h k hk
theorem red_cg {z : Int} {f g : Nat → Int32} (h : RED z f) (he : ∀ q, q < 19 → g q = f q) : RED z g := fun k hk => by
  rw [dg_cg (he k hk)]
  exact h k hk
theorem dn_cg {f g : Nat → Int32} (he : ∀ q, q < 19 → g q = f q) : dn g = dn f := dnk_cg (fun q hq => dg_cg (he q hq))
theorem lok_0 {g : Nat → Int32} {b : Nat} (he : ∀ q, q < 19 → g q = 0) : LOK g b := fun k hk => by
  rw [dg_eq0 (he k hk), he k hk]
  exact ⟨rfl, Nat.zero_le _⟩
theorem red_0 {z : Int} {g : Nat → Int32} (he : ∀ q, q < 19 → g q = 0) : RED z g := fun k hk => Or.inl (dg_eq0 (he k hk))
theorem dn_0 {g : Nat → Int32} (he : ∀ q, q < 19 → g q = 0) : dn g = 1 := by
  have h : ∀ k, k ≤ 19 → dnk (dg g) k = 1 := by
    intro k
    induction k with
    | zero => intro _; rfl
    | succ k ih =>
      intro hk
      show dnk (dg g) k * pr k ^ dg g k = 1
      rw [ih (by omega), dg_eq0 (he k (by omega)), Nat.pow_zero]
  exact h 19 (Nat.le_refl _)
/-- one more tree, subtracted -/
theorem wk_s {z lz z' X LX : Int} {P s d ld d' : Nat} (hd : 0 < d) (hld : 0 < ld) (h1 : z * (P : Int) = X * (d : Int)) (h2 : lz * ((P * s : Nat) : Int) = LX * (ld : Int)) (h3 : z' * ((d * ld : Nat) : Int) = (z * (ld : Int) - lz * (d : Int)) * (d' : Int)) : z' * ((P * s : Nat) : Int) = (X * (s : Int) - LX) * (d' : Int) := by
  apply Int.eq_of_mul_eq_mul_right (a := ((d * ld : Nat) : Int)) (by have := Nat.mul_pos hd hld; omega)
  have e1 : z' * ((P * s : Nat) : Int) * ((d * ld : Nat) : Int) = z' * ((d * ld : Nat) : Int) * ((P * s : Nat) : Int) := by ac_rfl
  have e2 : (z * (ld : Int) - lz * (d : Int)) * (d' : Int) * ((P * s : Nat) : Int) = (z * (P : Int) * (s * ld) - lz * ((P * s : Nat) : Int) * d) * d' := by
    rw [Int.natCast_mul, Int.sub_mul, Int.sub_mul, Int.sub_mul]
    congr 1
    · ac_rfl
    · ac_rfl
  have e3 : (X * (d : Int) * (s * ld) - LX * (ld : Int) * d) * d' = (X * (s : Int) - LX) * (d' : Int) * ((d * ld : Nat) : Int) := by
    rw [Int.natCast_mul, Int.sub_mul, Int.sub_mul, Int.sub_mul]
    congr 1
    · ac_rfl
    · ac_rfl
  rw [e1, h3, e2, h1, h2, e3]
theorem wk_a {z lz z' X LX : Int} {P s d ld d' : Nat} (hd : 0 < d) (hld : 0 < ld) (h1 : z * (P : Int) = X * (d : Int)) (h2 : lz * ((P * s : Nat) : Int) = LX * (ld : Int)) (h3 : z' * ((d * ld : Nat) : Int) = (z * (ld : Int) + lz * (d : Int)) * (d' : Int)) : z' * ((P * s : Nat) : Int) = (X * (s : Int) + LX) * (d' : Int) := by
  have h := wk_s (z := z) (lz := -lz) (z' := z') (X := X) (LX := -LX) (d' := d') hd hld h1 (by rw [Int.neg_mul, Int.neg_mul, h2]) (by rw [Int.neg_mul, Int.sub_neg]; exact h3)
  rw [Int.sub_neg] at h
  exact h
theorem bt_nf {b : Bool} (h : ¬ b = false) : b = true := by
  cases b
  · exact absurd rfl h
  · rfl
