/-! The reference's fractions: a number over a product of primes, whose exponents stand in an array of 19. -/
def pr (k : Nat) : Nat := [2, 3, 5, 7, 11, 13, 17, 19, 23, 29, 31, 37, 41, 43, 47, 53, 59, 61, 67].getD k 1
theorem pr_b : ∀ k, k < 19 → 2 ≤ pr k ∧ pr k ≤ 67 := by decide +kernel
/-- the array of the primes -/
def PRI (f : Nat → Int32) : Prop := ∀ k, k < 19 → f k = nI (pr k)
/-- exponents: from 0 to b -/
def LOK (f : Nat → Int32) (b : Nat) : Prop := ∀ k, k < 19 → f k = nI (dg f k) ∧ dg f k ≤ b
/-- the product of the first k primes' powers -/
def dnk (e : Nat → Nat) : Nat → Nat
  | 0 => 1
  | k + 1 => dnk e k * pr k ^ e k
abbrev dn (f : Nat → Int32) : Nat := dnk (dg f) 19
theorem dnk_cg {e e' : Nat → Nat} : ∀ {k : Nat}, (∀ j, j < k → e j = e' j) → dnk e k = dnk e' k
  | 0, _ => rfl
  | k + 1, h => by
    show dnk e k * pr k ^ e k = dnk e' k * pr k ^ e' k
    rw [dnk_cg (fun j hj => h j (by omega)), h k (by omega)]
theorem dnk_pos {e : Nat → Nat} : ∀ {k : Nat}, k ≤ 19 → 0 < dnk e k
  | 0, _ => Nat.one_pos
  | k + 1, h => by
    show 0 < dnk e k * pr k ^ e k
    exact Nat.mul_pos (dnk_pos (by omega)) (Nat.pow_pos (by have := (pr_b k (by omega)).1; omega))
/-- one more at place j -/
theorem dnk_up {e e' : Nat → Nat} {j : Nat} (h : ∀ q, q ≠ j → e' q = e q) (hj : e' j = e j + 1) : ∀ {k : Nat}, j < k → dnk e' k = dnk e k * pr j
  | 0, h0 => absurd h0 (by omega)
  | k + 1, hk => by
    show dnk e' k * pr k ^ e' k = dnk e k * pr k ^ e k * pr j
    by_cases q : j = k
    · subst q
      rw [dnk_cg (fun x hx => h x (by omega)), hj, Nat.pow_succ, Nat.mul_assoc]
    · rw [dnk_up h hj (by omega), h k (by omega)]
      ac_rfl
theorem lok_up {f : Nat → Int32} {b j v b' : Nat} (h : LOK f b) (hv : v ≤ b') (hb : b ≤ b') (hb2 : b' < 2 ^ 31) : LOK (upd f j (nI v)) b' := by
  intro k hk
  by_cases q : k = j
  · subst q
    rw [pk_us, dg_us (by omega)]
    exact ⟨rfl, hv⟩
  · rw [pk_un q, dg_un q]
    obtain ⟨h1, h2⟩ := h k hk
    exact ⟨h1, by omega⟩
theorem dn_inc {f : Nat → Int32} {j : Nat} (hj : j < 19) (hb : dg f j + 1 < 2 ^ 31) : dn (upd f j (nI (dg f j + 1))) = dn f * pr j :=
  dnk_up (fun q hq => dg_un hq) (dg_us hb) hj
theorem dn_dec {f : Nat → Int32} {j : Nat} (hj : j < 19) (h0 : 0 < dg f j) (hb : dg f j < 2 ^ 31) : dn f = dn (upd f j (nI (dg f j - 1))) * pr j :=
  dnk_up (fun q hq => (dg_un hq).symm) (by rw [dg_us (by omega)]; omega) hj
theorem dn_pos {f : Nat → Int32} : 0 < dn f := dnk_pos (Nat.le_refl _)
theorem sg_sq {z : Int} : sg z * sg z = sg (z * z) := by
  rcases (show z < 0 ∨ z = 0 ∨ 0 < z by omega) with h | h | h
  · rw [sgN h, sgP (Int.mul_pos_of_neg_of_neg h h)]; decide
  · rw [sgZ h, h]; decide
  · rw [sgP h, sgP (Int.mul_pos h h)]; decide
theorem M_sq {f : Nat → Int32} {K : Nat} (ht : top0 f K) (h : vM f K * vM f K < 268435456 ^ 250) : K ≤ 126 := by
  rcases Nat.lt_or_ge 126 K with q | q
  · have h2 : 268435456 ^ (K - 1) ≤ vM f K := hv_top (by omega) (ht (by omega))
    have h3 := Nat.mul_le_mul h2 h2
    rw [← Nat.pow_add] at h3
    have h4 : 268435456 ^ 250 ≤ 268435456 ^ (K - 1 + (K - 1)) := Nat.pow_le_pow_right (by decide) (by omega)
    exact absurd (Nat.lt_of_le_of_lt (Nat.le_trans h4 h3) h) (Nat.lt_irrefl _)
  · exact q
theorem sq_e {B T X ai V pi : Nat} (h : T = X * V + pi * ai * V) : T = (X + pi * ai) * V := by rw [h, Nat.add_mul]
def MO (r : Nat → Nat) (i : Nat → Int32) (sb bs : Int64) : List Value := [.ref (r 0), .int (i 1), .int (i 2), .int (i 3), .ref (r 4), .ref (r 5), .ref (r 6), .ref (r 7), .ref (r 8), .ref (r 9), .int (i 10), .int (i 11), .int (i 12), .int (i 13), .int (i 14), .long sb, .int (i 16), .int (i 17), .ref (r 18), .ref (r 19), .ref (r 20), .ref (r 21), .ref (r 22), .ref (r 23), .ref (r 24), .ref (r 25), .ref (r 26), .ref (r 27), .ref (r 28), .ref (r 29), .ref (r 30), .ref (r 31), .ref (r 32), .ref (r 33), .ref (r 34), .ref (r 35), .ref (r 36), .ref (r 37), .ref (r 38), .ref (r 39), .ref (r 40), .ref (r 41), .ref (r 42), .ref (r 43), .ref (r 44), .ref (r 45), .ref (r 46), .int (i 47), .ref (r 48), .ref (r 49), .int (i 50), .int (i 51), .int (i 52), .int (i 53), .long bs, .int (i 55), .ref (r 56), .ref (r 57), .ref (r 58), .ref (r 59)]
