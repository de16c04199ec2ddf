/-! Decimal digits. -/
def dgt (v j : Nat) : Nat := v / 10 ^ j % 10
/-- v has n digits -/
def NDG (v n : Nat) : Prop := 1 ≤ n ∧ v < 10 ^ n ∧ (n = 1 ∨ 10 ^ (n - 1) ≤ v)
theorem i2b_s : ∀ n, n < 128 → (nI n).toInt8.toInt32 = nI n := by decide +kernel
theorem nar_b {n : Nat} (h : n < 128) : vp_nar .byte (nI n) = nI n := by
  rw [vp_nar_byte]
  exact i2b_s n h
theorem dgt_q {v q u : Nat} (hu : u = v / 10000 ^ q) (k : Nat) : dgt v (4 * q + k) = u / 10 ^ k % 10 := by
  unfold dgt
  rw [Nat.pow_add, ← Nat.div_div_eq_div_mul, Nat.pow_mul, hu]
theorem dgt_lt {v j : Nat} : dgt v j < 10 := Nat.mod_lt _ (by decide)
theorem ndg_mk {v n : Nat} (h1 : 1 ≤ n) (h2 : v < 10 ^ n) (h3 : n = 1 ∨ ¬ dgt v (n - 1) = 0) : NDG v n := by
  refine ⟨h1, h2, h3.imp id (fun q => ?_)⟩
  rcases Nat.lt_or_ge v (10 ^ (n - 1)) with r | r
  · exfalso
    apply q
    unfold dgt
    rw [Nat.div_eq_of_lt r]
  · exact r
theorem dgt_cut {v n : Nat} (h1 : 1 ≤ n) (h : v < 10 ^ n) (h0 : dgt v (n - 1) = 0) : v < 10 ^ (n - 1) := by
  unfold dgt at h0
  have e : 10 ^ n = 10 ^ (n - 1) * 10 := by rw [← Nat.pow_succ]; congr 1; omega
  rw [e] at h
  have h2 : v / 10 ^ (n - 1) < 10 := Nat.div_lt_of_lt_mul h
  rw [Nat.mod_eq_of_lt h2] at h0
  rcases Nat.div_eq_zero_iff.mp h0 with r | r
  · exact absurd r (by have := Nat.pow_pos (n := n - 1) (show 0 < 10 by decide); omega)
  · exact r
theorem q_b {v q : Nat} (h : v < 268435456 ^ 250) (hq : 10000 ^ q ≤ v) : q < 539 := by
  rcases Nat.lt_or_ge q 539 with r | r
  · exact r
  · have h1 : (2 ^ 13) ^ q ≤ 10000 ^ q := Nat.pow_le_pow_left (by decide) q
    have h2 : (2 ^ 13) ^ 539 ≤ (2 ^ 13) ^ q := Nat.pow_le_pow_right (by decide) r
    rw [← Nat.pow_mul] at h2
    have h3 : 268435456 ^ 250 = 2 ^ (28 * 250) := by rw [Nat.pow_mul]
    rw [h3] at h
    have h4 : 2 ^ (28 * 250) ≤ 2 ^ (13 * 539) := Nat.pow_le_pow_right (by decide) (by decide)
    exact absurd (Nat.lt_of_le_of_lt (Nat.le_trans h4 (Nat.le_trans h2 (Nat.le_trans h1 hq))) h) (Nat.lt_irrefl _)
/-- the digits so far -/
def DGS (g : Nat → Int32) (v n : Nat) : Prop := ∀ j, j < n → g j = nI (48 + dgt v j)
theorem dgs_s {g : Nat → Int32} {v n d : Nat} (h : DGS g v n) (hd : d = dgt v n) : DGS (upd g n (vp_nar .byte (nI (48 + d)))) v (n + 1) := by
  intro j hj
  by_cases r : j = n
  · subst r
    rw [pk_us, hd, nar_b (by have := dgt_lt (v := v) (j := j); omega)]
  · rw [pk_un r]
    exact h j (by omega)
