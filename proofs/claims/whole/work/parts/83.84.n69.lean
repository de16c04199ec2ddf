/-! The class's digits: words of nine digits, the highest first, without zeros in front. -/
theorem dgt_w {f : Nat → Int32} {K k m : Nat} (hd : dok 1000000000 f K) (hk : k < K) (hm : m < 9) : dg f k / 10 ^ m % 10 = dgt (vW f K) (9 * k + m) := by
  unfold dgt
  have e : vW f K = hv 1000000000 (dg f) 0 k + 1000000000 ^ k * (dg f k + 1000000000 * hv 1000000000 (dg f) (k + 1) (K - k - 1)) := by
    have := hv_split 1000000000 (dg f) (K - k - 1 + 1) k 0
    rw [show k + (K - k - 1 + 1) = K by omega, Nat.zero_add, hv_s] at this
    exact this
  have lt : hv 1000000000 (dg f) 0 k < 1000000000 ^ k := hv_lt (fun j _ hj => (hd j (by omega)).2)
  have p : 10 ^ (9 * k + m) = 1000000000 ^ k * 10 ^ m := by rw [Nat.pow_add, Nat.pow_mul]
  rw [e, p, ← Nat.div_div_eq_div_mul, Nat.add_mul_div_left _ _ (Nat.pow_pos (by decide)), Nat.div_eq_of_lt lt, Nat.zero_add]
  have q : 1000000000 = 10 ^ m * (10 * 10 ^ (8 - m)) := by
    rw [← Nat.pow_succ', ← Nat.pow_add, show m + (8 - m + 1) = 9 by omega]
  generalize hv 1000000000 (dg f) (k + 1) (K - k - 1) = X
  rw [show dg f k + 1000000000 * X = dg f k + 10 ^ m * (10 * 10 ^ (8 - m) * X) by rw [← Nat.mul_assoc, ← q]]
  rw [Nat.add_mul_div_left _ _ (Nat.pow_pos (by decide)), Nat.mul_assoc, Nat.add_mul_mod_self_left]
def un9 (m : Nat) : Nat := if m = 0 then 0 else 10 ^ (m - 1)
theorem un9_s {m : Nat} (h : 0 < m) : un9 m = 10 ^ (m - 1) := if_neg (by omega)
theorem un9_b : ∀ m, m ≤ 9 → un9 m ≤ 100000000 := by decide
theorem un9_p {m : Nat} (h : 0 < m) : 0 < un9 m := by rw [un9_s h]; exact Nat.pow_pos (by decide)
theorem un9_d : ∀ m, m ≤ 9 → un9 m / 10 = un9 (m - 1) := by decide
/-- the digits of P stand from L0 to L, none if P is 0 -/
def AST (fo : Nat → Int32) (L0 L P : Nat) : Prop := (P = 0 ∧ L = L0) ∨ (0 < P ∧ ∃ n, NDG P n ∧ L = L0 + n ∧ ∀ i, i < n → fo (L0 + i) = nI (48 + dgt P (n - 1 - i)))
theorem ast_0 {fo : Nat → Int32} {L0 L P : Nat} (h : AST fo L0 L P) (hL : L ≤ L0) : P = 0 ∧ L = L0 := by
  rcases h with q | ⟨_, n, h1, h2, _⟩
  · exact q
  · have := h1.1; omega
theorem ast_b {fo : Nat → Int32} {L0 L P N : Nat} (h : AST fo L0 L P) (hP : P < 10 ^ N) : L ≤ L0 + N := by
  rcases h with q | ⟨h0, n, h1, h2, _⟩
  · omega
  · rcases h1.2.2 with r | r
    · rcases Nat.eq_zero_or_pos N with z | z
      · rw [z, Nat.pow_zero] at hP; omega
      · omega
    · have : n - 1 < N := (Nat.pow_lt_pow_iff_right (show 1 < 10 by decide)).mp (Nat.lt_of_le_of_lt r hP)
      omega
theorem ast_z {fo : Nat → Int32} {L0 L P d : Nat} (h : AST fo L0 L P) (hd : d = 0) (hL : L ≤ L0) : AST fo L0 L (10 * P + d) := by
  obtain ⟨h1, h2⟩ := ast_0 h hL
  exact Or.inl ⟨by omega, h2⟩
theorem ast_s {fo : Nat → Int32} {L0 L P d : Nat} (h : AST fo L0 L P) (hd : d < 10) (hc : ¬ d = 0 ∨ L0 < L) : AST (upd fo L (nI (48 + d))) L0 (L + 1) (10 * P + d) := by
  rcases h with ⟨h1, h2⟩ | ⟨h0, n, h1, h2, h3⟩
  · subst h1; subst h2
    have hd0 : 0 < d := by omega
    refine Or.inr ⟨by omega, 1, ⟨Nat.le_refl _, by omega, Or.inl rfl⟩, rfl, fun i hi => ?_⟩
    obtain rfl : i = 0 := by omega
    rw [Nat.add_zero, pk_us]
    congr 2
    show d = (10 * 0 + d) / 10 ^ 0 % 10
    rw [Nat.pow_zero, Nat.div_one]
    omega
  · refine Or.inr ⟨by omega, n + 1, ⟨by omega, ?_, Or.inr ?_⟩, by omega, fun i hi => ?_⟩
    · rw [Nat.pow_succ]; have := h1.2.1; omega
    · show 10 ^ n ≤ 10 * P + d
      rcases h1.2.2 with r | r
      · subst r; omega
      · have e : 10 ^ n = 10 ^ (n - 1) * 10 := by rw [← Nat.pow_succ, show (n - 1).succ = n by have := h1.1; omega]
        omega
    · by_cases q : i = n
      · subst q
        rw [← h2, pk_us, show i + 1 - 1 - i = 0 by omega]
        congr 2
        show d = (10 * P + d) / 10 ^ 0 % 10
        rw [Nat.pow_zero, Nat.div_one]
        omega
      · rw [pk_un (by omega), h3 i (by omega)]
        congr 2
        unfold dgt
        rw [show n + 1 - 1 - i = (n - 1 - i) + 1 by omega, Nat.pow_succ, Nat.mul_comm (10 ^ (n - 1 - i)) 10, ← Nat.div_div_eq_div_mul, show (10 * P + d) / 10 = P by omega]
theorem pre_s {V e : Nat} : V / 10 ^ e = 10 * (V / 10 ^ (e + 1)) + dgt V e := by
  unfold dgt
  rw [Nat.pow_succ, ← Nat.div_div_eq_div_mul]
  omega
theorem ast_e {fo : Nat → Int32} {L0 L P : Nat} (h : AST fo L0 L P) (hL : ¬ L = L0) : ∃ n, NDG P n ∧ L = L0 + n ∧ ∀ i, i < n → fo (L0 + i) = nI (48 + dgt P (n - 1 - i)) := by
  rcases h with q | ⟨_, q⟩
  · exact absurd q.2 hL
  · exact q
