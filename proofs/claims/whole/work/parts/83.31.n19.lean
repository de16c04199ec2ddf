/-! The reference's nodes. -/
theorem smv_lin {zr RR : Nat → Int} {x : Int64} {P C n : Nat} (h : ∀ i, i < n → zr i * (P : Int) = RR i * (C : Int)) : ∀ k, k ≤ n → smv zr x k * (P : Int) = smv RR x k * (C : Int)
  | 0, _ => by
    show (0 : Int) * _ = 0 * _
    rw [Int.zero_mul, Int.zero_mul]
  | k + 1, hk => by
    have ih := smv_lin (x := x) h k (by omega)
    show (smv zr x k + _) * _ = (smv RR x k + _) * _
    by_cases q : bx x k = true
    · rw [if_pos q, if_pos q, Int.add_mul, Int.add_mul, ih, h k (by omega)]
    · rw [if_neg q, if_neg q, Int.add_zero, Int.add_zero, ih]
theorem lf_v {s S : Int} {P C ru a b d1 d2 : Nat} (h : s * (P : Int) = S * (C : Int)) (h1 : d1 = C * a) (h2 : d2 = d1 * b) : s * (ru : Int) * ((P * (a * b) : Nat) : Int) = S * (ru : Int) * (d2 : Int) := by
  subst h1 h2
  rw [Int.natCast_mul, Int.natCast_mul, Int.natCast_mul, Int.natCast_mul]
  rw [show s * (ru : Int) * ((P : Int) * ((a : Int) * (b : Int))) = s * (P : Int) * (ru * (a * b)) by ac_rfl, h]
  ac_rfl
theorem lok_m {f : Nat → Int32} {b b' : Nat} (h : LOK f b) (hb : b ≤ b') : LOK f b' := fun k hk => ⟨(h k hk).1, Nat.le_trans (h k hk).2 hb⟩
