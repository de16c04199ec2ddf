theorem rd_j24 {d J D : Nat} (hd : 0 < d) (h : d * 2 ^ J ≤ D) (hD : D < 1000000000 ^ 24) : J < 720 := by
  rcases Nat.lt_or_ge J 720 with q | q
  · exact q
  · exfalso
    have a := Nat.pow_le_pow_right (show 0 < 2 by decide) q
    have b := Nat.le_mul_of_pos_left (2 ^ J) hd
    have c : (1000000000 : Nat) ^ 24 < 2 ^ 720 := by decide +kernel
    exact absurd (Nat.lt_of_lt_of_le c (Nat.le_trans a (Nat.le_trans b h))) (Nat.not_lt.mpr (Nat.le_of_lt hD))
