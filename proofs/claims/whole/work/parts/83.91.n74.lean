theorem ndg_432 {v n : Nat} (h : NDG v n) (hv : v < 10 ^ 432) : n ≤ 432 := by
  rcases h.2.2 with q | q
  · omega
  · have : n - 1 < 432 := (Nat.pow_lt_pow_iff_right (show 1 < 10 by decide)).mp (Nat.lt_of_le_of_lt q hv)
    omega
theorem wn_432 {n b : Int32} {f : Nat → Int32} {z : Int} (h : WN 48 n b f z) : z.natAbs < 10 ^ 432 := by
  obtain ⟨k, _, hk, hd, _, _, hz⟩ := h
  rw [hz, wz_abs, show (10 : Nat) ^ 432 = 1000000000 ^ 48 from by rw [show 432 = 9 * 48 from rfl, Nat.pow_mul]]
  exact Nat.lt_of_lt_of_le (vW_b hd) (Nat.pow_le_pow_right (by decide) hk)
theorem vW_one {f : Nat → Int32} : vW f 1 = dg f 0 := by
  show dg f 0 + 1000000000 * 0 = dg f 0
  omega
theorem vW_big {f : Nat → Int32} {k : Nat} (h : top0 f k) (hk : 1 < k) : ¬ vW f k = 1 := fun q => by
  have h1 := hv_top (B := 1000000000) (by omega) (h (by omega))
  have h2 := Nat.pow_le_pow_right (show 0 < 1000000000 by decide) (show 1 ≤ k - 1 by omega)
  have h3 : 1000000000 ^ (k - 1) ≤ vW f k := h1
  omega
theorem sgo_n {z : Int} (h : z < 0) : sgo z = 1 := if_pos h
theorem sgo_p {z : Int} (h : ¬ z < 0) : sgo z = 0 := if_neg h
