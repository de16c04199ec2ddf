/-! Squares, bits. -/
theorem hv_upd {B p n v : Nat} {g : Nat → Int32} (h : p < n) (hv2 : v < 2 ^ 31) : hv B (dg (upd g p (nI v))) 0 n + B ^ p * dg g p = hv B (dg g) 0 n + B ^ p * v := by
  obtain ⟨r, rfl⟩ : ∃ r, n = p + (r + 1) := ⟨n - p - 1, by omega⟩
  have e1 : hv B (dg (upd g p (nI v))) 0 p = hv B (dg g) 0 p := hv_congr (fun j h1 h2 => dg_un (by omega))
  have e2 : hv B (dg (upd g p (nI v))) (p + 1) r = hv B (dg g) (p + 1) r := hv_congr (fun j h1 h2 => dg_un (by omega))
  rw [hv_split B (dg (upd g p (nI v))) (r + 1) p 0, hv_split B (dg g) (r + 1) p 0, Nat.zero_add, hv_s, hv_s, e1, e2, dg_us hv2, Nat.mul_add, Nat.mul_add]
  omega
theorem sq_len {f : Nat → Int32} {K R : Nat} (ht : top0 f K) (h : vW f K * vW f K < 1000000000 ^ R) : 2 * K ≤ R + 1 := by
  rcases Nat.eq_zero_or_pos K with q | q
  · omega
  · have h2 : 1000000000 ^ (K - 1) ≤ vW f K := hv_top q (ht q)
    have h3 := Nat.mul_le_mul h2 h2
    rw [← Nat.pow_add] at h3
    rcases Nat.lt_or_ge (K - 1 + (K - 1)) R with r | r
    · omega
    · have h4 : 1000000000 ^ R ≤ 1000000000 ^ (K - 1 + (K - 1)) := Nat.pow_le_pow_right (by decide) r
      omega
theorem dok_u {B : Nat} {f : Nat → Int32} {n p v : Nat} (h : dok B f n) (hv : v < B) (hB : B < 2 ^ 31) : dok B (upd f p (nI v)) n := by
  intro j hj
  by_cases q : j = p
  · subst q
    rw [pk_us, dg_us (by omega)]
    exact ⟨rfl, hv⟩
  · rw [pk_un q, dg_un q]
    exact h j hj
/-- one place of the product -/
theorem sq_s {B T T' X ai h bk wk ca S pi pk : Nat} (h1 : T + pi * pk * ca = X + pi * ai * h) (hS : S = ai * bk + wk + ca) (h2 : T' + pi * pk * wk = T + pi * pk * (S % B)) : T' + pi * pk * B * (S / B) = X + pi * ai * (h + pk * bk) := by
  have e1 := Nat.div_add_mod S B
  have e2 : pi * pk * (S % B) + pi * pk * B * (S / B) = pi * pk * S := by
    rw [Nat.mul_assoc (pi * pk) B, ← Nat.mul_add, Nat.add_comm, e1]
  have e3 : pi * pk * S = pi * ai * (pk * bk) + pi * pk * wk + pi * pk * ca := by
    rw [hS, Nat.mul_add, Nat.mul_add]
    congr 2
    rw [Nat.mul_assoc, Nat.mul_assoc]
    congr 1
    rw [Nat.mul_left_comm]
  rw [Nat.mul_add]
  omega
theorem sq_b {B ai bk wk ca S : Nat} (h1 : ai < B) (h2 : bk < B) (h3 : wk < B) (h4 : ca < B) (hS : S = ai * bk + wk + ca) : S / B < B := by
  apply Nat.div_lt_of_lt_mul
  have h5 := Nat.mul_le_mul (show ai ≤ B - 1 by omega) (show bk ≤ B - 1 by omega)
  obtain ⟨c, rfl⟩ : ∃ c, B = c + 1 := ⟨B - 1, by omega⟩
  rw [Nat.add_sub_cancel] at h5
  rw [Nat.add_mul, Nat.mul_add]
  omega
/-- how many bits a number has -/
def bl (v : Nat) : Nat := if v = 0 then 0 else Nat.log2 v + 1
theorem bl_le {v k : Nat} : bl v ≤ k ↔ v < 2 ^ k := by
  unfold bl
  by_cases h : v = 0
  · rw [if_pos h, h]
    have := Nat.pow_pos (n := k) (show 0 < 2 by decide)
    omega
  · rw [if_neg h]
    exact (Nat.log2_lt h)
theorem bl_half {v : Nat} (h : 0 < v) : bl v = bl (v / 2) + 1 := by
  have h1 : ∀ k, bl v ≤ k + 1 ↔ bl (v / 2) ≤ k := fun k => by
    rw [bl_le, bl_le, Nat.pow_succ, Nat.div_lt_iff_lt_mul (by decide)]
  have h2 : ¬ bl v ≤ 0 := fun q => by
    have := bl_le.mp q
    rw [Nat.pow_zero] at this
    omega
  have h3 := (h1 (bl (v / 2))).mpr (Nat.le_refl _)
  have h4 := (h1 (bl v - 1)).mp (by omega)
  omega
theorem bl_0 {v : Nat} : bl v = 0 ↔ v = 0 := by
  have : bl v ≤ 0 ↔ v < 2 ^ 0 := bl_le
  rw [Nat.pow_zero] at this
  omega
theorem bl_R {f : Nat → Int32} {K R : Nat} (hd : dok 1000000000 f K) (hk : K ≤ R) : bl (vW f K) ≤ R * 30 := by
  rw [bl_le, Nat.mul_comm, Nat.pow_mul]
  have h1 := vW_b hd
  have h2 : 1000000000 ^ K ≤ 1000000000 ^ R := Nat.pow_le_pow_right (by decide) hk
  have h3 : 1000000000 ^ R ≤ (2 ^ 30) ^ R := Nat.pow_le_pow_left (by decide) R
  omega
theorem wz_sq {b : Int32} {v : Nat} : wz b v * wz b v = ((v * v : Nat) : Int) := by
  unfold wz
  split
  · rw [Int.natCast_mul]
  · rw [Int.neg_mul_neg, Int.natCast_mul]
theorem hv_mono {B : Nat} {d : Nat → Nat} {i K : Nat} (h : i ≤ K) : hv B d 0 i ≤ hv B d 0 K := by
  obtain ⟨r, rfl⟩ : ∃ r, K = i + r := ⟨K - i, by omega⟩
  rw [hv_split]
  omega
theorem sq_le {i K : Nat} {f : Nat → Int32} (h : i ≤ K) : hv 1000000000 (dg f) 0 i * vW f K ≤ vW f K * vW f K := Nat.mul_le_mul_right _ (hv_mono h)
