/-! fractions: raising, reducing, adding -/
theorem dnk_le {e e1 e2 : Nat → Nat} : ∀ {k : Nat}, k ≤ 19 → (∀ q, q < k → e q ≤ e1 q + e2 q) → dnk e k ≤ dnk e1 k * dnk e2 k
  | 0, _, _ => Nat.le_refl _
  | k + 1, hk, h => by
    show dnk e k * pr k ^ e k ≤ dnk e1 k * pr k ^ e1 k * (dnk e2 k * pr k ^ e2 k)
    have h1 := dnk_le (by omega : k ≤ 19) (fun q hq => h q (by omega))
    have h2 : pr k ^ e k ≤ pr k ^ (e1 k + e2 k) := Nat.pow_le_pow_right (by have := (pr_b k (by omega)).1; omega) (h k (by omega))
    rw [Nat.pow_add] at h2
    have h3 := Nat.mul_le_mul h1 h2
    rw [show dnk e1 k * pr k ^ e1 k * (dnk e2 k * pr k ^ e2 k) = dnk e1 k * dnk e2 k * (pr k ^ e1 k * pr k ^ e2 k) by ac_rfl]
    exact h3
theorem nat_eq {z1 z : Int} {L G : Nat} (h : z1 * (L : Int) = z * (G : Int)) : z1.natAbs * L = z.natAbs * G := by
  have := congrArg Int.natAbs h
  rw [Int.natAbs_mul, Int.natAbs_mul, Int.natAbs_natCast, Int.natAbs_natCast] at this
  exact this
theorem fr_le {z1 z : Int} {L G T : Nat} (h : z1 * (L : Int) = z * (G : Int)) (hL : 0 < L) (hG : G ≤ L * T) : z1.natAbs ≤ z.natAbs * T := by
  have h1 := nat_eq h
  have h2 : z.natAbs * G ≤ z.natAbs * (L * T) := Nat.mul_le_mul_left _ hG
  rw [← h1] at h2
  refine Nat.le_of_mul_le_mul_right (c := L) ?_ hL
  rw [show z.natAbs * T * L = z.natAbs * (L * T) by ac_rfl]
  exact h2
theorem rs_s {z2 z : Int} {L G p : Nat} (h : z2 * (L : Int) = z * (G : Int)) : z2 * (p : Int) * (L : Int) = z * ((G * p : Nat) : Int) := by
  rw [Int.mul_right_comm, h, Int.natCast_mul, Int.mul_assoc]
theorem rd_s {z2 z3 z : Int} {L G p : Nat} (hp : 0 < p) (h : z2 * (L : Int) = z * ((G * p : Nat) : Int)) (hz : z2 = z3 * (p : Int)) : z3 * (L : Int) = z * (G : Int) := by
  rw [hz, Int.natCast_mul, ← Int.mul_assoc, Int.mul_right_comm] at h
  exact Int.eq_of_mul_eq_mul_right (by omega) h
theorem td_ex {z : Int} {p : Nat} (h : z.natAbs % p = 0) : z = z.tdiv (p : Int) * (p : Int) := by
  have hd : (p : Int) ∣ z := Int.natAbs_dvd_natAbs.mp (by rw [Int.natAbs_natCast]; exact Nat.dvd_of_mod_eq_zero h)
  exact (Int.tdiv_mul_cancel hd).symm
/-- raised: the greater of both exponents -/
theorem max_le2 {a b : Nat} : max a b ≤ a + b := by omega
/-- a prime that doesn't divide a number doesn't divide its part -/
theorem md_part {x p r : Nat} (hp : x % p = 0) (hr : ¬ x % r = 0) : ¬ (x / p) % r = 0 := fun q => by
  apply hr
  obtain ⟨c, hc⟩ := Nat.dvd_of_mod_eq_zero q
  have h1 : x = p * (x / p) := (Nat.mul_div_cancel' (Nat.dvd_of_mod_eq_zero hp)).symm
  rw [hc] at h1
  rw [h1, Nat.mul_left_comm]
  exact Nat.mul_mod_right r _
theorem fr_add {z z2 za zb z1 : Int} {L O D G : Nat} (hD : 0 < D) (ha : za * (L : Int) = z * (D : Int)) (hb : zb * (O : Int) = z2 * (D : Int)) (h1 : z1 * (D : Int) = (za + zb) * (G : Int)) : z1 * ((L * O : Nat) : Int) = (z * (O : Int) + z2 * (L : Int)) * (G : Int) := by
  apply Int.eq_of_mul_eq_mul_right (a := (D : Int)) (by omega)
  rw [Int.natCast_mul]
  have e1 : z1 * ((L : Int) * O) * D = z1 * D * (L * O) := by ac_rfl
  have e2 : (za + zb) * (G : Int) * (L * O) = (za * L * O + zb * O * L) * G := by
    rw [Int.add_mul, Int.add_mul, Int.add_mul]
    congr 1
    · ac_rfl
    · ac_rfl
  have e3 : (z * (D : Int) * O + z2 * D * L) * G = (z * (O : Int) + z2 * (L : Int)) * (G : Int) * D := by
    rw [Int.add_mul, Int.add_mul, Int.add_mul]
    congr 1
    · ac_rfl
    · ac_rfl
  rw [e1, h1, e2, ha, hb, e3]
theorem fr_sub {z z2 za zb z1 : Int} {L O D G : Nat} (hD : 0 < D) (ha : za * (L : Int) = z * (D : Int)) (hb : zb * (O : Int) = z2 * (D : Int)) (h1 : z1 * (D : Int) = (za - zb) * (G : Int)) : z1 * ((L * O : Nat) : Int) = (z * (O : Int) - z2 * (L : Int)) * (G : Int) := by
  have h := fr_add (z := z) (za := za) (z1 := z1) (G := G) (zb := -zb) (z2 := -z2) hD ha (by rw [Int.neg_mul, Int.neg_mul, hb]) (by rw [← Int.sub_eq_add_neg]; exact h1)
  rw [Int.neg_mul, ← Int.sub_eq_add_neg] at h
  exact h
/-- reduced -/
def RED (z : Int) (f : Nat → Int32) : Prop := ∀ q, q < 19 → dg f q = 0 ∨ ¬ z.natAbs % pr q = 0
theorem up_b {x p c m : Nat} (hp : 2 ≤ p) (h : x * 2 ^ c ≤ m) (hx : x % p = 0) : x / p * 2 ^ (c + 1) ≤ m := by
  have h1 : x = p * (x / p) := (Nat.mul_div_cancel' (Nat.dvd_of_mod_eq_zero hx)).symm
  have h2 : 2 * (x / p) ≤ p * (x / p) := Nat.mul_le_mul_right _ hp
  have h3 : x / p * 2 ^ (c + 1) = 2 * (x / p) * 2 ^ c := by rw [Nat.pow_succ]; ac_rfl
  rw [h3]
  exact Nat.le_trans (Nat.mul_le_mul_right _ (by omega)) h
theorem up_c {x c m : Nat} (h0 : 0 < x) (h : x * 2 ^ c ≤ m) (hm : m < 2 ^ 20) : c < 20 := by
  rcases Nat.lt_or_ge c 20 with q | q
  · exact q
  · have h1 : 2 ^ 20 ≤ 2 ^ c := Nat.pow_le_pow_right (by decide) q
    have h2 : 1 * 2 ^ c ≤ x * 2 ^ c := Nat.mul_le_mul_right _ h0
    omega
