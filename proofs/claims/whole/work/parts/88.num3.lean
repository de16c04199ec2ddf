/-! The reference's numbers: limbs of 28 bits in an array of 302 places, their count at 300, the sign at 301. -/
abbrev vM (f : Nat → Int32) (k : Nat) : Nat := hv 268435456 (dg f) 0 k
def MN (f : Nat → Int32) (z : Int) : Prop := ∃ k : Nat, f 300 = nI k ∧ k ≤ 300 ∧ dok 268435456 f k ∧ top0 f k ∧ f 301 = sg z ∧ z.natAbs = vM f k
theorem vM_pos {f : Nat → Int32} {k : Nat} (h : top0 f k) (hk : 0 < k) : 0 < vM f k := Nat.lt_of_lt_of_le (Nat.pow_pos (by decide)) (hv_top hk (h hk))
theorem vM_b {f : Nat → Int32} {K : Nat} (hd : dok 268435456 f K) : vM f K < 268435456 ^ K := hv_lt (fun j _ hj => (hd j (by omega)).2)
theorem M_le {f : Nat → Int32} {K R : Nat} (ht : top0 f K) (h : vM f K < 268435456 ^ R) : K ≤ R := by
  rcases Nat.lt_or_ge R K with q | q
  · have h2 : 268435456 ^ (K - 1) ≤ vM f K := hv_top (by omega) (ht (by omega))
    have h3 : 268435456 ^ R ≤ 268435456 ^ (K - 1) := Nat.pow_le_pow_right (by decide) (by omega)
    omega
  · exact q
theorem dg_cg {f g : Nat → Int32} {j : Nat} (h : f j = g j) : dg f j = dg g j := by
  unfold dg
  rw [h]
/-- behind trim -/
theorem mn_trim {f f1 : Nat → Int32} {k k0 : Nat} {z : Int} (hk0 : k0 ≤ 300) (hd : dok 268435456 f k0) (hp : k ≤ k0 ∧ top0 f k ∧ vM f k = vM f k0 ∧ f1 300 = nI k ∧ f1 301 = (if k = 0 then 0 else f 301) ∧ ∀ j, j < 300 → f1 j = f j) (hv : z.natAbs = vM f k0) (hs : z ≠ 0 → f 301 = sg z) : MN f1 z := by
  obtain ⟨h1, h2, h3, h4, h5, h6⟩ := hp
  have e : ∀ j, j < 300 → dg f1 j = dg f j := fun j hj => dg_cg (h6 j hj)
  refine ⟨k, h4, by omega, fun j hj => ?_, fun hk => ?_, ?_, ?_⟩
  · rw [e j (by omega), h6 j (by omega)]
    exact hd j (by omega)
  · rw [e _ (by omega)]
    exact h2 hk
  · rw [h5]
    by_cases q : k = 0
    · subst q
      rw [if_pos rfl, sgZ]
      rw [← h3] at hv
      exact Int.natAbs_eq_zero.mp hv
    · rw [if_neg q]
      refine hs (fun r => ?_)
      subst r
      have := vM_pos h2 (by omega)
      rw [h3, ← hv] at this
      exact absurd this (by decide)
  · rw [hv, ← h3]
    exact hv_congr (fun j _ hj => (e j (by omega)).symm)
theorem mul_s {B V S w m ca pj e : Nat} (h : e + pj * ca = V * m) (hS : S = w * m + ca) : (e + pj * (S % B)) + pj * B * (S / B) = (V + pj * w) * m := by
  have h1 := Nat.div_add_mod S B
  have h2 : pj * (S % B) + pj * B * (S / B) = pj * S := by
    rw [Nat.mul_assoc, ← Nat.mul_add, Nat.add_comm, h1]
  have h3 : pj * S = pj * w * m + pj * ca := by rw [hS, Nat.mul_add, Nat.mul_assoc]
  rw [Nat.add_mul, ← h]
  omega
theorem car_s {B S pj e : Nat} : (e + pj * (S % B)) + pj * B * (S / B) = e + pj * S := by
  have h1 := Nat.div_add_mod S B
  have h2 : pj * (S % B) + pj * B * (S / B) = pj * S := by
    rw [Nat.mul_assoc, ← Nat.mul_add, Nat.add_comm, h1]
  omega
theorem sg_mul {z : Int} {m : Nat} (hm : 0 < m) : sg (z * m) = sg z := by
  rcases (show z < 0 ∨ z = 0 ∨ 0 < z by omega) with h | h | h
  · rw [sgN h, sgN (Int.mul_neg_of_neg_of_pos h (by omega))]
  · rw [sgZ h, sgZ (by rw [h, Int.zero_mul])]
  · rw [sgP h, sgP (Int.mul_pos h (by omega))]
theorem msk {a : Nat} (ha : a < 2 ^ 63) : lN a &&& 268435455 = lN (a % 268435456) := g_mask (a := a) (s := 28) (p := 268435456) (by decide) (by decide) (by omega)
theorem msh {a : Nat} (ha : a < 2 ^ 62) : lN a >>> ((28 : Int32).toInt64 &&& 63) = lN (a / 268435456) := pf_shr (a := a) (d := 28) (by decide) ha
theorem mor {r w : Nat} (hr : r < 2 ^ 31) (hw : w < 268435456) : (lN r <<< ((28 : Int32).toInt64 &&& 63)) ||| lN w = lN (r * 268435456 + w) := by
  rw [g_shl (a := r) (k := 28) (p := 268435456) (by decide) (by decide) (by decide) (by omega)]
  exact g_or (k := 28) (by decide) hw (by omega)
theorem lc_le {a : Nat} (h : a < 2 ^ 63) : lg_cmp (lN a) 0 ≤ 0 ↔ a = 0 := by
  rw [lg_cmp_le]
  exact (pk_lLE (b := 0) h (by decide)).trans (by omega)
theorem sg_tdiv {z : Int} {d : Nat} (h : z.tdiv d ≠ 0) : sg (z.tdiv d) = sg z := by
  have e := Int.natAbs_tdiv z d
  rcases (show z < 0 ∨ z = 0 ∨ 0 < z by omega) with q | q | q
  · have h1 : z.tdiv d ≤ 0 := by
      rw [show z = -((z.natAbs : Int)) by omega, Int.neg_tdiv, ← Int.ofNat_tdiv]
      omega
    rw [sgN q, sgN (by omega)]
  · rw [q, Int.zero_tdiv] at h
    exact absurd rfl h
  · have h1 : 0 ≤ z.tdiv d := by
      rw [show z = (z.natAbs : Int) by omega, ← Int.ofNat_tdiv]
      omega
    rw [sgP q, sgP (by omega)]
