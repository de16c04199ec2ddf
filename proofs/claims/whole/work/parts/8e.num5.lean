/-! The reference's numbers: copying, comparing, adding. -/
theorem vM_lt {f f2 : Nat → Int32} {K K2 : Nat} (hd : dok 268435456 f K) (ht : top0 f2 K2) (h : K < K2) : vM f K < vM f2 K2 := by
  have h1 := vM_b hd
  have h2 : 268435456 ^ (K2 - 1) ≤ vM f2 K2 := hv_top (by omega) (ht (by omega))
  have h3 : 268435456 ^ K ≤ 268435456 ^ (K2 - 1) := Nat.pow_le_pow_right (by decide) (by omega)
  omega
theorem mn_cpy {f g : Nat → Int32} {K : Nat} {z : Int} (h300 : f 300 = nI K) (hk : K ≤ 300) (hd : dok 268435456 f K) (ht : top0 f K) (hs : f 301 = sg z) (hva : z.natAbs = vM f K) (hg : ∀ q, q < K → g q = f q) {s : Int32} {z' : Int} (hs' : s = sg z') (hz' : z'.natAbs = z.natAbs) : MN (upd (upd g 300 (nI K)) 301 s) z' := by
  have e : ∀ j, j < K → upd (upd g 300 (nI K)) 301 s j = f j := fun j hj => (pk_un (by omega)).trans ((pk_un (by omega)).trans (hg j hj))
  have e2 : ∀ j, j < K → dg (upd (upd g 300 (nI K)) 301 s) j = dg f j := fun j hj => dg_cg (e j hj)
  refine ⟨K, (pk_un (by decide)).trans pk_us, hk, fun j hj => ?_, fun hj => ?_, pk_us.trans hs', ?_⟩
  · rw [e2 j hj, e j hj]
    exact hd j hj
  · rw [e2 _ (by omega)]
    exact ht hj
  · rw [hz', hva]
    exact hv_congr (fun j _ hj => (e2 j (by omega)).symm)
theorem mc_lt {f f2 : Nat → Int32} {K K2 k : Nat} (e : K = K2) (h0 : 0 < k) (hk : k ≤ K) (hd : dok 268435456 f K) (hd2 : dok 268435456 f2 K2) (hU : hv 268435456 (dg f) k (K - k) = hv 268435456 (dg f2) k (K - k)) (h : f (k - 1) < f2 (k - 1)) : vM f K < vM f2 K2 := by
  subst e
  obtain ⟨a1, a2⟩ := hd (k - 1) (by omega)
  obtain ⟨b1, b2⟩ := hd2 (k - 1) (by omega)
  rw [a1, b1] at h
  exact hv_cmp h0 hk (fun j hj => (hd j hj).2) hU ((nI_ltI (by omega) (by omega)).mp h)
theorem mc_s {f f2 : Nat → Int32} {K k : Nat} (h0 : 0 < k) (hk : k ≤ K) (hU : hv 268435456 (dg f) k (K - k) = hv 268435456 (dg f2) k (K - k)) (q : f (k - 1) = f2 (k - 1)) : hv 268435456 (dg f) (k - 1) (K - (k - 1)) = hv 268435456 (dg f2) (k - 1) (K - (k - 1)) := by
  rw [hv_dn h0 hk, hv_dn h0 hk, hU, dg_cg q]
theorem cn_ge {a b : Nat} : 0 ≤ cn a b ↔ b ≤ a := by
  rcases Nat.lt_trichotomy a b with h | h | h
  · rw [cn_lt h]
    constructor
    · intro q; exact absurd q (by decide)
    · intro q; omega
  · rw [cn_rf h]
    constructor
    · intro _; omega
    · intro _; decide
  · rw [cn_gt h]
    constructor
    · intro _; omega
    · intro _; decide
theorem sg_lt {x y : Int} (h : sg x < sg y) : x < y := by
  rcases (show x < 0 ∨ x = 0 ∨ 0 < x by omega) with hx | hx | hx
  · rcases (show y < 0 ∨ y = 0 ∨ 0 < y by omega) with hy | hy | hy
    · rw [sgN hx, sgN hy] at h; exact absurd h (by decide)
    · omega
    · omega
  · rcases (show y < 0 ∨ y = 0 ∨ 0 < y by omega) with hy | hy | hy
    · rw [sgZ hx, sgN hy] at h; exact absurd h (by decide)
    · rw [sgZ hx, sgZ hy] at h; exact absurd h (by decide)
    · omega
  · rcases (show y < 0 ∨ y = 0 ∨ 0 < y by omega) with hy | hy | hy
    · rw [sgP hx, sgN hy] at h; exact absurd h (by decide)
    · rw [sgP hx, sgZ hy] at h; exact absurd h (by decide)
    · rw [sgP hx, sgP hy] at h; exact absurd h (by decide)
theorem sg_ne_lt {x y : Int} (h : sg y ≤ sg x) (hn : ¬ sg x = sg y) : y < x := sg_lt (by
  rcases Int32.le_iff_lt_or_eq.mp h with q | q
  · exact q
  · exact absurd q.symm hn)
theorem cz_mul {x y : Int} (h : sg x = sg y) : sg x * cn x.natAbs y.natAbs = cz x y := by
  rcases (show x < 0 ∨ x = 0 ∨ 0 < x by omega) with hx | hx | hx
  · rcases (show y < 0 ∨ y = 0 ∨ 0 < y by omega) with hy | hy | hy
    · rw [sgN hx]
      rcases Nat.lt_trichotomy x.natAbs y.natAbs with q | q | q
      · rw [cn_lt q, cz_gt (by omega)]; decide
      · rw [cn_rf q, cz_rf (by omega)]; decide
      · rw [cn_gt q, cz_lt (by omega)]; decide
    · rw [sgN hx, sgZ hy] at h; exact absurd h (by decide)
    · rw [sgN hx, sgP hy] at h; exact absurd h (by decide)
  · rcases (show y < 0 ∨ y = 0 ∨ 0 < y by omega) with hy | hy | hy
    · rw [sgZ hx, sgN hy] at h; exact absurd h (by decide)
    · rw [sgZ hx, cn_rf (by omega), cz_rf (by omega)]; decide
    · rw [sgZ hx, sgP hy] at h; exact absurd h (by decide)
  · rcases (show y < 0 ∨ y = 0 ∨ 0 < y by omega) with hy | hy | hy
    · rw [sgP hx, sgN hy] at h; exact absurd h (by decide)
    · rw [sgP hx, sgZ hy] at h; exact absurd h (by decide)
    · rw [sgP hx]
      rcases Nat.lt_trichotomy x.natAbs y.natAbs with q | q | q
      · rw [cn_lt q, cz_lt (by omega)]; decide
      · rw [cn_rf q, cz_rf (by omega)]; decide
      · rw [cn_gt q, cz_gt (by omega)]; decide
theorem sb_ti2 {x y o : Nat} (hx : x < 2 ^ 30) (hy : y < 2 ^ 30) (ho : o ≤ 1) : (nI x - nI y - nI o).toInt = (x : Int) - y - o := by
  rw [Int32.sub_eq_add_neg, Int32.sub_eq_add_neg]
  exact sb_ti hx hy ho
theorem an_m {x : Int32} {n : Nat} {i : Int} (h : x.toInt = i) (h1 : -268435456 ≤ i) (h2 : i < 0) (hv : (n : Int) = i + 268435456) : x &&& 268435455 = nI n := by
  rw [pk_and x (m := 268435455) 28 (by decide)]
  have e : x.toInt = if 2 * x.toBitVec.toNat < 2 ^ 32 then (x.toBitVec.toNat : Int) else (x.toBitVec.toNat : Int) - (2 ^ 32 : Nat) := BitVec.toInt_eq_toNat_cond _
  rw [h] at e
  have hb := x.toBitVec.isLt
  congr 1
  split at e
  · omega
  · omega
theorem an_z {x : Int32} {n : Nat} {i : Int} (h : x.toInt = i) (h1 : 0 ≤ i) (h2 : i < 268435456) (hv : (n : Int) = i) : x &&& 268435455 = nI n := by
  have e : x = nI n := nI_ofI (by rw [h, hv]) (by omega)
  rw [e, pk_andN (by omega) (m := 268435455) 28 (by decide)]
  congr 1
  omega
theorem sg_neg {x : Int} : (-1) * sg x = sg (-x) := by
  rcases (show x < 0 ∨ x = 0 ∨ 0 < x by omega) with h | h | h
  · rw [sgN h, sgP (by omega)]; decide
  · rw [sgZ h, sgZ (by omega)]; decide
  · rw [sgP h, sgN (by omega)]; decide
theorem sg_one {x : Int} : 1 * sg x = sg x := Int32.one_mul _
theorem sg_z {x : Int} (h : sg x = 0) : x = 0 := by
  rcases (show x < 0 ∨ x = 0 ∨ 0 < x by omega) with q | q | q
  · rw [sgN q] at h; exact absurd h (by decide)
  · exact q
  · rw [sgP q] at h; exact absurd h (by decide)
/-- signs of a sum -/
theorem sg_same {x y : Int} (hy : ¬ sg y = 0) (h : sg x = sg y) : (x + y).natAbs = x.natAbs + y.natAbs ∧ sg (x + y) = sg x := by
  rcases (show y < 0 ∨ y = 0 ∨ 0 < y by omega) with q | q | q
  · rw [sgN q] at h
    have hx : x < 0 := by
      rcases (show x < 0 ∨ x = 0 ∨ 0 < x by omega) with r | r | r
      · exact r
      · rw [sgZ r] at h; exact absurd h (by decide)
      · rw [sgP r] at h; exact absurd h (by decide)
    exact ⟨by omega, by rw [sgN hx, sgN (by omega)]⟩
  · exact absurd (sgZ q) hy
  · rw [sgP q] at h
    have hx : 0 < x := by
      rcases (show x < 0 ∨ x = 0 ∨ 0 < x by omega) with r | r | r
      · rw [sgN r] at h; exact absurd h (by decide)
      · rw [sgZ r] at h; exact absurd h (by decide)
      · exact r
    exact ⟨by omega, by rw [sgP hx, sgP (by omega)]⟩
theorem sg_diff {x y : Int} (hx : ¬ sg x = 0) (hy : ¬ sg y = 0) (h : ¬ sg x = sg y) : (x + y).natAbs = (x.natAbs - y.natAbs) + (y.natAbs - x.natAbs) ∧ (x.natAbs < y.natAbs → sg y = sg (x + y)) ∧ (y.natAbs < x.natAbs → sg x = sg (x + y)) := by
  rcases (show x < 0 ∨ x = 0 ∨ 0 < x by omega) with p | p | p
  · rcases (show y < 0 ∨ y = 0 ∨ 0 < y by omega) with q | q | q
    · exact absurd (by rw [sgN p, sgN q]) h
    · exact absurd (sgZ q) hy
    · exact ⟨by omega, fun r => by rw [sgP q, sgP (by omega)], fun r => by rw [sgN p, sgN (by omega)]⟩
  · exact absurd (sgZ p) hx
  · rcases (show y < 0 ∨ y = 0 ∨ 0 < y by omega) with q | q | q
    · exact ⟨by omega, fun r => by rw [sgN q, sgN (by omega)], fun r => by rw [sgP p, sgP (by omega)]⟩
    · exact absurd (sgZ q) hy
    · exact absurd (by rw [sgP p, sgP q]) h
theorem lj_neg {x : Int64} (h : x < 0) (hb : -4611686018427387904 < x.toInt) : ∃ j : Nat, j < 4611686018427387904 ∧ -x = lN j ∧ x.toInt = -(j : Int) := by
  have h0 : x.toInt < 0 := Int64.lt_iff_toInt_lt.mp h
  refine ⟨(-x.toInt).toNat, by omega, ?_, by omega⟩
  apply Int64.toInt_inj.mp
  rw [pf_lI (by omega), Int64.toInt_neg]
  have : ((-x.toInt).toNat : Int) = -x.toInt := by omega
  rw [this]
  exact Int.bmod_eq_of_le (by omega) (by omega)
theorem lj_pos {x : Int64} (h : ¬ x < 0) (hb : x.toInt < 4611686018427387904) : ∃ j : Nat, j < 4611686018427387904 ∧ x = lN j ∧ x.toInt = (j : Int) := by
  obtain ⟨j, hj, rfl⟩ := pk_lOf h
  rw [pf_lI hj] at hb
  exact ⟨j, by omega, rfl, pf_lI hj⟩
/-! rows of numbers in one array: 130 limbs, the count, the sign -/
def sh (p : Nat) (f : Nat → Int32) : Nat → Int32 := fun j => f (p + j)
def MR (f : Nat → Int32) (p : Nat) (z : Int) : Prop := ∃ k : Nat, f (p + 130) = nI k ∧ k ≤ 130 ∧ dok 268435456 (sh p f) k ∧ top0 (sh p f) k ∧ f (p + 131) = sg z ∧ z.natAbs = vM (sh p f) k
theorem dok_cg {B : Nat} {f g : Nat → Int32} {K : Nat} (hd : dok B f K) (h : ∀ j, j < K → g j = f j) : dok B g K := fun j hj => by
  rw [dg_cg (h j hj), h j hj]
  exact hd j hj
theorem top_cg {f g : Nat → Int32} {K : Nat} (ht : top0 f K) (h : ∀ j, j < K → g j = f j) : top0 g K := fun hk => by
  rw [dg_cg (h _ (by omega))]
  exact ht hk
theorem hv_cg {B : Nat} {f g : Nat → Int32} {K : Nat} (h : ∀ j, j < K → g j = f j) : hv B (dg g) 0 K = hv B (dg f) 0 K := hv_congr (fun j _ hj => dg_cg (h j (by omega)))
theorem mr_mk {f g : Nat → Int32} {p K : Nat} {z : Int} (hk : K ≤ 130) (hd : dok 268435456 f K) (ht : top0 f K) (hva : z.natAbs = vM f K) (hg : ∀ q, q < K → g (p + q) = f q) (h1 : g (p + 130) = nI K) (h2 : g (p + 131) = sg z) : MR g p z :=
  ⟨K, h1, hk, dok_cg hd hg, top_cg ht hg, h2, by rw [hva]; exact (hv_cg (f := f) (g := sh p g) hg).symm⟩
theorem mn_mk {f g : Nat → Int32} {K : Nat} {z : Int} (hk : K ≤ 300) (hd : dok 268435456 f K) (ht : top0 f K) (hva : z.natAbs = vM f K) (hg : ∀ q, q < K → g q = f q) (h1 : g 300 = nI K) (h2 : g 301 = sg z) : MN g z :=
  ⟨K, h1, hk, dok_cg hd hg, top_cg ht hg, h2, by rw [hva]; exact (hv_cg hg).symm⟩
theorem lt_of_ne {x y : Int32} (h : y ≤ x) (hn : ¬ x = y) : y < x := by
  rcases Int32.le_iff_lt_or_eq.mp h with q | q
  · exact q
  · exact absurd q.symm hn
