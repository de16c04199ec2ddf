/-! Numbers by digits. hv B d i k: the number of the k digits of d from place i on, the lowest first, to the base B. -/
def hv (B : Nat) (d : Nat → Nat) : Nat → Nat → Nat
  | _, 0 => 0
  | i, k + 1 => d i + B * hv B d (i + 1) k
theorem hv_0 (B : Nat) (d : Nat → Nat) (i : Nat) : hv B d i 0 = 0 := rfl
theorem hv_s (B : Nat) (d : Nat → Nat) (i k : Nat) : hv B d i (k + 1) = d i + B * hv B d (i + 1) k := rfl
theorem hv_snoc (B : Nat) (d : Nat → Nat) : ∀ k i, hv B d i (k + 1) = hv B d i k + B ^ k * d (i + k)
  | 0, i => by simp [hv]
  | k + 1, i => by
    rw [hv_s, hv_snoc B d k (i + 1), hv_s B d i k, Nat.mul_add, Nat.pow_succ, Nat.add_assoc, ← Nat.mul_assoc, Nat.mul_comm (B ^ k) B, Nat.add_right_comm i 1 k]
    rfl
theorem hv_congr {B : Nat} {d d' : Nat → Nat} : ∀ {k i : Nat}, (∀ j, i ≤ j → j < i + k → d j = d' j) → hv B d i k = hv B d' i k
  | 0, _, _ => rfl
  | k + 1, i, h => by rw [hv_s, hv_s, h i (Nat.le_refl _) (by omega), hv_congr (k := k) (i := i + 1) (fun j h1 h2 => h j (by omega) (by omega))]
theorem hv_lt {B : Nat} {d : Nat → Nat} : ∀ {k i : Nat}, (∀ j, i ≤ j → j < i + k → d j < B) → hv B d i k < B ^ k
  | 0, _, _ => by simp [hv]
  | k + 1, i, h => by
    have h1 := h i (Nat.le_refl _) (by omega)
    have h2 := hv_lt (k := k) (i := i + 1) (fun j h1 h2 => h j (by omega) (by omega))
    have h3 : B * (hv B d (i + 1) k + 1) ≤ B * B ^ k := Nat.mul_le_mul_left B h2
    rw [hv_s, Nat.pow_succ, Nat.mul_comm (B ^ k) B]
    rw [Nat.mul_add] at h3
    omega
theorem hv_split (B : Nat) (d : Nat → Nat) (b : Nat) : ∀ a i, hv B d i (a + b) = hv B d i a + B ^ a * hv B d (i + a) b
  | 0, i => by simp [hv]
  | a + 1, i => by
    rw [Nat.add_right_comm, hv_s, hv_split B d b a (i + 1), hv_s B d i a, Nat.mul_add, Nat.pow_succ, Nat.add_assoc, ← Nat.mul_assoc, Nat.mul_comm (B ^ a) B, Nat.add_right_comm i 1 a]
    rfl
theorem hv_zero {B : Nat} {d : Nat → Nat} : ∀ {k i : Nat}, (∀ j, i ≤ j → j < i + k → d j = 0) → hv B d i k = 0
  | 0, _, _ => rfl
  | k + 1, i, h => by rw [hv_s, h i (Nat.le_refl _) (by omega), hv_zero (k := k) (i := i + 1) (fun j h1 h2 => h j (by omega) (by omega)), Nat.mul_zero]
/-- digits above k are as if they were 0 -/
def ct (k : Nat) (d : Nat → Nat) : Nat → Nat := fun j => if j < k then d j else 0
theorem ct_lt {k j : Nat} {d : Nat → Nat} (h : j < k) : ct k d j = d j := if_pos h
theorem ct_ge {k j : Nat} {d : Nat → Nat} (h : k ≤ j) : ct k d j = 0 := if_neg (by omega)
theorem hv_ct {B k j : Nat} {d : Nat → Nat} (h : k ≤ j) : hv B (ct k d) 0 j = hv B d 0 k := by
  obtain ⟨b, rfl⟩ : ∃ b, j = k + b := ⟨j - k, by omega⟩
  rw [hv_split, hv_zero (i := 0 + k) (k := b) (fun j h1 h2 => ct_ge (by omega)), Nat.mul_zero, Nat.add_zero]
  exact hv_congr (fun j h1 h2 => ct_lt (by omega))
theorem hv_top {B : Nat} {d : Nat → Nat} {k : Nat} (hk : 0 < k) (h : d (k - 1) ≠ 0) : B ^ (k - 1) ≤ hv B d 0 k := by
  obtain ⟨n, rfl⟩ : ∃ n, k = n + 1 := ⟨k - 1, by omega⟩
  rw [hv_snoc, Nat.zero_add]
  rw [Nat.add_sub_cancel] at h ⊢
  have := Nat.mul_le_mul_left (B ^ n) (show 1 ≤ d n by omega)
  omega
/-- the digits of an int array -/
def dg (f : Nat → Int32) (j : Nat) : Nat := (f j).toNatClampNeg
theorem dg_nI {f : Nat → Int32} {j v : Nat} (h : f j = nI v) (hv : v < 2 ^ 31) : dg f j = v := by
  unfold dg
  rw [h, nI_clamp hv]
theorem dg_us {f : Nat → Int32} {j v : Nat} (hv : v < 2 ^ 31) : dg (upd f j (nI v)) j = v := dg_nI pk_us hv
theorem dg_un {f : Nat → Int32} {j k : Nat} {x : Int32} (h : j ≠ k) : dg (upd f k x) j = dg f j := by
  unfold dg
  rw [pk_un h]
/-- the first k places hold digits to the base B -/
def dok (B : Nat) (f : Nat → Int32) (k : Nat) : Prop := ∀ j, j < k → f j = nI (dg f j) ∧ dg f j < B
theorem dok_s {B : Nat} {f : Nat → Int32} {k v : Nat} (h : dok B f k) (hv : v < B) (hB : B < 2 ^ 31) : dok B (upd f k (nI v)) (k + 1) := by
  intro j hj
  by_cases q : j = k
  · subst q
    rw [pk_us, dg_us (by omega)]
    exact ⟨rfl, hv⟩
  · rw [pk_un q, dg_un q]
    exact h j (by omega)
theorem dok_le {B : Nat} {f : Nat → Int32} {k k' : Nat} (h : dok B f k) (hk : k' ≤ k) : dok B f k' := fun j hj => h j (by omega)
theorem hv_us {B : Nat} {f : Nat → Int32} {k v : Nat} (hv2 : v < 2 ^ 31) : hv B (dg (upd f k (nI v))) 0 (k + 1) = hv B (dg f) 0 k + B ^ k * v := by
  rw [hv_snoc, Nat.zero_add, dg_us hv2]
  congr 1
  exact hv_congr (fun j h1 h2 => dg_un (by omega))
theorem dg_ne {B : Nat} {f : Nat → Int32} {k j : Nat} (h : dok B f k) (hj : j < k) (hn : ¬ f j = 0) : dg f j ≠ 0 := fun q => hn (by rw [(h j hj).1, q]; rfl)
theorem dg_eq0 {f : Nat → Int32} {j : Nat} (hn : f j = 0) : dg f j = 0 := by
  unfold dg
  rw [hn]
  rfl
/-- trimmed: the highest digit isn't 0 -/
def top0 (f : Nat → Int32) (k : Nat) : Prop := 0 < k → dg f (k - 1) ≠ 0
/-- a number of the class: sign and words of nine digits -/
def wz (b : Int32) (v : Nat) : Int := if b = 0 then (v : Int) else -(v : Int)
abbrev vW (f : Nat → Int32) (k : Nat) : Nat := hv 1000000000 (dg f) 0 k
def WN (R : Nat) (n b : Int32) (f : Nat → Int32) (z : Int) : Prop := ∃ k : Nat, n = nI k ∧ k ≤ R ∧ dok 1000000000 f k ∧ top0 f k ∧ (b = 0 ∨ b = 1) ∧ z = wz b (vW f k)
theorem wz_abs {b : Int32} {v : Nat} : (wz b v).natAbs = v := by
  unfold wz
  split <;> omega
theorem wz_mul {b : Int32} {v F : Nat} : wz b (v * F) = wz b v * (F : Int) := by
  unfold wz
  split
  · rw [Int.natCast_mul]
  · rw [Int.natCast_mul, Int.neg_mul]
theorem bz01 {b : Int32} (h : b = 0 ∨ b = 1) : narrow .boolean (.int b) = .int b ∧ fits .boolean (.int b) = true := by
  rcases h with rfl | rfl
  · exact ⟨rfl, rfl⟩
  · exact ⟨rfl, rfl⟩
theorem mulb {a b A B : Nat} (ha : a < A) (hb : b < B) : a * b ≤ (A - 1) * (B - 1) := Nat.mul_le_mul (by omega) (by omega)
theorem hv_dec {B : Nat} {d : Nat → Nat} {k : Nat} (hk : 0 < k) (h : d (k - 1) = 0) : hv B d 0 (k - 1) = hv B d 0 k := by
  obtain ⟨n, rfl⟩ : ∃ n, k = n + 1 := ⟨k - 1, by omega⟩
  rw [Nat.add_sub_cancel] at h ⊢
  rw [hv_snoc, Nat.zero_add, h, Nat.mul_zero, Nat.add_zero]
theorem wn_trim {R k k0 : Nat} {b : Int32} {f : Nat → Int32} (hk0 : k0 ≤ R) (hd : dok 1000000000 f k0) (hb : b = 0 ∨ b = 1) (hp : k ≤ k0 ∧ top0 f k ∧ vW f k = vW f k0) : WN R (nI k) b f (wz b (vW f k0)) :=
  ⟨k, rfl, by omega, dok_le hd hp.1, hp.2.1, hb, by rw [hp.2.2]⟩
theorem x_neg {x : Int32} (h : x < 0) (hb : -1000000000 < x.toInt) : ∃ j : Nat, j < 1000000000 ∧ -x = nI j ∧ x.toInt = -(j : Int) := by
  have h0 : x.toInt < 0 := Int32.lt_iff_toInt_lt.mp h
  refine ⟨(-x.toInt).toNat, by omega, ?_, by omega⟩
  apply Int32.toInt_inj.mp
  rw [nI_toInt (by omega), Int32.toInt_neg]
  have : ((-x.toInt).toNat : Int) = -x.toInt := by omega
  rw [this]
  exact Int.bmod_eq_of_le (by omega) (by omega)
theorem x_pos {x : Int32} (h : ¬ x < 0) (hb : x.toInt < 1000000000) : ∃ j : Nat, j < 1000000000 ∧ x = nI j ∧ x.toInt = (j : Int) := by
  obtain ⟨j, hj, rfl⟩ := nI_of h
  rw [nI_toInt hj] at hb
  exact ⟨j, by omega, rfl, nI_toInt hj⟩
theorem dok_1 {B v : Nat} {f : Nat → Int32} (hv : v < B) (hB : B < 2 ^ 31) : dok B (upd f 0 (nI v)) 1 := dok_s (k := 0) (fun j hj => absurd hj (by omega)) hv hB
theorem vW_1 {v : Nat} {f : Nat → Int32} (h : v < 2 ^ 31) : vW (upd f 0 (nI v)) 1 = v := by
  show hv _ _ _ (0 + 1) = _
  rw [hv_us h, hv_0]
  simp
/-- the sign of a number, as an int -/
def sg (z : Int) : Int32 := if z = 0 then 0 else if z < 0 then -1 else 1
theorem vW_pos {f : Nat → Int32} {k : Nat} (h : top0 f k) (hk : 0 < k) : 0 < vW f k := Nat.lt_of_lt_of_le (Nat.pow_pos (by decide)) (hv_top hk (h hk))
/-- the rest's step: one digit lower -/
theorem hv_dn {B : Nat} {d : Nat → Nat} {k K : Nat} (h0 : 0 < k) (hk : k ≤ K) : hv B d (k - 1) (K - (k - 1)) = d (k - 1) + B * hv B d k (K - k) := by
  obtain ⟨n, rfl⟩ : ∃ n, k = n + 1 := ⟨k - 1, by omega⟩
  rw [Nat.add_sub_cancel, show K - n = (K - (n + 1)) + 1 by omega, hv_s]
theorem rest_s {B d r w X : Nat} (h : r = X % d) : (r * B + w) % d = (w + B * X) % d := by
  subst h
  rw [Nat.add_comm w, Nat.mul_comm B X, Nat.add_mod, Nat.mul_mod, Nat.mod_mod, ← Nat.mul_mod, ← Nat.add_mod]
theorem div_s {B d r w q r' X Q : Nat} (h : X = d * Q + r) (hq : q = (r * B + w) / d) (hr : r' = (r * B + w) % d) : w + B * X = d * (q + B * Q) + r' := by
  have h1 := Nat.div_add_mod (r * B + w) d
  rw [← hq, ← hr] at h1
  rw [h, Nat.mul_add, Nat.mul_add, Nat.mul_left_comm d B Q, Nat.mul_comm B r]
  omega
theorem div_lt {B d r w : Nat} (hr : r < d) (hw : w < B) : (r * B + w) / d < B := by
  have h : r * B + w < d * B := by
    have := Nat.mul_le_mul_right B (show r + 1 ≤ d by omega)
    rw [Nat.add_mul] at this
    omega
  exact Nat.div_lt_of_lt_mul h
theorem wz_tdiv {b : Int32} {v d : Nat} : wz b (v / d) = (wz b v).tdiv (d : Int) := by
  unfold wz
  split
  · rw [← Int.ofNat_tdiv]
  · rw [Int.neg_tdiv, ← Int.ofNat_tdiv]
theorem vW_uq {V d V' r : Nat} (h : V = d * V' + r) (hr : r < d) : V' = V / d := by
  rw [h, Nat.mul_add_div (by omega), Nat.div_eq_of_lt hr, Nat.add_zero]
/-- what the division's loop keeps above k -/
def dab (B : Nat) (g : Nat → Int32) (k K : Nat) : Prop := ∀ m, k ≤ m → m < K → g m = nI (dg g m) ∧ dg g m < B
theorem dab_s {B k K v : Nat} {g : Nat → Int32} (h0 : 0 < k) (h : dab B g k K) (hv : v < B) (hB : B < 2 ^ 31) : dab B (upd g (k - 1) (nI v)) (k - 1) K := by
  intro m h1 h2
  by_cases q : m = k - 1
  · subst q
    rw [pk_us, dg_us (by omega)]
    exact ⟨rfl, hv⟩
  · rw [pk_un q, dg_un q]
    exact h m (by omega) h2
theorem dab_dok {B K : Nat} {g : Nat → Int32} (h : dab B g 0 K) : dok B g K := fun j hj => h j (Nat.zero_le _) hj
theorem hv_ud {B k K v : Nat} {g : Nat → Int32} (h0 : 0 < k) (hk : k ≤ K) (hv2 : v < 2 ^ 31) : hv B (dg (upd g (k - 1) (nI v))) (k - 1) (K - (k - 1)) = v + B * hv B (dg g) k (K - k) := by
  rw [hv_dn h0 hk, dg_us hv2]
  congr 2
  exact hv_congr (fun j h1 h2 => dg_un (by omega))
/-- the product's loop -/
theorem times_s {B F V S w lo hi bf ca pj e : Nat} (h : e + pj * (bf * hi + ca) = F * V) (hS : S = w * lo + bf * hi + ca) (hF : F = hi * B + lo) :
    (e + pj * (S % B)) + pj * B * (w * hi + S / B) = F * (V + pj * w) := by
  have h1 := Nat.div_add_mod S B
  have h2 : pj * (S % B) + pj * B * (S / B) = pj * S := by
    rw [Nat.mul_assoc, ← Nat.mul_add, Nat.add_comm, h1]
  have h3 : pj * S = pj * (w * lo) + pj * (bf * hi + ca) := by rw [hS, Nat.add_assoc, Nat.mul_add]
  have h4 : F * (pj * w) = pj * (w * lo) + pj * B * (w * hi) := by
    rw [hF, Nat.add_mul, Nat.add_comm]
    congr 1
    · rw [Nat.mul_left_comm, Nat.mul_comm lo w]
    · rw [Nat.mul_assoc pj B, Nat.mul_comm hi B, Nat.mul_assoc B, Nat.mul_left_comm B pj, Nat.mul_left_comm hi pj, Nat.mul_comm hi w, Nat.mul_left_comm B pj]
  rw [Nat.mul_add, Nat.mul_add F, h4, ← h]
  omega
theorem wz_1 {v : Nat} : wz 1 v = -(v : Int) := if_neg (by decide)
theorem wz_0 {v : Nat} : wz 0 v = (v : Int) := if_pos rfl
theorem sg_0 {b : Int32} : sg (wz b 0) = 0 := by
  unfold sg wz
  split <;> rfl
theorem sg_p {v : Nat} (h : 0 < v) : sg (wz 0 v) = 1 := by
  rw [wz_0]
  unfold sg
  rw [if_neg (by omega), if_neg (by omega)]
theorem sg_n {b : Int32} {v : Nat} (hb : ¬ b = 0) (h : 0 < v) : sg (wz b v) = -1 := by
  unfold sg wz
  rw [if_neg hb, if_neg (by omega), if_pos (by omega)]
