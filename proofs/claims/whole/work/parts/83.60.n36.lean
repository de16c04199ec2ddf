/-! The room of the leaves' denominators: least common multiples of rows and weight. -/
/-- how many sizes from v on there can be with a sum of at most s -/
def kmx : Nat → Nat → Nat → Nat
  | 0, _, _ => 0
  | F + 1, v, s => if s < v then 0 else kmx F (v + 1) (s - v) + 1
def lch (w : Nat) : Nat → Nat → Nat → Nat → Bool
  | 0, _, _, acc => Nat.ble acc 111767455800
  | f + 1, v, s, acc => cond (Nat.ble (acc * (s + w) ^ kmx 49 v s) 111767455800) true (cond (lch w f (v + 1) s acc) (lch w f (v + 1) (s - v) (Nat.lcm acc (v + w))) false)
theorem lch_ok : ∀ w, w < 21 → lch w 48 1 48 1 = true := by decide +kernel
/-- over the sizes from 1 to v that p has: the least common multiple with the weight, and the sum -/
def lcn (w : Nat) (p : Nat → Bool) : Nat → Nat
  | 0 => 1
  | v + 1 => if p (v + 1) = true then Nat.lcm (lcn w p v) (v + 1 + w) else lcn w p v
def smn (p : Nat → Bool) : Nat → Nat
  | 0 => 0
  | v + 1 => smn p v + if p (v + 1) = true then v + 1 else 0
theorem smn_mono {p : Nat → Bool} {u : Nat} : ∀ j, smn p u ≤ smn p (u + j)
  | 0 => Nat.le_refl _
  | j + 1 => Nat.le_trans (smn_mono j) (Nat.le_add_right _ _)
theorem kmx_s : ∀ F v s, kmx F v s ≤ kmx F v (s + 1)
  | 0, _, _ => Nat.le_refl _
  | F + 1, v, s => by
    show (if s < v then 0 else kmx F (v + 1) (s - v) + 1) ≤ (if s + 1 < v then 0 else kmx F (v + 1) (s + 1 - v) + 1)
    by_cases h : s < v
    · rw [if_pos h]; exact Nat.zero_le _
    · rw [if_neg h, if_neg (show ¬ s + 1 < v by omega), show s + 1 - v = (s - v) + 1 by omega]
      exact Nat.succ_le_succ (kmx_s F (v + 1) (s - v))
theorem kmx_v : ∀ F v s, kmx F (v + 1) s ≤ kmx F v s
  | 0, _, _ => Nat.le_refl _
  | F + 1, v, s => by
    show (if s < v + 1 then 0 else kmx F (v + 1 + 1) (s - (v + 1)) + 1) ≤ (if s < v then 0 else kmx F (v + 1) (s - v) + 1)
    by_cases h : s < v + 1
    · rw [if_pos h]; exact Nat.zero_le _
    · rw [if_neg h, if_neg (show ¬ s < v by omega)]
      have h1 := kmx_v F (v + 1) (s - (v + 1))
      have h2 := kmx_s F (v + 1) (s - (v + 1))
      rw [show s - (v + 1) + 1 = s - v by omega] at h2
      omega
theorem kmx_0 {F v : Nat} (hv : 0 < v) : kmx F v 0 = 0 := by
  cases F with
  | zero => rfl
  | succ F => exact if_pos hv
theorem kmx_pp {F v s w : Nat} (hv : 0 < v) : 0 < (s + w) ^ kmx F v s := by
  rcases Nat.eq_zero_or_pos s with q | q
  · subst q; rw [kmx_0 hv, Nat.pow_zero]; decide
  · exact Nat.pow_pos (by omega)
theorem lcn_pos {w : Nat} {p : Nat → Bool} : ∀ v, 0 < lcn w p v
  | 0 => Nat.one_pos
  | v + 1 => by
    show 0 < if _ then _ else _
    split
    · exact Nat.lcm_pos (lcn_pos v) (by omega)
    · exact lcn_pos v
theorem kmx_use {w : Nat} {p : Nat → Bool} : ∀ f u s F, s < F → smn p (u + f) ≤ smn p u + s → lcn w p (u + f) ≤ lcn w p u * (s + w) ^ kmx F (u + 1) s
  | 0, u, s, F, _, _ => Nat.le_mul_of_pos_right _ (kmx_pp (by omega))
  | f + 1, u, s, 0, h, _ => absurd h (by omega)
  | f + 1, u, s, F + 1, hF, hs => by
    have e : u + (f + 1) = u + 1 + f := by omega
    rw [e] at hs ⊢
    have es : smn p (u + 1) = smn p u + if p (u + 1) = true then u + 1 else 0 := rfl
    have el : lcn w p (u + 1) = if p (u + 1) = true then Nat.lcm (lcn w p u) (u + 1 + w) else lcn w p u := rfl
    have hm := smn_mono (p := p) (u := u + 1) f
    by_cases q : p (u + 1) = true
    · rw [if_pos q] at es el
      have ih := kmx_use (w := w) (p := p) f (u + 1) (s - (u + 1)) F (by omega) (by omega)
      have ek : kmx (F + 1) (u + 1) s = kmx F (u + 1 + 1) (s - (u + 1)) + 1 := if_neg (show ¬ s < u + 1 by omega)
      rw [ek, Nat.pow_succ]
      have a1 : lcn w p (u + 1) ≤ lcn w p u * (s + w) := by
        rw [el]
        exact Nat.le_trans (Nat.le_of_dvd (Nat.mul_pos (lcn_pos u) (by omega)) (Nat.lcm_dvd_mul _ _)) (Nat.mul_le_mul_left _ (by omega))
      have a2 : (s - (u + 1) + w) ^ kmx F (u + 1 + 1) (s - (u + 1)) ≤ (s + w) ^ kmx F (u + 1 + 1) (s - (u + 1)) := Nat.pow_le_pow_left (by omega) _
      have a3 := Nat.mul_le_mul a1 a2
      rw [show lcn w p u * ((s + w) ^ kmx F (u + 1 + 1) (s - (u + 1)) * (s + w)) = lcn w p u * (s + w) * (s + w) ^ kmx F (u + 1 + 1) (s - (u + 1)) by ac_rfl]
      exact Nat.le_trans ih a3
    · rw [if_neg q] at es el
      have ih := kmx_use (w := w) (p := p) f (u + 1) s (F + 1) hF (by omega)
      rw [el] at ih
      refine Nat.le_trans ih (Nat.mul_le_mul_left _ ?_)
      rcases Nat.eq_zero_or_pos s with z | z
      · subst z; rw [kmx_0 (by omega), kmx_0 (by omega)]; exact Nat.le_refl _
      · exact Nat.pow_le_pow_right (by omega) (kmx_v _ _ _)
theorem lch_use {w : Nat} {p : Nat → Bool} : ∀ f u s acc, s < 49 → lch w f (u + 1) s acc = true → smn p (u + f) ≤ smn p u + s → acc = lcn w p u → lcn w p (u + f) ≤ 111767455800
  | 0, u, s, acc, _, h, _, ha => by
    have h : Nat.ble acc 111767455800 = true := h
    rw [Nat.add_zero, ← ha]
    exact Nat.le_of_ble_eq_true h
  | f + 1, u, s, acc, h49, h, hs, ha => by
    have h : cond (Nat.ble (acc * (s + w) ^ kmx 49 (u + 1) s) 111767455800) true (cond (lch w f (u + 1 + 1) s acc) (lch w f (u + 1 + 1) (s - (u + 1)) (Nat.lcm acc (u + 1 + w))) false) = true := h
    cases hb : Nat.ble (acc * (s + w) ^ kmx 49 (u + 1) s) 111767455800
    · rw [hb] at h
      have h : cond (lch w f (u + 1 + 1) s acc) (lch w f (u + 1 + 1) (s - (u + 1)) (Nat.lcm acc (u + 1 + w))) false = true := h
      cases h1 : lch w f (u + 1 + 1) s acc
      · rw [h1] at h; exact absurd (show false = true from h) (by decide)
      · rw [h1] at h
        have h2 : lch w f (u + 1 + 1) (s - (u + 1)) (Nat.lcm acc (u + 1 + w)) = true := h
        have e : u + (f + 1) = u + 1 + f := by omega
        rw [e] at hs ⊢
        have hm := smn_mono (p := p) (u := u + 1) f
        have es : smn p (u + 1) = smn p u + if p (u + 1) = true then u + 1 else 0 := rfl
        have el : lcn w p (u + 1) = if p (u + 1) = true then Nat.lcm (lcn w p u) (u + 1 + w) else lcn w p u := rfl
        by_cases q : p (u + 1) = true
        · rw [if_pos q] at es el
          exact lch_use f (u + 1) _ _ (by omega) h2 (by omega) (by rw [el, ha])
        · rw [if_neg q] at es el
          exact lch_use f (u + 1) _ _ h49 h1 (by omega) (by rw [el, ha])
    · have := kmx_use (w := w) (p := p) (f + 1) u s 49 h49 hs
      rw [← ha] at this
      exact Nat.le_trans this (Nat.le_of_ble_eq_true hb)
theorem lcn_le {w : Nat} {p : Nat → Bool} (hw : w ≤ 20) (hs : smn p 48 ≤ 48) : lcn w p 48 ≤ 111767455800 := by
  have := lch_use (p := p) 48 0 48 1 (by decide) (lch_ok w (by omega)) (by rw [Nat.zero_add]; show smn p 48 ≤ 0 + 48; omega) rfl
  rw [Nat.zero_add] at this
  exact this
theorem lcn_mem {w : Nat} {p : Nat → Bool} {u : Nat} (hu : p u = true) (h1 : 1 ≤ u) : ∀ v, u ≤ v → u + w ∣ lcn w p v
  | 0, h => absurd h (by omega)
  | v + 1, h => by
    show u + w ∣ if _ then _ else _
    by_cases q : u = v + 1
    · subst q
      rw [if_pos hu]
      exact Nat.dvd_lcm_right _ _
    · have ih := lcn_mem (w := w) hu h1 v (by omega)
      split
      · exact Nat.dvd_trans ih (Nat.dvd_lcm_left _ _)
      · exact ih
theorem lcn_mono {w : Nat} {p p' : Nat → Bool} (h : ∀ v, p v = true → p' v = true) : ∀ v, lcn w p v ∣ lcn w p' v
  | 0 => Nat.dvd_refl _
  | v + 1 => by
    show (if p (v + 1) = true then Nat.lcm (lcn w p v) (v + 1 + w) else lcn w p v) ∣ (if p' (v + 1) = true then Nat.lcm (lcn w p' v) (v + 1 + w) else lcn w p' v)
    have ih := lcn_mono (w := w) h v
    by_cases q : p (v + 1) = true
    · rw [if_pos q, if_pos (h _ q)]
      exact Nat.lcm_dvd (Nat.dvd_trans ih (Nat.dvd_lcm_left _ _)) (Nat.dvd_lcm_right _ _)
    · rw [if_neg q]
      split
      · exact Nat.dvd_trans ih (Nat.dvd_lcm_left _ _)
      · exact ih
theorem smn_or {p : Nat → Bool} {c : Nat} : ∀ V, smn (fun v => p v || decide (c = v)) V ≤ smn p V + if c ≤ V then c else 0
  | 0 => Nat.zero_le _
  | V + 1 => by
    have ih := smn_or (p := p) (c := c) V
    show smn (fun v => p v || decide (c = v)) V + (if (p (V + 1) || decide (c = V + 1)) = true then V + 1 else 0) ≤ smn p V + (if p (V + 1) = true then V + 1 else 0) + if c ≤ V + 1 then c else 0
    by_cases q : c = V + 1
    · rw [if_neg (show ¬ c ≤ V by omega)] at ih
      rw [if_pos (show c ≤ V + 1 by omega)]
      split <;> split <;> omega
    · have e : decide (c = V + 1) = false := decide_eq_false q
      rw [e, Bool.or_false]
      by_cases r : c ≤ V
      · rw [if_pos r] at ih; rw [if_pos (show c ≤ V + 1 by omega)]; omega
      · rw [if_neg r] at ih; rw [if_neg (show ¬ c ≤ V + 1 by omega)]; omega
theorem smn_cg {p p' : Nat → Bool} (h : ∀ v, p v = p' v) : ∀ V, smn p V = smn p' V
  | 0 => rfl
  | V + 1 => by
    show smn p V + _ = smn p' V + _
    rw [smn_cg h V, h]
/-! All trees, as both sides keep them: arrays of nodes, how many nodes, their sums, the plan's weight and rate. -/
abbrev TFR : Type := (Nat → Nat → Int32) × (Nat → Nat) × (Nat → Nat → Int) × (Nat → Nat) × (Nat → Nat) × (Nat → Nat)
abbrev tA (F : TFR) : Nat → Nat → Int32 := F.1
abbrev tM (F : TFR) : Nat → Nat := F.2.1
abbrev tS (F : TFR) : Nat → Nat → Int := F.2.2.1
abbrev tW (F : TFR) : Nat → Nat := F.2.2.2.1
abbrev tU (F : TFR) : Nat → Nat := F.2.2.2.2.1
abbrev tL (F : TFR) : Nat → Nat := F.2.2.2.2.2
/-- a node's rows; what its sum is divided by; what that needs; the tree's scale; the scales' product; a leaf's value -/
def nR (F : TFR) (t k : Nat) : Nat := dg (tA F 5) (31 * t + k)
def unr (F : TFR) (t k : Nat) : Nat := tL F t * (nR F t k + tW F t)
def ndd (F : TFR) (t k : Nat) : Nat := unr F t k / Nat.gcd (unr F t k) (tU F t * (tS F t k).natAbs)
def scl (F : TFR) (t : Nat) : Nat → Nat
  | 0 => 1
  | k + 1 => if tA F 0 (31 * t + k) = -1 then Nat.lcm (scl F t k) (ndd F t k) else scl F t k
def sca (F : TFR) (t : Nat) : Nat := scl F t (tM F t)
def Ppf (F : TFR) : Nat → Nat
  | 0 => 1
  | t + 1 => Ppf F t * sca F t
def lvf (F : TFR) (t k : Nat) : Int := tS F t k * ((tU F t * sca F t : Nat) : Int) / (unr F t k : Int)
/-- the rows of the first k nodes' leaves; the sizes that leaves have -/
def lfs (F : TFR) (t : Nat) : Nat → Nat
  | 0 => 0
  | k + 1 => lfs F t k + if tA F 0 (31 * t + k) = -1 then nR F t k else 0
def inl (F : TFR) (t : Nat) : Nat → Nat → Bool
  | 0, _ => false
  | k + 1, v => inl F t k v || (decide (tA F 0 (31 * t + k) = -1) && decide (nR F t k = v))
theorem smn_inl {F : TFR} {t : Nat} : ∀ k, smn (inl F t k) 48 ≤ lfs F t k
  | 0 => by
    have : ∀ V, smn (inl F t 0) V = 0 := fun V => by
      induction V with
      | zero => rfl
      | succ V ih => show smn (inl F t 0) V + 0 = 0; omega
    rw [this]; exact Nat.zero_le _
  | k + 1 => by
    have ih := smn_inl (F := F) (t := t) k
    show _ ≤ lfs F t k + _
    by_cases q : tA F 0 (31 * t + k) = -1
    · rw [if_pos q]
      have e := smn_cg (p := inl F t (k + 1)) (p' := fun v => inl F t k v || decide (nR F t k = v)) (fun v => by show (_ || (_ && _)) = _; rw [decide_eq_true q, Bool.true_and]) 48
      have := smn_or (p := inl F t k) (c := nR F t k) 48
      rw [e]
      split at this <;> omega
    · rw [if_neg q]
      have e := smn_cg (p := inl F t (k + 1)) (p' := inl F t k) (fun v => by show (_ || (_ && _)) = _; rw [decide_eq_false q, Bool.false_and, Bool.or_false]) 48
      rw [e]; exact ih
theorem ndd_dvd {F : TFR} {t k : Nat} : ndd F t k ∣ unr F t k := Nat.div_dvd_of_dvd (Nat.gcd_dvd_left _ _)
theorem ndd_pos {F : TFR} {t k : Nat} (h : 0 < unr F t k) : 0 < ndd F t k := Nat.div_pos (Nat.le_of_dvd h (Nat.gcd_dvd_left _ _)) (Nat.gcd_pos_of_pos_left _ h)
theorem scl_pos {F : TFR} {t : Nat} : ∀ {k : Nat}, (∀ j, j < k → 0 < unr F t j) → 0 < scl F t k
  | 0, _ => by show 0 < 1; decide
  | k + 1, h => by
    show 0 < if _ then _ else _
    have ih := scl_pos (F := F) (t := t) (k := k) (fun j hj => h j (by omega))
    split
    · exact Nat.lcm_pos ih (ndd_pos (h k (by omega)))
    · exact ih
theorem scl_mem {F : TFR} {t j : Nat} (hj : tA F 0 (31 * t + j) = -1) : ∀ k, j < k → ndd F t j ∣ scl F t k
  | 0, h => absurd h (by omega)
  | k + 1, h => by
    show ndd F t j ∣ if _ then _ else _
    by_cases q : j = k
    · subst q; rw [if_pos hj]; exact Nat.dvd_lcm_right _ _
    · have ih := scl_mem (F := F) (t := t) hj k (by omega)
      split
      · exact Nat.dvd_trans ih (Nat.dvd_lcm_left _ _)
      · exact ih
theorem scl_dvd {F : TFR} {t : Nat} : ∀ {k : Nat}, (∀ j, j < k → 1 ≤ nR F t j ∧ nR F t j ≤ 48) → scl F t k ∣ tL F t * lcn (tW F t) (inl F t k) 48
  | 0, _ => Nat.one_dvd _
  | k + 1, h => by
    have ih := scl_dvd (F := F) (t := t) (k := k) (fun j hj => h j (by omega))
    have mono : lcn (tW F t) (inl F t k) 48 ∣ lcn (tW F t) (inl F t (k + 1)) 48 := lcn_mono (fun v hv => by show (_ || _) = true; rw [hv]; rfl) 48
    have ih2 := Nat.dvd_trans ih (Nat.mul_dvd_mul_left (tL F t) mono)
    show (if _ then _ else _) ∣ _
    by_cases q : tA F 0 (31 * t + k) = -1
    · rw [if_pos q]
      refine Nat.lcm_dvd ih2 (Nat.dvd_trans ndd_dvd (Nat.mul_dvd_mul_left _ (lcn_mem ?_ (h k (by omega)).1 48 (h k (by omega)).2)))
      show (_ || (_ && _)) = true
      rw [decide_eq_true q, decide_eq_true rfl]; simp
    · rw [if_neg q]; exact ih2
theorem lvf_v {F : TFR} {t k : Nat} (hk : k < tM F t) (hl : tA F 0 (31 * t + k) = -1) : lvf F t k * (unr F t k : Int) = tS F t k * ((tU F t * sca F t : Nat) : Int) := by
  unfold lvf
  apply Int.ediv_mul_cancel
  apply Int.natAbs_dvd_natAbs.mp
  rw [Int.natAbs_natCast, Int.natAbs_mul, Int.natAbs_natCast]
  obtain ⟨q, hq⟩ := scl_mem (F := F) (t := t) hl (tM F t) hk
  have hg := Nat.gcd_dvd_left (unr F t k) (tU F t * (tS F t k).natAbs)
  obtain ⟨r, hr⟩ := Nat.gcd_dvd_right (unr F t k) (tU F t * (tS F t k).natAbs)
  have e1 : unr F t k = ndd F t k * Nat.gcd (unr F t k) (tU F t * (tS F t k).natAbs) := (Nat.div_mul_cancel hg).symm
  refine ⟨q * r, ?_⟩
  have e2 : (tS F t k).natAbs * (tU F t * sca F t) = tU F t * (tS F t k).natAbs * sca F t := by ac_rfl
  have e3 : sca F t = ndd F t k * q := hq
  rw [e2, hr, e3]
  calc Nat.gcd (unr F t k) (tU F t * (tS F t k).natAbs) * r * (ndd F t k * q) = ndd F t k * Nat.gcd (unr F t k) (tU F t * (tS F t k).natAbs) * (q * r) := by ac_rfl
    _ = unr F t k * (q * r) := by rw [← e1]
