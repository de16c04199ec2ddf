/-! The class's columns. -/
theorem i12 {v : Int32} : v < 12 ↔ v ≤ 11 := by
  rw [Int32.le_iff_toInt_le, Int32.lt_iff_toInt_lt]
  have e1 : (11 : Int32).toInt = 11 := by decide
  have e2 : (12 : Int32).toInt = 12 := by decide
  omega
theorem fit_z {v : Int32} (h : v = 0 ∨ v = 1) : fits .boolean (.int v) = true := by
  rcases h with r | r
  · rw [r]; rfl
  · rw [r]; rfl
def takB (k v : Int32) : Bool := decide (v = -2147483648) || vokB k v
theorem vok_k2 {k v : Int32} (h : ¬ k = 0) : vokB k v = decide (0 ≤ v ∧ v < 12) := by
  unfold vokB
  rw [if_neg h]
  apply decide_eq_decide.mpr
  have e : v ≤ 11 ↔ v < 12 := by
    rw [Int32.le_iff_toInt_le, Int32.lt_iff_toInt_lt]
    have e1 : (11 : Int32).toInt = 11 := by decide
    have e2 : (12 : Int32).toInt = 12 := by decide
    omega
  rw [e]
theorem tak_m {k v : Int32} (h : v = -2147483648) : 1 = bn (takB k v) := by
  unfold takB; rw [decide_eq_true h, Bool.true_or]; rfl
theorem tak_k {k v : Int32} (hv : ¬ v = -2147483648) (h : ¬ k = 0) (hk : 0 ≤ v ∧ v < 12) : 1 = bn (takB k v) := by
  unfold takB; rw [decide_eq_false hv, Bool.false_or, vok_k2 h, decide_eq_true hk]; rfl
theorem tak_kn {k v : Int32} (hv : ¬ v = -2147483648) (h : ¬ k = 0) (hk : ¬ (0 ≤ v ∧ v < 12)) : 0 = bn (takB k v) := by
  unfold takB; rw [decide_eq_false hv, Bool.false_or, vok_k2 h, decide_eq_false hk]; rfl
theorem tak_n {k v : Int32} (hv : ¬ v = -2147483648) (h : k = 0) (hk : (-1000000) ≤ v ∧ v ≤ 1000000) : 1 = bn (takB k v) := by
  unfold takB vokB; rw [decide_eq_false hv, Bool.false_or, if_pos h, decide_eq_true hk]; rfl
theorem tak_nn {k v : Int32} (hv : ¬ v = -2147483648) (h : k = 0) (hk : ¬ ((-1000000) ≤ v ∧ v ≤ 1000000)) : 0 = bn (takB k v) := by
  unfold takB vokB; rw [decide_eq_false hv, Bool.false_or, if_pos h, decide_eq_false hk]; rfl
/-- all known values of the first rows are kinds -/
def kvB (v : Int32) : Bool := decide (v = -2147483648) || decide (0 ≤ v ∧ v < 12)
def kaB (f : Nat → Int32) : Nat → Bool
  | 0 => true
  | r + 1 => kaB f r && kvB (f r)
theorem ka_0 {f : Nat → Int32} {r : Nat} (h : bn (kaB f r) = 0) : 0 = bn (kaB f (r + 1)) := by
  show 0 = bn (kaB f r && kvB (f r)); rw [bn_0.mp h, Bool.false_and]; rfl
theorem ka_1 {f : Nat → Int32} {r : Nat} (h : ¬ bn (kaB f r) = 0) (hv : f r = -2147483648) : 1 = bn (kaB f (r + 1)) := by
  show 1 = bn (kaB f r && kvB (f r))
  cases hb : kaB f r
  · exact absurd (bn_0.mpr hb) h
  · unfold kvB; rw [decide_eq_true hv]; rfl
theorem ka_2 {f : Nat → Int32} {r : Nat} (h : ¬ bn (kaB f r) = 0) (hv : 0 ≤ f r ∧ f r < 12) : 1 = bn (kaB f (r + 1)) := by
  show 1 = bn (kaB f r && kvB (f r))
  cases hb : kaB f r
  · exact absurd (bn_0.mpr hb) h
  · unfold kvB; rw [decide_eq_true hv, Bool.or_true]; rfl
theorem ka_3 {f : Nat → Int32} {r : Nat} (hv : ¬ f r = -2147483648) (hk : ¬ (0 ≤ f r ∧ f r < 12)) : 0 = bn (kaB f (r + 1)) := by
  show 0 = bn (kaB f r && kvB (f r))
  unfold kvB; rw [decide_eq_false hv, decide_eq_false hk, Bool.or_false, Bool.and_false]; rfl
theorem kvB_kb {v : Int32} : kvB v = true ↔ kb false v = false := by
  have e : (0 ≤ v ∧ v < 12) ↔ (0 ≤ v ∧ v ≤ 11) := and_congr Iff.rfl i12
  unfold kvB kb
  rw [decide_eq_decide.mpr e, Bool.false_or]
  by_cases h1 : v = -2147483648
  · rw [decide_eq_true h1, decide_eq_false (p := ¬ v = -2147483648) (fun q => q h1)]; simp
  · rw [decide_eq_false h1, decide_eq_true (p := ¬ v = -2147483648) h1]
    by_cases h2 : 0 ≤ v ∧ v ≤ 11
    · rw [decide_eq_true h2, decide_eq_false (p := ¬ (0 ≤ v ∧ v ≤ 11)) (fun q => q h2)]; simp
    · rw [decide_eq_false h2, decide_eq_true (p := ¬ (0 ≤ v ∧ v ≤ 11)) h2]; simp
theorem kaB_kal {f vv : Nat → Int32} {c : Nat} : ∀ {n : Nat}, (∀ r, r < n → f r = vv (6 * r + c)) → (kaB f n = true ↔ KAL vv c n)
  | 0, _ => ⟨fun _ q hq => absurd hq (by omega), fun _ => rfl⟩
  | n + 1, h => by
    have ih := kaB_kal (f := f) (vv := vv) (c := c) (n := n) (fun r hr => h r (by omega))
    show (kaB f n && kvB (f n)) = true ↔ _
    rw [Bool.and_eq_true, ih, kvB_kb, h n (by omega)]
    constructor
    · intro ⟨h1, h2⟩ q hq
      by_cases e : q = n
      · rw [e]; exact h2
      · exact h1 q (by omega)
    · intro h1
      exact ⟨fun q hq => h1 q (by omega), h1 n (by omega)⟩
/-- edges that rise -/
def RIS (eg : Nat → Int32) (b ne : Nat) : Prop := ∀ i j, i < j → j < ne → eg (b + i) < eg (b + j)
theorem cnE_srt {eg : Nat → Int32} {b ne k : Nat} {v : Int32} (h : RIS eg b ne) (hk : k ≤ ne) (hl : ∀ i, i < k → eg (b + i) ≤ v) (hr : k = ne ∨ v < eg (b + k)) : cnE eg b v ne = k := by
  have h1 : ∀ j, j ≤ k → cnE eg b v j = j := by
    intro j
    induction j with
    | zero => intro _; rfl
    | succ j ih =>
      intro hj
      show cnE eg b v j + _ = _
      rw [ih (by omega), if_pos (hl j (by omega))]
  have h2 : ∀ j, k + j ≤ ne → cnE eg b v (k + j) = k := by
    intro j
    induction j with
    | zero => intro _; exact h1 k (Nat.le_refl _)
    | succ j ih =>
      intro hj
      show cnE eg b v (k + j) + (if eg (b + (k + j)) ≤ v then 1 else 0) = k
      have hv : v < eg (b + k) := by rcases hr with q | q; omega; exact q
      have hlt : ¬ eg (b + (k + j)) ≤ v := by
        rcases Nat.eq_zero_or_pos j with q | q
        · rw [q]; exact Int32.not_le.mpr hv
        · exact Int32.not_le.mpr (Int32.lt_trans hv (h k (k + j) (by omega) (by omega)))
      rw [ih (by omega), if_neg hlt, Nat.add_zero]
  have := h2 (ne - k) (by omega)
  rw [show k + (ne - k) = ne by omega] at this
  exact this
