def vokB (k v : Int32) : Bool := if k = 0 then decide ((-1000000) ≤ v ∧ v ≤ 1000000) else decide (0 ≤ v ∧ v ≤ 11)
theorem vok_n {k v : Int32} (h : k = 0) : bi ((-1000000) ≤ v ∧ v ≤ 1000000) = bn (vokB k v) := by
  unfold vokB
  rw [if_pos h]
  by_cases q : (-1000000) ≤ v ∧ v ≤ 1000000
  · rw [bi_t q, decide_eq_true q]; rfl
  · rw [bi_f q, decide_eq_false q]; rfl
theorem vok_k {k v : Int32} (h : ¬ k = 0) : bi (0 ≤ v ∧ v ≤ 11) = bn (vokB k v) := by
  unfold vokB
  rw [if_neg h]
  by_cases q : 0 ≤ v ∧ v ≤ 11
  · rw [bi_t q, decide_eq_true q]; rfl
  · rw [bi_f q, decide_eq_false q]; rfl
/-- how many of the first k edges aren't above v -/
def cnE (eg : Nat → Int32) (b : Nat) (v : Int32) : Nat → Nat
  | 0 => 0
  | k + 1 => cnE eg b v k + if eg (b + k) ≤ v then 1 else 0
theorem cnE_le (eg : Nat → Int32) (b : Nat) (v : Int32) : ∀ k, cnE eg b v k ≤ k
  | 0 => Nat.le_refl _
  | k + 1 => by
    have := cnE_le eg b v k
    show cnE eg b v k + _ ≤ _
    split <;> omega
