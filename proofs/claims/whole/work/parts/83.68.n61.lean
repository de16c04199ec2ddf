theorem gob_m {tl kd ed v : Int32} (h : v = -2147483648) (ht : tl = 0 ∨ tl = 1) : tl = bn (goB tl kd ed v) := by
  unfold goB
  rw [if_pos h]
  rcases ht with q | q
  · rw [q]; rfl
  · rw [q]; rfl
theorem gob_n1 {tl kd ed v : Int32} (h : ¬ v = -2147483648) (hk : kd = 0) (hv : v < ed) : 1 = bn (goB tl kd ed v) := by
  unfold goB; rw [if_neg h, if_pos hk, decide_eq_true hv]; rfl
theorem gob_n0 {tl kd ed v : Int32} (h : ¬ v = -2147483648) (hk : kd = 0) (hv : ¬ v < ed) : 0 = bn (goB tl kd ed v) := by
  unfold goB; rw [if_neg h, if_pos hk, decide_eq_false hv]; rfl
theorem gob_k1 {tl kd ed v : Int32} (h : ¬ v = -2147483648) (hk : ¬ kd = 0) (hv : 0 ≤ v ∧ v < 12) (hb : (ed >>> (v &&& 31)) &&& 1 = 1) : 1 = bn (goB tl kd ed v) := by
  unfold goB; rw [if_neg h, if_neg hk, decide_eq_true ⟨⟨hv.1, i12.mp hv.2⟩, hb⟩]; rfl
theorem gob_k0 {tl kd ed v : Int32} (h : ¬ v = -2147483648) (hk : ¬ kd = 0) (hv : ¬ (0 ≤ v ∧ v < 12) ∨ ¬ (ed >>> (v &&& 31)) &&& 1 = 1) : 0 = bn (goB tl kd ed v) := by
  unfold goB; rw [if_neg h, if_neg hk, decide_eq_false (fun q => hv.elim (fun r => r ⟨q.1.1, i12.mpr q.1.2⟩) (fun r => r q.2))]; rfl
