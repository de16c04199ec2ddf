theorem bn_dt {p : Prop} [Decidable p] (h : ¬ bn (decide p) = 0) : p := by
  by_cases q : p
  · exact q
  · exact absurd (by rw [decide_eq_false q]; rfl) h
