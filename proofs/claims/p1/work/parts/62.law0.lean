theorem tc_gd {own : String} {index : Nat} {y : MethodName} {ws : List Cond} (h1 : Cond.methodLink own index y ∈ TB) (h2 : Cond.static y ∈ TB) (h3 : Cond.initialized y.cls ∈ TB) (hw : GoodIn TB ws) : GoodIn TB (va_wsS own index y ws) := fun w h => by
  unfold va_wsS at h
  rcases List.mem_append.mp h with q | q
  · simp only [List.mem_cons, List.not_mem_nil, or_false] at q
    rcases q with rfl | rfl | rfl
    · exact ⟨h1, good_of_word (tb_good h1)⟩
    · exact ⟨h2, good_of_word (tb_good h2)⟩
    · exact ⟨h3, good_of_word (tb_good h3)⟩
  · exact hw w q
theorem tc_z {a : Int32} (h : 0 ≤ a ∧ a ≤ 0) : a = 0 := Int32.le_antisymm h.2 h.1
theorem tc_n (a : Int32) : ¬ (0 ≤ a ∧ a ≤ (-1)) := fun q => absurd (Int32.le_trans q.1 q.2) (by decide)
theorem tc_5 {a : Int32} (h : 0 ≤ a ∧ a ≤ 4) : a = 0 ∨ a = 1 ∨ a = 2 ∨ a = 3 ∨ a = 4 := by
  have h1 := Int32.le_iff_toInt_le.mp h.1
  have h2 := Int32.le_iff_toInt_le.mp h.2
  have e0 : (0 : Int32).toInt = 0 := rfl
  have e4 : (4 : Int32).toInt = 4 := rfl
  rw [e0] at h1
  rw [e4] at h2
  have h3 : a.toInt = 0 ∨ a.toInt = 1 ∨ a.toInt = 2 ∨ a.toInt = 3 ∨ a.toInt = 4 := by omega
  rcases h3 with q | q | q | q | q
  · exact Or.inl (Int32.toInt_inj.mp q)
  · exact Or.inr (Or.inl (Int32.toInt_inj.mp q))
  · exact Or.inr (Or.inr (Or.inl (Int32.toInt_inj.mp q)))
  · exact Or.inr (Or.inr (Or.inr (Or.inl (Int32.toInt_inj.mp q))))
  · exact Or.inr (Or.inr (Or.inr (Or.inr (Int32.toInt_inj.mp q))))
theorem tc_o {a : Int32} (h : ¬ (0 ≤ a ∧ a ≤ 4)) : a.toInt < 0 ∨ 4 < a.toInt := by
  have e0 : (0 : Int32).toInt = 0 := rfl
  have e4 : (4 : Int32).toInt = 4 := rfl
  have h3 : ¬ (0 ≤ a.toInt ∧ a.toInt ≤ 4) := fun q => h ⟨Int32.le_iff_toInt_le.mpr (by rw [e0]; exact q.1), Int32.le_iff_toInt_le.mpr (by rw [e4]; exact q.2)⟩
  omega
