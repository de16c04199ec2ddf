theorem asg_of {s : State} {C E0 : String} (h : va_Nw (.castable C E0) s) (comp c0 : ClassId) (h1 : s.vm.findClass E0 = some comp) (h2 : s.vm.findClass C = some c0) : s.vm.assignable c0 comp = true := by
  obtain ⟨a0, t1, f1, f2, f3⟩ := Cond.castable_spec (va_Nw.use (A := #[]) rfl h)
  cases h1.symm.trans f2
  cases h2.symm.trans f1
  exact f3
theorem cpq_lt {α : Type} {f g : Nat → α} {n k : Nat} (h : k < n) : va_cpy f g 0 0 n k = f k := by
  unfold va_cpy
  rw [if_pos ⟨Nat.zero_le _, by omega⟩, Nat.zero_add, Nat.sub_zero]
