/-- z / d is X / Dn, reduced -/
def RDC (X : Int) (Dn : Nat) (z : Int) (d : Nat) : Prop := ∃ g : Nat → Int32, RED z g ∧ d = dn g ∧ z * (Dn : Int) = X * (d : Int)
theorem f250 {x : Nat} (h : x < 268435456 ^ 130) : x < 268435456 ^ 250 := Nat.lt_of_lt_of_le h (Nat.pow_le_pow_right (by decide) (by decide))
/-- the object's fields but the thrown mark and the length of what is told -/
def YK2 (yi yi' : Nat → Int32) : Prop := ∀ j, j ≠ 1 → j ≠ 47 → yi' j = yi j
theorem yk2_mk {yi yi' : Nat → Int32} {v : Int32} (h : ∀ j, j ≠ 47 → yi' j = va_up yi 1 v j) : YK2 yi yi' ∧ yi' 1 = v := ⟨fun j h1 h2 => (h j h2).trans (va_up_ne _ _ h1), (h 1 (by decide)).trans (va_up_self _ _ _)⟩
theorem yu {yi : Nat → Int32} {v w : Int32} {k j : Nat} (hk : k ≠ j) (h : yi k = w) : va_up yi j v k = w := (va_up_ne _ _ hk).trans h
