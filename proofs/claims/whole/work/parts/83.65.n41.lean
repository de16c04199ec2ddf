/-- the object's fields but the thrown mark, the number of trees, and those of the search and of the stack -/
def YK6 (yi yi' : Nat → Int32) : Prop := ∀ j, j ≠ 1 → j ≠ 17 → j ≠ 50 → j ≠ 51 → j ≠ 52 → j ≠ 53 → j ≠ 55 → yi' j = yi j
