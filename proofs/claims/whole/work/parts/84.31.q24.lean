theorem dn_1 {a : Nat} (h : 0 < a) : nI a + (-1) = nI (a - 1) := by rw [← nI_sub1 h, Int32.sub_eq_add_neg]
