theorem lt5 {z k : Nat} (h : z < 5000) (hk : 5000 ≤ k) : z ≠ k := by omega
theorem nI_4 (j : Nat) : nI (4 * j) + 4 = nI (4 * (j + 1)) := nI_add (4 * j) 4
