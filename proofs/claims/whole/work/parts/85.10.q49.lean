theorem nI_4 (j : Nat) : nI (4 * j) + 4 = nI (4 * (j + 1)) := nI_add (4 * j) 4
