theorem tg_z {x : Int32} (h : -1000 ≤ x.toInt ∧ x.toInt ≤ 1000) : -1000000000 < x.toInt ∧ x.toInt < 1000000000 := by omega
