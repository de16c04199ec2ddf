theorem smv_z {zs : Nat → Int} : ∀ n, smv zs 0 n = 0
  | 0 => rfl
  | n + 1 => by rw [smv_f (by rw [bx_zero]; decide)]; exact smv_z n
theorem k12 {v : Int32} (h : 0 ≤ v ∧ v < 12) : v.toNatClampNeg < 12 := by
  have h1 := Int32.le_iff_toInt_le.mp h.1
  have h2 := Int32.lt_iff_toInt_lt.mp h.2
  have e0 : (0 : Int32).toInt = 0 := by decide
  have e1 : (12 : Int32).toInt = 12 := by decide
  show v.toInt.toNat < 12
  omega
theorem kx12 {v : Int32} (h : 0 ≤ v ∧ v < 12) : v = nI v.toNatClampNeg := by
  have h1 := Int32.le_iff_toInt_le.mp h.1
  have h3 := k12 h
  have e0 : (0 : Int32).toInt = 0 := by decide
  apply Int32.toInt_inj.mp
  rw [nI_toInt (by omega)]
  show v.toInt = ((v.toInt.toNat : Nat) : Int)
  omega
