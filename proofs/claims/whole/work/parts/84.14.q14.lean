theorem xbc_5 : (48 * XBc) * (48 * XBc) * 68 * 2 < 1000000000 ^ 48 ∧ (48 * XBc) * (48 * XBc) * 136 * 68 + (48 * XBc) * (48 * XBc) * 4624 < 1000000000 ^ 48 ∧ 48 * XBc * 16 < 1000000000 ^ 48 ∧ PBc * 1088 < 1000000000 ^ 48 ∧ PBc < 1000000000 ^ 24 ∧ PBc * PBc * 314432 < 1000000000 ^ 48 := by decide +kernel
theorem ts_b {F : TFR} {T t k : Nat} (h : TOK F T) (hT : T ≤ 16) (ht : t < T) (hk : k < tM F t) : (tS F t k).natAbs ≤ 48 * XBc := by
  have h1 := h.2 t ht
  obtain ⟨_, hn, hS, _⟩ := h1.2.2.2.2 k hk
  exact Nat.le_trans hS (Nat.mul_le_mul hn.2 (xb_m (by omega) (Ppf_16 (t := t) h hT (by omega)).2))
theorem gz_w {sl sr S : Int} {ul ur un : Nat} (h : S = sl + sr) : wZ sl sr ul ur * (un : Int) - S * S * ((ul * ur : Nat) : Int) = gZ sl sr ul ur un := by
  rw [gZ_gnz, h]
  rfl
theorem gz_f {sl sr S : Int} {ul ur un B : Nat} (h1 : sl.natAbs ≤ B) (h2 : sr.natAbs ≤ B) (h3 : S.natAbs ≤ B) (hl : ul ≤ 68) (hr : ur ≤ 68) (hn : un ≤ 68) (hB : B * B * 136 * 68 + B * B * 4624 < 1000000000 ^ 48) : (wZ sl sr ul ur).natAbs * un < 1000000000 ^ 48 ∧ S.natAbs * S.natAbs < 1000000000 ^ 48 ∧ (S * S).natAbs * (ul * ur) < 1000000000 ^ 48 ∧ (wZ sl sr ul ur * (un : Int)).natAbs + (S * S * ((ul * ur : Nat) : Int)).natAbs < 1000000000 ^ 48 := by
  have a1 := wZ_b h1 h2 hl hr
  have a2 : (wZ sl sr ul ur).natAbs * un ≤ B * B * 136 * 68 := Nat.mul_le_mul a1 hn
  have a3 : S.natAbs * S.natAbs ≤ B * B := Nat.mul_le_mul h3 h3
  have a4 : ul * ur ≤ 4624 := Nat.mul_le_mul hl hr
  have a5 : S.natAbs * S.natAbs * (ul * ur) ≤ B * B * 4624 := Nat.mul_le_mul a3 a4
  have e1 : (S * S).natAbs = S.natAbs * S.natAbs := Int.natAbs_mul S S
  have e2 : (S * S * ((ul * ur : Nat) : Int)).natAbs = S.natAbs * S.natAbs * (ul * ur) := by rw [Int.natAbs_mul, Int.natAbs_natCast, e1]
  have e3 : (wZ sl sr ul ur * (un : Int)).natAbs = (wZ sl sr ul ur).natAbs * un := by rw [Int.natAbs_mul, Int.natAbs_natCast]
  rw [e2, e3, e1]
  generalize B * B = c at *
  generalize (wZ sl sr ul ur).natAbs * un = x at *
  generalize S.natAbs * S.natAbs * (ul * ur) = y at *
  generalize S.natAbs * S.natAbs = z at *
  refine ⟨by omega, by omega, by omega, by omega⟩
