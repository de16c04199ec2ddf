/-! Sums of squares, and the number of trees with the smallest. -/
abbrev sqs (X : Nat → Nat → Int) (x : Int64) (n t : Nat) : Int := smv (fun j => X j t * X j t) x n
abbrev sqd (Pp : Nat → Nat) (t : Nat) : Nat := Pp t * Pp t
def bst (S : Nat → Int) (Q : Nat → Nat) : Nat → Nat
  | 0 => 0
  | k + 1 => if S (k + 1) * (Q (bst S Q k) : Int) < S (bst S Q k) * (Q (k + 1) : Int) then k + 1 else bst S Q k
theorem bst_y {S : Nat → Int} {Q : Nat → Nat} {k : Nat} (h : S (k + 1) * (Q (bst S Q k) : Int) < S (bst S Q k) * (Q (k + 1) : Int)) : bst S Q (k + 1) = k + 1 := if_pos h
theorem bst_n {S : Nat → Int} {Q : Nat → Nat} {k : Nat} (h : ¬ S (k + 1) * (Q (bst S Q k) : Int) < S (bst S Q k) * (Q (k + 1) : Int)) : bst S Q (k + 1) = bst S Q k := if_neg h
theorem bst_le (S : Nat → Int) (Q : Nat → Nat) : ∀ k, bst S Q k ≤ k
  | 0 => Nat.le_refl _
  | k + 1 => by
    have h0 := bst_le S Q k
    by_cases h : S (k + 1) * (Q (bst S Q k) : Int) < S (bst S Q k) * (Q (k + 1) : Int)
    · rw [bst_y h]; exact Nat.le_refl _
    · rw [bst_n h]; omega
theorem chn_le {Pp sc : Nat → Nat} {X LX : Nat → Int} {s : Bool} {T t PB XB : Nat} (h : CHN Pp sc X LX s T PB XB) (ht : t ≤ T) : CHN Pp sc X LX s t PB XB := ⟨h.1, fun u hu => h.2.1 u (by omega), fun u hu => h.2.2 u (by omega)⟩
theorem sq_a {z lz z' S L : Int} {P d ld d' : Nat} (hd : 0 < d) (hld : 0 < ld) (h1 : z * (P : Int) = S * (d : Int)) (h2 : lz * (P : Int) = L * (ld : Int)) (h3 : z' * ((d * ld : Nat) : Int) = (z * (ld : Int) + lz * (d : Int)) * (d' : Int)) : z' * (P : Int) = (S + L) * (d' : Int) := by
  have h := wk_a (s := 1) hd hld h1 (by rw [Nat.mul_one]; exact h2) h3
  rw [Nat.mul_one, show ((1 : Nat) : Int) = 1 from rfl, Int.mul_one] at h
  exact h
theorem sq_v {z X : Int} {P d D : Nat} (hD : D = d * d) (h : z * (P : Int) = X * (d : Int)) : z * z * ((P * P : Nat) : Int) = X * X * (D : Int) := by
  rw [hD, Int.natCast_mul, Int.natCast_mul, show z * z * ((P : Int) * P) = (z * P) * (z * P) by ac_rfl, h]
  ac_rfl
theorem sqn_le {z : Int} {B : Nat} (h : z.natAbs ≤ B) : (z * z).natAbs ≤ B * B := by
  rw [Int.natAbs_mul]
  exact Nat.mul_le_mul h h
theorem sqs_le {X : Nat → Nat → Int} {x : Int64} {n t XB : Nat} (h : ∀ i, i < n → (X i t).natAbs ≤ XB) (hn : n ≤ 48) (r : Nat) (hr : r ≤ n) : (smv (fun j => X j t * X j t) x r).natAbs ≤ 48 * (XB * XB) :=
  Nat.le_trans (smv_le (x := x) (zr := fun j => X j t * X j t) (fun k hk => sqn_le (h k hk)) r hr) (Nat.mul_le_mul_right _ (by omega))
theorem sq_fit {z l d ld XX PP : Nat} (h1 : z ≤ 48 * XX) (h2 : l ≤ XX) (h3 : d ≤ PP) (h4 : ld ≤ PP) (hB : 48 * XX * PP + XX * (PP * PP) < 268435456 ^ 250) : z * ld + l * (d * ld) < 268435456 ^ 250 :=
  Nat.lt_of_le_of_lt (Nat.add_le_add (Nat.mul_le_mul h1 h4) (Nat.mul_le_mul h2 (Nat.mul_le_mul h3 h4))) hB
theorem sq_fit1 {z d XX PP : Nat} (h1 : z ≤ 48 * XX) (h3 : d ≤ PP) (hB : 48 * XX * PP + XX * (PP * PP) < 268435456 ^ 250) : z * d < 268435456 ^ 250 :=
  Nat.lt_of_le_of_lt (Nat.le_trans (Nat.mul_le_mul h1 h3) (Nat.le_add_right _ _)) hB
theorem sq_fit2 {z XX PP : Nat} (h1 : z ≤ 48 * XX) (hP : 0 < PP) (hB : 48 * XX * PP + XX * (PP * PP) < 268435456 ^ 250) : z < 268435456 ^ 250 :=
  Nat.lt_of_le_of_lt (Nat.le_mul_of_pos_right z hP) (sq_fit1 h1 (Nat.le_refl _) hB)
theorem bst_cmp {za z1 zc zb S1 Sb : Int} {d1 db D Q1 Qb : Nat} (hd1 : 0 < d1) (hdb : 0 < db) (hD : 0 < D) (hQ1 : 0 < Q1) (hQb : 0 < Qb) (h1 : za * (d1 : Int) = z1 * (D : Int)) (h2 : zc * (db : Int) = zb * (D : Int)) (h3 : z1 * (Q1 : Int) = S1 * (d1 : Int)) (h4 : zb * (Qb : Int) = Sb * (db : Int)) : za < zc ↔ S1 * (Qb : Int) < Sb * (Q1 : Int) := by
  have e1 := raise_v hd1 h3 h1
  have e2 := raise_v hdb h4 h2
  have k1 : za * ((Q1 : Int) * Qb) = S1 * Qb * D := by
    rw [← Int.mul_assoc, e1]
    ac_rfl
  have k2 : zc * ((Q1 : Int) * Qb) = Sb * Q1 * D := by
    rw [show zc * ((Q1 : Int) * Qb) = zc * Qb * Q1 by ac_rfl, e2]
    ac_rfl
  have pQ : (0 : Int) < (Q1 : Int) * Qb := Int.mul_pos (by omega) (by omega)
  constructor
  · intro h
    have h5 := Int.mul_lt_mul_of_pos_right h pQ
    rw [k1, k2] at h5
    exact Int.lt_of_mul_lt_mul_right h5 (by omega)
  · intro h
    have h5 := Int.mul_lt_mul_of_pos_right h (show (0 : Int) < (D : Int) by omega)
    rw [← k1, ← k2] at h5
    exact Int.lt_of_mul_lt_mul_right h5 (by omega)
theorem cz_neg {x y : Int} : cz x y < 0 ↔ x < y := by
  rcases Int.lt_trichotomy x y with h | h | h
  · rw [cz_lt h]; exact ⟨fun _ => h, fun _ => by decide⟩
  · rw [cz_rf h]; exact ⟨fun q => absurd q (by decide), fun q => absurd q (by omega)⟩
  · rw [cz_gt h]; exact ⟨fun q => absurd q (by decide), fun q => absurd q (by omega)⟩
theorem max_dn {g1 g2 a c : Nat → Int32} (h1 : ∀ q, q < 19 → dg a q = max (dg g1 q) (dg g2 q)) (h2 : ∀ q, q < 19 → dg c q = max (dg g2 q) (dg g1 q)) : dn a = dn c := dnk_cg (fun q hq => by rw [h1 q hq, h2 q hq]; omega)
