/-! Sets of rows by what is said of them. -/
def gsr (P : Nat → Bool) : Nat → Int64
  | 0 => 0
  | k + 1 => if P k = true then gsr P k ||| ((1 : Int64) <<< ((nI k).toInt64 &&& 63)) else gsr P k
theorem bx_gsr {P : Nat → Bool} {r : Nat} (hr : r < 64) : ∀ k, k ≤ 64 → bx (gsr P k) r = (decide (r < k) && P r)
  | 0, _ => by
    show bx 0 r = _
    rw [bx_zero]; simp
  | k + 1, hk => by
    show bx (if _ then _ else _) r = _
    by_cases q : P k = true
    · rw [if_pos q, bx_or, bx_gsr hr k (by omega), bx_one (by omega) hr]
      by_cases f : r = k
      · subst f; simp [q]
      · by_cases g : r < k
        · simp [g, f, show r < k + 1 by omega]
        · simp [g, f, show ¬ r < k + 1 by omega]
    · rw [if_neg q, bx_gsr hr k (by omega)]
      by_cases f : r = k
      · subst f; simp [Bool.eq_false_iff.mpr q]
      · by_cases g : r < k
        · simp [g, show r < k + 1 by omega]
        · simp [g, show ¬ r < k + 1 by omega]
theorem gsr_y {P : Nat → Bool} {k : Nat} (h : P k = true) : gsr P (k + 1) = gsr P k ||| ((1 : Int64) <<< ((nI k).toInt64 &&& 63)) := if_pos h
theorem gsr_n {P : Nat → Bool} {k : Nat} (h : ¬ P k = true) : gsr P (k + 1) = gsr P k := if_neg h
theorem smv_or {RR : Nat → Int} {x : Int64} {k : Nat} (hk : k < 64) (h : bx x k = false) : ∀ m, m ≤ 64 → smv RR (x ||| ((1 : Int64) <<< ((nI k).toInt64 &&& 63))) m = smv RR x m + if k < m then RR k else 0
  | 0, _ => by
    show (0 : Int) = 0 + _
    rw [if_neg (by omega)]; rfl
  | m + 1, hm => by
    have ih := smv_or (RR := RR) hk h m (by omega)
    have hb : bx (x ||| ((1 : Int64) <<< ((nI k).toInt64 &&& 63))) m = (bx x m || decide (m = k)) := by rw [bx_or, bx_one hk (by omega)]
    by_cases e : m = k
    · subst e
      rw [smv_t (by rw [hb]; simp), ih, smv_f (by rw [h]; decide), if_neg (by omega), if_pos (by omega)]
      omega
    · by_cases q : bx x m = true
      · rw [smv_t (by rw [hb, q]; rfl), smv_t q, ih]
        by_cases r : k < m
        · rw [if_pos r, if_pos (by omega)]; omega
        · rw [if_neg r, if_neg (by omega)]; omega
      · rw [smv_f (by rw [hb, Bool.eq_false_iff.mpr q]; simp [e]), smv_f q, ih]
        by_cases r : k < m
        · rw [if_pos r, if_pos (by omega)]
        · rw [if_neg r, if_neg (by omega)]
theorem gsr_s {RR : Nat → Int} {P : Nat → Bool} {k n : Nat} (hk : k < n) (hn : n ≤ 64) (h : P k = true) : smv RR (gsr P (k + 1)) n = smv RR (gsr P k) n + RR k := by
  rw [gsr_y h, smv_or (by omega) (by rw [bx_gsr (by omega) k (by omega)]; simp) n hn, if_pos hk]
/-- the bin of a value; the rows of a bin; the missing rows -/
def bnF (eg ik : Nat → Int32) (ne : Nat → Nat) (c : Nat) (v : Int32) : Nat := if ik c = 0 then cnE eg (11 * c) v (ne c) else v.toNatClampNeg
def PGb (vv eg ik : Nat → Int32) (ne : Nat → Nat) (c : Nat) (A : Int64) (k : Nat) (j : Nat) : Bool := bx A j && !decide (vv (6 * j + c) = -2147483648) && decide (bnF eg ik ne c (vv (6 * j + c)) = k)
def PMb (vv : Nat → Int32) (c : Nat) (A : Int64) (j : Nat) : Bool := bx A j && decide (vv (6 * j + c) = -2147483648)
abbrev gsG (vv eg ik : Nat → Int32) (ne : Nat → Nat) (c : Nat) (A : Int64) (k i : Nat) : Int64 := gsr (PGb vv eg ik ne c A k) i
abbrev gsM (vv : Nat → Int32) (c : Nat) (A : Int64) (i : Nat) : Int64 := gsr (PMb vv c A) i
theorem pg_no {vv eg ik : Nat → Int32} {ne : Nat → Nat} {c : Nat} {A : Int64} {k j : Nat} (h : ¬ bx A j = true) : ¬ PGb vv eg ik ne c A k j = true := by
  unfold PGb; rw [Bool.eq_false_iff.mpr h]; simp
theorem pm_no {vv : Nat → Int32} {c : Nat} {A : Int64} {j : Nat} (h : ¬ bx A j = true) : ¬ PMb vv c A j = true := by
  unfold PMb; rw [Bool.eq_false_iff.mpr h]; simp
theorem pg_mis {vv eg ik : Nat → Int32} {ne : Nat → Nat} {c : Nat} {A : Int64} {k j : Nat} (h : vv (6 * j + c) = -2147483648) : ¬ PGb vv eg ik ne c A k j = true := by
  unfold PGb; rw [decide_eq_true h]; simp
theorem pm_yes {vv : Nat → Int32} {c : Nat} {A : Int64} {j : Nat} (hb : bx A j = true) (h : vv (6 * j + c) = -2147483648) : PMb vv c A j = true := by
  unfold PMb; rw [hb, decide_eq_true h]; rfl
theorem pm_nm {vv : Nat → Int32} {c : Nat} {A : Int64} {j : Nat} (h : ¬ vv (6 * j + c) = -2147483648) : ¬ PMb vv c A j = true := by
  unfold PMb; rw [decide_eq_false h]; simp
theorem pg_yes {vv eg ik : Nat → Int32} {ne : Nat → Nat} {c : Nat} {A : Int64} {k j : Nat} (hb : bx A j = true) (h : ¬ vv (6 * j + c) = -2147483648) (hk : bnF eg ik ne c (vv (6 * j + c)) = k) : PGb vv eg ik ne c A k j = true := by
  unfold PGb; rw [hb, decide_eq_false h, decide_eq_true hk]; rfl
theorem pg_oth {vv eg ik : Nat → Int32} {ne : Nat → Nat} {c : Nat} {A : Int64} {k j : Nat} (hk : ¬ bnF eg ik ne c (vv (6 * j + c)) = k) : ¬ PGb vv eg ik ne c A k j = true := by
  unfold PGb; rw [decide_eq_false hk]; simp
/-- a group in the pool; the groups -/
def GPp (cT : Nat → ClassId) (ad : Nat → Nat) (g : Nat → Option va_E) (x : Nat) (rows : Int64) (z : Int) : Prop := g (200 + x) = some (.inr (5, [.long rows, .ref (ad (220 + x))])) ∧ WHO cT ad g (220 + x) (240 + x) 24 z
theorem GPp.cg {cT : Nat → ClassId} {ad : Nat → Nat} {g g2 : Nat → Option va_E} {x : Nat} {rows : Int64} {z : Int} (h : GPp cT ad g x rows z) (h1 : g2 (200 + x) = g (200 + x)) (h2 : g2 (220 + x) = g (220 + x)) (h3 : g2 (240 + x) = g (240 + x)) : GPp cT ad g2 x rows z := ⟨h1.trans h.1, h.2.cg h2 h3⟩
def GAp (cT : Nat → ClassId) (ad : Nat → Nat) (g : Nat → Option va_E) : Prop := ∃ qf : Nat → Option Nat, g 7 = some (eQ (cT 6) 12 qf) ∧ ∀ i, i < 12 → qf i = some (ad (200 + i))
/-- the grower -/
abbrev eGR (ad : Nat → Nat) (b t : Nat) : va_E := .inr (7, [.ref (ad 1), .ref (ad 4), .ref (ad 5), .ref (ad 7), .ref (ad 8), .ref (ad 212), .ref (ad 213), .ref (ad 214), .ref (ad 60), .ref (ad 62), .ref (ad 64), .ref (ad b), .ref (ad t)])
theorem cne_le (eg : Nat → Int32) (b : Nat) (v : Int32) : ∀ ne, cnE eg b v ne ≤ ne
  | 0 => Nat.le_refl _
  | k + 1 => by
    have := cne_le eg b v k
    show cnE eg b v k + (if _ then 1 else 0) ≤ k + 1
    split <;> omega
theorem gsG_y {vv eg ik : Nat → Int32} {ne : Nat → Nat} {c k i : Nat} {A : Int64} (h : PGb vv eg ik ne c A k i = true) : gsG vv eg ik ne c A k (i + 1) = gsG vv eg ik ne c A k i ||| ((1 : Int64) <<< ((nI i).toInt64 &&& 63)) := gsr_y h
theorem gsG_n {vv eg ik : Nat → Int32} {ne : Nat → Nat} {c k i : Nat} {A : Int64} (h : ¬ PGb vv eg ik ne c A k i = true) : gsG vv eg ik ne c A k (i + 1) = gsG vv eg ik ne c A k i := gsr_n h
theorem gsG_s {RR : Nat → Int} {vv eg ik : Nat → Int32} {ne : Nat → Nat} {c k i n : Nat} {A : Int64} (hi : i < n) (hn : n ≤ 64) (h : PGb vv eg ik ne c A k i = true) : smv RR (gsG vv eg ik ne c A k (i + 1)) n = smv RR (gsG vv eg ik ne c A k i) n + RR i := gsr_s hi hn h
theorem gsM_y {vv : Nat → Int32} {c i : Nat} {A : Int64} (h : PMb vv c A i = true) : gsM vv c A (i + 1) = gsM vv c A i ||| ((1 : Int64) <<< ((nI i).toInt64 &&& 63)) := gsr_y h
theorem gsM_n {vv : Nat → Int32} {c i : Nat} {A : Int64} (h : ¬ PMb vv c A i = true) : gsM vv c A (i + 1) = gsM vv c A i := gsr_n h
theorem gsM_s {RR : Nat → Int} {vv : Nat → Int32} {c i n : Nat} {A : Int64} (hi : i < n) (hn : n ≤ 64) (h : PMb vv c A i = true) : smv RR (gsM vv c A (i + 1)) n = smv RR (gsM vv c A i) n + RR i := gsr_s hi hn h
