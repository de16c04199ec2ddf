/-! The reference's search: sides, kinds, columns. -/
/-- a set whose rows are below n -/
def SUBn (x : Int64) (n : Nat) : Prop := ∀ r, bx x r = true → r < n
theorem sub_or {x y : Int64} {n : Nat} (h1 : SUBn x n) (h2 : SUBn y n) : SUBn (x ||| y) n := fun r h => by
  rw [bx_or] at h
  cases hx : bx x r
  · rw [hx, Bool.false_or] at h; exact h2 r h
  · exact h1 r hx
theorem sub_and {x y : Int64} {n : Nat} (h1 : SUBn x n) : SUBn (x &&& y) n := fun r h => by
  rw [bx_and] at h
  cases hx : bx x r
  · rw [hx, Bool.false_and] at h; exact absurd h (by decide)
  · exact h1 r hx
theorem sub_andr {x y : Int64} {n : Nat} (h1 : SUBn y n) : SUBn (x &&& y) n := fun r h => by
  rw [bx_and] at h
  cases hx : bx y r
  · rw [hx, Bool.and_false] at h; exact absurd h (by decide)
  · exact h1 r hx
theorem cb_dis {A S : Int64} {n : Nat} (h1 : SUBn A n) (h2 : SUBn S n) : ∀ k, k ≤ 64 → cbn S k + cbn (A &&& (S ^^^ (-1))) k ≤ n ∧ cbn S k + cbn (A &&& (S ^^^ (-1))) k ≤ k
  | 0, _ => ⟨Nat.zero_le _, Nat.le_refl _⟩
  | k + 1, hk => by
    obtain ⟨a1, a2⟩ := cb_dis h1 h2 k (by omega)
    show cbn S k + _ + (cbn _ k + _) ≤ n ∧ cbn S k + _ + (cbn _ k + _) ≤ k + 1
    rw [bx_and, bx_not S (by omega)]
    generalize cbn (A &&& (S ^^^ (-1))) k = u9 at a1 a2 ⊢
    generalize cbn S k = v9 at a1 a2 ⊢
    cases hs : bx S k
    · cases ha : bx A k
      · simp; omega
      · have := h1 k ha
        simp; omega
    · have := h2 k hs
      simp; omega
theorem cb_48 {A S : Int64} {n : Nat} (h1 : SUBn A n) (h2 : SUBn S n) (hn : n ≤ 48) : cb S + cb (A &&& (S ^^^ (-1))) ≤ 48 := Nat.le_trans (cb_dis h1 h2 64 (Nat.le_refl _)).1 hn
theorem cb_pos {x : Int64} (h : ¬ x = 0) : 0 < cb x := by
  rcases Nat.eq_zero_or_pos (cb x) with q | q
  · exfalso
    apply h
    have hz : ∀ k, cbn x k = 0 → ∀ r, r < k → bx x r = false := by
      intro k
      induction k with
      | zero => intro _ r hr; omega
      | succ k ih =>
        intro hk r hr
        have hk2 : cbn x k + (if bx x k = true then 1 else 0) = 0 := hk
        by_cases e : r = k
        · subst e
          cases hb : bx x r
          · rfl
          · rw [hb, if_pos rfl] at hk2; omega
        · exact ih (by omega) r (by omega)
    exact bx_ext (fun r hr => by rw [hz 64 q r hr, bx_zero])
  · exact q
theorem cb_n {x : Int64} {n : Nat} (h : SUBn x n) (hn : n ≤ 48) : cb x ≤ 48 := by
  have := cb_48 (A := 0) (S := x) (n := n) (fun r q => by rw [bx_zero] at q; exact absurd q (by decide)) h hn
  omega
/-- a side with the missing rows, then without -/
def lks (zr : Nat → Int) (n w lst : Nat) (A M : Int64) (b : BST) (S : Int64) (c e : Int32) : BST :=
  if M = 0 then wgh zr n w lst A b (S ||| M) c e 1 else wgh zr n w lst A (wgh zr n w lst A b (S ||| M) c e 1) S c e 0
/-- the rows below k whose value is v -/
def rwk (vv : Nat → Int32) (c : Nat) (v : Int32) : Nat → Int64
  | 0 => 0
  | k + 1 => if vv (6 * k + c) = v then rwk vv c v k ||| ((1 : Int64) <<< ((nI k).toInt64 &&& 63)) else rwk vv c v k
theorem bx_rwk {vv : Nat → Int32} {c : Nat} {v : Int32} {r : Nat} (hr : r < 64) : ∀ k, k ≤ 64 → bx (rwk vv c v k) r = (decide (r < k) && decide (vv (6 * r + c) = v))
  | 0, _ => by
    show bx 0 r = _
    rw [bx_zero]; simp
  | k + 1, hk => by
    show bx (if _ then _ else _) r = _
    by_cases q : vv (6 * k + c) = v
    · rw [if_pos q, bx_or, bx_rwk hr k (by omega), bx_one (by omega) hr]
      by_cases e : r = k
      · subst e; simp [q]
      · by_cases f : r < k
        · simp [f, e, show r < k + 1 by omega]
        · simp [f, e, show ¬ r < k + 1 by omega]
    · rw [if_neg q, bx_rwk hr k (by omega)]
      by_cases e : r = k
      · subst e; simp [q]
      · by_cases f : r < k
        · simp [f, show r < k + 1 by omega]
        · simp [f, show ¬ r < k + 1 by omega]
theorem sub_rwk {vv : Nat → Int32} {c : Nat} {v : Int32} {n : Nat} (hn : n ≤ 48) : SUBn (rwk vv c v n) n := fun r h => by
  rcases Nat.lt_or_ge r 64 with q | q
  · rw [bx_rwk q n (by omega)] at h
    simp at h
    exact h.1
  · rw [bx_big _ q] at h; exact absurd h (by decide)
/-- the rows below k whose value is below e -/
def rlt (vv : Nat → Int32) (c : Nat) (e : Int32) : Nat → Int64
  | 0 => 0
  | k + 1 => if vv (6 * k + c) < e then rlt vv c e k ||| ((1 : Int64) <<< ((nI k).toInt64 &&& 63)) else rlt vv c e k
/-- kinds in the order of their means -/
def bef (zr : Nat → Int) (n w : Nat) (x : Int64) (k : Int32) (y : Int64) (k2 : Int32) : Bool := decide (smv zr x n * ((cb y + w : Nat) : Int) < smv zr y n * ((cb x + w : Nat) : Int)) || (decide (smv zr x n * ((cb y + w : Nat) : Int) = smv zr y n * ((cb x + w : Nat) : Int)) && decide (k < k2))
def nxk (zr : Nat → Int) (n w : Nat) (vv : Nat → Int32) (c : Nat) (A : Int64) (bits : Int32) : Nat → Int32
  | 0 => -1
  | k + 1 => if ((bits >>> (nI k &&& 31)) &&& 1 = 0) ∧ ¬ (rwk vv c (nI k) n &&& A) = 0 then (if nxk zr n w vv c A bits k < 0 ∨ bef zr n w (rwk vv c (nI k) n &&& A) (nI k) (rwk vv c (nxk zr n w vv c A bits k) n &&& A) (nxk zr n w vv c A bits k) = true then nI k else nxk zr n w vv c A bits k) else nxk zr n w vv c A bits k
theorem nxk_t {zr : Nat → Int} {n w : Nat} {vv : Nat → Int32} {c : Nat} {A : Int64} {bits : Int32} {k : Nat} (h1 : (bits >>> (nI k &&& 31)) &&& 1 = 0) (h2 : ¬ (rwk vv c (nI k) n &&& A) = 0) (h3 : nxk zr n w vv c A bits k < 0 ∨ bef zr n w (rwk vv c (nI k) n &&& A) (nI k) (rwk vv c (nxk zr n w vv c A bits k) n &&& A) (nxk zr n w vv c A bits k) = true) : nxk zr n w vv c A bits (k + 1) = nI k := by
  show (if _ then _ else _) = _
  rw [if_pos ⟨h1, h2⟩, if_pos h3]
theorem nxk_f {zr : Nat → Int} {n w : Nat} {vv : Nat → Int32} {c : Nat} {A : Int64} {bits : Int32} {k : Nat} (h : ¬ ((bits >>> (nI k &&& 31)) &&& 1 = 0 ∧ ¬ (rwk vv c (nI k) n &&& A) = 0 ∧ (nxk zr n w vv c A bits k < 0 ∨ bef zr n w (rwk vv c (nI k) n &&& A) (nI k) (rwk vv c (nxk zr n w vv c A bits k) n &&& A) (nxk zr n w vv c A bits k) = true))) : nxk zr n w vv c A bits (k + 1) = nxk zr n w vv c A bits k := by
  show (if _ then _ else _) = _
  by_cases q : ((bits >>> (nI k &&& 31)) &&& 1 = 0) ∧ ¬ (rwk vv c (nI k) n &&& A) = 0
  · rw [if_pos q, if_neg (fun r => h ⟨q.1, q.2, r⟩)]
  · rw [if_neg q]
/-- what has been found is a kind with rows that isn't taken -/
theorem nxk_ok {zr : Nat → Int} {n w : Nat} {vv : Nat → Int32} {c : Nat} {A : Int64} {bits : Int32} : ∀ k, k ≤ 12 → nxk zr n w vv c A bits k < 0 ∨ ∃ j, j < k ∧ nxk zr n w vv c A bits k = nI j ∧ (bits >>> (nI j &&& 31)) &&& 1 = 0 ∧ ¬ (rwk vv c (nI j) n &&& A) = 0
  | 0, _ => Or.inl (by show (-1 : Int32) < 0; decide)
  | k + 1, hk => by
    by_cases h : (bits >>> (nI k &&& 31)) &&& 1 = 0 ∧ ¬ (rwk vv c (nI k) n &&& A) = 0 ∧ (nxk zr n w vv c A bits k < 0 ∨ bef zr n w (rwk vv c (nI k) n &&& A) (nI k) (rwk vv c (nxk zr n w vv c A bits k) n &&& A) (nxk zr n w vv c A bits k) = true)
    · rw [nxk_t h.1 h.2.1 h.2.2]
      exact Or.inr ⟨k, by omega, rfl, h.1, h.2.1⟩
    · rw [nxk_f h]
      rcases nxk_ok k (by omega) with r | ⟨j, hj, r⟩
      · exact Or.inl r
      · exact Or.inr ⟨j, by omega, r⟩
theorem bef_lt {zr : Nat → Int} {n w : Nat} {x y : Int64} {k k2 : Int32} (h : cz (smv zr x n * ((cb y + w : Nat) : Int)) (smv zr y n * ((cb x + w : Nat) : Int)) < 0) : bef zr n w x k y k2 = true := by
  unfold bef
  rcases (show smv zr x n * ((cb y + w : Nat) : Int) < smv zr y n * ((cb x + w : Nat) : Int) ∨ ¬ smv zr x n * ((cb y + w : Nat) : Int) < smv zr y n * ((cb x + w : Nat) : Int) by omega) with q | q
  · rw [decide_eq_true q, Bool.true_or]
  · have h2 : 0 ≤ cz (smv zr x n * ((cb y + w : Nat) : Int)) (smv zr y n * ((cb x + w : Nat) : Int)) := by
      unfold cz
      rw [if_neg q]
      split <;> decide
    exact absurd h (Int32.not_lt.mpr h2)
theorem bef_eq {zr : Nat → Int} {n w : Nat} {x y : Int64} {k k2 : Int32} (h : cz (smv zr x n * ((cb y + w : Nat) : Int)) (smv zr y n * ((cb x + w : Nat) : Int)) = 0) (hk : k < k2) : bef zr n w x k y k2 = true := by
  have e : smv zr x n * ((cb y + w : Nat) : Int) = smv zr y n * ((cb x + w : Nat) : Int) := by
    unfold cz at h
    split at h
    · exact absurd h (by decide)
    · split at h
      · assumption
      · exact absurd h (by decide)
  unfold bef
  rw [decide_eq_true e, decide_eq_true hk]
  simp
theorem bef_no {zr : Nat → Int} {n w : Nat} {x y : Int64} {k k2 : Int32} (h1 : ¬ cz (smv zr x n * ((cb y + w : Nat) : Int)) (smv zr y n * ((cb x + w : Nat) : Int)) < 0) (h2 : ¬ (cz (smv zr x n * ((cb y + w : Nat) : Int)) (smv zr y n * ((cb x + w : Nat) : Int)) = 0 ∧ k < k2)) : bef zr n w x k y k2 = false := by
  have q1 : ¬ smv zr x n * ((cb y + w : Nat) : Int) < smv zr y n * ((cb x + w : Nat) : Int) := fun q => h1 (by rw [cz_lt q]; decide)
  unfold bef
  rw [decide_eq_false q1, Bool.false_or]
  by_cases e : smv zr x n * ((cb y + w : Nat) : Int) = smv zr y n * ((cb x + w : Nat) : Int)
  · rw [decide_eq_false (fun hk => h2 ⟨cz_rf e, hk⟩), Bool.and_false]
  · rw [decide_eq_false e, Bool.false_and]
theorem zb_lin {ZB : Nat} (h : (100 * ZB) * (100 * ZB) * 1000000000000 < 268435456 ^ 130) : ZB * 1000000 < 268435456 ^ 250 := by
  rcases Nat.eq_zero_or_pos ZB with q | q
  · rw [q, Nat.zero_mul]; exact Nat.pow_pos (by decide)
  · have a : ZB * 1000000 ≤ (100 * ZB) * (100 * ZB) * 1000000000000 := by
      have h1 : 100 * ZB * 1 ≤ (100 * ZB) * (100 * ZB) := Nat.mul_le_mul_left _ (by omega)
      omega
    exact up250 (Nat.lt_of_le_of_lt a h)
theorem ykp_t {a b c : Nat → Int32} (h1 : YKP a b) (h2 : YKP b c) : YKP a c := fun k p q r s => (h2 k p q r s).trans (h1 k p q r s)
