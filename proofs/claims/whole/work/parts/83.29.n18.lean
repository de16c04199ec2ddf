/-! The reference's search over edges and columns. -/
theorem bx_rlt {vv : Nat → Int32} {c : Nat} {e : Int32} {r : Nat} (hr : r < 64) : ∀ k, k ≤ 64 → bx (rlt vv c e k) r = (decide (r < k) && decide (vv (6 * r + c) < e))
  | 0, _ => by
    show bx 0 r = _
    rw [bx_zero]; simp
  | k + 1, hk => by
    show bx (if _ then _ else _) r = _
    by_cases q : vv (6 * k + c) < e
    · rw [if_pos q, bx_or, bx_rlt hr k (by omega), bx_one (by omega) hr]
      by_cases f : r = k
      · subst f; simp [q]
      · by_cases g : r < k
        · simp [g, f, show r < k + 1 by omega]
        · simp [g, f, show ¬ r < k + 1 by omega]
    · rw [if_neg q, bx_rlt hr k (by omega)]
      by_cases f : r = k
      · subst f; simp [q]
      · by_cases g : r < k
        · simp [g, show r < k + 1 by omega]
        · simp [g, show ¬ r < k + 1 by omega]
theorem sub_rlt {vv : Nat → Int32} {c : Nat} {e : Int32} {n : Nat} (hn : n ≤ 48) : SUBn (rlt vv c e n) n := fun r h => by
  rcases Nat.lt_or_ge r 64 with q | q
  · rw [bx_rlt q n (by omega)] at h
    simp at h
    exact h.1
  · rw [bx_big _ q] at h; exact absurd h (by decide)
/-- the splits by the first k edges of a column -/
def lkE (zr : Nat → Int) (n w lst : Nat) (vv eg : Nat → Int32) (c : Nat) (A M : Int64) (b : BST) : Nat → BST
  | 0 => b
  | k + 1 => lks zr n w lst A M (lkE zr n w lst vv eg c A M b k) ((rlt vv c (eg (11 * c + k)) n &&& A) &&& (M ^^^ (-1))) (nI c) (eg (11 * c + k))
/-- one column -/
def colS (zr : Nat → Int) (n w lst : Nat) (vv eg ik : Nat → Int32) (ne : Nat → Nat) (chb : Int32) (A : Int64) (c : Nat) (b : BST) : BST :=
  if (chb >>> (nI c &&& 31)) &&& 1 = 1 then (if ik c = 0 then lkE zr n w lst vv eg c A (rwk vv c (-2147483648) n &&& A) b (ne c) else lkk zr n w lst vv c A (rwk vv c (-2147483648) n &&& A) 13 0 0 b) else b
/-- the first c columns -/
def colF (zr : Nat → Int) (n w lst : Nat) (vv eg ik : Nat → Int32) (ne : Nat → Nat) (chb : Int32) (A : Int64) : Nat → BST
  | 0 => (0, 1, 0, 0, 0, 0)
  | c + 1 => colS zr n w lst vv eg ik ne chb A c (colF zr n w lst vv eg ik ne chb A c)
