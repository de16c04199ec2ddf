/-! The search through the columns, on both sides. -/
theorem lkd_p {RR : Nat → Int} {n w lst : Nat} {vv : Nat → Int32} {c : Nat} {A M : Int64} {od : Nat → Nat} {r : BST} (hl : 1 ≤ lst) (hr : 0 < r.2.1) : ∀ p, 0 < (lkd RR n w lst vv c A M od r p).2.1
  | 0 => hr
  | p + 1 => lks_p hl (lkd_p hl hr p)
theorem col_n {RR : Nat → Int} {n w lst : Nat} {vv eg ik : Nat → Int32} {ne : Nat → Nat} {chb : Int32} {A : Int64} {c : Nat} {b : CST} (hn : n ≤ 64) (hl : 1 ≤ lst) (hb : (chb >>> (nI c &&& 31)) &&& 1 = 1) (hk : ik c = 0) (h : SRL (cb A + w) (smv RR A n) b (colF RR n w lst vv eg ik ne chb A c)) (hp : 0 < (colF RR n w lst vv eg ik ne chb A c).2.1) :
    SRL (cb A + w) (smv RR A n) (clE RR n w lst vv eg c A (mrw vv c n A) b (ne c)) (colF RR n w lst vv eg ik ne chb A (c + 1)) ∧ 0 < (colF RR n w lst vv eg ik ne chb A (c + 1)).2.1 := by
  have e : colF RR n w lst vv eg ik ne chb A (c + 1) = lkE RR n w lst vv eg c A (mrw vv c n A) (colF RR n w lst vv eg ik ne chb A c) (ne c) := by
    show colS RR n w lst vv eg ik ne chb A c (colF RR n w lst vv eg ik ne chb A c) = _
    unfold colS
    rw [if_pos hb, if_pos hk]
  rw [e]
  have h1 := srl_E (vv := vv) (eg := eg) (c := c) hn hl (win_mr (vv := vv) (n := n) (c := c) (A := A)) hp h (ne c)
  exact ⟨h1.1, h1.2.1⟩
theorem col_k {RR : Nat → Int} {n w lst : Nat} {vv eg ik : Nat → Int32} {ne : Nat → Nat} {chb : Int32} {A : Int64} {c F : Nat} {od : Nat → Nat} {b : CST} (hn : n ≤ 64) (hl : 1 ≤ lst) (hb : (chb >>> (nI c &&& 31)) &&& 1 = 1) (hk : ¬ ik c = 0) (hK : KOR RR n w vv c A od F) (hF : F ≤ 12) (h : SRL (cb A + w) (smv RR A n) b (colF RR n w lst vv eg ik ne chb A c)) (hp : 0 < (colF RR n w lst vv eg ik ne chb A c).2.1) :
    SRL (cb A + w) (smv RR A n) (clK RR n w lst vv c A (mrw vv c n A) od b (F - 1)) (colF RR n w lst vv eg ik ne chb A (c + 1)) ∧ 0 < (colF RR n w lst vv eg ik ne chb A (c + 1)).2.1 := by
  have e : colF RR n w lst vv eg ik ne chb A (c + 1) = lkd RR n w lst vv c A (mrw vv c n A) od (colF RR n w lst vv eg ik ne chb A c) (F - 1) := by
    show colS RR n w lst vv eg ik ne chb A c (colF RR n w lst vv eg ik ne chb A c) = _
    unfold colS
    rw [if_pos hb, if_neg hk]
    exact lkk_all hK (by omega)
  rw [e]
  exact ⟨srl_K hn hl (win_mr (vv := vv) (n := n) (c := c) (A := A)) h (F - 1), lkd_p hl hp _⟩
theorem col_x {RR : Nat → Int} {n w lst : Nat} {vv eg ik : Nat → Int32} {ne : Nat → Nat} {chb : Int32} {A : Int64} {c : Nat} (hb : ¬ (chb >>> (nI c &&& 31)) &&& 1 = 1) : colF RR n w lst vv eg ik ne chb A (c + 1) = colF RR n w lst vv eg ik ne chb A c := by
  show colS RR n w lst vv eg ik ne chb A c (colF RR n w lst vv eg ik ne chb A c) = _
  unfold colS
  rw [if_neg hb]
/-- nothing found: no gain; something found: the gain's sign -/
theorem srl_none {nw : Nat} {s : Int} {b : CST} {r : BST} (h : SRL nw s b r) (hb : b.1 = false) : ¬ 0 < r.1 := by
  rcases h with ⟨_, e⟩ | ⟨q, _⟩
  · rw [e]; decide
  · rw [hb] at q; exact absurd q (by decide)
theorem srl_gain {nw : Nat} {s : Int} {b : CST} {r : BST} (h : SRL nw s b r) (hb : b.1 = true) : 0 < r.1 ↔ s * s * (b.2.2.1 : Int) < b.2.1 * (nw : Int) := by
  rcases h with ⟨q, _⟩ | ⟨_, _, h3⟩
  · rw [hb] at q; exact absurd q (by decide)
  · have e : gnz b.2.1 s b.2.2.1 nw = b.2.1 * (nw : Int) - s * s * (b.2.2.1 : Int) := rfl
    rcases h3 with ⟨g, e2⟩ | ⟨g, e2⟩
    · rw [e2]
      show (0 : Int) < 0 ↔ _
      omega
    · rw [e2]
      show 0 < gnz b.2.1 s b.2.2.1 nw ↔ _
      omega
def CS0 : CST := (false, 0, 0, 0, 0, 0, 0)
theorem srl_0 {nw : Nat} {s : Int} : SRL nw s CS0 (0, 1, 0, 0, 0, 0) := Or.inl ⟨rfl, rfl⟩
