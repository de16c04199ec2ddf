/-! Edges that part the rows as the edge before: nothing changes. -/
/-- the reference has weighed the side S already -/
def CNS (RR : Nat → Int) (n w lst : Nat) (A S : Int64) (b : BST) : Prop :=
  (cb S < lst ∨ cb (A &&& (S ^^^ (-1))) < lst) ∨ gZ (smv RR S n) (smv RR (A &&& (S ^^^ (-1))) n) (cb S + w) (cb (A &&& (S ^^^ (-1))) + w) (cb S + cb (A &&& (S ^^^ (-1))) + w) * (b.2.1 : Int) ≤ b.1 * (((cb S + w) * (cb (A &&& (S ^^^ (-1))) + w) * (cb S + cb (A &&& (S ^^^ (-1))) + w) : Nat) : Int)
theorem cns_no {RR : Nat → Int} {n w lst : Nat} {A S : Int64} {b : BST} {cc ee ml : Int32} (h : CNS RR n w lst A S b) : wgh RR n w lst A b S cc ee ml = b := by
  unfold wgh
  by_cases q : cb S < lst ∨ cb (A &&& (S ^^^ (-1))) < lst
  · rw [if_pos q]
  · rw [if_neg q, if_neg (Int.not_lt.mpr (h.resolve_left q))]
theorem cns_w {RR : Nat → Int} {n w lst : Nat} {A S : Int64} {b : BST} {cc ee ml : Int32} : CNS RR n w lst A S (wgh RR n w lst A b S cc ee ml) := by
  unfold wgh CNS
  by_cases q : cb S < lst ∨ cb (A &&& (S ^^^ (-1))) < lst
  · exact Or.inl q
  · rw [if_neg q]
    refine Or.inr ?_
    split
    · exact Int.le_refl _
    · rename_i h
      exact Int.not_lt.mp h
theorem wgh_p {RR : Nat → Int} {n w lst : Nat} {A S : Int64} {b : BST} {cc ee ml : Int32} (hl : 1 ≤ lst) (hb : 0 < b.2.1) : 0 < (wgh RR n w lst A b S cc ee ml).2.1 := by
  unfold wgh
  by_cases q : cb S < lst ∨ cb (A &&& (S ^^^ (-1))) < lst
  · rw [if_pos q]; exact hb
  · rw [if_neg q]
    split
    · exact Nat.mul_pos (Nat.mul_pos (by omega) (by omega)) (by omega)
    · exact hb
theorem lin_tr {g g2 r : Int} {v u u2 : Nat} (hv : 0 < v) (hu : 0 < u) (h1 : g * (v : Int) ≤ r * (u : Int)) (h2 : r * (u2 : Int) < g2 * (v : Int)) : g * (u2 : Int) ≤ g2 * (u : Int) := by
  apply Int.le_of_mul_le_mul_right (a := (v : Int)) _ (by omega)
  have a1 : g * (u2 : Int) * (v : Int) ≤ r * (u : Int) * (u2 : Int) := by
    rw [show g * (u2 : Int) * (v : Int) = g * (v : Int) * (u2 : Int) by ac_rfl]
    exact Int.mul_le_mul_of_nonneg_right h1 (by omega)
  have a2 : r * (u2 : Int) * (u : Int) < g2 * (v : Int) * (u : Int) := Int.mul_lt_mul_of_pos_right h2 (by omega)
  rw [show g2 * (u : Int) * (v : Int) = g2 * (v : Int) * (u : Int) by ac_rfl]
  rw [show r * (u2 : Int) * (u : Int) = r * (u : Int) * (u2 : Int) by ac_rfl] at a2
  omega
theorem cns_k {RR : Nat → Int} {n w lst : Nat} {A S S2 : Int64} {b : BST} {cc ee ml : Int32} (hl : 1 ≤ lst) (hb : 0 < b.2.1) (h : CNS RR n w lst A S b) : CNS RR n w lst A S (wgh RR n w lst A b S2 cc ee ml) := by
  by_cases q0 : cb S < lst ∨ cb (A &&& (S ^^^ (-1))) < lst
  · exact Or.inl q0
  · have h0 := h.resolve_left q0
    refine Or.inr ?_
    unfold wgh
    by_cases q : cb S2 < lst ∨ cb (A &&& (S2 ^^^ (-1))) < lst
    · rw [if_pos q]; exact h0
    · rw [if_neg q]
      split
      · rename_i h2
        exact lin_tr hb (Nat.mul_pos (Nat.mul_pos (by omega) (by omega)) (by omega)) h0 h2
      · exact h0
theorem lks_p {RR : Nat → Int} {n w lst : Nat} {A M S : Int64} {b : BST} {cc ee : Int32} (hl : 1 ≤ lst) (hb : 0 < b.2.1) : 0 < (lks RR n w lst A M b S cc ee).2.1 := by
  unfold lks
  split
  · exact wgh_p hl hb
  · exact wgh_p hl (wgh_p hl hb)
/-- both ways with S are weighed -/
def CN2 (RR : Nat → Int) (n w lst : Nat) (A M S : Int64) (b : BST) : Prop := CNS RR n w lst A (S ||| M) b ∧ (M = 0 ∨ CNS RR n w lst A S b)
theorem cn2_s {RR : Nat → Int} {n w lst : Nat} {A M S : Int64} {b : BST} {cc ee : Int32} (hl : 1 ≤ lst) (hb : 0 < b.2.1) : CN2 RR n w lst A M S (lks RR n w lst A M b S cc ee) := by
  unfold lks
  split
  · rename_i h
    exact ⟨cns_w, Or.inl h⟩
  · exact ⟨cns_k hl (wgh_p hl hb) cns_w, Or.inr cns_w⟩
theorem cn2_no {RR : Nat → Int} {n w lst : Nat} {A M S : Int64} {b : BST} {cc ee : Int32} (h : CN2 RR n w lst A M S b) : lks RR n w lst A M b S cc ee = b := by
  unfold lks
  split
  · exact cns_no h.1
  · rename_i q
    rw [cns_no h.1]
    exact cns_no (h.2.resolve_left q)
/-- the class's two ways with a side -/
def cls (RR : Nat → Int) (n w lst : Nat) (A M : Int64) (b : CST) (S : Int64) (c e : Int32) : CST :=
  if M = 0 then csd RR n w lst A b (S ||| M) c e 1 else csd RR n w lst A (csd RR n w lst A b (S ||| M) c e 1) S c e 0
theorem srl_s {RR : Nat → Int} {n w lst : Nat} {A M S : Int64} {b : CST} {r : BST} {cc ee : Int32} (hn : n ≤ 64) (hl : 1 ≤ lst) (hM : WIN M A) (hS : WIN S A) (h : SRL (cb A + w) (smv RR A n) b r) : SRL (cb A + w) (smv RR A n) (cls RR n w lst A M b S cc ee) (lks RR n w lst A M r S cc ee) := by
  unfold cls lks
  split
  · exact srl_w hn hl (win_or hS hM) h
  · exact srl_w hn hl hS (srl_w hn hl (win_or hS hM) h)
/-- the rows of A before edge k, without the missing -/
abbrev seK (vv eg : Nat → Int32) (n c : Nat) (A M : Int64) (k : Nat) : Int64 := (rlt vv c (eg (11 * c + k)) n &&& A) &&& (M ^^^ (-1))
/-- the class's way through the edges of a column -/
def clE (RR : Nat → Int) (n w lst : Nat) (vv eg : Nat → Int32) (c : Nat) (A M : Int64) (b : CST) : Nat → CST
  | 0 => b
  | k + 1 => if 0 < k ∧ seK vv eg n c A M k = seK vv eg n c A M (k - 1) then clE RR n w lst vv eg c A M b k else cls RR n w lst A M (clE RR n w lst vv eg c A M b k) (seK vv eg n c A M k) (nI c) (eg (11 * c + k))
theorem srl_E {RR : Nat → Int} {n w lst : Nat} {vv eg : Nat → Int32} {c : Nat} {A M : Int64} {b : CST} {r : BST} (hn : n ≤ 64) (hl : 1 ≤ lst) (hM : WIN M A) (hr : 0 < r.2.1) (h : SRL (cb A + w) (smv RR A n) b r) : ∀ k, SRL (cb A + w) (smv RR A n) (clE RR n w lst vv eg c A M b k) (lkE RR n w lst vv eg c A M r k) ∧ 0 < (lkE RR n w lst vv eg c A M r k).2.1 ∧ (0 < k → CN2 RR n w lst A M (seK vv eg n c A M (k - 1)) (lkE RR n w lst vv eg c A M r k))
  | 0 => ⟨h, hr, fun q => absurd q (by omega)⟩
  | k + 1 => by
    obtain ⟨i1, i2, i3⟩ := srl_E (vv := vv) (eg := eg) (c := c) hn hl hM hr h k
    have hS : WIN (seK vv eg n c A M k) A := win_andl win_and
    show SRL _ _ (if _ then _ else _) (lks RR n w lst A M (lkE RR n w lst vv eg c A M r k) (seK vv eg n c A M k) (nI c) (eg (11 * c + k))) ∧ 0 < (lks RR n w lst A M (lkE RR n w lst vv eg c A M r k) (seK vv eg n c A M k) (nI c) (eg (11 * c + k))).2.1 ∧ (0 < k + 1 → CN2 RR n w lst A M (seK vv eg n c A M k) (lks RR n w lst A M (lkE RR n w lst vv eg c A M r k) (seK vv eg n c A M k) (nI c) (eg (11 * c + k))))
    refine ⟨?_, lks_p hl i2, fun _ => cn2_s hl i2⟩
    by_cases q : 0 < k ∧ seK vv eg n c A M k = seK vv eg n c A M (k - 1)
    · rw [if_pos q]
      have h3 := i3 q.1
      rw [← q.2] at h3
      rw [cn2_no h3]
      exact i1
    · rw [if_neg q]
      exact srl_s hn hl hM hS i1
