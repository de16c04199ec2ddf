/-! What a best split is like. -/
def BOK (b : BST) (n : Nat) : Prop := (∃ p q r, 0 < p ∧ p < 69 ∧ 0 < q ∧ q < 69 ∧ 0 < r ∧ r < 69 ∧ b.2.1 = p * q * r) ∧ (¬ b.1 = 0 → (∃ c, c < 6 ∧ b.2.2.1 = nI c) ∧ (b.2.2.2.2.1 = 0 ∨ b.2.2.2.2.1 = 1) ∧ SUBn b.2.2.2.2.2 n)
theorem wgh_ok {zr : Nat → Int} {n w lst : Nat} {A S : Int64} {b : BST} {cc ee ml : Int32} (hn : n ≤ 48) (hw : w ≤ 20) (hl : 1 ≤ lst) (hA : SUBn A n) (hS : SUBn S n) (hb : BOK b n) (hc : ∃ c, c < 6 ∧ cc = nI c) (hm : ml = 0 ∨ ml = 1) : BOK (wgh zr n w lst A b S cc ee ml) n := by
  unfold wgh
  split
  · exact hb
  · rename_i h
    split
    · have h48 := cb_48 hA hS hn
      refine ⟨⟨cb S + w, cb (A &&& (S ^^^ (-1))) + w, cb S + cb (A &&& (S ^^^ (-1))) + w, ?_, ?_, ?_, ?_, ?_, ?_, rfl⟩, fun _ => ⟨hc, hm, hS⟩⟩ <;> omega
    · exact hb
theorem lks_ok {zr : Nat → Int} {n w lst : Nat} {A M S : Int64} {b : BST} {cc ee : Int32} (hn : n ≤ 48) (hw : w ≤ 20) (hl : 1 ≤ lst) (hA : SUBn A n) (hM : SUBn M n) (hS : SUBn S n) (hb : BOK b n) (hc : ∃ c, c < 6 ∧ cc = nI c) : BOK (lks zr n w lst A M b S cc ee) n := by
  unfold lks
  have h1 := wgh_ok (zr := zr) (ee := ee) hn hw hl hA (sub_or hS hM) hb hc (Or.inr rfl)
  split
  · exact h1
  · exact wgh_ok hn hw hl hA hS h1 hc (Or.inl rfl)
theorem lkk_ok {zr : Nat → Int} {n w lst : Nat} {vv : Nat → Int32} {c : Nat} {A M : Int64} (hn : n ≤ 48) (hw : w ≤ 20) (hl : 1 ≤ lst) (hA : SUBn A n) (hM : SUBn M n) (hc : c < 6) : ∀ f bits side b, SUBn side n → BOK b n → BOK (lkk zr n w lst vv c A M f bits side b) n
  | 0, _, _, _, _, hb => hb
  | f + 1, bits, side, b, hs, hb => by
    show BOK (if _ then _ else _) n
    split
    · exact hb
    · refine lkk_ok hn hw hl hA hM hc f _ _ _ (sub_or hs (sub_and (sub_rwk hn))) ?_
      split
      · exact hb
      · exact lks_ok hn hw hl hA hM (sub_or hs (sub_and (sub_rwk hn))) hb ⟨c, hc, rfl⟩
theorem lkE_ok {zr : Nat → Int} {n w lst : Nat} {vv eg : Nat → Int32} {c : Nat} {A M : Int64} {b : BST} (hn : n ≤ 48) (hw : w ≤ 20) (hl : 1 ≤ lst) (hA : SUBn A n) (hM : SUBn M n) (hc : c < 6) (hb : BOK b n) : ∀ k, BOK (lkE zr n w lst vv eg c A M b k) n
  | 0 => hb
  | k + 1 => lks_ok hn hw hl hA hM (sub_and (sub_and (sub_rlt hn))) (lkE_ok hn hw hl hA hM hc hb k) ⟨c, hc, rfl⟩
theorem sub_0 {n : Nat} : SUBn 0 n := fun r h => by
  rw [bx_zero] at h
  exact absurd h (by decide)
theorem colF_ok {zr : Nat → Int} {n w lst : Nat} {vv eg ik : Nat → Int32} {ne : Nat → Nat} {chb : Int32} {A : Int64} (hn : n ≤ 48) (hw : w ≤ 20) (hl : 1 ≤ lst) (hA : SUBn A n) : ∀ c, c ≤ 6 → BOK (colF zr n w lst vv eg ik ne chb A c) n
  | 0, _ => ⟨⟨1, 1, 1, by decide, by decide, by decide, by decide, by decide, by decide, rfl⟩, fun h => absurd rfl h⟩
  | c + 1, hc => by
    have ih := colF_ok (zr := zr) (w := w) (lst := lst) (vv := vv) (eg := eg) (ik := ik) (ne := ne) (chb := chb) hn hw hl hA c (by omega)
    show BOK (colS _ _ _ _ _ _ _ _ _ _ _ _) n
    unfold colS
    split
    · split
      · exact lkE_ok hn hw hl hA (sub_and (sub_rwk hn)) (by omega) ih _
      · exact lkk_ok hn hw hl hA (sub_and (sub_rwk hn)) (by omega) _ _ _ _ sub_0 ih
    · exact ih
/-- twice the exponents: the square -/
theorem dnk_sq {e e' : Nat → Nat} : ∀ {k : Nat}, (∀ j, j < k → e' j = 2 * e j) → dnk e' k = dnk e k * dnk e k
  | 0, _ => rfl
  | k + 1, h => by
    show dnk e' k * pr k ^ e' k = dnk e k * pr k ^ e k * (dnk e k * pr k ^ e k)
    rw [dnk_sq (fun j hj => h j (by omega)), h k (by omega), Nat.two_mul, Nat.pow_add]
    ac_rfl
