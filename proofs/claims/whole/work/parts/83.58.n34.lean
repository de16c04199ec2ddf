/-! The search in other units: residuals that are the same but for a common factor. -/
def BLN (P C : Nat) (b b' : BST) : Prop := b.1 * ((P * P : Nat) : Int) = b'.1 * ((C * C : Nat) : Int) ∧ b.2 = b'.2
theorem lt_lin {g g' b b' : Int} {Q R : Nat} (hQ : 0 < Q) (hR : 0 < R) (u v : Nat) (hb : b * (Q : Int) = b' * (R : Int)) (hg : g * (Q : Int) = g' * (R : Int)) : b * (u : Int) < g * (v : Int) ↔ b' * (u : Int) < g' * (v : Int) := by
  have e1 : b * (u : Int) * (Q : Int) = b' * (u : Int) * (R : Int) := by
    rw [show b * (u : Int) * (Q : Int) = b * (Q : Int) * u by ac_rfl, hb]; ac_rfl
  have e2 : g * (v : Int) * (Q : Int) = g' * (v : Int) * (R : Int) := by
    rw [show g * (v : Int) * (Q : Int) = g * (Q : Int) * v by ac_rfl, hg]; ac_rfl
  constructor
  · intro h
    have h1 := Int.mul_lt_mul_of_pos_right h (show (0 : Int) < (Q : Int) by omega)
    rw [e1, e2] at h1
    exact Int.lt_of_mul_lt_mul_right h1 (by omega)
  · intro h
    have h1 := Int.mul_lt_mul_of_pos_right h (show (0 : Int) < (R : Int) by omega)
    rw [← e1, ← e2] at h1
    exact Int.lt_of_mul_lt_mul_right h1 (by omega)
theorem eq_lin {g g' b b' : Int} {Q R : Nat} (hQ : 0 < Q) (hR : 0 < R) (u v : Nat) (hb : b * (Q : Int) = b' * (R : Int)) (hg : g * (Q : Int) = g' * (R : Int)) : b * (u : Int) = g * (v : Int) ↔ b' * (u : Int) = g' * (v : Int) := by
  have h1 := lt_lin hQ hR u v hb hg
  have h2 := lt_lin hQ hR v u hg hb
  omega
theorem wgh_lin {zr RR : Nat → Int} {n w lst P C : Nat} {A S : Int64} {b b' : BST} {cc ee ml : Int32} (hz : ∀ i, i < n → zr i * (P : Int) = RR i * (C : Int)) (hP : 0 < P) (hC : 0 < C) (hb : BLN P C b b') : BLN P C (wgh zr n w lst A b S cc ee ml) (wgh RR n w lst A b' S cc ee ml) := by
  obtain ⟨g, u⟩ := b
  obtain ⟨g', u'⟩ := b'
  obtain ⟨h1, h2⟩ := hb
  have h1 : g * ((P * P : Nat) : Int) = g' * ((C * C : Nat) : Int) := h1
  have h2 : u = u' := h2
  subst h2
  unfold wgh
  by_cases h : cb S < lst ∨ cb (A &&& (S ^^^ (-1))) < lst
  · rw [if_pos h, if_pos h]; exact ⟨h1, rfl⟩
  · rw [if_neg h, if_neg h]
    have hg := gZ_lin (l := cb S + w) (r := cb (A &&& (S ^^^ (-1))) + w) (n := cb S + cb (A &&& (S ^^^ (-1))) + w) (smv_lin (x := S) hz n (Nat.le_refl _)) (smv_lin (x := A &&& (S ^^^ (-1))) hz n (Nat.le_refl _))
    have hi := lt_lin (Nat.mul_pos hP hP) (Nat.mul_pos hC hC) ((cb S + w) * (cb (A &&& (S ^^^ (-1))) + w) * (cb S + cb (A &&& (S ^^^ (-1))) + w)) u.1 h1 hg
    by_cases q : g * (((cb S + w) * (cb (A &&& (S ^^^ (-1))) + w) * (cb S + cb (A &&& (S ^^^ (-1))) + w) : Nat) : Int) < gZ (smv zr S n) (smv zr (A &&& (S ^^^ (-1))) n) (cb S + w) (cb (A &&& (S ^^^ (-1))) + w) (cb S + cb (A &&& (S ^^^ (-1))) + w) * (u.1 : Int)
    · rw [if_pos q, if_pos (hi.mp q)]; exact ⟨hg, rfl⟩
    · rw [if_neg q, if_neg (fun r => q (hi.mpr r))]; exact ⟨h1, rfl⟩
theorem bef_lin {zr RR : Nat → Int} {n w P C : Nat} {x y : Int64} {k k2 : Int32} (hz : ∀ i, i < n → zr i * (P : Int) = RR i * (C : Int)) (hP : 0 < P) (hC : 0 < C) : bef zr n w x k y k2 = bef RR n w x k y k2 := by
  unfold bef
  have hx := smv_lin (x := x) hz n (Nat.le_refl _)
  have hy := smv_lin (x := y) hz n (Nat.le_refl _)
  have a := lt_lin hP hC (cb y + w) (cb x + w) hx hy
  have b := eq_lin hP hC (cb y + w) (cb x + w) hx hy
  rw [decide_eq_decide.mpr a, decide_eq_decide.mpr b]
theorem nxk_lin {zr RR : Nat → Int} {n w P C : Nat} {vv : Nat → Int32} {c : Nat} {A : Int64} {bits : Int32} (hz : ∀ i, i < n → zr i * (P : Int) = RR i * (C : Int)) (hP : 0 < P) (hC : 0 < C) : ∀ k, nxk zr n w vv c A bits k = nxk RR n w vv c A bits k
  | 0 => rfl
  | k + 1 => by
    show (if _ then _ else _) = (if _ then _ else _)
    rw [nxk_lin hz hP hC k, bef_lin hz hP hC]
theorem lks_lin {zr RR : Nat → Int} {n w lst P C : Nat} {A M S : Int64} {b b' : BST} {cc ee : Int32} (hz : ∀ i, i < n → zr i * (P : Int) = RR i * (C : Int)) (hP : 0 < P) (hC : 0 < C) (hb : BLN P C b b') : BLN P C (lks zr n w lst A M b S cc ee) (lks RR n w lst A M b' S cc ee) := by
  unfold lks
  split
  · exact wgh_lin hz hP hC hb
  · exact wgh_lin hz hP hC (wgh_lin hz hP hC hb)
theorem lkE_lin {zr RR : Nat → Int} {n w lst P C : Nat} {vv eg : Nat → Int32} {c : Nat} {A M : Int64} {b b' : BST} (hz : ∀ i, i < n → zr i * (P : Int) = RR i * (C : Int)) (hP : 0 < P) (hC : 0 < C) (hb : BLN P C b b') : ∀ k, BLN P C (lkE zr n w lst vv eg c A M b k) (lkE RR n w lst vv eg c A M b' k)
  | 0 => hb
  | k + 1 => lks_lin hz hP hC (lkE_lin hz hP hC hb k)
theorem lkk_lin {zr RR : Nat → Int} {n w lst P C : Nat} {vv : Nat → Int32} {c : Nat} {A M : Int64} (hz : ∀ i, i < n → zr i * (P : Int) = RR i * (C : Int)) (hP : 0 < P) (hC : 0 < C) : ∀ f bits side b b', BLN P C b b' → BLN P C (lkk zr n w lst vv c A M f bits side b) (lkk RR n w lst vv c A M f bits side b')
  | 0, _, _, _, _, hb => hb
  | f + 1, bits, side, b, b', hb => by
    show BLN P C (if _ then _ else _) (if _ then _ else _)
    rw [← nxk_lin (bits := bits) hz hP hC 12]
    rw [← nxk_lin (bits := bits ||| ((1 : Int32) <<< (nxk zr n w vv c A bits 12 &&& 31))) hz hP hC 12]
    by_cases q : nxk zr n w vv c A bits 12 < 0
    · rw [if_pos q, if_pos q]; exact hb
    · rw [if_neg q, if_neg q]
      refine lkk_lin hz hP hC f _ _ _ _ ?_
      split
      · exact hb
      · exact lks_lin hz hP hC hb
theorem colF_lin {zr RR : Nat → Int} {n w lst P C : Nat} {vv eg ik : Nat → Int32} {ne : Nat → Nat} {chb : Int32} {A : Int64} (hz : ∀ i, i < n → zr i * (P : Int) = RR i * (C : Int)) (hP : 0 < P) (hC : 0 < C) : ∀ c, BLN P C (colF zr n w lst vv eg ik ne chb A c) (colF RR n w lst vv eg ik ne chb A c)
  | 0 => ⟨by show (0 : Int) * _ = 0 * _; rw [Int.zero_mul, Int.zero_mul], rfl⟩
  | c + 1 => by
    have ih := colF_lin (w := w) (lst := lst) (vv := vv) (eg := eg) (ik := ik) (ne := ne) (chb := chb) (A := A) hz hP hC c
    show BLN P C (colS _ _ _ _ _ _ _ _ _ _ _ _) (colS _ _ _ _ _ _ _ _ _ _ _ _)
    unfold colS
    split
    · split
      · exact lkE_lin hz hP hC ih _
      · exact lkk_lin hz hP hC _ _ _ _ _ ih
    · exact ih
theorem bln_0 {P C : Nat} {b b' : BST} (hP : 0 < P) (hC : 0 < C) (h : BLN P C b b') : b.1 ≤ 0 ↔ b'.1 ≤ 0 := by
  have h1 := lt_lin (g := b.1) (g' := b'.1) (b := 0) (b' := 0) (Nat.mul_pos hP hP) (Nat.mul_pos hC hC) 1 1 (by rw [Int.zero_mul, Int.zero_mul]) h.1
  rw [Int.zero_mul, show ((1 : Nat) : Int) = 1 from rfl, Int.mul_one, Int.mul_one] at h1
  omega
/-- two searches that find the same -/
def SMB (best best' : Int64 → BST) : Prop := ∀ x, ((best x).1 ≤ 0 ↔ (best' x).1 ≤ 0) ∧ (best x).2 = (best' x).2
theorem gst_cg {best best' : Int64 → BST} {ik : Nat → Int32} {b0 dpt : Nat} (h : SMB best best') (g : GST) (it : ITM) : gst best ik b0 dpt g it = gst best' ik b0 dpt g it := by
  obtain ⟨a, m, rs⟩ := g
  obtain ⟨x, d, ab, lf⟩ := it
  obtain ⟨h1, h2⟩ := h x
  by_cases q : d = dpt ∨ (best x).1 ≤ 0
  · rw [gst_l q, gst_l (q.imp id h1.mp)]
  · rw [gst_s q, gst_s (fun r => q (r.imp id h1.mpr))]
    unfold gSpl
    rw [h2]
theorem gall_cg {best best' : Int64 → BST} {ik : Nat → Int32} {b0 dpt : Nat} (h : SMB best best') : ∀ f g st, gall best ik b0 dpt f g st = gall best' ik b0 dpt f g st
  | 0, _, _ => rfl
  | _ + 1, _, [] => rfl
  | f + 1, g, it :: st => by
    show gall best ik b0 dpt f (gst best ik b0 dpt g it).1 ((gst best ik b0 dpt g it).2 ++ st) = gall best' ik b0 dpt f (gst best' ik b0 dpt g it).1 ((gst best' ik b0 dpt g it).2 ++ st)
    rw [gst_cg h g it]
    exact gall_cg h f _ _
theorem ndf_cb {best best' : Int64 → BST} (hb : SMB best best') {RR : Nat → Int} {n w ru rl Pt BB b0 : Nat} {up lw nc : Nat → Int32} {rs : Nat → Int64} {k : Nat} (h : NDF best RR n w ru rl Pt BB b0 up lw nc rs k) : NDF best' RR n w ru rl Pt BB b0 up lw nc rs k := by
  unfold NDF at h ⊢
  rw [(hb (rs k)).2] at h
  exact h
theorem colF_smb {zr RR : Nat → Int} {n w lst P C wd : Nat} {vv eg ik : Nat → Int32} {ne : Nat → Nat} {chb : Int32} (hz : ∀ i, i < n → zr i * (P : Int) = RR i * (C : Int)) (hP : 0 < P) (hC : 0 < C) : SMB (fun x => colF zr n w lst vv eg ik ne chb x wd) (fun x => colF RR n w lst vv eg ik ne chb x wd) := fun x => by
  have h := colF_lin (w := w) (lst := lst) (vv := vv) (eg := eg) (ik := ik) (ne := ne) (chb := chb) (A := x) hz hP hC wd
  exact ⟨bln_0 hP hC h, h.2⟩
